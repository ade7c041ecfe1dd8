section
-- ===== PART A: goes FIRST, ahead of the names: the tables' words, and 'selects' of the private methods out of them =====
/-- a private method of a class that the tables say can be made, by its rows of tables_1 -/
def lw_okq (q : MethodName × Nat) : Prop := (q.1.cls ≠ "java/lang/invoke/MethodHandle" ∧ q.1.cls ≠ "java/lang/invoke/VarHandle") ∧ Cond.instantiable q.1.cls q.2 ∈ tables_1 ∧ Cond.privateMethod q.1 ∈ tables_1 ∧ Cond.instanceMethod q.1 ∈ tables_1
theorem lw_p0 : lw_okq (⟨"FencePilot$Corners", "squaredLength", "(I)J"⟩, 3) := ⟨⟨by decide +kernel, by decide +kernel⟩, List.mem_of_getElem? (i := 19) (by decide +kernel), List.mem_of_getElem? (i := 189) (by decide +kernel), List.mem_of_getElem? (i := 190) (by decide +kernel)⟩
theorem lw_p1 : lw_okq (⟨"FencePilot$Corners", "after", "(I)I"⟩, 3) := ⟨⟨by decide +kernel, by decide +kernel⟩, List.mem_of_getElem? (i := 19) (by decide +kernel), List.mem_of_getElem? (i := 193) (by decide +kernel), List.mem_of_getElem? (i := 194) (by decide +kernel)⟩
theorem lw_p2 : lw_okq (⟨"FencePilot$Corners", "hasOthersInside", "(I)Z"⟩, 3) := ⟨⟨by decide +kernel, by decide +kernel⟩, List.mem_of_getElem? (i := 19) (by decide +kernel), List.mem_of_getElem? (i := 197) (by decide +kernel), List.mem_of_getElem? (i := 198) (by decide +kernel)⟩
theorem lw_p3 : lw_okq (⟨"FencePilot$Corners", "side", "(III)J"⟩, 3) := ⟨⟨by decide +kernel, by decide +kernel⟩, List.mem_of_getElem? (i := 19) (by decide +kernel), List.mem_of_getElem? (i := 201) (by decide +kernel), List.mem_of_getElem? (i := 202) (by decide +kernel)⟩
theorem lw_p4 : lw_okq (⟨"FencePilot$Corners", "isClear", "(IIII)Z"⟩, 3) := ⟨⟨by decide +kernel, by decide +kernel⟩, List.mem_of_getElem? (i := 19) (by decide +kernel), List.mem_of_getElem? (i := 210) (by decide +kernel), List.mem_of_getElem? (i := 211) (by decide +kernel)⟩
theorem lw_p5 : lw_okq (⟨"FencePilot", "locate", "()V"⟩, 13) := ⟨⟨by decide +kernel, by decide +kernel⟩, List.mem_of_getElem? (i := 11) (by decide +kernel), List.mem_of_getElem? (i := 304) (by decide +kernel), List.mem_of_getElem? (i := 305) (by decide +kernel)⟩
theorem lw_p6 : lw_okq (⟨"FencePilot", "setWish", "(III)V"⟩, 13) := ⟨⟨by decide +kernel, by decide +kernel⟩, List.mem_of_getElem? (i := 11) (by decide +kernel), List.mem_of_getElem? (i := 333) (by decide +kernel), List.mem_of_getElem? (i := 334) (by decide +kernel)⟩
theorem lw_p7 : lw_okq (⟨"FencePilot", "fly", "(I)V"⟩, 13) := ⟨⟨by decide +kernel, by decide +kernel⟩, List.mem_of_getElem? (i := 11) (by decide +kernel), List.mem_of_getElem? (i := 337) (by decide +kernel), List.mem_of_getElem? (i := 338) (by decide +kernel)⟩
theorem lw_p8 : lw_okq (⟨"FencePilot", "applyFailsafes", "(I)V"⟩, 13) := ⟨⟨by decide +kernel, by decide +kernel⟩, List.mem_of_getElem? (i := 11) (by decide +kernel), List.mem_of_getElem? (i := 341) (by decide +kernel), List.mem_of_getElem? (i := 342) (by decide +kernel)⟩
theorem lw_p9 : lw_okq (⟨"FencePilot", "moveOn", "()V"⟩, 13) := ⟨⟨by decide +kernel, by decide +kernel⟩, List.mem_of_getElem? (i := 11) (by decide +kernel), List.mem_of_getElem? (i := 350) (by decide +kernel), List.mem_of_getElem? (i := 351) (by decide +kernel)⟩
theorem lw_p10 : lw_okq (⟨"FencePilot", "hasReachedItem", "()Z"⟩, 13) := ⟨⟨by decide +kernel, by decide +kernel⟩, List.mem_of_getElem? (i := 11) (by decide +kernel), List.mem_of_getElem? (i := 354) (by decide +kernel), List.mem_of_getElem? (i := 355) (by decide +kernel)⟩
theorem lw_p11 : lw_okq (⟨"FencePilot", "passItem", "()V"⟩, 13) := ⟨⟨by decide +kernel, by decide +kernel⟩, List.mem_of_getElem? (i := 11) (by decide +kernel), List.mem_of_getElem? (i := 366) (by decide +kernel), List.mem_of_getElem? (i := 367) (by decide +kernel)⟩
theorem lw_p12 : lw_okq (⟨"FencePilot", "guide", "()V"⟩, 13) := ⟨⟨by decide +kernel, by decide +kernel⟩, List.mem_of_getElem? (i := 11) (by decide +kernel), List.mem_of_getElem? (i := 370) (by decide +kernel), List.mem_of_getElem? (i := 371) (by decide +kernel)⟩
theorem lw_p13 : lw_okq (⟨"FencePilot", "wishForItem", "()V"⟩, 13) := ⟨⟨by decide +kernel, by decide +kernel⟩, List.mem_of_getElem? (i := 11) (by decide +kernel), List.mem_of_getElem? (i := 374) (by decide +kernel), List.mem_of_getElem? (i := 375) (by decide +kernel)⟩
theorem lw_p14 : lw_okq (⟨"FencePilot", "flyBlind", "()V"⟩, 13) := ⟨⟨by decide +kernel, by decide +kernel⟩, List.mem_of_getElem? (i := 11) (by decide +kernel), List.mem_of_getElem? (i := 383) (by decide +kernel), List.mem_of_getElem? (i := 384) (by decide +kernel)⟩
theorem lw_p15 : lw_okq (⟨"FencePilot", "guardSides", "()V"⟩, 13) := ⟨⟨by decide +kernel, by decide +kernel⟩, List.mem_of_getElem? (i := 11) (by decide +kernel), List.mem_of_getElem? (i := 387) (by decide +kernel), List.mem_of_getElem? (i := 388) (by decide +kernel)⟩
def lw_privs_1 : List (MethodName × Nat) := [(⟨"FencePilot$Corners", "squaredLength", "(I)J"⟩, 3), (⟨"FencePilot$Corners", "after", "(I)I"⟩, 3), (⟨"FencePilot$Corners", "hasOthersInside", "(I)Z"⟩, 3), (⟨"FencePilot$Corners", "side", "(III)J"⟩, 3), (⟨"FencePilot$Corners", "isClear", "(IIII)Z"⟩, 3), (⟨"FencePilot", "locate", "()V"⟩, 13), (⟨"FencePilot", "setWish", "(III)V"⟩, 13), (⟨"FencePilot", "fly", "(I)V"⟩, 13), (⟨"FencePilot", "applyFailsafes", "(I)V"⟩, 13), (⟨"FencePilot", "moveOn", "()V"⟩, 13), (⟨"FencePilot", "hasReachedItem", "()Z"⟩, 13), (⟨"FencePilot", "passItem", "()V"⟩, 13), (⟨"FencePilot", "guide", "()V"⟩, 13), (⟨"FencePilot", "wishForItem", "()V"⟩, 13), (⟨"FencePilot", "flyBlind", "()V"⟩, 13), (⟨"FencePilot", "guardSides", "()V"⟩, 13)]
theorem lw_r1 : ∀ q ∈ lw_privs_1, lw_okq q := List.forall_mem_cons.mpr ⟨lw_p0, List.forall_mem_cons.mpr ⟨lw_p1, List.forall_mem_cons.mpr ⟨lw_p2, List.forall_mem_cons.mpr ⟨lw_p3, List.forall_mem_cons.mpr ⟨lw_p4, List.forall_mem_cons.mpr ⟨lw_p5, List.forall_mem_cons.mpr ⟨lw_p6, List.forall_mem_cons.mpr ⟨lw_p7, List.forall_mem_cons.mpr ⟨lw_p8, List.forall_mem_cons.mpr ⟨lw_p9, List.forall_mem_cons.mpr ⟨lw_p10, List.forall_mem_cons.mpr ⟨lw_p11, List.forall_mem_cons.mpr ⟨lw_p12, List.forall_mem_cons.mpr ⟨lw_p13, List.forall_mem_cons.mpr ⟨lw_p14, List.forall_mem_cons.mpr ⟨lw_p15, fun _ h => absurd h List.not_mem_nil⟩⟩⟩⟩⟩⟩⟩⟩⟩⟩⟩⟩⟩⟩⟩⟩
theorem lw_p16 : lw_okq (⟨"FencePilot", "guardTop", "()V"⟩, 13) := ⟨⟨by decide +kernel, by decide +kernel⟩, List.mem_of_getElem? (i := 11) (by decide +kernel), List.mem_of_getElem? (i := 391) (by decide +kernel), List.mem_of_getElem? (i := 392) (by decide +kernel)⟩
theorem lw_p17 : lw_okq (⟨"FencePilotModel", "convex", "()Z"⟩, 23) := ⟨⟨by decide +kernel, by decide +kernel⟩, List.mem_of_getElem? (i := 423) (by decide +kernel), List.mem_of_getElem? (i := 514) (by decide +kernel), List.mem_of_getElem? (i := 515) (by decide +kernel)⟩
theorem lw_p18 : lw_okq (⟨"FencePilotModel", "side", "(IIII)J"⟩, 23) := ⟨⟨by decide +kernel, by decide +kernel⟩, List.mem_of_getElem? (i := 423) (by decide +kernel), List.mem_of_getElem? (i := 518) (by decide +kernel), List.mem_of_getElem? (i := 519) (by decide +kernel)⟩
theorem lw_p19 : lw_okq (⟨"FencePilotModel", "clearOfAll", "(IIIIJ)Z"⟩, 23) := ⟨⟨by decide +kernel, by decide +kernel⟩, List.mem_of_getElem? (i := 423) (by decide +kernel), List.mem_of_getElem? (i := 523) (by decide +kernel), List.mem_of_getElem? (i := 524) (by decide +kernel)⟩
theorem lw_p20 : lw_okq (⟨"FencePilotModel", "clearOf", "(IIIIJ)Z"⟩, 23) := ⟨⟨by decide +kernel, by decide +kernel⟩, List.mem_of_getElem? (i := 423) (by decide +kernel), List.mem_of_getElem? (i := 527) (by decide +kernel), List.mem_of_getElem? (i := 528) (by decide +kernel)⟩
theorem lw_p21 : lw_okq (⟨"FencePilotModel", "safeAt", "(II)Z"⟩, 23) := ⟨⟨by decide +kernel, by decide +kernel⟩, List.mem_of_getElem? (i := 423) (by decide +kernel), List.mem_of_getElem? (i := 535) (by decide +kernel), List.mem_of_getElem? (i := 536) (by decide +kernel)⟩
theorem lw_p22 : lw_okq (⟨"FencePilotModel", "become", "(I)V"⟩, 23) := ⟨⟨by decide +kernel, by decide +kernel⟩, List.mem_of_getElem? (i := 423) (by decide +kernel), List.mem_of_getElem? (i := 564) (by decide +kernel), List.mem_of_getElem? (i := 565) (by decide +kernel)⟩
theorem lw_p23 : lw_okq (⟨"FencePilotModel", "link", "()V"⟩, 23) := ⟨⟨by decide +kernel, by decide +kernel⟩, List.mem_of_getElem? (i := 423) (by decide +kernel), List.mem_of_getElem? (i := 576) (by decide +kernel), List.mem_of_getElem? (i := 577) (by decide +kernel)⟩
theorem lw_p24 : lw_okq (⟨"FencePilotModel", "vote", "()V"⟩, 23) := ⟨⟨by decide +kernel, by decide +kernel⟩, List.mem_of_getElem? (i := 423) (by decide +kernel), List.mem_of_getElem? (i := 580) (by decide +kernel), List.mem_of_getElem? (i := 581) (by decide +kernel)⟩
theorem lw_p25 : lw_okq (⟨"FencePilotModel", "voted", "(I)I"⟩, 23) := ⟨⟨by decide +kernel, by decide +kernel⟩, List.mem_of_getElem? (i := 423) (by decide +kernel), List.mem_of_getElem? (i := 584) (by decide +kernel), List.mem_of_getElem? (i := 585) (by decide +kernel)⟩
theorem lw_p26 : lw_okq (⟨"FencePilotModel", "failsafe", "(I)V"⟩, 23) := ⟨⟨by decide +kernel, by decide +kernel⟩, List.mem_of_getElem? (i := 423) (by decide +kernel), List.mem_of_getElem? (i := 595) (by decide +kernel), List.mem_of_getElem? (i := 596) (by decide +kernel)⟩
theorem lw_p27 : lw_okq (⟨"FencePilotModel", "advance", "()V"⟩, 23) := ⟨⟨by decide +kernel, by decide +kernel⟩, List.mem_of_getElem? (i := 423) (by decide +kernel), List.mem_of_getElem? (i := 599) (by decide +kernel), List.mem_of_getElem? (i := 600) (by decide +kernel)⟩
theorem lw_p28 : lw_okq (⟨"FencePilotModel", "near", "(III)Z"⟩, 23) := ⟨⟨by decide +kernel, by decide +kernel⟩, List.mem_of_getElem? (i := 423) (by decide +kernel), List.mem_of_getElem? (i := 603) (by decide +kernel), List.mem_of_getElem? (i := 604) (by decide +kernel)⟩
theorem lw_p29 : lw_okq (⟨"FencePilotModel", "steer", "()V"⟩, 23) := ⟨⟨by decide +kernel, by decide +kernel⟩, List.mem_of_getElem? (i := 423) (by decide +kernel), List.mem_of_getElem? (i := 607) (by decide +kernel), List.mem_of_getElem? (i := 608) (by decide +kernel)⟩
theorem lw_p30 : lw_okq (⟨"FencePilotModel", "guard", "()V"⟩, 23) := ⟨⟨by decide +kernel, by decide +kernel⟩, List.mem_of_getElem? (i := 423) (by decide +kernel), List.mem_of_getElem? (i := 614) (by decide +kernel), List.mem_of_getElem? (i := 615) (by decide +kernel)⟩
def lw_privs_2 : List (MethodName × Nat) := [(⟨"FencePilot", "guardTop", "()V"⟩, 13), (⟨"FencePilotModel", "convex", "()Z"⟩, 23), (⟨"FencePilotModel", "side", "(IIII)J"⟩, 23), (⟨"FencePilotModel", "clearOfAll", "(IIIIJ)Z"⟩, 23), (⟨"FencePilotModel", "clearOf", "(IIIIJ)Z"⟩, 23), (⟨"FencePilotModel", "safeAt", "(II)Z"⟩, 23), (⟨"FencePilotModel", "become", "(I)V"⟩, 23), (⟨"FencePilotModel", "link", "()V"⟩, 23), (⟨"FencePilotModel", "vote", "()V"⟩, 23), (⟨"FencePilotModel", "voted", "(I)I"⟩, 23), (⟨"FencePilotModel", "failsafe", "(I)V"⟩, 23), (⟨"FencePilotModel", "advance", "()V"⟩, 23), (⟨"FencePilotModel", "near", "(III)Z"⟩, 23), (⟨"FencePilotModel", "steer", "()V"⟩, 23), (⟨"FencePilotModel", "guard", "()V"⟩, 23)]
theorem lw_r2 : ∀ q ∈ lw_privs_2, lw_okq q := List.forall_mem_cons.mpr ⟨lw_p16, List.forall_mem_cons.mpr ⟨lw_p17, List.forall_mem_cons.mpr ⟨lw_p18, List.forall_mem_cons.mpr ⟨lw_p19, List.forall_mem_cons.mpr ⟨lw_p20, List.forall_mem_cons.mpr ⟨lw_p21, List.forall_mem_cons.mpr ⟨lw_p22, List.forall_mem_cons.mpr ⟨lw_p23, List.forall_mem_cons.mpr ⟨lw_p24, List.forall_mem_cons.mpr ⟨lw_p25, List.forall_mem_cons.mpr ⟨lw_p26, List.forall_mem_cons.mpr ⟨lw_p27, List.forall_mem_cons.mpr ⟨lw_p28, List.forall_mem_cons.mpr ⟨lw_p29, List.forall_mem_cons.mpr ⟨lw_p30, fun _ h => absurd h List.not_mem_nil⟩⟩⟩⟩⟩⟩⟩⟩⟩⟩⟩⟩⟩⟩⟩
def lw_privs : List (MethodName × Nat) := lw_privs_1 ++ (lw_privs_2)
def lw_tbl : List Cond := k2_sels lw_privs ++ tables_1
theorem lw_privs_ok : ∀ q ∈ lw_privs, lw_okq q := by
  show ∀ q ∈ lw_privs_1 ++ (lw_privs_2), lw_okq q
  exact List.forall_mem_append.mpr ⟨lw_r1, lw_r2⟩
end
section
/-! ===== BEGIN words of one list among another's, by their places ===== -/
theorem goodIn_r {big : List Cond} (ws : List Cond) (ps : List Nat) (hp : ws = ps.filterMap (fun i => big[i]?)) (h : ws.all goodWord = true) : GoodIn big ws := by
  intro w hw
  have h1 := List.all_eq_true.mp h w hw
  rw [hp] at hw
  obtain ⟨i, -, hi⟩ := List.mem_filterMap.mp hw
  have hm : w ∈ big := by first | exact List.mem_of_getElem? hi | exact List.getElem?_mem hi
  exact ⟨hm, good_of_word h1⟩
theorem goodIn_app {big a b : List Cond} (ha : GoodIn big a) (hb : GoodIn big b) : GoodIn big (a ++ b) := fun w h => (List.mem_append.mp h).elim (ha w) (hb w)
theorem goodIn_ca {big a b : List Cond} {c : Cond} (ha : GoodIn big (c :: a)) (hb : GoodIn big b) : GoodIn big (c :: (a ++ b)) := fun w h => (List.mem_cons.mp h).elim (fun e => ha w (List.mem_cons.mpr (Or.inl e))) (fun h => (List.mem_append.mp h).elim (fun h => ha w (List.mem_cons.mpr (Or.inr h))) (hb w))
theorem goodIn_sub {big ws : List Cond} (hm : ∀ w ∈ ws, w ∈ big) (h : ws.all goodWord = true) : GoodIn big ws := fun w hw => ⟨hm w hw, good_of_word (List.all_eq_true.mp h w hw)⟩
/-! ===== END ===== -/

/-! ===== BEGIN printed: names, fields, word lists, decode rows ===== -/
def RX0 : String := "FencePilot$Corners"
def TX0 : u_T := fun k => match k with
  | 0 => ("FencePilot$Corners", "xs", "[I", true)
  | 1 => ("FencePilot$Corners", "ys", "[I", true)
  | _ => ("FencePilot$Corners", "count", "I", false)
def tyX0 : Nat → FieldType := fun k => match k with
  | 0 => .array .int
  | 1 => .array .int
  | _ => .int
abbrev wsX00 : List Cond := u_ws RX0 TX0 3
theorem nmX0 : ∀ a, a < 3 → ∀ b, b < 3 → a ≠ b → (TX0 a).2.1 ≠ (TX0 b).2.1 := by decide +kernel
theorem tyX0_ok : ∀ k, k < 3 → parseFieldDescriptor (TX0 k).2.2.1 = some (tyX0 k) := by decide +kernel
abbrev cX0_init : ByteArray := prog_2_method_1_code
def yX0_init : MethodName := ⟨RX0, "<init>", "()V"⟩
abbrev cX0_isFull : ByteArray := prog_2_method_2_code
def yX0_isFull : MethodName := ⟨RX0, "isFull", "()Z"⟩
abbrev cX0_areEnough : ByteArray := prog_2_method_3_code
def yX0_areEnough : MethodName := ⟨RX0, "areEnough", "()Z"⟩
abbrev cX0_add : ByteArray := prog_2_method_4_code
def yX0_add : MethodName := ⟨RX0, "add", "(II)V"⟩
abbrev cX0_clear : ByteArray := prog_2_method_5_code
def yX0_clear : MethodName := ⟨RX0, "clear", "()V"⟩
abbrev cX0_copyFrom : ByteArray := prog_2_method_6_code
def yX0_copyFrom : MethodName := ⟨RX0, "copyFrom", "(LFencePilot$Corners;)V"⟩
abbrev cX0_areConvex : ByteArray := prog_2_method_7_code
def yX0_areConvex : MethodName := ⟨RX0, "areConvex", "()Z"⟩
abbrev cX0_leaveClear : ByteArray := prog_2_method_8_code
def yX0_leaveClear : MethodName := ⟨RX0, "leaveClear", "(III)Z"⟩
abbrev cX0_hasOthersInside : ByteArray := prog_2_method_9_code
def yX0_hasOthersInside : MethodName := ⟨RX0, "hasOthersInside", "(I)Z"⟩
abbrev cX0_isClear : ByteArray := prog_2_method_10_code
def yX0_isClear : MethodName := ⟨RX0, "isClear", "(IIII)Z"⟩
abbrev cX0_side : ByteArray := prog_2_method_11_code
def yX0_side : MethodName := ⟨RX0, "side", "(III)J"⟩
abbrev cX0_squaredLength : ByteArray := prog_2_method_12_code
def yX0_squaredLength : MethodName := ⟨RX0, "squaredLength", "(I)J"⟩
abbrev cX0_after : ByteArray := prog_2_method_13_code
def yX0_after : MethodName := ⟨RX0, "after", "(I)I"⟩
def RX1 : String := "FencePilot$Items"
def TX1 : u_T := fun k => match k with
  | 0 => ("FencePilot$Items", "row", "[I", true)
  | _ => ("FencePilot$Items", "count", "I", false)
def tyX1 : Nat → FieldType := fun k => match k with
  | 0 => .array .int
  | _ => .int
abbrev wsX10 : List Cond := u_ws RX1 TX1 2
theorem nmX1 : ∀ a, a < 2 → ∀ b, b < 2 → a ≠ b → (TX1 a).2.1 ≠ (TX1 b).2.1 := by decide +kernel
theorem tyX1_ok : ∀ k, k < 2 → parseFieldDescriptor (TX1 k).2.2.1 = some (tyX1 k) := by decide +kernel
abbrev cX1_init : ByteArray := prog_3_method_1_code
def yX1_init : MethodName := ⟨RX1, "<init>", "()V"⟩
abbrev cX1_isEmpty : ByteArray := prog_3_method_2_code
def yX1_isEmpty : MethodName := ⟨RX1, "isEmpty", "()Z"⟩
abbrev cX1_clear : ByteArray := prog_3_method_3_code
def yX1_clear : MethodName := ⟨RX1, "clear", "()V"⟩
abbrev cX1_add : ByteArray := prog_3_method_4_code
def yX1_add : MethodName := ⟨RX1, "add", "(III)V"⟩
abbrev cX1_read : ByteArray := prog_3_method_5_code
def yX1_read : MethodName := ⟨RX1, "read", "(II)I"⟩
abbrev cX1_copyFrom : ByteArray := prog_3_method_6_code
def yX1_copyFrom : MethodName := ⟨RX1, "copyFrom", "(LFencePilot$Items;)V"⟩
def RX2 : String := "FencePilot$ModeLog"
def TX2 : u_T := fun k => match k with
  | 0 => ("FencePilot$ModeLog", "changes", "[I", true)
  | 1 => ("FencePilot$ModeLog", "current", "I", false)
  | _ => ("FencePilot$ModeLog", "landForced", "Z", false)
def tyX2 : Nat → FieldType := fun k => match k with
  | 0 => .array .int
  | 1 => .int
  | _ => .boolean
abbrev wsX20 : List Cond := u_ws RX2 TX2 3
theorem nmX2 : ∀ a, a < 3 → ∀ b, b < 3 → a ≠ b → (TX2 a).2.1 ≠ (TX2 b).2.1 := by decide +kernel
theorem tyX2_ok : ∀ k, k < 3 → parseFieldDescriptor (TX2 k).2.2.1 = some (tyX2 k) := by decide +kernel
abbrev cX2_init : ByteArray := prog_4_method_1_code
def yX2_init : MethodName := ⟨RX2, "<init>", "()V"⟩
abbrev cX2_enter : ByteArray := prog_4_method_2_code
def yX2_enter : MethodName := ⟨RX2, "enter", "(II)V"⟩
abbrev cX2_forceLand : ByteArray := prog_4_method_3_code
def yX2_forceLand : MethodName := ⟨RX2, "forceLand", "(I)V"⟩
def RX3 : String := "FencePilot$Sensors"
def TX3 : u_T := fun k => match k with
  | 0 => ("FencePilot$Sensors", "row", "[I", true)
  | _ => ("FencePilot$Sensors", "fresh", "[Z", true)
def tyX3 : Nat → FieldType := fun k => match k with
  | 0 => .array .int
  | _ => .array .boolean
abbrev wsX30 : List Cond := u_ws RX3 TX3 2
theorem nmX3 : ∀ a, a < 2 → ∀ b, b < 2 → a ≠ b → (TX3 a).2.1 ≠ (TX3 b).2.1 := by decide +kernel
theorem tyX3_ok : ∀ k, k < 2 → parseFieldDescriptor (TX3 k).2.2.1 = some (tyX3 k) := by decide +kernel
abbrev cX3_init : ByteArray := prog_5_method_1_code
def yX3_init : MethodName := ⟨RX3, "<init>", "()V"⟩
abbrev cX3_take : ByteArray := prog_5_method_2_code
def yX3_take : MethodName := ⟨RX3, "take", "(IIII)V"⟩
abbrev cX3_countFresh : ByteArray := prog_5_method_3_code
def yX3_countFresh : MethodName := ⟨RX3, "countFresh", "()I"⟩
abbrev cX3_forget : ByteArray := prog_5_method_4_code
def yX3_forget : MethodName := ⟨RX3, "forget", "()V"⟩
abbrev cX3_vote : ByteArray := prog_5_method_5_code
def yX3_vote : MethodName := ⟨RX3, "vote", "(I)I"⟩
abbrev cX3_middle : ByteArray := prog_5_method_6_code
def yX3_middle : MethodName := ⟨RX3, "middle", "(III)I"⟩
def RX4 : String := "FencePilot$Upload"
def TX4 : u_T := fun k => match k with
  | 0 => ("FencePilot$Upload", "brought", "LFencePilot$Items;", true)
  | 1 => ("FencePilot$Upload", "underWay", "Z", false)
  | 2 => ("FencePilot$Upload", "size", "I", false)
  | 3 => ("FencePilot$Upload", "age", "I", false)
  | _ => ("FencePilot$Upload", "repeats", "I", false)
def tyX4 : Nat → FieldType := fun k => match k with
  | 0 => .object "FencePilot$Items"
  | 1 => .boolean
  | 2 => .int
  | 3 => .int
  | _ => .int
abbrev wsX40 : List Cond := u_ws RX4 TX4 5
theorem nmX4 : ∀ a, a < 5 → ∀ b, b < 5 → a ≠ b → (TX4 a).2.1 ≠ (TX4 b).2.1 := by decide +kernel
theorem tyX4_ok : ∀ k, k < 5 → parseFieldDescriptor (TX4 k).2.2.1 = some (tyX4 k) := by decide +kernel
abbrev cX4_init : ByteArray := prog_6_method_1_code
def yX4_init : MethodName := ⟨RX4, "<init>", "()V"⟩
abbrev cX4_begin : ByteArray := prog_6_method_2_code
def yX4_begin : MethodName := ⟨RX4, "begin", "(I)V"⟩
abbrev cX4_end : ByteArray := prog_6_method_3_code
def yX4_end : MethodName := ⟨RX4, "end", "()V"⟩
abbrev cX4_next : ByteArray := prog_6_method_4_code
def yX4_next : MethodName := ⟨RX4, "next", "()I"⟩
abbrev cX4_isComplete : ByteArray := prog_6_method_5_code
def yX4_isComplete : MethodName := ⟨RX4, "isComplete", "()Z"⟩
abbrev cX4_keep : ByteArray := prog_6_method_6_code
def yX4_keep : MethodName := ⟨RX4, "keep", "(III)V"⟩
abbrev cX4_growOlder : ByteArray := prog_6_method_7_code
def yX4_growOlder : MethodName := ⟨RX4, "growOlder", "()V"⟩
def RX5 : String := "FencePilot"
def TX5 : u_T := fun k => match k with
  | 0 => ("FencePilot", "given", "LFencePilot$Corners;", true)
  | 1 => ("FencePilot", "bounds", "LFencePilot$Corners;", true)
  | 2 => ("FencePilot", "incoming", "LFencePilot$Upload;", true)
  | 3 => ("FencePilot", "mission", "LFencePilot$Items;", true)
  | 4 => ("FencePilot", "sensors", "LFencePilot$Sensors;", true)
  | 5 => ("FencePilot", "modes", "LFencePilot$ModeLog;", true)
  | 6 => ("FencePilot", "place", "[I", true)
  | 7 => ("FencePilot", "wish", "[I", true)
  | 8 => ("FencePilot", "ceiling", "I", false)
  | 9 => ("FencePilot", "heading", "I", false)
  | 10 => ("FencePilot", "lostTicks", "I", false)
  | 11 => ("FencePilot", "silentTicks", "I", false)
  | _ => ("FencePilot", "ticks", "I", false)
def tyX5 : Nat → FieldType := fun k => match k with
  | 0 => .object "FencePilot$Corners"
  | 1 => .object "FencePilot$Corners"
  | 2 => .object "FencePilot$Upload"
  | 3 => .object "FencePilot$Items"
  | 4 => .object "FencePilot$Sensors"
  | 5 => .object "FencePilot$ModeLog"
  | 6 => .array .int
  | 7 => .array .int
  | 8 => .int
  | 9 => .int
  | 10 => .int
  | 11 => .int
  | _ => .int
abbrev wsX50 : List Cond := u_ws RX5 TX5 13
theorem nmX5 : ∀ a, a < 13 → ∀ b, b < 13 → a ≠ b → (TX5 a).2.1 ≠ (TX5 b).2.1 := by decide +kernel
theorem tyX5_ok : ∀ k, k < 13 → parseFieldDescriptor (TX5 k).2.2.1 = some (tyX5 k) := by decide +kernel
abbrev cX5_init : ByteArray := prog_1_method_1_code
def yX5_init : MethodName := ⟨RX5, "<init>", "()V"⟩
abbrev cX5_corner : ByteArray := prog_1_method_2_code
def yX5_corner : MethodName := ⟨RX5, "corner", "(II)Z"⟩
abbrev cX5_erase : ByteArray := prog_1_method_3_code
def yX5_erase : MethodName := ⟨RX5, "erase", "()V"⟩
abbrev cX5_fence : ByteArray := prog_1_method_4_code
def yX5_fence : MethodName := ⟨RX5, "fence", "(I)I"⟩
abbrev cX5_upload : ByteArray := prog_1_method_5_code
def yX5_upload : MethodName := ⟨RX5, "upload", "(I)I"⟩
abbrev cX5_item : ByteArray := prog_1_method_6_code
def yX5_item : MethodName := ⟨RX5, "item", "(IIII)I"⟩
abbrev cX5_wanted : ByteArray := prog_1_method_7_code
def yX5_wanted : MethodName := ⟨RX5, "wanted", "()I"⟩
abbrev cX5_sample : ByteArray := prog_1_method_8_code
def yX5_sample : MethodName := ⟨RX5, "sample", "(IIII)Z"⟩
abbrev cX5_beat : ByteArray := prog_1_method_9_code
def yX5_beat : MethodName := ⟨RX5, "beat", "()V"⟩
abbrev cX5_arm : ByteArray := prog_1_method_10_code
def yX5_arm : MethodName := ⟨RX5, "arm", "()I"⟩
abbrev cX5_command : ByteArray := prog_1_method_11_code
def yX5_command : MethodName := ⟨RX5, "command", "(I)I"⟩
abbrev cX5_tick : ByteArray := prog_1_method_12_code
def yX5_tick : MethodName := ⟨RX5, "tick", "(I)I"⟩
abbrev cX5_mode : ByteArray := prog_1_method_13_code
def yX5_mode : MethodName := ⟨RX5, "mode", "()I"⟩
abbrev cX5_demand : ByteArray := prog_1_method_14_code
def yX5_demand : MethodName := ⟨RX5, "demand", "(I)I"⟩
abbrev cX5_position : ByteArray := prog_1_method_15_code
def yX5_position : MethodName := ⟨RX5, "position", "(I)I"⟩
abbrev cX5_lost : ByteArray := prog_1_method_16_code
def yX5_lost : MethodName := ⟨RX5, "lost", "()I"⟩
abbrev cX5_waypoint : ByteArray := prog_1_method_17_code
def yX5_waypoint : MethodName := ⟨RX5, "waypoint", "()I"⟩
abbrev cX5_safe : ByteArray := prog_1_method_18_code
def yX5_safe : MethodName := ⟨RX5, "safe", "(II)Z"⟩
abbrev cX5_change : ByteArray := prog_1_method_19_code
def yX5_change : MethodName := ⟨RX5, "change", "(I)I"⟩
abbrev cX5_locate : ByteArray := prog_1_method_20_code
def yX5_locate : MethodName := ⟨RX5, "locate", "()V"⟩
abbrev cX5_fly : ByteArray := prog_1_method_21_code
def yX5_fly : MethodName := ⟨RX5, "fly", "(I)V"⟩
abbrev cX5_applyFailsafes : ByteArray := prog_1_method_22_code
def yX5_applyFailsafes : MethodName := ⟨RX5, "applyFailsafes", "(I)V"⟩
abbrev cX5_moveOn : ByteArray := prog_1_method_23_code
def yX5_moveOn : MethodName := ⟨RX5, "moveOn", "()V"⟩
abbrev cX5_hasReachedItem : ByteArray := prog_1_method_24_code
def yX5_hasReachedItem : MethodName := ⟨RX5, "hasReachedItem", "()Z"⟩
abbrev cX5_passItem : ByteArray := prog_1_method_25_code
def yX5_passItem : MethodName := ⟨RX5, "passItem", "()V"⟩
abbrev cX5_guide : ByteArray := prog_1_method_26_code
def yX5_guide : MethodName := ⟨RX5, "guide", "()V"⟩
abbrev cX5_wishForItem : ByteArray := prog_1_method_27_code
def yX5_wishForItem : MethodName := ⟨RX5, "wishForItem", "()V"⟩
abbrev cX5_flyBlind : ByteArray := prog_1_method_28_code
def yX5_flyBlind : MethodName := ⟨RX5, "flyBlind", "()V"⟩
abbrev cX5_guardSides : ByteArray := prog_1_method_29_code
def yX5_guardSides : MethodName := ⟨RX5, "guardSides", "()V"⟩
abbrev cX5_guardTop : ByteArray := prog_1_method_30_code
def yX5_guardTop : MethodName := ⟨RX5, "guardTop", "()V"⟩
abbrev cX5_setWish : ByteArray := prog_1_method_31_code
def yX5_setWish : MethodName := ⟨RX5, "setWish", "(III)V"⟩
abbrev cX5_isWithin : ByteArray := prog_1_method_32_code
def yX5_isWithin : MethodName := ⟨RX5, "isWithin", "(III)Z"⟩
abbrev cX5_isOnMap : ByteArray := prog_1_method_33_code
def yX5_isOnMap : MethodName := ⟨RX5, "isOnMap", "(II)Z"⟩
abbrev cX5_isInSensorReach : ByteArray := prog_1_method_34_code
def yX5_isInSensorReach : MethodName := ⟨RX5, "isInSensorReach", "(II)Z"⟩
abbrev cX5_isNear : ByteArray := prog_1_method_35_code
def yX5_isNear : MethodName := ⟨RX5, "isNear", "(II)Z"⟩
abbrev cX5_saturate : ByteArray := prog_1_method_36_code
def yX5_saturate : MethodName := ⟨RX5, "saturate", "(I)I"⟩
def RX6 : String := "FencePilotModel"
def TX6 : u_T := fun k => match k with
  | 0 => ("FencePilotModel", "given", "I", false)
  | 1 => ("FencePilotModel", "corners", "I", false)
  | 2 => ("FencePilotModel", "cornerX", "[I", false)
  | 3 => ("FencePilotModel", "cornerY", "[I", false)
  | 4 => ("FencePilotModel", "ceiling", "I", false)
  | 5 => ("FencePilotModel", "items", "I", false)
  | 6 => ("FencePilotModel", "item", "[I", false)
  | 7 => ("FencePilotModel", "waypoint", "I", false)
  | 8 => ("FencePilotModel", "uploads", "I", false)
  | 9 => ("FencePilotModel", "wanted", "I", false)
  | 10 => ("FencePilotModel", "age", "I", false)
  | 11 => ("FencePilotModel", "repeats", "I", false)
  | 12 => ("FencePilotModel", "has", "[Z", false)
  | 13 => ("FencePilotModel", "sample", "[I", false)
  | 14 => ("FencePilotModel", "position", "[I", false)
  | 15 => ("FencePilotModel", "demand", "[I", false)
  | 16 => ("FencePilotModel", "lost", "I", false)
  | 17 => ("FencePilotModel", "silent", "I", false)
  | 18 => ("FencePilotModel", "ticks", "I", false)
  | 19 => ("FencePilotModel", "mode", "I", false)
  | 20 => ("FencePilotModel", "forced", "Z", false)
  | 21 => ("FencePilotModel", "changes", "I", false)
  | _ => ("FencePilotModel", "change", "[I", false)
def tyX6 : Nat → FieldType := fun k => match k with
  | 0 => .int
  | 1 => .int
  | 2 => .array .int
  | 3 => .array .int
  | 4 => .int
  | 5 => .int
  | 6 => .array .int
  | 7 => .int
  | 8 => .int
  | 9 => .int
  | 10 => .int
  | 11 => .int
  | 12 => .array .boolean
  | 13 => .array .int
  | 14 => .array .int
  | 15 => .array .int
  | 16 => .int
  | 17 => .int
  | 18 => .int
  | 19 => .int
  | 20 => .boolean
  | 21 => .int
  | _ => .array .int
abbrev wsX60 : List Cond := u_ws RX6 TX6 23
theorem nmX6 : ∀ a, a < 23 → ∀ b, b < 23 → a ≠ b → (TX6 a).2.1 ≠ (TX6 b).2.1 := by decide +kernel
theorem tyX6_ok : ∀ k, k < 23 → parseFieldDescriptor (TX6 k).2.2.1 = some (tyX6 k) := by decide +kernel
abbrev cX6_init : ByteArray := prog_8_method_1_code
def yX6_init : MethodName := ⟨RX6, "<init>", "()V"⟩
abbrev cX6_within : ByteArray := prog_8_method_2_code
def yX6_within : MethodName := ⟨RX6, "within", "(III)Z"⟩
abbrev cX6_side : ByteArray := prog_8_method_3_code
def yX6_side : MethodName := ⟨RX6, "side", "(IIII)J"⟩
abbrev cX6_clearOf : ByteArray := prog_8_method_4_code
def yX6_clearOf : MethodName := ⟨RX6, "clearOf", "(IIIIJ)Z"⟩
abbrev cX6_clearOfAll : ByteArray := prog_8_method_5_code
def yX6_clearOfAll : MethodName := ⟨RX6, "clearOfAll", "(IIIIJ)Z"⟩
abbrev cX6_convex : ByteArray := prog_8_method_6_code
def yX6_convex : MethodName := ⟨RX6, "convex", "()Z"⟩
abbrev cX6_safeAt : ByteArray := prog_8_method_7_code
def yX6_safeAt : MethodName := ⟨RX6, "safeAt", "(II)Z"⟩
abbrev cX6_corner : ByteArray := prog_8_method_8_code
def yX6_corner : MethodName := ⟨RX6, "corner", "(II)Z"⟩
abbrev cX6_erase : ByteArray := prog_8_method_9_code
def yX6_erase : MethodName := ⟨RX6, "erase", "()V"⟩
abbrev cX6_fence : ByteArray := prog_8_method_10_code
def yX6_fence : MethodName := ⟨RX6, "fence", "(I)I"⟩
abbrev cX6_safe : ByteArray := prog_8_method_11_code
def yX6_safe : MethodName := ⟨RX6, "safe", "(II)Z"⟩
abbrev cX6_upload : ByteArray := prog_8_method_12_code
def yX6_upload : MethodName := ⟨RX6, "upload", "(I)I"⟩
abbrev cX6_item : ByteArray := prog_8_method_13_code
def yX6_item : MethodName := ⟨RX6, "item", "(IIII)I"⟩
abbrev cX6_wanted : ByteArray := prog_8_method_14_code
def yX6_wanted : MethodName := ⟨RX6, "wanted", "()I"⟩
abbrev cX6_sample : ByteArray := prog_8_method_15_code
def yX6_sample : MethodName := ⟨RX6, "sample", "(IIII)Z"⟩
abbrev cX6_beat : ByteArray := prog_8_method_16_code
def yX6_beat : MethodName := ⟨RX6, "beat", "()V"⟩
abbrev cX6_become : ByteArray := prog_8_method_17_code
def yX6_become : MethodName := ⟨RX6, "become", "(I)V"⟩
abbrev cX6_arm : ByteArray := prog_8_method_18_code
def yX6_arm : MethodName := ⟨RX6, "arm", "()I"⟩
abbrev cX6_command : ByteArray := prog_8_method_19_code
def yX6_command : MethodName := ⟨RX6, "command", "(I)I"⟩
abbrev cX6_lesser : ByteArray := prog_8_method_20_code
def yX6_lesser : MethodName := ⟨RX6, "lesser", "(II)I"⟩
abbrev cX6_greater : ByteArray := prog_8_method_21_code
def yX6_greater : MethodName := ⟨RX6, "greater", "(II)I"⟩
abbrev cX6_saturated : ByteArray := prog_8_method_22_code
def yX6_saturated : MethodName := ⟨RX6, "saturated", "(II)I"⟩
abbrev cX6_voted : ByteArray := prog_8_method_23_code
def yX6_voted : MethodName := ⟨RX6, "voted", "(I)I"⟩
abbrev cX6_link : ByteArray := prog_8_method_24_code
def yX6_link : MethodName := ⟨RX6, "link", "()V"⟩
abbrev cX6_vote : ByteArray := prog_8_method_25_code
def yX6_vote : MethodName := ⟨RX6, "vote", "()V"⟩
abbrev cX6_failsafe : ByteArray := prog_8_method_26_code
def yX6_failsafe : MethodName := ⟨RX6, "failsafe", "(I)V"⟩
abbrev cX6_near : ByteArray := prog_8_method_27_code
def yX6_near : MethodName := ⟨RX6, "near", "(III)Z"⟩
abbrev cX6_advance : ByteArray := prog_8_method_28_code
def yX6_advance : MethodName := ⟨RX6, "advance", "()V"⟩
abbrev cX6_steer : ByteArray := prog_8_method_29_code
def yX6_steer : MethodName := ⟨RX6, "steer", "()V"⟩
abbrev cX6_guard : ByteArray := prog_8_method_30_code
def yX6_guard : MethodName := ⟨RX6, "guard", "()V"⟩
abbrev cX6_tick : ByteArray := prog_8_method_31_code
def yX6_tick : MethodName := ⟨RX6, "tick", "(I)I"⟩
abbrev cX6_mode : ByteArray := prog_8_method_32_code
def yX6_mode : MethodName := ⟨RX6, "mode", "()I"⟩
abbrev cX6_demand : ByteArray := prog_8_method_33_code
def yX6_demand : MethodName := ⟨RX6, "demand", "(I)I"⟩
abbrev cX6_position : ByteArray := prog_8_method_34_code
def yX6_position : MethodName := ⟨RX6, "position", "(I)I"⟩
abbrev cX6_lost : ByteArray := prog_8_method_35_code
def yX6_lost : MethodName := ⟨RX6, "lost", "()I"⟩
abbrev cX6_waypoint : ByteArray := prog_8_method_36_code
def yX6_waypoint : MethodName := ⟨RX6, "waypoint", "()I"⟩
abbrev cX6_change : ByteArray := prog_8_method_37_code
def yX6_change : MethodName := ⟨RX6, "change", "(I)I"⟩
def RJ9 : String := "java/lang/Math"
def TJ9 : u_T := fun k => match k with
  | _ => ("", "", "", false)
def tyJ9 : Nat → FieldType := fun k => match k with
  | _ => .int
abbrev wsJ90 : List Cond := u_ws RJ9 TJ9 0
theorem nmJ9 : ∀ a, a < 0 → ∀ b, b < 0 → a ≠ b → (TJ9 a).2.1 ≠ (TJ9 b).2.1 := by decide +kernel
theorem tyJ9_ok : ∀ k, k < 0 → parseFieldDescriptor (TJ9 k).2.2.1 = some (tyJ9 k) := by decide +kernel
abbrev cJ9_floorDiv_7cf53 : ByteArray := prog_9_method_47_code
def yJ9_floorDiv_7cf53 : MethodName := ⟨RJ9, "floorDiv", "(II)I"⟩
abbrev cJ9_max_7cf53 : ByteArray := prog_9_method_65_code
def yJ9_max_7cf53 : MethodName := ⟨RJ9, "max", "(II)I"⟩
abbrev cJ9_min_7cf53 : ByteArray := prog_9_method_69_code
def yJ9_min_7cf53 : MethodName := ⟨RJ9, "min", "(II)I"⟩
def RJ10 : String := "java/lang/System"
def TJ10 : u_T := fun k => match k with
  | _ => ("", "", "", false)
def tyJ10 : Nat → FieldType := fun k => match k with
  | _ => .int
abbrev wsJ100 : List Cond := u_ws RJ10 TJ10 0
theorem nmJ10 : ∀ a, a < 0 → ∀ b, b < 0 → a ≠ b → (TJ10 a).2.1 ≠ (TJ10 b).2.1 := by decide +kernel
theorem tyJ10_ok : ∀ k, k < 0 → parseFieldDescriptor (TJ10 k).2.2.1 = some (tyJ10 k) := by decide +kernel
def RL : String := "FencePilotLaw"
abbrev cL_law : ByteArray := code
def yL_law : MethodName := ⟨RL, "law", "([I)Z"⟩
def wsX0_init : List Cond := .code yX0_init cX0_init 1 none :: ([.methodLink RX0 3 objectInit, .instanceMethod objectInit, .code objectInit ⟨#[0xb1]⟩ 1 none, .arrayClass .int, .fieldLink RX0 9 "FencePilot$Corners" "xs" "[I", .fieldLink RX0 15 "FencePilot$Corners" "ys" "[I", .fieldLink RX0 18 "FencePilot$Corners" "count" "I"] ++ wsX00)
def wsX0_isFull : List Cond := .code yX0_isFull cX0_isFull 1 (some .boolean) :: ([.fieldLink RX0 18 "FencePilot$Corners" "count" "I"] ++ wsX00)
def wsX0_areEnough : List Cond := .code yX0_areEnough cX0_areEnough 1 (some .boolean) :: ([.fieldLink RX0 18 "FencePilot$Corners" "count" "I"] ++ wsX00)
def wsX0_add : List Cond := .code yX0_add cX0_add 3 none :: ([.fieldLink RX0 9 "FencePilot$Corners" "xs" "[I", .fieldLink RX0 18 "FencePilot$Corners" "count" "I", .fieldLink RX0 15 "FencePilot$Corners" "ys" "[I", .methodLink RX0 22 yX0_isFull, .instanceMethod yX0_isFull, .selects RX0 yX0_isFull yX0_isFull, .initialized RX0, .code yX0_isFull cX0_isFull 1 (some .boolean)] ++ wsX00)
def wsX0_clear : List Cond := .code yX0_clear cX0_clear 1 none :: ([.fieldLink RX0 18 "FencePilot$Corners" "count" "I"] ++ wsX00)
def wsX0_copyFrom : List Cond := .code yX0_copyFrom cX0_copyFrom 3 none :: ([.fieldLink RX0 18 "FencePilot$Corners" "count" "I", .fieldLink RX0 9 "FencePilot$Corners" "xs" "[I", .fieldLink RX0 15 "FencePilot$Corners" "ys" "[I"] ++ wsX00)
def wsX0_after : List Cond := .code yX0_after cX0_after 2 (some .int) :: ([.fieldLink RX0 18 "FencePilot$Corners" "count" "I"] ++ wsX00)
def wsX0_squaredLength : List Cond := .code yX0_squaredLength cX0_squaredLength 7 (some .long) :: ([.fieldLink RX0 9 "FencePilot$Corners" "xs" "[I", .fieldLink RX0 15 "FencePilot$Corners" "ys" "[I", .methodLink RX0 41 yX0_after, .instanceMethod yX0_after, .selects RX0 yX0_after yX0_after, .initialized RX0, .code yX0_after cX0_after 2 (some .int), .fieldLink RX0 18 "FencePilot$Corners" "count" "I"] ++ wsX00)
def wsX0_side : List Cond := .code yX0_side cX0_side 9 (some .long) :: ([.fieldLink RX0 9 "FencePilot$Corners" "xs" "[I", .fieldLink RX0 15 "FencePilot$Corners" "ys" "[I", .methodLink RX0 41 yX0_after, .instanceMethod yX0_after, .selects RX0 yX0_after yX0_after, .initialized RX0, .code yX0_after cX0_after 2 (some .int), .fieldLink RX0 18 "FencePilot$Corners" "count" "I"] ++ wsX00)
def wsX0_hasOthersInside : List Cond := .code yX0_hasOthersInside cX0_hasOthersInside 3 (some .boolean) :: ([.fieldLink RX0 18 "FencePilot$Corners" "count" "I", .fieldLink RX0 9 "FencePilot$Corners" "xs" "[I", .fieldLink RX0 15 "FencePilot$Corners" "ys" "[I", .methodLink RX0 41 yX0_after, .instanceMethod yX0_after, .selects RX0 yX0_after yX0_after, .initialized RX0, .code yX0_after cX0_after 2 (some .int), .methodLink RX0 45 yX0_side, .instanceMethod yX0_side, .selects RX0 yX0_side yX0_side, .code yX0_side cX0_side 9 (some .long)] ++ wsX00)
def wsX0_areConvex : List Cond := .code yX0_areConvex cX0_areConvex 2 (some .boolean) :: ([.fieldLink RX0 18 "FencePilot$Corners" "count" "I", .methodLink RX0 26 yX0_squaredLength, .instanceMethod yX0_squaredLength, .selects RX0 yX0_squaredLength yX0_squaredLength, .initialized RX0, .code yX0_squaredLength cX0_squaredLength 7 (some .long), .fieldLink RX0 9 "FencePilot$Corners" "xs" "[I", .fieldLink RX0 15 "FencePilot$Corners" "ys" "[I", .methodLink RX0 41 yX0_after, .instanceMethod yX0_after, .selects RX0 yX0_after yX0_after, .code yX0_after cX0_after 2 (some .int), .methodLink RX0 30 yX0_hasOthersInside, .instanceMethod yX0_hasOthersInside, .selects RX0 yX0_hasOthersInside yX0_hasOthersInside, .code yX0_hasOthersInside cX0_hasOthersInside 3 (some .boolean), .methodLink RX0 45 yX0_side, .instanceMethod yX0_side, .selects RX0 yX0_side yX0_side, .code yX0_side cX0_side 9 (some .long)] ++ wsX00)
def wsX0_isClear : List Cond := .code yX0_isClear cX0_isClear 7 (some .boolean) :: ([.methodLink RX0 45 yX0_side, .instanceMethod yX0_side, .selects RX0 yX0_side yX0_side, .initialized RX0, .code yX0_side cX0_side 9 (some .long), .fieldLink RX0 9 "FencePilot$Corners" "xs" "[I", .fieldLink RX0 15 "FencePilot$Corners" "ys" "[I", .methodLink RX0 41 yX0_after, .instanceMethod yX0_after, .selects RX0 yX0_after yX0_after, .code yX0_after cX0_after 2 (some .int), .fieldLink RX0 18 "FencePilot$Corners" "count" "I", .methodLink RX0 26 yX0_squaredLength, .instanceMethod yX0_squaredLength, .selects RX0 yX0_squaredLength yX0_squaredLength, .code yX0_squaredLength cX0_squaredLength 7 (some .long)] ++ wsX00)
def wsX0_leaveClear : List Cond := .code yX0_leaveClear cX0_leaveClear 5 (some .boolean) :: ([.fieldLink RX0 18 "FencePilot$Corners" "count" "I", .methodLink RX0 34 yX0_areEnough, .instanceMethod yX0_areEnough, .selects RX0 yX0_areEnough yX0_areEnough, .initialized RX0, .code yX0_areEnough cX0_areEnough 1 (some .boolean), .methodLink RX0 37 yX0_isClear, .instanceMethod yX0_isClear, .selects RX0 yX0_isClear yX0_isClear, .code yX0_isClear cX0_isClear 7 (some .boolean), .methodLink RX0 45 yX0_side, .instanceMethod yX0_side, .selects RX0 yX0_side yX0_side, .code yX0_side cX0_side 9 (some .long), .fieldLink RX0 9 "FencePilot$Corners" "xs" "[I", .fieldLink RX0 15 "FencePilot$Corners" "ys" "[I", .methodLink RX0 41 yX0_after, .instanceMethod yX0_after, .selects RX0 yX0_after yX0_after, .code yX0_after cX0_after 2 (some .int), .methodLink RX0 26 yX0_squaredLength, .instanceMethod yX0_squaredLength, .selects RX0 yX0_squaredLength yX0_squaredLength, .code yX0_squaredLength cX0_squaredLength 7 (some .long)] ++ wsX00)
def wsX1_init : List Cond := .code yX1_init cX1_init 1 none :: ([.methodLink RX1 3 objectInit, .instanceMethod objectInit, .code objectInit ⟨#[0xb1]⟩ 1 none, .arrayClass .int, .fieldLink RX1 9 "FencePilot$Items" "row" "[I", .fieldLink RX1 15 "FencePilot$Items" "count" "I"] ++ wsX10)
def wsX1_isEmpty : List Cond := .code yX1_isEmpty cX1_isEmpty 1 (some .boolean) :: ([.fieldLink RX1 15 "FencePilot$Items" "count" "I"] ++ wsX10)
def wsX1_clear : List Cond := .code yX1_clear cX1_clear 1 none :: ([.fieldLink RX1 15 "FencePilot$Items" "count" "I"] ++ wsX10)
def wsX1_add : List Cond := .code yX1_add cX1_add 4 none :: ([.fieldLink RX1 15 "FencePilot$Items" "count" "I", .fieldLink RX1 9 "FencePilot$Items" "row" "[I"] ++ wsX10)
def wsX5_isWithin : List Cond := .code yX5_isWithin cX5_isWithin 3 (some .boolean) :: ([])
def wsX1_read : List Cond := .code yX1_read cX1_read 3 (some .int) :: ([.fieldLink RX1 15 "FencePilot$Items" "count" "I", .fieldLink RX1 9 "FencePilot$Items" "row" "[I", .static yX5_isWithin, .initialized RX5, .code yX5_isWithin cX5_isWithin 3 (some .boolean)] ++ wsX10)
def wsX1_copyFrom : List Cond := .code yX1_copyFrom cX1_copyFrom 2 none :: ([.fieldLink RX1 9 "FencePilot$Items" "row" "[I", .methodLink RX1 23 arraycopyName, .native arraycopyName, .static arraycopyName, .initialized "java/lang/System", .fieldLink RX1 15 "FencePilot$Items" "count" "I"] ++ wsX10)
def wsX2_init : List Cond := .code yX2_init cX2_init 2 none :: ([.methodLink RX2 3 objectInit, .instanceMethod objectInit, .code objectInit ⟨#[0xb1]⟩ 1 none, .arrayClass .int, .fieldLink RX2 9 "FencePilot$ModeLog" "changes" "[I", .fieldLink RX2 15 "FencePilot$ModeLog" "current" "I", .fieldLink RX2 19 "FencePilot$ModeLog" "landForced" "Z"] ++ wsX20)
end
section
def wsX2_enter : List Cond := .code yX2_enter cX2_enter 4 none :: ([.fieldLink RX2 15 "FencePilot$ModeLog" "current" "I", .fieldLink RX2 19 "FencePilot$ModeLog" "landForced" "Z", .fieldLink RX2 9 "FencePilot$ModeLog" "changes" "[I"] ++ wsX20)
def wsX2_forceLand : List Cond := .code yX2_forceLand cX2_forceLand 2 none :: ([.fieldLink RX2 19 "FencePilot$ModeLog" "landForced" "Z", .methodLink RX2 23 yX2_enter, .instanceMethod yX2_enter, .selects RX2 yX2_enter yX2_enter, .initialized RX2, .code yX2_enter cX2_enter 4 none, .fieldLink RX2 15 "FencePilot$ModeLog" "current" "I", .fieldLink RX2 9 "FencePilot$ModeLog" "changes" "[I"] ++ wsX20)
def wsX3_init : List Cond := .code yX3_init cX3_init 1 none :: ([.methodLink RX3 3 objectInit, .instanceMethod objectInit, .code objectInit ⟨#[0xb1]⟩ 1 none, .arrayClass .int, .fieldLink RX3 9 "FencePilot$Sensors" "row" "[I", .arrayClass .boolean, .fieldLink RX3 15 "FencePilot$Sensors" "fresh" "[Z"] ++ wsX30)
def wsX3_take : List Cond := .code yX3_take cX3_take 5 none :: ([.fieldLink RX3 9 "FencePilot$Sensors" "row" "[I", .fieldLink RX3 15 "FencePilot$Sensors" "fresh" "[Z"] ++ wsX30)
def wsX3_countFresh : List Cond := .code yX3_countFresh cX3_countFresh 3 (some .int) :: ([.fieldLink RX3 15 "FencePilot$Sensors" "fresh" "[Z"] ++ wsX30)
def wsX3_forget : List Cond := .code yX3_forget cX3_forget 2 none :: ([.fieldLink RX3 15 "FencePilot$Sensors" "fresh" "[Z"] ++ wsX30)
def wsX3_middle : List Cond := .code yX3_middle cX3_middle 3 (some .int) :: ([.methodLink RX3 33 Lib.Math.min.name, .static Lib.Math.min.name, .initialized "java/lang/Math", .code Lib.Math.min.name Lib.Math.min.code 2 (some .int), .methodLink RX3 36 Lib.Math.max.name, .static Lib.Math.max.name, .code Lib.Math.max.name Lib.Math.max.code 2 (some .int)])
def wsJ9_floorDiv_7cf53 : List Cond := .code yJ9_floorDiv_7cf53 cJ9_floorDiv_7cf53 3 (some .int) :: ([])
def wsX3_vote : List Cond := .code yX3_vote cX3_vote 4 (some .int) :: ([.fieldLink RX3 9 "FencePilot$Sensors" "row" "[I", .fieldLink RX3 15 "FencePilot$Sensors" "fresh" "[Z", .methodLink RX3 19 yX3_countFresh, .instanceMethod yX3_countFresh, .selects RX3 yX3_countFresh yX3_countFresh, .initialized RX3, .code yX3_countFresh cX3_countFresh 3 (some .int), .methodLink RX3 23 yX3_middle, .static yX3_middle, .code yX3_middle cX3_middle 3 (some .int), .methodLink RX3 33 Lib.Math.min.name, .static Lib.Math.min.name, .initialized "java/lang/Math", .code Lib.Math.min.name Lib.Math.min.code 2 (some .int), .methodLink RX3 36 Lib.Math.max.name, .static Lib.Math.max.name, .code Lib.Math.max.name Lib.Math.max.code 2 (some .int), .methodLink RX3 27 yJ9_floorDiv_7cf53, .static yJ9_floorDiv_7cf53, .initialized RJ9, .code yJ9_floorDiv_7cf53 cJ9_floorDiv_7cf53 3 (some .int)] ++ wsX30)
def wsX4_init : List Cond := .code yX4_init cX4_init 1 none :: ([.methodLink RX4 3 objectInit, .instanceMethod objectInit, .code objectInit ⟨#[0xb1]⟩ 1 none, .classLink RX4 9 RX1, .instantiable RX1 2, .initialized RX1, .fieldLink RX4 12 "FencePilot$Upload" "brought" "LFencePilot$Items;", .fieldLink RX4 18 "FencePilot$Upload" "underWay" "Z", .fieldLink RX4 22 "FencePilot$Upload" "size" "I", .fieldLink RX4 26 "FencePilot$Upload" "age" "I", .fieldLink RX4 29 "FencePilot$Upload" "repeats" "I", .methodLink RX4 11 yX1_init, .instanceMethod yX1_init, .code yX1_init cX1_init 1 none, .methodLink RX1 3 objectInit, .arrayClass .int, .fieldLink RX1 9 "FencePilot$Items" "row" "[I", .fieldLink RX1 15 "FencePilot$Items" "count" "I"] ++ wsX10 ++ wsX40)
def wsX4_begin : List Cond := .code yX4_begin cX4_begin 2 none :: ([.fieldLink RX4 12 "FencePilot$Upload" "brought" "LFencePilot$Items;", .fieldLink RX4 18 "FencePilot$Upload" "underWay" "Z", .fieldLink RX4 22 "FencePilot$Upload" "size" "I", .fieldLink RX4 26 "FencePilot$Upload" "age" "I", .fieldLink RX4 29 "FencePilot$Upload" "repeats" "I", .methodLink RX4 32 yX1_clear, .instanceMethod yX1_clear, .selects RX1 yX1_clear yX1_clear, .initialized RX1, .code yX1_clear cX1_clear 1 none, .fieldLink RX1 15 "FencePilot$Items" "count" "I"] ++ wsX40 ++ wsX10)
def wsX4_end : List Cond := .code yX4_end cX4_end 1 none :: ([.fieldLink RX4 18 "FencePilot$Upload" "underWay" "Z"] ++ wsX40)
def wsX4_next : List Cond := .code yX4_next cX4_next 1 (some .int) :: ([.fieldLink RX4 12 "FencePilot$Upload" "brought" "LFencePilot$Items;"] ++ wsX40 ++ wsX10)
def wsX4_isComplete : List Cond := .code yX4_isComplete cX4_isComplete 1 (some .boolean) :: ([.fieldLink RX4 12 "FencePilot$Upload" "brought" "LFencePilot$Items;", .fieldLink RX4 22 "FencePilot$Upload" "size" "I"] ++ wsX40 ++ wsX10)
def wsX4_keep : List Cond := .code yX4_keep cX4_keep 4 none :: ([.fieldLink RX4 12 "FencePilot$Upload" "brought" "LFencePilot$Items;", .fieldLink RX4 26 "FencePilot$Upload" "age" "I", .fieldLink RX4 29 "FencePilot$Upload" "repeats" "I", .methodLink RX4 38 yX1_add, .instanceMethod yX1_add, .selects RX1 yX1_add yX1_add, .initialized RX1, .code yX1_add cX1_add 4 none, .fieldLink RX1 15 "FencePilot$Items" "count" "I", .fieldLink RX1 9 "FencePilot$Items" "row" "[I"] ++ wsX40 ++ wsX10)
def wsX4_growOlder : List Cond := .code yX4_growOlder cX4_growOlder 1 none :: ([.fieldLink RX4 18 "FencePilot$Upload" "underWay" "Z", .fieldLink RX4 26 "FencePilot$Upload" "age" "I", .fieldLink RX4 29 "FencePilot$Upload" "repeats" "I"] ++ wsX40)
def wsX5_init_r1 : List Cond := [Cond.methodLink RX5 1 objectInit, Cond.instanceMethod objectInit, Cond.code objectInit ⟨#[0xb1]⟩ 1 none, Cond.classLink RX5 7 RX0, Cond.instantiable RX0 3, Cond.initialized RX0, Cond.fieldLink RX5 10 "FencePilot" "given" "LFencePilot$Corners;", Cond.fieldLink RX5 16 "FencePilot" "bounds" "LFencePilot$Corners;", Cond.classLink RX5 19 RX4, Cond.instantiable RX4 5, Cond.initialized RX4, Cond.fieldLink RX5 22 "FencePilot" "incoming" "LFencePilot$Upload;", Cond.classLink RX5 26 RX1, Cond.instantiable RX1 2, Cond.initialized RX1, Cond.fieldLink RX5 29 "FencePilot" "mission" "LFencePilot$Items;", Cond.classLink RX5 33 RX3, Cond.instantiable RX3 2, Cond.initialized RX3, Cond.fieldLink RX5 36 "FencePilot" "sensors" "LFencePilot$Sensors;", Cond.classLink RX5 40 RX2, Cond.instantiable RX2 3, Cond.initialized RX2, Cond.fieldLink RX5 43 "FencePilot" "modes" "LFencePilot$ModeLog;"]
def wsX5_init_r2 : List Cond := [Cond.arrayClass .int, Cond.fieldLink RX5 47 "FencePilot" "place" "[I", Cond.fieldLink RX5 51 "FencePilot" "wish" "[I", Cond.fieldLink RX5 54 "FencePilot" "ceiling" "I", Cond.fieldLink RX5 58 "FencePilot" "heading" "I", Cond.fieldLink RX5 61 "FencePilot" "lostTicks" "I", Cond.fieldLink RX5 64 "FencePilot" "silentTicks" "I", Cond.fieldLink RX5 67 "FencePilot" "ticks" "I", Cond.methodLink RX5 9 yX0_init, Cond.instanceMethod yX0_init, Cond.code yX0_init cX0_init 1 none, Cond.methodLink RX0 3 objectInit, Cond.fieldLink RX0 9 "FencePilot$Corners" "xs" "[I", Cond.fieldLink RX0 15 "FencePilot$Corners" "ys" "[I", Cond.fieldLink RX0 18 "FencePilot$Corners" "count" "I", Cond.methodLink RX5 21 yX4_init, Cond.instanceMethod yX4_init, Cond.code yX4_init cX4_init 1 none, Cond.methodLink RX4 3 objectInit, Cond.classLink RX4 9 RX1, Cond.fieldLink RX4 12 "FencePilot$Upload" "brought" "LFencePilot$Items;", Cond.fieldLink RX4 18 "FencePilot$Upload" "underWay" "Z", Cond.fieldLink RX4 22 "FencePilot$Upload" "size" "I", Cond.fieldLink RX4 26 "FencePilot$Upload" "age" "I"]
def wsX5_init_r3 : List Cond := [Cond.fieldLink RX4 29 "FencePilot$Upload" "repeats" "I", Cond.methodLink RX4 11 yX1_init, Cond.instanceMethod yX1_init, Cond.code yX1_init cX1_init 1 none, Cond.methodLink RX1 3 objectInit, Cond.fieldLink RX1 9 "FencePilot$Items" "row" "[I", Cond.fieldLink RX1 15 "FencePilot$Items" "count" "I", Cond.methodLink RX5 28 yX1_init, Cond.methodLink RX5 35 yX3_init, Cond.instanceMethod yX3_init, Cond.code yX3_init cX3_init 1 none, Cond.methodLink RX3 3 objectInit, Cond.fieldLink RX3 9 "FencePilot$Sensors" "row" "[I", Cond.arrayClass .boolean, Cond.fieldLink RX3 15 "FencePilot$Sensors" "fresh" "[Z", Cond.methodLink RX5 42 yX2_init, Cond.instanceMethod yX2_init, Cond.code yX2_init cX2_init 2 none, Cond.methodLink RX2 3 objectInit, Cond.fieldLink RX2 9 "FencePilot$ModeLog" "changes" "[I", Cond.fieldLink RX2 15 "FencePilot$ModeLog" "current" "I", Cond.fieldLink RX2 19 "FencePilot$ModeLog" "landForced" "Z"]
def wsX5_init : List Cond := .code yX5_init cX5_init 1 none :: ((wsX5_init_r1 ++ (wsX5_init_r2 ++ wsX5_init_r3)) ++ wsX00 ++ wsX50 ++ wsX40 ++ wsX10 ++ wsX30 ++ wsX20)
def wsX5_isOnMap : List Cond := .code yX5_isOnMap cX5_isOnMap 2 (some .boolean) :: ([.methodLink RX5 98 yX5_isWithin, .static yX5_isWithin, .initialized RX5, .code yX5_isWithin cX5_isWithin 3 (some .boolean)])
def wsX5_corner : List Cond := .code yX5_corner cX5_corner 3 (some .boolean) :: ([.fieldLink RX5 10 "FencePilot" "given" "LFencePilot$Corners;", .methodLink RX5 70 yX0_isFull, .instanceMethod yX0_isFull, .selects RX0 yX0_isFull yX0_isFull, .initialized RX0, .code yX0_isFull cX0_isFull 1 (some .boolean), .fieldLink RX0 18 "FencePilot$Corners" "count" "I", .methodLink RX5 74 yX5_isOnMap, .static yX5_isOnMap, .initialized RX5, .code yX5_isOnMap cX5_isOnMap 2 (some .boolean), .methodLink RX5 98 yX5_isWithin, .static yX5_isWithin, .code yX5_isWithin cX5_isWithin 3 (some .boolean), .methodLink RX5 78 yX0_add, .instanceMethod yX0_add, .selects RX0 yX0_add yX0_add, .code yX0_add cX0_add 3 none, .fieldLink RX0 9 "FencePilot$Corners" "xs" "[I", .fieldLink RX0 15 "FencePilot$Corners" "ys" "[I", .methodLink RX0 22 yX0_isFull] ++ wsX50 ++ wsX00)
def wsX5_erase : List Cond := .code yX5_erase cX5_erase 1 none :: ([.fieldLink RX5 10 "FencePilot" "given" "LFencePilot$Corners;", .methodLink RX5 82 yX0_clear, .instanceMethod yX0_clear, .selects RX0 yX0_clear yX0_clear, .initialized RX0, .code yX0_clear cX0_clear 1 none, .fieldLink RX0 18 "FencePilot$Corners" "count" "I"] ++ wsX50 ++ wsX00)
def wsX5_fence_r1 : List Cond := [Cond.fieldLink RX5 43 "FencePilot" "modes" "LFencePilot$ModeLog;", Cond.fieldLink RX5 10 "FencePilot" "given" "LFencePilot$Corners;", Cond.fieldLink RX5 16 "FencePilot" "bounds" "LFencePilot$Corners;", Cond.fieldLink RX5 54 "FencePilot" "ceiling" "I", Cond.methodLink RX5 88 yX0_areEnough, Cond.instanceMethod yX0_areEnough, Cond.selects RX0 yX0_areEnough yX0_areEnough, Cond.initialized RX0, Cond.code yX0_areEnough cX0_areEnough 1 (some .boolean), Cond.fieldLink RX0 18 "FencePilot$Corners" "count" "I", Cond.methodLink RX5 91 yX0_areConvex, Cond.instanceMethod yX0_areConvex, Cond.selects RX0 yX0_areConvex yX0_areConvex, Cond.code yX0_areConvex cX0_areConvex 2 (some .boolean), Cond.methodLink RX0 26 yX0_squaredLength, Cond.instanceMethod yX0_squaredLength, Cond.selects RX0 yX0_squaredLength yX0_squaredLength, Cond.code yX0_squaredLength cX0_squaredLength 7 (some .long), Cond.fieldLink RX0 9 "FencePilot$Corners" "xs" "[I", Cond.fieldLink RX0 15 "FencePilot$Corners" "ys" "[I", Cond.methodLink RX0 41 yX0_after, Cond.instanceMethod yX0_after, Cond.selects RX0 yX0_after yX0_after, Cond.code yX0_after cX0_after 2 (some .int)]
def wsX5_fence_r2 : List Cond := [Cond.methodLink RX0 30 yX0_hasOthersInside, Cond.instanceMethod yX0_hasOthersInside, Cond.selects RX0 yX0_hasOthersInside yX0_hasOthersInside, Cond.code yX0_hasOthersInside cX0_hasOthersInside 3 (some .boolean), Cond.methodLink RX0 45 yX0_side, Cond.instanceMethod yX0_side, Cond.selects RX0 yX0_side yX0_side, Cond.code yX0_side cX0_side 9 (some .long), Cond.methodLink RX5 94 yX0_leaveClear, Cond.instanceMethod yX0_leaveClear, Cond.selects RX0 yX0_leaveClear yX0_leaveClear, Cond.code yX0_leaveClear cX0_leaveClear 5 (some .boolean), Cond.methodLink RX0 34 yX0_areEnough, Cond.methodLink RX0 37 yX0_isClear, Cond.instanceMethod yX0_isClear, Cond.selects RX0 yX0_isClear yX0_isClear, Cond.code yX0_isClear cX0_isClear 7 (some .boolean), Cond.methodLink RX5 98 yX5_isWithin, Cond.static yX5_isWithin, Cond.initialized RX5, Cond.code yX5_isWithin cX5_isWithin 3 (some .boolean), Cond.methodLink RX5 101 yX0_copyFrom, Cond.instanceMethod yX0_copyFrom, Cond.selects RX0 yX0_copyFrom yX0_copyFrom]
def wsX5_fence_r3 : List Cond := [Cond.code yX0_copyFrom cX0_copyFrom 3 none, Cond.methodLink RX5 82 yX0_clear, Cond.instanceMethod yX0_clear, Cond.selects RX0 yX0_clear yX0_clear, Cond.code yX0_clear cX0_clear 1 none]
def wsX5_fence : List Cond := .code yX5_fence cX5_fence 2 (some .int) :: ((wsX5_fence_r1 ++ (wsX5_fence_r2 ++ wsX5_fence_r3)) ++ wsX50 ++ wsX20 ++ wsX00)
def wsX5_upload : List Cond := .code yX5_upload cX5_upload 2 (some .int) :: ([.fieldLink RX5 22 "FencePilot" "incoming" "LFencePilot$Upload;", .methodLink RX5 98 yX5_isWithin, .static yX5_isWithin, .initialized RX5, .code yX5_isWithin cX5_isWithin 3 (some .boolean), .methodLink RX5 105 yX4_begin, .instanceMethod yX4_begin, .selects RX4 yX4_begin yX4_begin, .initialized RX4, .code yX4_begin cX4_begin 2 none, .fieldLink RX4 12 "FencePilot$Upload" "brought" "LFencePilot$Items;", .fieldLink RX4 18 "FencePilot$Upload" "underWay" "Z", .fieldLink RX4 22 "FencePilot$Upload" "size" "I", .fieldLink RX4 26 "FencePilot$Upload" "age" "I", .fieldLink RX4 29 "FencePilot$Upload" "repeats" "I", .methodLink RX4 32 yX1_clear, .instanceMethod yX1_clear, .selects RX1 yX1_clear yX1_clear, .initialized RX1, .code yX1_clear cX1_clear 1 none, .fieldLink RX1 15 "FencePilot$Items" "count" "I"] ++ wsX50 ++ wsX40 ++ wsX10)
def wsX5_item_r1 : List Cond := [Cond.fieldLink RX5 22 "FencePilot" "incoming" "LFencePilot$Upload;", Cond.fieldLink RX5 29 "FencePilot" "mission" "LFencePilot$Items;", Cond.fieldLink RX5 58 "FencePilot" "heading" "I", Cond.methodLink RX5 74 yX5_isOnMap, Cond.static yX5_isOnMap, Cond.initialized RX5, Cond.code yX5_isOnMap cX5_isOnMap 2 (some .boolean), Cond.methodLink RX5 98 yX5_isWithin, Cond.static yX5_isWithin, Cond.code yX5_isWithin cX5_isWithin 3 (some .boolean), Cond.methodLink RX5 113 yX4_next, Cond.instanceMethod yX4_next, Cond.selects RX4 yX4_next yX4_next, Cond.initialized RX4, Cond.code yX4_next cX4_next 1 (some .int), Cond.fieldLink RX4 12 "FencePilot$Upload" "brought" "LFencePilot$Items;", Cond.methodLink RX5 117 yX4_keep, Cond.instanceMethod yX4_keep, Cond.selects RX4 yX4_keep yX4_keep, Cond.code yX4_keep cX4_keep 4 none, Cond.fieldLink RX4 26 "FencePilot$Upload" "age" "I", Cond.fieldLink RX4 29 "FencePilot$Upload" "repeats" "I", Cond.methodLink RX4 38 yX1_add, Cond.instanceMethod yX1_add]
def wsX5_item_r2 : List Cond := [Cond.selects RX1 yX1_add yX1_add, Cond.initialized RX1, Cond.code yX1_add cX1_add 4 none, Cond.fieldLink RX1 15 "FencePilot$Items" "count" "I", Cond.fieldLink RX1 9 "FencePilot$Items" "row" "[I", Cond.methodLink RX5 121 yX4_isComplete, Cond.instanceMethod yX4_isComplete, Cond.selects RX4 yX4_isComplete yX4_isComplete, Cond.code yX4_isComplete cX4_isComplete 1 (some .boolean), Cond.fieldLink RX4 22 "FencePilot$Upload" "size" "I", Cond.methodLink RX5 124 yX4_end, Cond.instanceMethod yX4_end, Cond.selects RX4 yX4_end yX4_end, Cond.code yX4_end cX4_end 1 none, Cond.fieldLink RX4 18 "FencePilot$Upload" "underWay" "Z", Cond.methodLink RX5 130 yX1_copyFrom, Cond.instanceMethod yX1_copyFrom, Cond.selects RX1 yX1_copyFrom yX1_copyFrom, Cond.code yX1_copyFrom cX1_copyFrom 2 none, Cond.methodLink RX1 23 arraycopyName, Cond.native arraycopyName, Cond.static arraycopyName, Cond.initialized "java/lang/System"]
def wsX5_item : List Cond := .code yX5_item cX5_item 5 (some .int) :: ((wsX5_item_r1 ++ wsX5_item_r2) ++ wsX50 ++ wsX40 ++ wsX10)
def wsX5_wanted : List Cond := .code yX5_wanted cX5_wanted 1 (some .int) :: ([.fieldLink RX5 22 "FencePilot" "incoming" "LFencePilot$Upload;", .methodLink RX5 113 yX4_next, .instanceMethod yX4_next, .selects RX4 yX4_next yX4_next, .initialized RX4, .code yX4_next cX4_next 1 (some .int), .fieldLink RX4 12 "FencePilot$Upload" "brought" "LFencePilot$Items;"] ++ wsX50 ++ wsX40 ++ wsX10)
def wsX5_isInSensorReach : List Cond := .code yX5_isInSensorReach cX5_isInSensorReach 2 (some .boolean) :: ([.methodLink RX5 98 yX5_isWithin, .static yX5_isWithin, .initialized RX5, .code yX5_isWithin cX5_isWithin 3 (some .boolean)])
def wsX5_sample : List Cond := .code yX5_sample cX5_sample 5 (some .boolean) :: ([.fieldLink RX5 36 "FencePilot" "sensors" "LFencePilot$Sensors;", .methodLink RX5 98 yX5_isWithin, .static yX5_isWithin, .initialized RX5, .code yX5_isWithin cX5_isWithin 3 (some .boolean), .methodLink RX5 133 yX5_isInSensorReach, .static yX5_isInSensorReach, .code yX5_isInSensorReach cX5_isInSensorReach 2 (some .boolean), .methodLink RX5 136 yX3_take, .instanceMethod yX3_take, .selects RX3 yX3_take yX3_take, .initialized RX3, .code yX3_take cX3_take 5 none, .fieldLink RX3 9 "FencePilot$Sensors" "row" "[I", .fieldLink RX3 15 "FencePilot$Sensors" "fresh" "[Z"] ++ wsX50 ++ wsX30)
def wsX5_beat : List Cond := .code yX5_beat cX5_beat 1 none :: ([.fieldLink RX5 64 "FencePilot" "silentTicks" "I"] ++ wsX50)
def wsX5_arm_r1 : List Cond := [Cond.fieldLink RX5 43 "FencePilot" "modes" "LFencePilot$ModeLog;", Cond.fieldLink RX5 16 "FencePilot" "bounds" "LFencePilot$Corners;", Cond.fieldLink RX5 61 "FencePilot" "lostTicks" "I", Cond.fieldLink RX5 47 "FencePilot" "place" "[I", Cond.fieldLink RX5 67 "FencePilot" "ticks" "I", Cond.methodLink RX5 88 yX0_areEnough, Cond.instanceMethod yX0_areEnough, Cond.selects RX0 yX0_areEnough yX0_areEnough, Cond.initialized RX0, Cond.code yX0_areEnough cX0_areEnough 1 (some .boolean), Cond.fieldLink RX0 18 "FencePilot$Corners" "count" "I", Cond.methodLink RX5 94 yX0_leaveClear, Cond.instanceMethod yX0_leaveClear, Cond.selects RX0 yX0_leaveClear yX0_leaveClear, Cond.code yX0_leaveClear cX0_leaveClear 5 (some .boolean), Cond.methodLink RX0 34 yX0_areEnough, Cond.methodLink RX0 37 yX0_isClear, Cond.instanceMethod yX0_isClear, Cond.selects RX0 yX0_isClear yX0_isClear, Cond.code yX0_isClear cX0_isClear 7 (some .boolean), Cond.methodLink RX0 45 yX0_side, Cond.instanceMethod yX0_side, Cond.selects RX0 yX0_side yX0_side, Cond.code yX0_side cX0_side 9 (some .long)]
def wsX5_arm_r2 : List Cond := [Cond.fieldLink RX0 9 "FencePilot$Corners" "xs" "[I", Cond.fieldLink RX0 15 "FencePilot$Corners" "ys" "[I", Cond.methodLink RX0 41 yX0_after, Cond.instanceMethod yX0_after, Cond.selects RX0 yX0_after yX0_after, Cond.code yX0_after cX0_after 2 (some .int), Cond.methodLink RX0 26 yX0_squaredLength, Cond.instanceMethod yX0_squaredLength, Cond.selects RX0 yX0_squaredLength yX0_squaredLength, Cond.code yX0_squaredLength cX0_squaredLength 7 (some .long), Cond.methodLink RX5 140 yX2_enter, Cond.instanceMethod yX2_enter, Cond.selects RX2 yX2_enter yX2_enter, Cond.initialized RX2, Cond.code yX2_enter cX2_enter 4 none, Cond.fieldLink RX2 15 "FencePilot$ModeLog" "current" "I", Cond.fieldLink RX2 19 "FencePilot$ModeLog" "landForced" "Z", Cond.fieldLink RX2 9 "FencePilot$ModeLog" "changes" "[I"]
def wsX5_arm : List Cond := .code yX5_arm cX5_arm 1 (some .int) :: ((wsX5_arm_r1 ++ wsX5_arm_r2) ++ wsX50 ++ wsX20 ++ wsX00)
def wsX5_command : List Cond := .code yX5_command cX5_command 2 (some .int) :: ([.fieldLink RX5 43 "FencePilot" "modes" "LFencePilot$ModeLog;", .fieldLink RX5 29 "FencePilot" "mission" "LFencePilot$Items;", .fieldLink RX5 67 "FencePilot" "ticks" "I", .methodLink RX5 98 yX5_isWithin, .static yX5_isWithin, .initialized RX5, .code yX5_isWithin cX5_isWithin 3 (some .boolean), .methodLink RX5 146 yX1_isEmpty, .instanceMethod yX1_isEmpty, .selects RX1 yX1_isEmpty yX1_isEmpty, .initialized RX1, .code yX1_isEmpty cX1_isEmpty 1 (some .boolean), .fieldLink RX1 15 "FencePilot$Items" "count" "I", .methodLink RX5 140 yX2_enter, .instanceMethod yX2_enter, .selects RX2 yX2_enter yX2_enter, .initialized RX2, .code yX2_enter cX2_enter 4 none, .fieldLink RX2 15 "FencePilot$ModeLog" "current" "I", .fieldLink RX2 19 "FencePilot$ModeLog" "landForced" "Z", .fieldLink RX2 9 "FencePilot$ModeLog" "changes" "[I"] ++ wsX50 ++ wsX20 ++ wsX10)
def wsX5_locate_r1 : List Cond := [Cond.fieldLink RX5 36 "FencePilot" "sensors" "LFencePilot$Sensors;", Cond.fieldLink RX5 61 "FencePilot" "lostTicks" "I", Cond.fieldLink RX5 47 "FencePilot" "place" "[I", Cond.methodLink RX5 164 yX3_countFresh, Cond.instanceMethod yX3_countFresh, Cond.selects RX3 yX3_countFresh yX3_countFresh, Cond.initialized RX3, Cond.code yX3_countFresh cX3_countFresh 3 (some .int), Cond.fieldLink RX3 15 "FencePilot$Sensors" "fresh" "[Z", Cond.methodLink RX5 167 yX3_vote, Cond.instanceMethod yX3_vote, Cond.selects RX3 yX3_vote yX3_vote, Cond.code yX3_vote cX3_vote 4 (some .int), Cond.fieldLink RX3 9 "FencePilot$Sensors" "row" "[I", Cond.methodLink RX3 19 yX3_countFresh, Cond.methodLink RX3 23 yX3_middle, Cond.static yX3_middle, Cond.code yX3_middle cX3_middle 3 (some .int), Cond.methodLink RX3 33 Lib.Math.min.name, Cond.static Lib.Math.min.name, Cond.initialized "java/lang/Math", Cond.code Lib.Math.min.name Lib.Math.min.code 2 (some .int), Cond.methodLink RX3 36 Lib.Math.max.name, Cond.static Lib.Math.max.name]
def wsX5_locate_r2 : List Cond := [Cond.code Lib.Math.max.name Lib.Math.max.code 2 (some .int), Cond.methodLink RX3 27 yJ9_floorDiv_7cf53, Cond.static yJ9_floorDiv_7cf53, Cond.initialized RJ9, Cond.code yJ9_floorDiv_7cf53 cJ9_floorDiv_7cf53 3 (some .int), Cond.methodLink RX5 171 yX3_forget, Cond.instanceMethod yX3_forget, Cond.selects RX3 yX3_forget yX3_forget, Cond.code yX3_forget cX3_forget 2 none]
def wsX5_locate : List Cond := .code yX5_locate cX5_locate 2 none :: ((wsX5_locate_r1 ++ wsX5_locate_r2) ++ wsX50 ++ wsX30)
def wsX5_setWish : List Cond := .code yX5_setWish cX5_setWish 4 none :: ([.fieldLink RX5 51 "FencePilot" "wish" "[I"] ++ wsX50)
def wsX5_applyFailsafes : List Cond := .code yX5_applyFailsafes cX5_applyFailsafes 2 none :: ([.fieldLink RX5 61 "FencePilot" "lostTicks" "I", .fieldLink RX5 43 "FencePilot" "modes" "LFencePilot$ModeLog;", .fieldLink RX5 67 "FencePilot" "ticks" "I", .fieldLink RX5 64 "FencePilot" "silentTicks" "I", .methodLink RX5 192 yX2_forceLand, .instanceMethod yX2_forceLand, .selects RX2 yX2_forceLand yX2_forceLand, .initialized RX2, .code yX2_forceLand cX2_forceLand 2 none, .fieldLink RX2 19 "FencePilot$ModeLog" "landForced" "Z", .methodLink RX2 23 yX2_enter, .instanceMethod yX2_enter, .selects RX2 yX2_enter yX2_enter, .code yX2_enter cX2_enter 4 none, .fieldLink RX2 15 "FencePilot$ModeLog" "current" "I", .fieldLink RX2 9 "FencePilot$ModeLog" "changes" "[I", .methodLink RX5 140 yX2_enter] ++ wsX50 ++ wsX20)
def wsX5_isNear : List Cond := .code yX5_isNear cX5_isNear 2 (some .boolean) :: ([.methodLink RX5 98 yX5_isWithin, .static yX5_isWithin, .initialized RX5, .code yX5_isWithin cX5_isWithin 3 (some .boolean)])
def wsX5_hasReachedItem : List Cond := .code yX5_hasReachedItem cX5_hasReachedItem 2 (some .boolean) :: ([.fieldLink RX5 47 "FencePilot" "place" "[I", .fieldLink RX5 29 "FencePilot" "mission" "LFencePilot$Items;", .fieldLink RX5 58 "FencePilot" "heading" "I", .methodLink RX5 204 yX1_read, .instanceMethod yX1_read, .selects RX1 yX1_read yX1_read, .initialized RX1, .code yX1_read cX1_read 3 (some .int), .fieldLink RX1 15 "FencePilot$Items" "count" "I", .fieldLink RX1 9 "FencePilot$Items" "row" "[I", .static yX5_isWithin, .initialized RX5, .code yX5_isWithin cX5_isWithin 3 (some .boolean), .methodLink RX5 201 yX5_isNear, .static yX5_isNear, .code yX5_isNear cX5_isNear 2 (some .boolean), .methodLink RX5 98 yX5_isWithin] ++ wsX50 ++ wsX10)
def wsX5_passItem : List Cond := .code yX5_passItem cX5_passItem 1 none :: ([.fieldLink RX5 58 "FencePilot" "heading" "I", .fieldLink RX5 29 "FencePilot" "mission" "LFencePilot$Items;", .fieldLink RX5 43 "FencePilot" "modes" "LFencePilot$ModeLog;", .fieldLink RX5 67 "FencePilot" "ticks" "I", .methodLink RX5 140 yX2_enter, .instanceMethod yX2_enter, .selects RX2 yX2_enter yX2_enter, .initialized RX2, .code yX2_enter cX2_enter 4 none, .fieldLink RX2 15 "FencePilot$ModeLog" "current" "I", .fieldLink RX2 19 "FencePilot$ModeLog" "landForced" "Z", .fieldLink RX2 9 "FencePilot$ModeLog" "changes" "[I"] ++ wsX50 ++ wsX10 ++ wsX20)
def wsX5_moveOn_r1 : List Cond := [Cond.fieldLink RX5 43 "FencePilot" "modes" "LFencePilot$ModeLog;", Cond.fieldLink RX5 47 "FencePilot" "place" "[I", Cond.fieldLink RX5 29 "FencePilot" "mission" "LFencePilot$Items;", Cond.fieldLink RX5 67 "FencePilot" "ticks" "I", Cond.methodLink RX5 146 yX1_isEmpty, Cond.instanceMethod yX1_isEmpty, Cond.selects RX1 yX1_isEmpty yX1_isEmpty, Cond.initialized RX1, Cond.code yX1_isEmpty cX1_isEmpty 1 (some .boolean), Cond.fieldLink RX1 15 "FencePilot$Items" "count" "I", Cond.methodLink RX5 140 yX2_enter, Cond.instanceMethod yX2_enter, Cond.selects RX2 yX2_enter yX2_enter, Cond.initialized RX2, Cond.code yX2_enter cX2_enter 4 none, Cond.fieldLink RX2 15 "FencePilot$ModeLog" "current" "I", Cond.fieldLink RX2 19 "FencePilot$ModeLog" "landForced" "Z", Cond.fieldLink RX2 9 "FencePilot$ModeLog" "changes" "[I", Cond.methodLink RX5 195 yX5_hasReachedItem, Cond.instanceMethod yX5_hasReachedItem, Cond.selects RX5 yX5_hasReachedItem yX5_hasReachedItem, Cond.initialized RX5, Cond.code yX5_hasReachedItem cX5_hasReachedItem 2 (some .boolean), Cond.fieldLink RX5 58 "FencePilot" "heading" "I"]
def wsX5_moveOn_r2 : List Cond := [Cond.methodLink RX5 204 yX1_read, Cond.instanceMethod yX1_read, Cond.selects RX1 yX1_read yX1_read, Cond.code yX1_read cX1_read 3 (some .int), Cond.fieldLink RX1 9 "FencePilot$Items" "row" "[I", Cond.static yX5_isWithin, Cond.code yX5_isWithin cX5_isWithin 3 (some .boolean), Cond.methodLink RX5 201 yX5_isNear, Cond.static yX5_isNear, Cond.code yX5_isNear cX5_isNear 2 (some .boolean), Cond.methodLink RX5 98 yX5_isWithin, Cond.methodLink RX5 198 yX5_passItem, Cond.instanceMethod yX5_passItem, Cond.selects RX5 yX5_passItem yX5_passItem, Cond.code yX5_passItem cX5_passItem 1 none]
def wsX5_moveOn : List Cond := .code yX5_moveOn cX5_moveOn 2 none :: ((wsX5_moveOn_r1 ++ wsX5_moveOn_r2) ++ wsX50 ++ wsX20 ++ wsX10)
def wsX5_saturate : List Cond := .code yX5_saturate cX5_saturate 1 (some .int) :: ([.methodLink RX5 222 Lib.Math.min.name, .static Lib.Math.min.name, .initialized "java/lang/Math", .code Lib.Math.min.name Lib.Math.min.code 2 (some .int), .methodLink RX5 217 Lib.Math.max.name, .static Lib.Math.max.name, .code Lib.Math.max.name Lib.Math.max.code 2 (some .int)])
def wsX5_wishForItem : List Cond := .code yX5_wishForItem cX5_wishForItem 2 none :: ([.fieldLink RX5 51 "FencePilot" "wish" "[I", .fieldLink RX5 29 "FencePilot" "mission" "LFencePilot$Items;", .fieldLink RX5 58 "FencePilot" "heading" "I", .fieldLink RX5 47 "FencePilot" "place" "[I", .methodLink RX5 204 yX1_read, .instanceMethod yX1_read, .selects RX1 yX1_read yX1_read, .initialized RX1, .code yX1_read cX1_read 3 (some .int), .fieldLink RX1 15 "FencePilot$Items" "count" "I", .fieldLink RX1 9 "FencePilot$Items" "row" "[I", .static yX5_isWithin, .initialized RX5, .code yX5_isWithin cX5_isWithin 3 (some .boolean), .methodLink RX5 214 yX5_saturate, .static yX5_saturate, .code yX5_saturate cX5_saturate 1 (some .int), .methodLink RX5 222 Lib.Math.min.name, .static Lib.Math.min.name, .initialized "java/lang/Math", .code Lib.Math.min.name Lib.Math.min.code 2 (some .int), .methodLink RX5 217 Lib.Math.max.name, .static Lib.Math.max.name, .code Lib.Math.max.name Lib.Math.max.code 2 (some .int)] ++ wsX50 ++ wsX10)
def wsX5_guide_r1 : List Cond := [Cond.fieldLink RX5 43 "FencePilot" "modes" "LFencePilot$ModeLog;", Cond.fieldLink RX5 47 "FencePilot" "place" "[I", Cond.methodLink RX5 155 yX5_setWish, Cond.instanceMethod yX5_setWish, Cond.selects RX5 yX5_setWish yX5_setWish, Cond.initialized RX5, Cond.code yX5_setWish cX5_setWish 4 none, Cond.fieldLink RX5 51 "FencePilot" "wish" "[I", Cond.methodLink RX5 211 yX5_wishForItem, Cond.instanceMethod yX5_wishForItem, Cond.selects RX5 yX5_wishForItem yX5_wishForItem, Cond.code yX5_wishForItem cX5_wishForItem 2 none, Cond.fieldLink RX5 29 "FencePilot" "mission" "LFencePilot$Items;", Cond.fieldLink RX5 58 "FencePilot" "heading" "I", Cond.methodLink RX5 204 yX1_read, Cond.instanceMethod yX1_read, Cond.selects RX1 yX1_read yX1_read, Cond.initialized RX1, Cond.code yX1_read cX1_read 3 (some .int), Cond.fieldLink RX1 15 "FencePilot$Items" "count" "I", Cond.fieldLink RX1 9 "FencePilot$Items" "row" "[I", Cond.static yX5_isWithin, Cond.code yX5_isWithin cX5_isWithin 3 (some .boolean), Cond.methodLink RX5 214 yX5_saturate]
def wsX5_guide_r2 : List Cond := [Cond.static yX5_saturate, Cond.code yX5_saturate cX5_saturate 1 (some .int), Cond.methodLink RX5 222 Lib.Math.min.name, Cond.static Lib.Math.min.name, Cond.initialized "java/lang/Math", Cond.code Lib.Math.min.name Lib.Math.min.code 2 (some .int), Cond.methodLink RX5 217 Lib.Math.max.name, Cond.static Lib.Math.max.name, Cond.code Lib.Math.max.name Lib.Math.max.code 2 (some .int)]
def wsX5_guide : List Cond := .code yX5_guide cX5_guide 1 none :: ((wsX5_guide_r1 ++ wsX5_guide_r2) ++ wsX50 ++ wsX20 ++ wsX10)
def wsX5_flyBlind : List Cond := .code yX5_flyBlind cX5_flyBlind 1 none :: ([.fieldLink RX5 43 "FencePilot" "modes" "LFencePilot$ModeLog;", .fieldLink RX5 51 "FencePilot" "wish" "[I", .methodLink RX5 155 yX5_setWish, .instanceMethod yX5_setWish, .selects RX5 yX5_setWish yX5_setWish, .initialized RX5, .code yX5_setWish cX5_setWish 4 none] ++ wsX50 ++ wsX20)
def wsX5_guardSides_r1 : List Cond := [Cond.fieldLink RX5 47 "FencePilot" "place" "[I", Cond.fieldLink RX5 16 "FencePilot" "bounds" "LFencePilot$Corners;", Cond.fieldLink RX5 51 "FencePilot" "wish" "[I", Cond.methodLink RX5 94 yX0_leaveClear, Cond.instanceMethod yX0_leaveClear, Cond.selects RX0 yX0_leaveClear yX0_leaveClear, Cond.initialized RX0, Cond.code yX0_leaveClear cX0_leaveClear 5 (some .boolean), Cond.fieldLink RX0 18 "FencePilot$Corners" "count" "I", Cond.methodLink RX0 34 yX0_areEnough, Cond.instanceMethod yX0_areEnough, Cond.selects RX0 yX0_areEnough yX0_areEnough, Cond.code yX0_areEnough cX0_areEnough 1 (some .boolean), Cond.methodLink RX0 37 yX0_isClear, Cond.instanceMethod yX0_isClear, Cond.selects RX0 yX0_isClear yX0_isClear, Cond.code yX0_isClear cX0_isClear 7 (some .boolean), Cond.methodLink RX0 45 yX0_side, Cond.instanceMethod yX0_side, Cond.selects RX0 yX0_side yX0_side, Cond.code yX0_side cX0_side 9 (some .long), Cond.fieldLink RX0 9 "FencePilot$Corners" "xs" "[I", Cond.fieldLink RX0 15 "FencePilot$Corners" "ys" "[I", Cond.methodLink RX0 41 yX0_after]
def wsX5_guardSides_r2 : List Cond := [Cond.instanceMethod yX0_after, Cond.selects RX0 yX0_after yX0_after, Cond.code yX0_after cX0_after 2 (some .int), Cond.methodLink RX0 26 yX0_squaredLength, Cond.instanceMethod yX0_squaredLength, Cond.selects RX0 yX0_squaredLength yX0_squaredLength, Cond.code yX0_squaredLength cX0_squaredLength 7 (some .long), Cond.methodLink RX5 214 yX5_saturate, Cond.static yX5_saturate, Cond.initialized RX5, Cond.code yX5_saturate cX5_saturate 1 (some .int), Cond.methodLink RX5 222 Lib.Math.min.name, Cond.static Lib.Math.min.name, Cond.initialized "java/lang/Math", Cond.code Lib.Math.min.name Lib.Math.min.code 2 (some .int), Cond.methodLink RX5 217 Lib.Math.max.name, Cond.static Lib.Math.max.name, Cond.code Lib.Math.max.name Lib.Math.max.code 2 (some .int), Cond.methodLink RX5 155 yX5_setWish, Cond.instanceMethod yX5_setWish, Cond.selects RX5 yX5_setWish yX5_setWish, Cond.code yX5_setWish cX5_setWish 4 none]
def wsX5_guardSides : List Cond := .code yX5_guardSides cX5_guardSides 6 none :: ((wsX5_guardSides_r1 ++ wsX5_guardSides_r2) ++ wsX50 ++ wsX00)
def wsX5_guardTop : List Cond := .code yX5_guardTop cX5_guardTop 2 none :: ([.fieldLink RX5 54 "FencePilot" "ceiling" "I", .fieldLink RX5 47 "FencePilot" "place" "[I", .fieldLink RX5 51 "FencePilot" "wish" "[I", .methodLink RX5 217 Lib.Math.max.name, .static Lib.Math.max.name, .initialized "java/lang/Math", .code Lib.Math.max.name Lib.Math.max.code 2 (some .int)] ++ wsX50)
def wsX5_fly_r1 : List Cond := [Cond.fieldLink RX5 61 "FencePilot" "lostTicks" "I", Cond.fieldLink RX5 43 "FencePilot" "modes" "LFencePilot$ModeLog;", Cond.methodLink RX5 174 yX5_applyFailsafes, Cond.instanceMethod yX5_applyFailsafes, Cond.selects RX5 yX5_applyFailsafes yX5_applyFailsafes, Cond.initialized RX5, Cond.code yX5_applyFailsafes cX5_applyFailsafes 2 none, Cond.fieldLink RX5 67 "FencePilot" "ticks" "I", Cond.fieldLink RX5 64 "FencePilot" "silentTicks" "I", Cond.methodLink RX5 192 yX2_forceLand, Cond.instanceMethod yX2_forceLand, Cond.selects RX2 yX2_forceLand yX2_forceLand, Cond.initialized RX2, Cond.code yX2_forceLand cX2_forceLand 2 none, Cond.fieldLink RX2 19 "FencePilot$ModeLog" "landForced" "Z", Cond.methodLink RX2 23 yX2_enter, Cond.instanceMethod yX2_enter, Cond.selects RX2 yX2_enter yX2_enter, Cond.code yX2_enter cX2_enter 4 none, Cond.fieldLink RX2 15 "FencePilot$ModeLog" "current" "I", Cond.fieldLink RX2 9 "FencePilot$ModeLog" "changes" "[I", Cond.methodLink RX5 140 yX2_enter, Cond.methodLink RX5 177 yX5_moveOn, Cond.instanceMethod yX5_moveOn]
def wsX5_fly_r2 : List Cond := [Cond.selects RX5 yX5_moveOn yX5_moveOn, Cond.code yX5_moveOn cX5_moveOn 2 none, Cond.fieldLink RX5 47 "FencePilot" "place" "[I", Cond.fieldLink RX5 29 "FencePilot" "mission" "LFencePilot$Items;", Cond.methodLink RX5 146 yX1_isEmpty, Cond.instanceMethod yX1_isEmpty, Cond.selects RX1 yX1_isEmpty yX1_isEmpty, Cond.initialized RX1, Cond.code yX1_isEmpty cX1_isEmpty 1 (some .boolean), Cond.fieldLink RX1 15 "FencePilot$Items" "count" "I", Cond.methodLink RX5 195 yX5_hasReachedItem, Cond.instanceMethod yX5_hasReachedItem, Cond.selects RX5 yX5_hasReachedItem yX5_hasReachedItem, Cond.code yX5_hasReachedItem cX5_hasReachedItem 2 (some .boolean), Cond.fieldLink RX5 58 "FencePilot" "heading" "I", Cond.methodLink RX5 204 yX1_read, Cond.instanceMethod yX1_read, Cond.selects RX1 yX1_read yX1_read, Cond.code yX1_read cX1_read 3 (some .int), Cond.fieldLink RX1 9 "FencePilot$Items" "row" "[I", Cond.static yX5_isWithin, Cond.code yX5_isWithin cX5_isWithin 3 (some .boolean), Cond.methodLink RX5 201 yX5_isNear, Cond.static yX5_isNear]
def wsX5_fly_r3 : List Cond := [Cond.code yX5_isNear cX5_isNear 2 (some .boolean), Cond.methodLink RX5 98 yX5_isWithin, Cond.methodLink RX5 198 yX5_passItem, Cond.instanceMethod yX5_passItem, Cond.selects RX5 yX5_passItem yX5_passItem, Cond.code yX5_passItem cX5_passItem 1 none, Cond.methodLink RX5 180 yX5_guide, Cond.instanceMethod yX5_guide, Cond.selects RX5 yX5_guide yX5_guide, Cond.code yX5_guide cX5_guide 1 none, Cond.methodLink RX5 155 yX5_setWish, Cond.instanceMethod yX5_setWish, Cond.selects RX5 yX5_setWish yX5_setWish, Cond.code yX5_setWish cX5_setWish 4 none, Cond.fieldLink RX5 51 "FencePilot" "wish" "[I", Cond.methodLink RX5 211 yX5_wishForItem, Cond.instanceMethod yX5_wishForItem, Cond.selects RX5 yX5_wishForItem yX5_wishForItem, Cond.code yX5_wishForItem cX5_wishForItem 2 none, Cond.methodLink RX5 214 yX5_saturate, Cond.static yX5_saturate, Cond.code yX5_saturate cX5_saturate 1 (some .int), Cond.methodLink RX5 222 Lib.Math.min.name, Cond.static Lib.Math.min.name]
def wsX5_fly_r4 : List Cond := [Cond.initialized "java/lang/Math", Cond.code Lib.Math.min.name Lib.Math.min.code 2 (some .int), Cond.methodLink RX5 217 Lib.Math.max.name, Cond.static Lib.Math.max.name, Cond.code Lib.Math.max.name Lib.Math.max.code 2 (some .int), Cond.methodLink RX5 183 yX5_flyBlind, Cond.instanceMethod yX5_flyBlind, Cond.selects RX5 yX5_flyBlind yX5_flyBlind, Cond.code yX5_flyBlind cX5_flyBlind 1 none, Cond.methodLink RX5 186 yX5_guardSides, Cond.instanceMethod yX5_guardSides, Cond.selects RX5 yX5_guardSides yX5_guardSides, Cond.code yX5_guardSides cX5_guardSides 6 none, Cond.fieldLink RX5 16 "FencePilot" "bounds" "LFencePilot$Corners;", Cond.methodLink RX5 94 yX0_leaveClear, Cond.instanceMethod yX0_leaveClear, Cond.selects RX0 yX0_leaveClear yX0_leaveClear, Cond.initialized RX0, Cond.code yX0_leaveClear cX0_leaveClear 5 (some .boolean), Cond.fieldLink RX0 18 "FencePilot$Corners" "count" "I", Cond.methodLink RX0 34 yX0_areEnough, Cond.instanceMethod yX0_areEnough, Cond.selects RX0 yX0_areEnough yX0_areEnough, Cond.code yX0_areEnough cX0_areEnough 1 (some .boolean)]
def wsX5_fly_r5 : List Cond := [Cond.methodLink RX0 37 yX0_isClear, Cond.instanceMethod yX0_isClear, Cond.selects RX0 yX0_isClear yX0_isClear, Cond.code yX0_isClear cX0_isClear 7 (some .boolean), Cond.methodLink RX0 45 yX0_side, Cond.instanceMethod yX0_side, Cond.selects RX0 yX0_side yX0_side, Cond.code yX0_side cX0_side 9 (some .long), Cond.fieldLink RX0 9 "FencePilot$Corners" "xs" "[I", Cond.fieldLink RX0 15 "FencePilot$Corners" "ys" "[I", Cond.methodLink RX0 41 yX0_after, Cond.instanceMethod yX0_after, Cond.selects RX0 yX0_after yX0_after, Cond.code yX0_after cX0_after 2 (some .int), Cond.methodLink RX0 26 yX0_squaredLength, Cond.instanceMethod yX0_squaredLength, Cond.selects RX0 yX0_squaredLength yX0_squaredLength, Cond.code yX0_squaredLength cX0_squaredLength 7 (some .long), Cond.methodLink RX5 189 yX5_guardTop, Cond.instanceMethod yX5_guardTop, Cond.selects RX5 yX5_guardTop yX5_guardTop, Cond.code yX5_guardTop cX5_guardTop 2 none, Cond.fieldLink RX5 54 "FencePilot" "ceiling" "I"]
def wsX5_fly : List Cond := .code yX5_fly cX5_fly 2 none :: ((wsX5_fly_r1 ++ (wsX5_fly_r2 ++ (wsX5_fly_r3 ++ (wsX5_fly_r4 ++ wsX5_fly_r5)))) ++ wsX50 ++ wsX20 ++ wsX10 ++ wsX00)
def wsX5_tick_r1 : List Cond := [Cond.fieldLink RX5 67 "FencePilot" "ticks" "I", Cond.fieldLink RX5 22 "FencePilot" "incoming" "LFencePilot$Upload;", Cond.fieldLink RX5 64 "FencePilot" "silentTicks" "I", Cond.fieldLink RX5 43 "FencePilot" "modes" "LFencePilot$ModeLog;", Cond.methodLink RX5 98 yX5_isWithin, Cond.static yX5_isWithin, Cond.initialized RX5, Cond.code yX5_isWithin cX5_isWithin 3 (some .boolean), Cond.methodLink RX5 149 yX4_growOlder, Cond.instanceMethod yX4_growOlder, Cond.selects RX4 yX4_growOlder yX4_growOlder, Cond.initialized RX4, Cond.code yX4_growOlder cX4_growOlder 1 none, Cond.fieldLink RX4 18 "FencePilot$Upload" "underWay" "Z", Cond.fieldLink RX4 26 "FencePilot$Upload" "age" "I", Cond.fieldLink RX4 29 "FencePilot$Upload" "repeats" "I", Cond.methodLink RX5 152 yX5_locate, Cond.instanceMethod yX5_locate, Cond.selects RX5 yX5_locate yX5_locate, Cond.code yX5_locate cX5_locate 2 none, Cond.fieldLink RX5 36 "FencePilot" "sensors" "LFencePilot$Sensors;", Cond.fieldLink RX5 61 "FencePilot" "lostTicks" "I", Cond.fieldLink RX5 47 "FencePilot" "place" "[I", Cond.methodLink RX5 164 yX3_countFresh]
def wsX5_tick_r2 : List Cond := [Cond.instanceMethod yX3_countFresh, Cond.selects RX3 yX3_countFresh yX3_countFresh, Cond.initialized RX3, Cond.code yX3_countFresh cX3_countFresh 3 (some .int), Cond.fieldLink RX3 15 "FencePilot$Sensors" "fresh" "[Z", Cond.methodLink RX5 167 yX3_vote, Cond.instanceMethod yX3_vote, Cond.selects RX3 yX3_vote yX3_vote, Cond.code yX3_vote cX3_vote 4 (some .int), Cond.fieldLink RX3 9 "FencePilot$Sensors" "row" "[I", Cond.methodLink RX3 19 yX3_countFresh, Cond.methodLink RX3 23 yX3_middle, Cond.static yX3_middle, Cond.code yX3_middle cX3_middle 3 (some .int), Cond.methodLink RX3 33 Lib.Math.min.name, Cond.static Lib.Math.min.name, Cond.initialized "java/lang/Math", Cond.code Lib.Math.min.name Lib.Math.min.code 2 (some .int), Cond.methodLink RX3 36 Lib.Math.max.name, Cond.static Lib.Math.max.name, Cond.code Lib.Math.max.name Lib.Math.max.code 2 (some .int), Cond.methodLink RX3 27 yJ9_floorDiv_7cf53, Cond.static yJ9_floorDiv_7cf53, Cond.initialized RJ9]
def wsX5_tick_r3 : List Cond := [Cond.code yJ9_floorDiv_7cf53 cJ9_floorDiv_7cf53 3 (some .int), Cond.methodLink RX5 171 yX3_forget, Cond.instanceMethod yX3_forget, Cond.selects RX3 yX3_forget yX3_forget, Cond.code yX3_forget cX3_forget 2 none, Cond.methodLink RX5 155 yX5_setWish, Cond.instanceMethod yX5_setWish, Cond.selects RX5 yX5_setWish yX5_setWish, Cond.code yX5_setWish cX5_setWish 4 none, Cond.fieldLink RX5 51 "FencePilot" "wish" "[I", Cond.methodLink RX5 158 yX5_fly, Cond.instanceMethod yX5_fly, Cond.selects RX5 yX5_fly yX5_fly, Cond.code yX5_fly cX5_fly 2 none, Cond.methodLink RX5 174 yX5_applyFailsafes, Cond.instanceMethod yX5_applyFailsafes, Cond.selects RX5 yX5_applyFailsafes yX5_applyFailsafes, Cond.code yX5_applyFailsafes cX5_applyFailsafes 2 none, Cond.methodLink RX5 192 yX2_forceLand, Cond.instanceMethod yX2_forceLand, Cond.selects RX2 yX2_forceLand yX2_forceLand, Cond.initialized RX2, Cond.code yX2_forceLand cX2_forceLand 2 none, Cond.fieldLink RX2 19 "FencePilot$ModeLog" "landForced" "Z"]
def wsX5_tick_r4 : List Cond := [Cond.methodLink RX2 23 yX2_enter, Cond.instanceMethod yX2_enter, Cond.selects RX2 yX2_enter yX2_enter, Cond.code yX2_enter cX2_enter 4 none, Cond.fieldLink RX2 15 "FencePilot$ModeLog" "current" "I", Cond.fieldLink RX2 9 "FencePilot$ModeLog" "changes" "[I", Cond.methodLink RX5 140 yX2_enter, Cond.methodLink RX5 177 yX5_moveOn, Cond.instanceMethod yX5_moveOn, Cond.selects RX5 yX5_moveOn yX5_moveOn, Cond.code yX5_moveOn cX5_moveOn 2 none, Cond.fieldLink RX5 29 "FencePilot" "mission" "LFencePilot$Items;", Cond.methodLink RX5 146 yX1_isEmpty, Cond.instanceMethod yX1_isEmpty, Cond.selects RX1 yX1_isEmpty yX1_isEmpty, Cond.initialized RX1, Cond.code yX1_isEmpty cX1_isEmpty 1 (some .boolean), Cond.fieldLink RX1 15 "FencePilot$Items" "count" "I", Cond.methodLink RX5 195 yX5_hasReachedItem, Cond.instanceMethod yX5_hasReachedItem, Cond.selects RX5 yX5_hasReachedItem yX5_hasReachedItem, Cond.code yX5_hasReachedItem cX5_hasReachedItem 2 (some .boolean), Cond.fieldLink RX5 58 "FencePilot" "heading" "I", Cond.methodLink RX5 204 yX1_read]
def wsX5_tick_r5 : List Cond := [Cond.instanceMethod yX1_read, Cond.selects RX1 yX1_read yX1_read, Cond.code yX1_read cX1_read 3 (some .int), Cond.fieldLink RX1 9 "FencePilot$Items" "row" "[I", Cond.methodLink RX5 201 yX5_isNear, Cond.static yX5_isNear, Cond.code yX5_isNear cX5_isNear 2 (some .boolean), Cond.methodLink RX5 198 yX5_passItem, Cond.instanceMethod yX5_passItem, Cond.selects RX5 yX5_passItem yX5_passItem, Cond.code yX5_passItem cX5_passItem 1 none, Cond.methodLink RX5 180 yX5_guide, Cond.instanceMethod yX5_guide, Cond.selects RX5 yX5_guide yX5_guide, Cond.code yX5_guide cX5_guide 1 none, Cond.methodLink RX5 211 yX5_wishForItem, Cond.instanceMethod yX5_wishForItem, Cond.selects RX5 yX5_wishForItem yX5_wishForItem, Cond.code yX5_wishForItem cX5_wishForItem 2 none, Cond.methodLink RX5 214 yX5_saturate, Cond.static yX5_saturate, Cond.code yX5_saturate cX5_saturate 1 (some .int), Cond.methodLink RX5 222 Lib.Math.min.name, Cond.methodLink RX5 217 Lib.Math.max.name]
def wsX5_tick_r6 : List Cond := [Cond.methodLink RX5 183 yX5_flyBlind, Cond.instanceMethod yX5_flyBlind, Cond.selects RX5 yX5_flyBlind yX5_flyBlind, Cond.code yX5_flyBlind cX5_flyBlind 1 none, Cond.methodLink RX5 186 yX5_guardSides, Cond.instanceMethod yX5_guardSides, Cond.selects RX5 yX5_guardSides yX5_guardSides, Cond.code yX5_guardSides cX5_guardSides 6 none, Cond.fieldLink RX5 16 "FencePilot" "bounds" "LFencePilot$Corners;", Cond.methodLink RX5 94 yX0_leaveClear, Cond.instanceMethod yX0_leaveClear, Cond.selects RX0 yX0_leaveClear yX0_leaveClear, Cond.initialized RX0, Cond.code yX0_leaveClear cX0_leaveClear 5 (some .boolean), Cond.fieldLink RX0 18 "FencePilot$Corners" "count" "I", Cond.methodLink RX0 34 yX0_areEnough, Cond.instanceMethod yX0_areEnough, Cond.selects RX0 yX0_areEnough yX0_areEnough, Cond.code yX0_areEnough cX0_areEnough 1 (some .boolean), Cond.methodLink RX0 37 yX0_isClear, Cond.instanceMethod yX0_isClear, Cond.selects RX0 yX0_isClear yX0_isClear, Cond.code yX0_isClear cX0_isClear 7 (some .boolean), Cond.methodLink RX0 45 yX0_side]
def wsX5_tick_r7 : List Cond := [Cond.instanceMethod yX0_side, Cond.selects RX0 yX0_side yX0_side, Cond.code yX0_side cX0_side 9 (some .long), Cond.fieldLink RX0 9 "FencePilot$Corners" "xs" "[I", Cond.fieldLink RX0 15 "FencePilot$Corners" "ys" "[I", Cond.methodLink RX0 41 yX0_after, Cond.instanceMethod yX0_after, Cond.selects RX0 yX0_after yX0_after, Cond.code yX0_after cX0_after 2 (some .int), Cond.methodLink RX0 26 yX0_squaredLength, Cond.instanceMethod yX0_squaredLength, Cond.selects RX0 yX0_squaredLength yX0_squaredLength, Cond.code yX0_squaredLength cX0_squaredLength 7 (some .long), Cond.methodLink RX5 189 yX5_guardTop, Cond.instanceMethod yX5_guardTop, Cond.selects RX5 yX5_guardTop yX5_guardTop, Cond.code yX5_guardTop cX5_guardTop 2 none, Cond.fieldLink RX5 54 "FencePilot" "ceiling" "I"]
def wsX5_tick : List Cond := .code yX5_tick cX5_tick 2 (some .int) :: ((wsX5_tick_r1 ++ (wsX5_tick_r2 ++ (wsX5_tick_r3 ++ (wsX5_tick_r4 ++ (wsX5_tick_r5 ++ (wsX5_tick_r6 ++ wsX5_tick_r7)))))) ++ wsX50 ++ wsX20 ++ wsX40 ++ wsX30 ++ wsX10 ++ wsX00)
def wsX5_mode : List Cond := .code yX5_mode cX5_mode 1 (some .int) :: ([.fieldLink RX5 43 "FencePilot" "modes" "LFencePilot$ModeLog;"] ++ wsX50 ++ wsX20)
def wsX5_demand : List Cond := .code yX5_demand cX5_demand 2 (some .int) :: ([.fieldLink RX5 51 "FencePilot" "wish" "[I", .methodLink RX5 98 yX5_isWithin, .static yX5_isWithin, .initialized RX5, .code yX5_isWithin cX5_isWithin 3 (some .boolean)] ++ wsX50)
def wsX5_position : List Cond := .code yX5_position cX5_position 2 (some .int) :: ([.fieldLink RX5 47 "FencePilot" "place" "[I", .methodLink RX5 98 yX5_isWithin, .static yX5_isWithin, .initialized RX5, .code yX5_isWithin cX5_isWithin 3 (some .boolean)] ++ wsX50)
def wsX5_lost : List Cond := .code yX5_lost cX5_lost 1 (some .int) :: ([.fieldLink RX5 61 "FencePilot" "lostTicks" "I"] ++ wsX50)
def wsX5_waypoint : List Cond := .code yX5_waypoint cX5_waypoint 1 (some .int) :: ([.fieldLink RX5 29 "FencePilot" "mission" "LFencePilot$Items;", .fieldLink RX5 58 "FencePilot" "heading" "I", .methodLink RX5 146 yX1_isEmpty, .instanceMethod yX1_isEmpty, .selects RX1 yX1_isEmpty yX1_isEmpty, .initialized RX1, .code yX1_isEmpty cX1_isEmpty 1 (some .boolean), .fieldLink RX1 15 "FencePilot$Items" "count" "I"] ++ wsX50 ++ wsX10)
def wsX5_safe_r1 : List Cond := [Cond.fieldLink RX5 16 "FencePilot" "bounds" "LFencePilot$Corners;", Cond.methodLink RX5 133 yX5_isInSensorReach, Cond.static yX5_isInSensorReach, Cond.initialized RX5, Cond.code yX5_isInSensorReach cX5_isInSensorReach 2 (some .boolean), Cond.methodLink RX5 98 yX5_isWithin, Cond.static yX5_isWithin, Cond.code yX5_isWithin cX5_isWithin 3 (some .boolean), Cond.methodLink RX5 94 yX0_leaveClear, Cond.instanceMethod yX0_leaveClear, Cond.selects RX0 yX0_leaveClear yX0_leaveClear, Cond.initialized RX0, Cond.code yX0_leaveClear cX0_leaveClear 5 (some .boolean), Cond.fieldLink RX0 18 "FencePilot$Corners" "count" "I", Cond.methodLink RX0 34 yX0_areEnough, Cond.instanceMethod yX0_areEnough, Cond.selects RX0 yX0_areEnough yX0_areEnough, Cond.code yX0_areEnough cX0_areEnough 1 (some .boolean), Cond.methodLink RX0 37 yX0_isClear, Cond.instanceMethod yX0_isClear, Cond.selects RX0 yX0_isClear yX0_isClear, Cond.code yX0_isClear cX0_isClear 7 (some .boolean), Cond.methodLink RX0 45 yX0_side, Cond.instanceMethod yX0_side]
def wsX5_safe_r2 : List Cond := [Cond.selects RX0 yX0_side yX0_side, Cond.code yX0_side cX0_side 9 (some .long), Cond.fieldLink RX0 9 "FencePilot$Corners" "xs" "[I", Cond.fieldLink RX0 15 "FencePilot$Corners" "ys" "[I", Cond.methodLink RX0 41 yX0_after, Cond.instanceMethod yX0_after, Cond.selects RX0 yX0_after yX0_after, Cond.code yX0_after cX0_after 2 (some .int), Cond.methodLink RX0 26 yX0_squaredLength, Cond.instanceMethod yX0_squaredLength, Cond.selects RX0 yX0_squaredLength yX0_squaredLength, Cond.code yX0_squaredLength cX0_squaredLength 7 (some .long)]
def wsX5_safe : List Cond := .code yX5_safe cX5_safe 3 (some .boolean) :: ((wsX5_safe_r1 ++ wsX5_safe_r2) ++ wsX50 ++ wsX00)
def wsX5_change : List Cond := .code yX5_change cX5_change 2 (some .int) :: ([.fieldLink RX5 43 "FencePilot" "modes" "LFencePilot$ModeLog;", .methodLink RX5 98 yX5_isWithin, .static yX5_isWithin, .initialized RX5, .code yX5_isWithin cX5_isWithin 3 (some .boolean)] ++ wsX50 ++ wsX20)
def wsX6_init : List Cond := .code yX6_init cX6_init 1 none :: ([.methodLink RX6 1 objectInit, .instanceMethod objectInit, .code objectInit ⟨#[0xb1]⟩ 1 none, .arrayClass .int, .fieldLink RX6 7 "FencePilotModel" "cornerX" "[I", .fieldLink RX6 13 "FencePilotModel" "cornerY" "[I", .fieldLink RX6 16 "FencePilotModel" "item" "[I", .arrayClass .boolean, .fieldLink RX6 19 "FencePilotModel" "has" "[Z", .fieldLink RX6 23 "FencePilotModel" "sample" "[I", .fieldLink RX6 26 "FencePilotModel" "position" "[I", .fieldLink RX6 29 "FencePilotModel" "demand" "[I", .fieldLink RX6 32 "FencePilotModel" "lost" "I", .fieldLink RX6 36 "FencePilotModel" "change" "[I"] ++ wsX60)
def wsX6_within : List Cond := .code yX6_within cX6_within 3 (some .boolean) :: ([])
def wsX6_side : List Cond := .code yX6_side cX6_side 9 (some .long) :: ([.fieldLink RX6 7 "FencePilotModel" "cornerX" "[I", .fieldLink RX6 13 "FencePilotModel" "cornerY" "[I"] ++ wsX60)
def wsX6_clearOf : List Cond := .code yX6_clearOf cX6_clearOf 13 (some .boolean) :: ([.fieldLink RX6 7 "FencePilotModel" "cornerX" "[I", .fieldLink RX6 13 "FencePilotModel" "cornerY" "[I", .methodLink RX6 39 yX6_side, .instanceMethod yX6_side, .selects RX6 yX6_side yX6_side, .initialized RX6, .code yX6_side cX6_side 9 (some .long)] ++ wsX60)
def wsX6_clearOfAll : List Cond := .code yX6_clearOfAll cX6_clearOfAll 8 (some .boolean) :: ([.methodLink RX6 43 yX6_clearOf, .instanceMethod yX6_clearOf, .selects RX6 yX6_clearOf yX6_clearOf, .initialized RX6, .code yX6_clearOf cX6_clearOf 13 (some .boolean), .fieldLink RX6 7 "FencePilotModel" "cornerX" "[I", .fieldLink RX6 13 "FencePilotModel" "cornerY" "[I", .methodLink RX6 39 yX6_side, .instanceMethod yX6_side, .selects RX6 yX6_side yX6_side, .code yX6_side cX6_side 9 (some .long)] ++ wsX60)
def wsX6_convex : List Cond := .code yX6_convex cX6_convex 4 (some .boolean) :: ([.fieldLink RX6 47 "FencePilotModel" "given" "I", .fieldLink RX6 7 "FencePilotModel" "cornerX" "[I", .fieldLink RX6 13 "FencePilotModel" "cornerY" "[I", .methodLink RX6 39 yX6_side, .instanceMethod yX6_side, .selects RX6 yX6_side yX6_side, .initialized RX6, .code yX6_side cX6_side 9 (some .long)] ++ wsX60)
def wsX6_safeAt : List Cond := .code yX6_safeAt cX6_safeAt 3 (some .boolean) :: ([.fieldLink RX6 50 "FencePilotModel" "corners" "I", .constantLong RX6 53 (200), .methodLink RX6 55 yX6_clearOfAll, .instanceMethod yX6_clearOfAll, .selects RX6 yX6_clearOfAll yX6_clearOfAll, .initialized RX6, .code yX6_clearOfAll cX6_clearOfAll 8 (some .boolean), .methodLink RX6 43 yX6_clearOf, .instanceMethod yX6_clearOf, .selects RX6 yX6_clearOf yX6_clearOf, .code yX6_clearOf cX6_clearOf 13 (some .boolean), .fieldLink RX6 7 "FencePilotModel" "cornerX" "[I", .fieldLink RX6 13 "FencePilotModel" "cornerY" "[I", .methodLink RX6 39 yX6_side, .instanceMethod yX6_side, .selects RX6 yX6_side yX6_side, .code yX6_side cX6_side 9 (some .long)] ++ wsX60)
def wsX6_corner : List Cond := .code yX6_corner cX6_corner 3 (some .boolean) :: ([.fieldLink RX6 47 "FencePilotModel" "given" "I", .fieldLink RX6 7 "FencePilotModel" "cornerX" "[I", .fieldLink RX6 13 "FencePilotModel" "cornerY" "[I", .methodLink RX6 58 yX6_within, .static yX6_within, .initialized RX6, .code yX6_within cX6_within 3 (some .boolean)] ++ wsX60)
def wsX6_erase : List Cond := .code yX6_erase cX6_erase 1 none :: ([.fieldLink RX6 47 "FencePilotModel" "given" "I"] ++ wsX60)
def wsX6_fence_r1 : List Cond := [Cond.fieldLink RX6 62 "FencePilotModel" "mode" "I", Cond.fieldLink RX6 47 "FencePilotModel" "given" "I", Cond.constantLong RX6 69 (1000), Cond.fieldLink RX6 7 "FencePilotModel" "cornerX" "[I", Cond.fieldLink RX6 13 "FencePilotModel" "cornerY" "[I", Cond.fieldLink RX6 50 "FencePilotModel" "corners" "I", Cond.fieldLink RX6 71 "FencePilotModel" "ceiling" "I", Cond.methodLink RX6 65 yX6_convex, Cond.instanceMethod yX6_convex, Cond.selects RX6 yX6_convex yX6_convex, Cond.initialized RX6, Cond.code yX6_convex cX6_convex 4 (some .boolean), Cond.methodLink RX6 39 yX6_side, Cond.instanceMethod yX6_side, Cond.selects RX6 yX6_side yX6_side, Cond.code yX6_side cX6_side 9 (some .long), Cond.methodLink RX6 55 yX6_clearOfAll, Cond.instanceMethod yX6_clearOfAll, Cond.selects RX6 yX6_clearOfAll yX6_clearOfAll, Cond.code yX6_clearOfAll cX6_clearOfAll 8 (some .boolean), Cond.methodLink RX6 43 yX6_clearOf, Cond.instanceMethod yX6_clearOf, Cond.selects RX6 yX6_clearOf yX6_clearOf, Cond.code yX6_clearOf cX6_clearOf 13 (some .boolean)]
def wsX6_fence_r2 : List Cond := [Cond.methodLink RX6 58 yX6_within, Cond.static yX6_within, Cond.code yX6_within cX6_within 3 (some .boolean)]
def wsX6_fence : List Cond := .code yX6_fence cX6_fence 3 (some .int) :: ((wsX6_fence_r1 ++ wsX6_fence_r2) ++ wsX60)
def wsX6_safe : List Cond := .code yX6_safe cX6_safe 3 (some .boolean) :: ([.fieldLink RX6 50 "FencePilotModel" "corners" "I", .methodLink RX6 58 yX6_within, .static yX6_within, .initialized RX6, .code yX6_within cX6_within 3 (some .boolean), .methodLink RX6 74 yX6_safeAt, .instanceMethod yX6_safeAt, .selects RX6 yX6_safeAt yX6_safeAt, .code yX6_safeAt cX6_safeAt 3 (some .boolean), .constantLong RX6 53 (200), .methodLink RX6 55 yX6_clearOfAll, .instanceMethod yX6_clearOfAll, .selects RX6 yX6_clearOfAll yX6_clearOfAll, .code yX6_clearOfAll cX6_clearOfAll 8 (some .boolean), .methodLink RX6 43 yX6_clearOf, .instanceMethod yX6_clearOf, .selects RX6 yX6_clearOf yX6_clearOf, .code yX6_clearOf cX6_clearOf 13 (some .boolean), .fieldLink RX6 7 "FencePilotModel" "cornerX" "[I", .fieldLink RX6 13 "FencePilotModel" "cornerY" "[I", .methodLink RX6 39 yX6_side, .instanceMethod yX6_side, .selects RX6 yX6_side yX6_side, .code yX6_side cX6_side 9 (some .long)] ++ wsX60)
def wsX6_upload : List Cond := .code yX6_upload cX6_upload 2 (some .int) :: ([.fieldLink RX6 78 "FencePilotModel" "uploads" "I", .fieldLink RX6 81 "FencePilotModel" "wanted" "I", .fieldLink RX6 84 "FencePilotModel" "age" "I", .fieldLink RX6 87 "FencePilotModel" "repeats" "I", .methodLink RX6 58 yX6_within, .static yX6_within, .initialized RX6, .code yX6_within cX6_within 3 (some .boolean)] ++ wsX60)
def wsX6_item : List Cond := .code yX6_item cX6_item 6 (some .int) :: ([.fieldLink RX6 78 "FencePilotModel" "uploads" "I", .fieldLink RX6 81 "FencePilotModel" "wanted" "I", .fieldLink RX6 16 "FencePilotModel" "item" "[I", .fieldLink RX6 84 "FencePilotModel" "age" "I", .fieldLink RX6 87 "FencePilotModel" "repeats" "I", .fieldLink RX6 90 "FencePilotModel" "items" "I", .fieldLink RX6 93 "FencePilotModel" "waypoint" "I", .methodLink RX6 58 yX6_within, .static yX6_within, .initialized RX6, .code yX6_within cX6_within 3 (some .boolean)] ++ wsX60)
def wsX6_wanted : List Cond := .code yX6_wanted cX6_wanted 1 (some .int) :: ([.fieldLink RX6 78 "FencePilotModel" "uploads" "I", .fieldLink RX6 81 "FencePilotModel" "wanted" "I"] ++ wsX60)
def wsX6_sample : List Cond := .code yX6_sample cX6_sample 5 (some .boolean) :: ([.fieldLink RX6 19 "FencePilotModel" "has" "[Z", .fieldLink RX6 23 "FencePilotModel" "sample" "[I", .methodLink RX6 58 yX6_within, .static yX6_within, .initialized RX6, .code yX6_within cX6_within 3 (some .boolean)] ++ wsX60)
def wsX6_beat : List Cond := .code yX6_beat cX6_beat 1 none :: ([.fieldLink RX6 96 "FencePilotModel" "silent" "I"] ++ wsX60)
def wsX6_become : List Cond := .code yX6_become cX6_become 3 none :: ([.fieldLink RX6 62 "FencePilotModel" "mode" "I", .fieldLink RX6 36 "FencePilotModel" "change" "[I", .fieldLink RX6 99 "FencePilotModel" "ticks" "I", .fieldLink RX6 102 "FencePilotModel" "changes" "I", .fieldLink RX6 105 "FencePilotModel" "forced" "Z"] ++ wsX60)
def wsX6_arm_r1 : List Cond := [Cond.fieldLink RX6 62 "FencePilotModel" "mode" "I", Cond.fieldLink RX6 50 "FencePilotModel" "corners" "I", Cond.fieldLink RX6 32 "FencePilotModel" "lost" "I", Cond.fieldLink RX6 26 "FencePilotModel" "position" "[I", Cond.methodLink RX6 74 yX6_safeAt, Cond.instanceMethod yX6_safeAt, Cond.selects RX6 yX6_safeAt yX6_safeAt, Cond.initialized RX6, Cond.code yX6_safeAt cX6_safeAt 3 (some .boolean), Cond.constantLong RX6 53 (200), Cond.methodLink RX6 55 yX6_clearOfAll, Cond.instanceMethod yX6_clearOfAll, Cond.selects RX6 yX6_clearOfAll yX6_clearOfAll, Cond.code yX6_clearOfAll cX6_clearOfAll 8 (some .boolean), Cond.methodLink RX6 43 yX6_clearOf, Cond.instanceMethod yX6_clearOf, Cond.selects RX6 yX6_clearOf yX6_clearOf, Cond.code yX6_clearOf cX6_clearOf 13 (some .boolean), Cond.fieldLink RX6 7 "FencePilotModel" "cornerX" "[I", Cond.fieldLink RX6 13 "FencePilotModel" "cornerY" "[I", Cond.methodLink RX6 39 yX6_side, Cond.instanceMethod yX6_side, Cond.selects RX6 yX6_side yX6_side, Cond.code yX6_side cX6_side 9 (some .long)]
def wsX6_arm_r2 : List Cond := [Cond.methodLink RX6 109 yX6_become, Cond.instanceMethod yX6_become, Cond.selects RX6 yX6_become yX6_become, Cond.code yX6_become cX6_become 3 none, Cond.fieldLink RX6 36 "FencePilotModel" "change" "[I", Cond.fieldLink RX6 99 "FencePilotModel" "ticks" "I", Cond.fieldLink RX6 102 "FencePilotModel" "changes" "I", Cond.fieldLink RX6 105 "FencePilotModel" "forced" "Z"]
def wsX6_arm : List Cond := .code yX6_arm cX6_arm 1 (some .int) :: ((wsX6_arm_r1 ++ wsX6_arm_r2) ++ wsX60)
def wsX6_command : List Cond := .code yX6_command cX6_command 2 (some .int) :: ([.fieldLink RX6 62 "FencePilotModel" "mode" "I", .fieldLink RX6 105 "FencePilotModel" "forced" "Z", .fieldLink RX6 90 "FencePilotModel" "items" "I", .methodLink RX6 58 yX6_within, .static yX6_within, .initialized RX6, .code yX6_within cX6_within 3 (some .boolean), .methodLink RX6 109 yX6_become, .instanceMethod yX6_become, .selects RX6 yX6_become yX6_become, .code yX6_become cX6_become 3 none, .fieldLink RX6 36 "FencePilotModel" "change" "[I", .fieldLink RX6 99 "FencePilotModel" "ticks" "I", .fieldLink RX6 102 "FencePilotModel" "changes" "I"] ++ wsX60)
def wsX6_lesser : List Cond := .code yX6_lesser cX6_lesser 2 (some .int) :: ([])
def wsX6_greater : List Cond := .code yX6_greater cX6_greater 2 (some .int) :: ([])
def wsX6_saturated : List Cond := .code yX6_saturated cX6_saturated 2 (some .int) :: ([])
def wsX6_voted : List Cond := .code yX6_voted cX6_voted 8 (some .int) :: ([.fieldLink RX6 19 "FencePilotModel" "has" "[Z", .fieldLink RX6 23 "FencePilotModel" "sample" "[I", .constant RX6 120 (60000), .methodLink RX6 113 yX6_lesser, .static yX6_lesser, .initialized RX6, .code yX6_lesser cX6_lesser 2 (some .int), .methodLink RX6 117 yX6_greater, .static yX6_greater, .code yX6_greater cX6_greater 2 (some .int)] ++ wsX60)
def wsX6_link : List Cond := .code yX6_link cX6_link 1 none :: ([.fieldLink RX6 99 "FencePilotModel" "ticks" "I", .fieldLink RX6 78 "FencePilotModel" "uploads" "I", .fieldLink RX6 84 "FencePilotModel" "age" "I", .fieldLink RX6 87 "FencePilotModel" "repeats" "I"] ++ wsX60)
def wsX6_vote : List Cond := .code yX6_vote cX6_vote 3 none :: ([.fieldLink RX6 19 "FencePilotModel" "has" "[Z", .fieldLink RX6 32 "FencePilotModel" "lost" "I", .fieldLink RX6 26 "FencePilotModel" "position" "[I", .methodLink RX6 121 yX6_voted, .instanceMethod yX6_voted, .selects RX6 yX6_voted yX6_voted, .initialized RX6, .code yX6_voted cX6_voted 8 (some .int), .fieldLink RX6 23 "FencePilotModel" "sample" "[I", .constant RX6 120 (60000), .methodLink RX6 113 yX6_lesser, .static yX6_lesser, .code yX6_lesser cX6_lesser 2 (some .int), .methodLink RX6 117 yX6_greater, .static yX6_greater, .code yX6_greater cX6_greater 2 (some .int)] ++ wsX60)
def wsX6_failsafe : List Cond := .code yX6_failsafe cX6_failsafe 2 none :: ([.fieldLink RX6 32 "FencePilotModel" "lost" "I", .fieldLink RX6 105 "FencePilotModel" "forced" "Z", .fieldLink RX6 96 "FencePilotModel" "silent" "I", .fieldLink RX6 62 "FencePilotModel" "mode" "I", .methodLink RX6 109 yX6_become, .instanceMethod yX6_become, .selects RX6 yX6_become yX6_become, .initialized RX6, .code yX6_become cX6_become 3 none, .fieldLink RX6 36 "FencePilotModel" "change" "[I", .fieldLink RX6 99 "FencePilotModel" "ticks" "I", .fieldLink RX6 102 "FencePilotModel" "changes" "I"] ++ wsX60)
def wsX6_near : List Cond := .code yX6_near cX6_near 4 (some .boolean) :: ([.fieldLink RX6 26 "FencePilotModel" "position" "[I", .methodLink RX6 58 yX6_within, .static yX6_within, .initialized RX6, .code yX6_within cX6_within 3 (some .boolean)] ++ wsX60)
def wsX6_advance : List Cond := .code yX6_advance cX6_advance 2 none :: ([.fieldLink RX6 93 "FencePilotModel" "waypoint" "I", .fieldLink RX6 62 "FencePilotModel" "mode" "I", .fieldLink RX6 26 "FencePilotModel" "position" "[I", .fieldLink RX6 90 "FencePilotModel" "items" "I", .fieldLink RX6 16 "FencePilotModel" "item" "[I", .methodLink RX6 109 yX6_become, .instanceMethod yX6_become, .selects RX6 yX6_become yX6_become, .initialized RX6, .code yX6_become cX6_become 3 none, .fieldLink RX6 36 "FencePilotModel" "change" "[I", .fieldLink RX6 99 "FencePilotModel" "ticks" "I", .fieldLink RX6 102 "FencePilotModel" "changes" "I", .fieldLink RX6 105 "FencePilotModel" "forced" "Z", .methodLink RX6 125 yX6_near, .instanceMethod yX6_near, .selects RX6 yX6_near yX6_near, .code yX6_near cX6_near 4 (some .boolean), .methodLink RX6 58 yX6_within, .static yX6_within, .code yX6_within cX6_within 3 (some .boolean)] ++ wsX60)
def wsX6_steer : List Cond := .code yX6_steer cX6_steer 4 none :: ([.fieldLink RX6 32 "FencePilotModel" "lost" "I", .fieldLink RX6 62 "FencePilotModel" "mode" "I", .fieldLink RX6 16 "FencePilotModel" "item" "[I", .fieldLink RX6 93 "FencePilotModel" "waypoint" "I", .fieldLink RX6 26 "FencePilotModel" "position" "[I", .fieldLink RX6 29 "FencePilotModel" "demand" "[I", .methodLink RX6 128 yX6_saturated, .static yX6_saturated, .initialized RX6, .code yX6_saturated cX6_saturated 2 (some .int)] ++ wsX60)
def wsX6_guard_r1 : List Cond := [Cond.fieldLink RX6 26 "FencePilotModel" "position" "[I", Cond.fieldLink RX6 29 "FencePilotModel" "demand" "[I", Cond.fieldLink RX6 71 "FencePilotModel" "ceiling" "I", Cond.methodLink RX6 74 yX6_safeAt, Cond.instanceMethod yX6_safeAt, Cond.selects RX6 yX6_safeAt yX6_safeAt, Cond.initialized RX6, Cond.code yX6_safeAt cX6_safeAt 3 (some .boolean), Cond.fieldLink RX6 50 "FencePilotModel" "corners" "I", Cond.constantLong RX6 53 (200), Cond.methodLink RX6 55 yX6_clearOfAll, Cond.instanceMethod yX6_clearOfAll, Cond.selects RX6 yX6_clearOfAll yX6_clearOfAll, Cond.code yX6_clearOfAll cX6_clearOfAll 8 (some .boolean), Cond.methodLink RX6 43 yX6_clearOf, Cond.instanceMethod yX6_clearOf, Cond.selects RX6 yX6_clearOf yX6_clearOf, Cond.code yX6_clearOf cX6_clearOf 13 (some .boolean), Cond.fieldLink RX6 7 "FencePilotModel" "cornerX" "[I", Cond.fieldLink RX6 13 "FencePilotModel" "cornerY" "[I", Cond.methodLink RX6 39 yX6_side, Cond.instanceMethod yX6_side, Cond.selects RX6 yX6_side yX6_side, Cond.code yX6_side cX6_side 9 (some .long)]
def wsX6_guard_r2 : List Cond := [Cond.methodLink RX6 128 yX6_saturated, Cond.static yX6_saturated, Cond.code yX6_saturated cX6_saturated 2 (some .int), Cond.methodLink RX6 117 yX6_greater, Cond.static yX6_greater, Cond.code yX6_greater cX6_greater 2 (some .int)]
def wsX6_guard : List Cond := .code yX6_guard cX6_guard 4 none :: ((wsX6_guard_r1 ++ wsX6_guard_r2) ++ wsX60)
def wsX6_tick_r1 : List Cond := [Cond.fieldLink RX6 96 "FencePilotModel" "silent" "I", Cond.fieldLink RX6 62 "FencePilotModel" "mode" "I", Cond.fieldLink RX6 29 "FencePilotModel" "demand" "[I", Cond.fieldLink RX6 32 "FencePilotModel" "lost" "I", Cond.methodLink RX6 58 yX6_within, Cond.static yX6_within, Cond.initialized RX6, Cond.code yX6_within cX6_within 3 (some .boolean), Cond.methodLink RX6 131 yX6_link, Cond.instanceMethod yX6_link, Cond.selects RX6 yX6_link yX6_link, Cond.code yX6_link cX6_link 1 none, Cond.fieldLink RX6 99 "FencePilotModel" "ticks" "I", Cond.fieldLink RX6 78 "FencePilotModel" "uploads" "I", Cond.fieldLink RX6 84 "FencePilotModel" "age" "I", Cond.fieldLink RX6 87 "FencePilotModel" "repeats" "I", Cond.methodLink RX6 134 yX6_vote, Cond.instanceMethod yX6_vote, Cond.selects RX6 yX6_vote yX6_vote, Cond.code yX6_vote cX6_vote 3 none, Cond.fieldLink RX6 19 "FencePilotModel" "has" "[Z", Cond.fieldLink RX6 26 "FencePilotModel" "position" "[I", Cond.methodLink RX6 121 yX6_voted, Cond.instanceMethod yX6_voted]
def wsX6_tick_r2 : List Cond := [Cond.selects RX6 yX6_voted yX6_voted, Cond.code yX6_voted cX6_voted 8 (some .int), Cond.fieldLink RX6 23 "FencePilotModel" "sample" "[I", Cond.constant RX6 120 (60000), Cond.methodLink RX6 113 yX6_lesser, Cond.static yX6_lesser, Cond.code yX6_lesser cX6_lesser 2 (some .int), Cond.methodLink RX6 117 yX6_greater, Cond.static yX6_greater, Cond.code yX6_greater cX6_greater 2 (some .int), Cond.methodLink RX6 137 yX6_failsafe, Cond.instanceMethod yX6_failsafe, Cond.selects RX6 yX6_failsafe yX6_failsafe, Cond.code yX6_failsafe cX6_failsafe 2 none, Cond.fieldLink RX6 105 "FencePilotModel" "forced" "Z", Cond.methodLink RX6 109 yX6_become, Cond.instanceMethod yX6_become, Cond.selects RX6 yX6_become yX6_become, Cond.code yX6_become cX6_become 3 none, Cond.fieldLink RX6 36 "FencePilotModel" "change" "[I", Cond.fieldLink RX6 102 "FencePilotModel" "changes" "I", Cond.methodLink RX6 140 yX6_advance, Cond.instanceMethod yX6_advance, Cond.selects RX6 yX6_advance yX6_advance]
def wsX6_tick_r3 : List Cond := [Cond.code yX6_advance cX6_advance 2 none, Cond.fieldLink RX6 93 "FencePilotModel" "waypoint" "I", Cond.fieldLink RX6 90 "FencePilotModel" "items" "I", Cond.fieldLink RX6 16 "FencePilotModel" "item" "[I", Cond.methodLink RX6 125 yX6_near, Cond.instanceMethod yX6_near, Cond.selects RX6 yX6_near yX6_near, Cond.code yX6_near cX6_near 4 (some .boolean), Cond.methodLink RX6 143 yX6_steer, Cond.instanceMethod yX6_steer, Cond.selects RX6 yX6_steer yX6_steer, Cond.code yX6_steer cX6_steer 4 none, Cond.methodLink RX6 128 yX6_saturated, Cond.static yX6_saturated, Cond.code yX6_saturated cX6_saturated 2 (some .int), Cond.methodLink RX6 146 yX6_guard, Cond.instanceMethod yX6_guard, Cond.selects RX6 yX6_guard yX6_guard, Cond.code yX6_guard cX6_guard 4 none, Cond.fieldLink RX6 71 "FencePilotModel" "ceiling" "I", Cond.methodLink RX6 74 yX6_safeAt, Cond.instanceMethod yX6_safeAt, Cond.selects RX6 yX6_safeAt yX6_safeAt, Cond.code yX6_safeAt cX6_safeAt 3 (some .boolean)]
def wsX6_tick_r4 : List Cond := [Cond.fieldLink RX6 50 "FencePilotModel" "corners" "I", Cond.constantLong RX6 53 (200), Cond.methodLink RX6 55 yX6_clearOfAll, Cond.instanceMethod yX6_clearOfAll, Cond.selects RX6 yX6_clearOfAll yX6_clearOfAll, Cond.code yX6_clearOfAll cX6_clearOfAll 8 (some .boolean), Cond.methodLink RX6 43 yX6_clearOf, Cond.instanceMethod yX6_clearOf, Cond.selects RX6 yX6_clearOf yX6_clearOf, Cond.code yX6_clearOf cX6_clearOf 13 (some .boolean), Cond.fieldLink RX6 7 "FencePilotModel" "cornerX" "[I", Cond.fieldLink RX6 13 "FencePilotModel" "cornerY" "[I", Cond.methodLink RX6 39 yX6_side, Cond.instanceMethod yX6_side, Cond.selects RX6 yX6_side yX6_side, Cond.code yX6_side cX6_side 9 (some .long)]
def wsX6_tick : List Cond := .code yX6_tick cX6_tick 2 (some .int) :: ((wsX6_tick_r1 ++ (wsX6_tick_r2 ++ (wsX6_tick_r3 ++ wsX6_tick_r4))) ++ wsX60)
def wsX6_mode : List Cond := .code yX6_mode cX6_mode 1 (some .int) :: ([.fieldLink RX6 62 "FencePilotModel" "mode" "I"] ++ wsX60)
def wsX6_demand : List Cond := .code yX6_demand cX6_demand 2 (some .int) :: ([.fieldLink RX6 29 "FencePilotModel" "demand" "[I", .methodLink RX6 58 yX6_within, .static yX6_within, .initialized RX6, .code yX6_within cX6_within 3 (some .boolean)] ++ wsX60)
def wsX6_position : List Cond := .code yX6_position cX6_position 2 (some .int) :: ([.fieldLink RX6 26 "FencePilotModel" "position" "[I", .methodLink RX6 58 yX6_within, .static yX6_within, .initialized RX6, .code yX6_within cX6_within 3 (some .boolean)] ++ wsX60)
def wsX6_lost : List Cond := .code yX6_lost cX6_lost 1 (some .int) :: ([.fieldLink RX6 32 "FencePilotModel" "lost" "I"] ++ wsX60)
def wsX6_waypoint : List Cond := .code yX6_waypoint cX6_waypoint 1 (some .int) :: ([.fieldLink RX6 90 "FencePilotModel" "items" "I", .fieldLink RX6 93 "FencePilotModel" "waypoint" "I"] ++ wsX60)
def wsX6_change : List Cond := .code yX6_change cX6_change 2 (some .int) :: ([.fieldLink RX6 102 "FencePilotModel" "changes" "I", .fieldLink RX6 36 "FencePilotModel" "change" "[I", .methodLink RX6 58 yX6_within, .static yX6_within, .initialized RX6, .code yX6_within cX6_within 3 (some .boolean)] ++ wsX60)
def wsJ9_max_7cf53 : List Cond := .code yJ9_max_7cf53 cJ9_max_7cf53 2 (some .int) :: ([])
def wsJ9_min_7cf53 : List Cond := .code yJ9_min_7cf53 cJ9_min_7cf53 2 (some .int) :: ([])
theorem inJ9 : ∀ w ∈ wsJ90, w ∈ lw_tbl := by decide +kernel
theorem inJ10 : ∀ w ∈ wsJ100, w ∈ lw_tbl := by decide +kernel
theorem dX0_init_0 : decode cX0_init 0 = .ok (.aload_n 0, 1) := by decide +kernel
theorem dX0_init_1 : decode cX0_init 1 = .ok (.invokespecial 3, 3) := by decide +kernel
theorem dX0_init_4 : decode cX0_init 4 = .ok (.aload_n 0, 1) := by decide +kernel
theorem dX0_init_5 : decode cX0_init 5 = .ok (.bipush 8, 2) := by decide +kernel
theorem dX0_init_7 : decode cX0_init 7 = .ok (.newarray .int, 2) := by decide +kernel
theorem dX0_init_9 : decode cX0_init 9 = .ok (.putfield 9, 3) := by decide +kernel
theorem dX0_init_12 : decode cX0_init 12 = .ok (.aload_n 0, 1) := by decide +kernel
theorem dX0_init_13 : decode cX0_init 13 = .ok (.bipush 8, 2) := by decide +kernel
theorem dX0_init_15 : decode cX0_init 15 = .ok (.newarray .int, 2) := by decide +kernel
theorem dX0_init_17 : decode cX0_init 17 = .ok (.putfield 15, 3) := by decide +kernel
theorem dX0_init_20 : decode cX0_init 20 = .ok (.aload_n 0, 1) := by decide +kernel
theorem dX0_init_21 : decode cX0_init 21 = .ok (.iconst 0, 1) := by decide +kernel
theorem dX0_init_22 : decode cX0_init 22 = .ok (.putfield 18, 3) := by decide +kernel
theorem dX0_init_25 : decode cX0_init 25 = .ok (.return_, 1) := by decide +kernel
theorem dX0_isFull_0 : decode cX0_isFull 0 = .ok (.aload_n 0, 1) := by decide +kernel
theorem dX0_isFull_1 : decode cX0_isFull 1 = .ok (.getfield 18, 3) := by decide +kernel
theorem dX0_isFull_4 : decode cX0_isFull 4 = .ok (.bipush 8, 2) := by decide +kernel
theorem dX0_isFull_6 : decode cX0_isFull 6 = .ok (.if_icmp .lt 7, 3) := by decide +kernel
theorem dX0_isFull_9 : decode cX0_isFull 9 = .ok (.iconst 1, 1) := by decide +kernel
theorem dX0_isFull_10 : decode cX0_isFull 10 = .ok (.goto 4, 3) := by decide +kernel
theorem dX0_isFull_13 : decode cX0_isFull 13 = .ok (.iconst 0, 1) := by decide +kernel
theorem dX0_isFull_14 : decode cX0_isFull 14 = .ok (.ireturn, 1) := by decide +kernel
theorem dX0_areEnough_0 : decode cX0_areEnough 0 = .ok (.aload_n 0, 1) := by decide +kernel
theorem dX0_areEnough_1 : decode cX0_areEnough 1 = .ok (.getfield 18, 3) := by decide +kernel
theorem dX0_areEnough_4 : decode cX0_areEnough 4 = .ok (.iconst 3, 1) := by decide +kernel
theorem dX0_areEnough_5 : decode cX0_areEnough 5 = .ok (.if_icmp .lt 7, 3) := by decide +kernel
theorem dX0_areEnough_8 : decode cX0_areEnough 8 = .ok (.iconst 1, 1) := by decide +kernel
theorem dX0_areEnough_9 : decode cX0_areEnough 9 = .ok (.goto 4, 3) := by decide +kernel
theorem dX0_areEnough_12 : decode cX0_areEnough 12 = .ok (.iconst 0, 1) := by decide +kernel
theorem dX0_areEnough_13 : decode cX0_areEnough 13 = .ok (.ireturn, 1) := by decide +kernel
set_option maxRecDepth 20000 in
theorem ggX0_add_X0_isFull : GoodIn wsX0_add wsX0_isFull := goodIn_r _ [8, 2, 9, 10, 11] (by decide +kernel) (by decide +kernel)
set_option maxRecDepth 20000 in
theorem gX0_add_X0_isFull : GoodIn wsX0_add (wsV RX0 22 RX0 yX0_isFull wsX0_isFull) := goodIn_app (goodIn_of _ (by decide +kernel)) ggX0_add_X0_isFull
theorem dX0_add_0 : decode cX0_add 0 = .ok (.aload_n 0, 1) := by decide +kernel
theorem dX0_add_1 : decode cX0_add 1 = .ok (.invokevirtual 22, 3) := by decide +kernel
theorem dX0_add_4 : decode cX0_add 4 = .ok (.ifCond .ne 33, 3) := by decide +kernel
theorem dX0_add_7 : decode cX0_add 7 = .ok (.aload_n 0, 1) := by decide +kernel
theorem dX0_add_8 : decode cX0_add 8 = .ok (.getfield 9, 3) := by decide +kernel
theorem dX0_add_11 : decode cX0_add 11 = .ok (.aload_n 0, 1) := by decide +kernel
theorem dX0_add_12 : decode cX0_add 12 = .ok (.getfield 18, 3) := by decide +kernel
theorem dX0_add_15 : decode cX0_add 15 = .ok (.iload_n 1, 1) := by decide +kernel
theorem dX0_add_16 : decode cX0_add 16 = .ok (.iastore, 1) := by decide +kernel
theorem dX0_add_17 : decode cX0_add 17 = .ok (.aload_n 0, 1) := by decide +kernel
theorem dX0_add_18 : decode cX0_add 18 = .ok (.getfield 15, 3) := by decide +kernel
theorem dX0_add_21 : decode cX0_add 21 = .ok (.aload_n 0, 1) := by decide +kernel
theorem dX0_add_22 : decode cX0_add 22 = .ok (.getfield 18, 3) := by decide +kernel
theorem dX0_add_25 : decode cX0_add 25 = .ok (.iload_n 2, 1) := by decide +kernel
theorem dX0_add_26 : decode cX0_add 26 = .ok (.iastore, 1) := by decide +kernel
theorem dX0_add_27 : decode cX0_add 27 = .ok (.aload_n 0, 1) := by decide +kernel
theorem dX0_add_28 : decode cX0_add 28 = .ok (.dup, 1) := by decide +kernel
theorem dX0_add_29 : decode cX0_add 29 = .ok (.getfield 18, 3) := by decide +kernel
theorem dX0_add_32 : decode cX0_add 32 = .ok (.iconst 1, 1) := by decide +kernel
theorem dX0_add_33 : decode cX0_add 33 = .ok (.iadd, 1) := by decide +kernel
theorem dX0_add_34 : decode cX0_add 34 = .ok (.putfield 18, 3) := by decide +kernel
theorem dX0_add_37 : decode cX0_add 37 = .ok (.return_, 1) := by decide +kernel
theorem dX0_clear_0 : decode cX0_clear 0 = .ok (.aload_n 0, 1) := by decide +kernel
theorem dX0_clear_1 : decode cX0_clear 1 = .ok (.iconst 0, 1) := by decide +kernel
theorem dX0_clear_2 : decode cX0_clear 2 = .ok (.putfield 18, 3) := by decide +kernel
theorem dX0_clear_5 : decode cX0_clear 5 = .ok (.return_, 1) := by decide +kernel
theorem dX0_copyFrom_0 : decode cX0_copyFrom 0 = .ok (.iconst 0, 1) := by decide +kernel
theorem dX0_copyFrom_1 : decode cX0_copyFrom 1 = .ok (.istore_n 2, 1) := by decide +kernel
theorem dX0_copyFrom_2 : decode cX0_copyFrom 2 = .ok (.iload_n 2, 1) := by decide +kernel
theorem dX0_copyFrom_3 : decode cX0_copyFrom 3 = .ok (.aload_n 1, 1) := by decide +kernel
theorem dX0_copyFrom_4 : decode cX0_copyFrom 4 = .ok (.getfield 18, 3) := by decide +kernel
theorem dX0_copyFrom_7 : decode cX0_copyFrom 7 = .ok (.if_icmp .ge 33, 3) := by decide +kernel
theorem dX0_copyFrom_10 : decode cX0_copyFrom 10 = .ok (.aload_n 0, 1) := by decide +kernel
theorem dX0_copyFrom_11 : decode cX0_copyFrom 11 = .ok (.getfield 9, 3) := by decide +kernel
theorem dX0_copyFrom_14 : decode cX0_copyFrom 14 = .ok (.iload_n 2, 1) := by decide +kernel
theorem dX0_copyFrom_15 : decode cX0_copyFrom 15 = .ok (.aload_n 1, 1) := by decide +kernel
theorem dX0_copyFrom_16 : decode cX0_copyFrom 16 = .ok (.getfield 9, 3) := by decide +kernel
theorem dX0_copyFrom_19 : decode cX0_copyFrom 19 = .ok (.iload_n 2, 1) := by decide +kernel
theorem dX0_copyFrom_20 : decode cX0_copyFrom 20 = .ok (.iaload, 1) := by decide +kernel
theorem dX0_copyFrom_21 : decode cX0_copyFrom 21 = .ok (.iastore, 1) := by decide +kernel
theorem dX0_copyFrom_22 : decode cX0_copyFrom 22 = .ok (.aload_n 0, 1) := by decide +kernel
theorem dX0_copyFrom_23 : decode cX0_copyFrom 23 = .ok (.getfield 15, 3) := by decide +kernel
theorem dX0_copyFrom_26 : decode cX0_copyFrom 26 = .ok (.iload_n 2, 1) := by decide +kernel
theorem dX0_copyFrom_27 : decode cX0_copyFrom 27 = .ok (.aload_n 1, 1) := by decide +kernel
theorem dX0_copyFrom_28 : decode cX0_copyFrom 28 = .ok (.getfield 15, 3) := by decide +kernel
theorem dX0_copyFrom_31 : decode cX0_copyFrom 31 = .ok (.iload_n 2, 1) := by decide +kernel
theorem dX0_copyFrom_32 : decode cX0_copyFrom 32 = .ok (.iaload, 1) := by decide +kernel
theorem dX0_copyFrom_33 : decode cX0_copyFrom 33 = .ok (.iastore, 1) := by decide +kernel
theorem dX0_copyFrom_34 : decode cX0_copyFrom 34 = .ok (.iinc 2 1, 3) := by decide +kernel
theorem dX0_copyFrom_37 : decode cX0_copyFrom 37 = .ok (.goto (-35), 3) := by decide +kernel
theorem dX0_copyFrom_40 : decode cX0_copyFrom 40 = .ok (.aload_n 0, 1) := by decide +kernel
theorem dX0_copyFrom_41 : decode cX0_copyFrom 41 = .ok (.aload_n 1, 1) := by decide +kernel
theorem dX0_copyFrom_42 : decode cX0_copyFrom 42 = .ok (.getfield 18, 3) := by decide +kernel
theorem dX0_copyFrom_45 : decode cX0_copyFrom 45 = .ok (.putfield 18, 3) := by decide +kernel
theorem dX0_copyFrom_48 : decode cX0_copyFrom 48 = .ok (.return_, 1) := by decide +kernel
set_option maxRecDepth 20000 in
theorem ggX0_areConvex_X0_squaredLength : GoodIn wsX0_areConvex wsX0_squaredLength := goodIn_r _ [6, 7, 8, 9, 10, 11, 5, 12, 1, 21, 22, 23] (by decide +kernel) (by decide +kernel)
set_option maxRecDepth 20000 in
theorem gX0_areConvex_X0_squaredLength : GoodIn wsX0_areConvex (wsV RX0 26 RX0 yX0_squaredLength wsX0_squaredLength) := goodIn_app (goodIn_of _ (by decide +kernel)) ggX0_areConvex_X0_squaredLength
set_option maxRecDepth 20000 in
theorem ggX0_areConvex_X0_hasOthersInside : GoodIn wsX0_areConvex wsX0_hasOthersInside := goodIn_r _ [16, 1, 7, 8, 9, 10, 11, 5, 12, 17, 18, 19, 20, 21, 22, 23] (by decide +kernel) (by decide +kernel)
set_option maxRecDepth 20000 in
theorem gX0_areConvex_X0_hasOthersInside : GoodIn wsX0_areConvex (wsV RX0 30 RX0 yX0_hasOthersInside wsX0_hasOthersInside) := goodIn_app (goodIn_of _ (by decide +kernel)) ggX0_areConvex_X0_hasOthersInside
theorem dX0_areConvex_0 : decode cX0_areConvex 0 = .ok (.iconst 0, 1) := by decide +kernel
theorem dX0_areConvex_1 : decode cX0_areConvex 1 = .ok (.istore_n 1, 1) := by decide +kernel
theorem dX0_areConvex_2 : decode cX0_areConvex 2 = .ok (.iload_n 1, 1) := by decide +kernel
theorem dX0_areConvex_3 : decode cX0_areConvex 3 = .ok (.aload_n 0, 1) := by decide +kernel
theorem dX0_areConvex_4 : decode cX0_areConvex 4 = .ok (.getfield 18, 3) := by decide +kernel
theorem dX0_areConvex_7 : decode cX0_areConvex 7 = .ok (.if_icmp .ge 29, 3) := by decide +kernel
theorem dX0_areConvex_10 : decode cX0_areConvex 10 = .ok (.aload_n 0, 1) := by decide +kernel
theorem dX0_areConvex_11 : decode cX0_areConvex 11 = .ok (.iload_n 1, 1) := by decide +kernel
theorem dX0_areConvex_12 : decode cX0_areConvex 12 = .ok (.invokevirtual 26, 3) := by decide +kernel
theorem dX0_areConvex_15 : decode cX0_areConvex 15 = .ok (.lconst 0, 1) := by decide +kernel
theorem dX0_areConvex_16 : decode cX0_areConvex 16 = .ok (.lcmp, 1) := by decide +kernel
theorem dX0_areConvex_17 : decode cX0_areConvex 17 = .ok (.ifCond .eq 11, 3) := by decide +kernel
theorem dX0_areConvex_20 : decode cX0_areConvex 20 = .ok (.aload_n 0, 1) := by decide +kernel
theorem dX0_areConvex_21 : decode cX0_areConvex 21 = .ok (.iload_n 1, 1) := by decide +kernel
theorem dX0_areConvex_22 : decode cX0_areConvex 22 = .ok (.invokevirtual 30, 3) := by decide +kernel
theorem dX0_areConvex_25 : decode cX0_areConvex 25 = .ok (.ifCond .ne 5, 3) := by decide +kernel
theorem dX0_areConvex_28 : decode cX0_areConvex 28 = .ok (.iconst 0, 1) := by decide +kernel
theorem dX0_areConvex_29 : decode cX0_areConvex 29 = .ok (.ireturn, 1) := by decide +kernel
theorem dX0_areConvex_30 : decode cX0_areConvex 30 = .ok (.iinc 1 1, 3) := by decide +kernel
theorem dX0_areConvex_33 : decode cX0_areConvex 33 = .ok (.goto (-31), 3) := by decide +kernel
theorem dX0_areConvex_36 : decode cX0_areConvex 36 = .ok (.iconst 1, 1) := by decide +kernel
theorem dX0_areConvex_37 : decode cX0_areConvex 37 = .ok (.ireturn, 1) := by decide +kernel
set_option maxRecDepth 20000 in
theorem ggX0_leaveClear_X0_areEnough : GoodIn wsX0_leaveClear wsX0_areEnough := goodIn_r _ [6, 1, 25, 26, 27] (by decide +kernel) (by decide +kernel)
set_option maxRecDepth 20000 in
theorem gX0_leaveClear_X0_areEnough : GoodIn wsX0_leaveClear (wsV RX0 34 RX0 yX0_areEnough wsX0_areEnough) := goodIn_app (goodIn_of _ (by decide +kernel)) ggX0_leaveClear_X0_areEnough
set_option maxRecDepth 20000 in
theorem ggX0_leaveClear_X0_isClear : GoodIn wsX0_leaveClear wsX0_isClear := goodIn_r _ [10, 11, 12, 13, 5, 14, 15, 16, 17, 18, 19, 20, 1, 21, 22, 23, 24, 25, 26, 27] (by decide +kernel) (by decide +kernel)
set_option maxRecDepth 20000 in
theorem gX0_leaveClear_X0_isClear : GoodIn wsX0_leaveClear (wsV RX0 37 RX0 yX0_isClear wsX0_isClear) := goodIn_app (goodIn_of _ (by decide +kernel)) ggX0_leaveClear_X0_isClear
theorem dX0_leaveClear_0 : decode cX0_leaveClear 0 = .ok (.aload_n 0, 1) := by decide +kernel
theorem dX0_leaveClear_1 : decode cX0_leaveClear 1 = .ok (.invokevirtual 34, 3) := by decide +kernel
theorem dX0_leaveClear_4 : decode cX0_leaveClear 4 = .ok (.ifCond .ne 5, 3) := by decide +kernel
theorem dX0_leaveClear_7 : decode cX0_leaveClear 7 = .ok (.iconst 0, 1) := by decide +kernel
theorem dX0_leaveClear_8 : decode cX0_leaveClear 8 = .ok (.ireturn, 1) := by decide +kernel
theorem dX0_leaveClear_9 : decode cX0_leaveClear 9 = .ok (.iconst 0, 1) := by decide +kernel
theorem dX0_leaveClear_10 : decode cX0_leaveClear 10 = .ok (.istore 4, 2) := by decide +kernel
theorem dX0_leaveClear_12 : decode cX0_leaveClear 12 = .ok (.iload 4, 2) := by decide +kernel
theorem dX0_leaveClear_14 : decode cX0_leaveClear 14 = .ok (.aload_n 0, 1) := by decide +kernel
theorem dX0_leaveClear_15 : decode cX0_leaveClear 15 = .ok (.getfield 18, 3) := by decide +kernel
theorem dX0_leaveClear_18 : decode cX0_leaveClear 18 = .ok (.if_icmp .ge 23, 3) := by decide +kernel
theorem dX0_leaveClear_21 : decode cX0_leaveClear 21 = .ok (.aload_n 0, 1) := by decide +kernel
theorem dX0_leaveClear_22 : decode cX0_leaveClear 22 = .ok (.iload 4, 2) := by decide +kernel
theorem dX0_leaveClear_24 : decode cX0_leaveClear 24 = .ok (.iload_n 1, 1) := by decide +kernel
theorem dX0_leaveClear_25 : decode cX0_leaveClear 25 = .ok (.iload_n 2, 1) := by decide +kernel
theorem dX0_leaveClear_26 : decode cX0_leaveClear 26 = .ok (.iload_n 3, 1) := by decide +kernel
theorem dX0_leaveClear_27 : decode cX0_leaveClear 27 = .ok (.invokevirtual 37, 3) := by decide +kernel
theorem dX0_leaveClear_30 : decode cX0_leaveClear 30 = .ok (.ifCond .ne 5, 3) := by decide +kernel
theorem dX0_leaveClear_33 : decode cX0_leaveClear 33 = .ok (.iconst 0, 1) := by decide +kernel
theorem dX0_leaveClear_34 : decode cX0_leaveClear 34 = .ok (.ireturn, 1) := by decide +kernel
theorem dX0_leaveClear_35 : decode cX0_leaveClear 35 = .ok (.iinc 4 1, 3) := by decide +kernel
theorem dX0_leaveClear_38 : decode cX0_leaveClear 38 = .ok (.goto (-26), 3) := by decide +kernel
theorem dX0_leaveClear_41 : decode cX0_leaveClear 41 = .ok (.iconst 1, 1) := by decide +kernel
theorem dX0_leaveClear_42 : decode cX0_leaveClear 42 = .ok (.ireturn, 1) := by decide +kernel
set_option maxRecDepth 20000 in
theorem ggX0_hasOthersInside_X0_after : GoodIn wsX0_hasOthersInside wsX0_after := goodIn_r _ [8, 1, 13, 14, 15] (by decide +kernel) (by decide +kernel)
set_option maxRecDepth 20000 in
theorem gX0_hasOthersInside_X0_after : GoodIn wsX0_hasOthersInside (wsV RX0 41 RX0 yX0_after wsX0_after) := goodIn_app (goodIn_of _ (by decide +kernel)) ggX0_hasOthersInside_X0_after
set_option maxRecDepth 20000 in
theorem ggX0_hasOthersInside_X0_side : GoodIn wsX0_hasOthersInside wsX0_side := goodIn_r _ [12, 2, 3, 4, 5, 6, 7, 8, 1, 13, 14, 15] (by decide +kernel) (by decide +kernel)
set_option maxRecDepth 20000 in
theorem gX0_hasOthersInside_X0_side : GoodIn wsX0_hasOthersInside (wsV RX0 45 RX0 yX0_side wsX0_side) := goodIn_app (goodIn_of _ (by decide +kernel)) ggX0_hasOthersInside_X0_side
theorem dX0_hasOthersInside_0 : decode cX0_hasOthersInside 0 = .ok (.iconst 0, 1) := by decide +kernel
theorem dX0_hasOthersInside_1 : decode cX0_hasOthersInside 1 = .ok (.istore_n 2, 1) := by decide +kernel
theorem dX0_hasOthersInside_2 : decode cX0_hasOthersInside 2 = .ok (.iload_n 2, 1) := by decide +kernel
theorem dX0_hasOthersInside_3 : decode cX0_hasOthersInside 3 = .ok (.aload_n 0, 1) := by decide +kernel
theorem dX0_hasOthersInside_4 : decode cX0_hasOthersInside 4 = .ok (.getfield 18, 3) := by decide +kernel
theorem dX0_hasOthersInside_7 : decode cX0_hasOthersInside 7 = .ok (.if_icmp .ge 47, 3) := by decide +kernel
theorem dX0_hasOthersInside_10 : decode cX0_hasOthersInside 10 = .ok (.iload_n 2, 1) := by decide +kernel
theorem dX0_hasOthersInside_11 : decode cX0_hasOthersInside 11 = .ok (.iload_n 1, 1) := by decide +kernel
theorem dX0_hasOthersInside_12 : decode cX0_hasOthersInside 12 = .ok (.if_icmp .eq 36, 3) := by decide +kernel
theorem dX0_hasOthersInside_15 : decode cX0_hasOthersInside 15 = .ok (.iload_n 2, 1) := by decide +kernel
theorem dX0_hasOthersInside_16 : decode cX0_hasOthersInside 16 = .ok (.aload_n 0, 1) := by decide +kernel
theorem dX0_hasOthersInside_17 : decode cX0_hasOthersInside 17 = .ok (.iload_n 1, 1) := by decide +kernel
theorem dX0_hasOthersInside_18 : decode cX0_hasOthersInside 18 = .ok (.invokevirtual 41, 3) := by decide +kernel
theorem dX0_hasOthersInside_21 : decode cX0_hasOthersInside 21 = .ok (.if_icmp .eq 27, 3) := by decide +kernel
theorem dX0_hasOthersInside_24 : decode cX0_hasOthersInside 24 = .ok (.aload_n 0, 1) := by decide +kernel
theorem dX0_hasOthersInside_25 : decode cX0_hasOthersInside 25 = .ok (.iload_n 1, 1) := by decide +kernel
theorem dX0_hasOthersInside_26 : decode cX0_hasOthersInside 26 = .ok (.aload_n 0, 1) := by decide +kernel
theorem dX0_hasOthersInside_27 : decode cX0_hasOthersInside 27 = .ok (.getfield 9, 3) := by decide +kernel
theorem dX0_hasOthersInside_30 : decode cX0_hasOthersInside 30 = .ok (.iload_n 2, 1) := by decide +kernel
theorem dX0_hasOthersInside_31 : decode cX0_hasOthersInside 31 = .ok (.iaload, 1) := by decide +kernel
theorem dX0_hasOthersInside_32 : decode cX0_hasOthersInside 32 = .ok (.aload_n 0, 1) := by decide +kernel
theorem dX0_hasOthersInside_33 : decode cX0_hasOthersInside 33 = .ok (.getfield 15, 3) := by decide +kernel
theorem dX0_hasOthersInside_36 : decode cX0_hasOthersInside 36 = .ok (.iload_n 2, 1) := by decide +kernel
theorem dX0_hasOthersInside_37 : decode cX0_hasOthersInside 37 = .ok (.iaload, 1) := by decide +kernel
theorem dX0_hasOthersInside_38 : decode cX0_hasOthersInside 38 = .ok (.invokevirtual 45, 3) := by decide +kernel
theorem dX0_hasOthersInside_41 : decode cX0_hasOthersInside 41 = .ok (.lconst 0, 1) := by decide +kernel
theorem dX0_hasOthersInside_42 : decode cX0_hasOthersInside 42 = .ok (.lcmp, 1) := by decide +kernel
theorem dX0_hasOthersInside_43 : decode cX0_hasOthersInside 43 = .ok (.ifCond .gt 5, 3) := by decide +kernel
theorem dX0_hasOthersInside_46 : decode cX0_hasOthersInside 46 = .ok (.iconst 0, 1) := by decide +kernel
theorem dX0_hasOthersInside_47 : decode cX0_hasOthersInside 47 = .ok (.ireturn, 1) := by decide +kernel
theorem dX0_hasOthersInside_48 : decode cX0_hasOthersInside 48 = .ok (.iinc 2 1, 3) := by decide +kernel
theorem dX0_hasOthersInside_51 : decode cX0_hasOthersInside 51 = .ok (.goto (-49), 3) := by decide +kernel
theorem dX0_hasOthersInside_54 : decode cX0_hasOthersInside 54 = .ok (.iconst 1, 1) := by decide +kernel
theorem dX0_hasOthersInside_55 : decode cX0_hasOthersInside 55 = .ok (.ireturn, 1) := by decide +kernel
set_option maxRecDepth 20000 in
theorem ggX0_isClear_X0_side : GoodIn wsX0_isClear wsX0_side := goodIn_r _ [5, 6, 7, 8, 9, 10, 4, 11, 12, 17, 18, 19] (by decide +kernel) (by decide +kernel)
set_option maxRecDepth 20000 in
theorem gX0_isClear_X0_side : GoodIn wsX0_isClear (wsV RX0 45 RX0 yX0_side wsX0_side) := goodIn_app (goodIn_of _ (by decide +kernel)) ggX0_isClear_X0_side
set_option maxRecDepth 20000 in
theorem ggX0_isClear_X0_squaredLength : GoodIn wsX0_isClear wsX0_squaredLength := goodIn_r _ [16, 6, 7, 8, 9, 10, 4, 11, 12, 17, 18, 19] (by decide +kernel) (by decide +kernel)
set_option maxRecDepth 20000 in
theorem gX0_isClear_X0_squaredLength : GoodIn wsX0_isClear (wsV RX0 26 RX0 yX0_squaredLength wsX0_squaredLength) := goodIn_app (goodIn_of _ (by decide +kernel)) ggX0_isClear_X0_squaredLength
theorem dX0_isClear_0 : decode cX0_isClear 0 = .ok (.aload_n 0, 1) := by decide +kernel
theorem dX0_isClear_1 : decode cX0_isClear 1 = .ok (.iload_n 1, 1) := by decide +kernel
theorem dX0_isClear_2 : decode cX0_isClear 2 = .ok (.iload_n 2, 1) := by decide +kernel
theorem dX0_isClear_3 : decode cX0_isClear 3 = .ok (.iload_n 3, 1) := by decide +kernel
theorem dX0_isClear_4 : decode cX0_isClear 4 = .ok (.invokevirtual 45, 3) := by decide +kernel
theorem dX0_isClear_7 : decode cX0_isClear 7 = .ok (.lstore 5, 2) := by decide +kernel
theorem dX0_isClear_9 : decode cX0_isClear 9 = .ok (.lload 5, 2) := by decide +kernel
theorem dX0_isClear_11 : decode cX0_isClear 11 = .ok (.lconst 0, 1) := by decide +kernel
theorem dX0_isClear_12 : decode cX0_isClear 12 = .ok (.lcmp, 1) := by decide +kernel
theorem dX0_isClear_13 : decode cX0_isClear 13 = .ok (.ifCond .lt 29, 3) := by decide +kernel
theorem dX0_isClear_16 : decode cX0_isClear 16 = .ok (.lload 5, 2) := by decide +kernel
theorem dX0_isClear_18 : decode cX0_isClear 18 = .ok (.lload 5, 2) := by decide +kernel
theorem dX0_isClear_20 : decode cX0_isClear 20 = .ok (.lmul, 1) := by decide +kernel
theorem dX0_isClear_21 : decode cX0_isClear 21 = .ok (.iload 4, 2) := by decide +kernel
theorem dX0_isClear_23 : decode cX0_isClear 23 = .ok (.i2l, 1) := by decide +kernel
theorem dX0_isClear_24 : decode cX0_isClear 24 = .ok (.iload 4, 2) := by decide +kernel
theorem dX0_isClear_26 : decode cX0_isClear 26 = .ok (.i2l, 1) := by decide +kernel
theorem dX0_isClear_27 : decode cX0_isClear 27 = .ok (.lmul, 1) := by decide +kernel
theorem dX0_isClear_28 : decode cX0_isClear 28 = .ok (.aload_n 0, 1) := by decide +kernel
theorem dX0_isClear_29 : decode cX0_isClear 29 = .ok (.iload_n 1, 1) := by decide +kernel
theorem dX0_isClear_30 : decode cX0_isClear 30 = .ok (.invokevirtual 26, 3) := by decide +kernel
theorem dX0_isClear_33 : decode cX0_isClear 33 = .ok (.lmul, 1) := by decide +kernel
theorem dX0_isClear_34 : decode cX0_isClear 34 = .ok (.lcmp, 1) := by decide +kernel
theorem dX0_isClear_35 : decode cX0_isClear 35 = .ok (.ifCond .lt 7, 3) := by decide +kernel
theorem dX0_isClear_38 : decode cX0_isClear 38 = .ok (.iconst 1, 1) := by decide +kernel
theorem dX0_isClear_39 : decode cX0_isClear 39 = .ok (.goto 4, 3) := by decide +kernel
theorem dX0_isClear_42 : decode cX0_isClear 42 = .ok (.iconst 0, 1) := by decide +kernel
theorem dX0_isClear_43 : decode cX0_isClear 43 = .ok (.ireturn, 1) := by decide +kernel
set_option maxRecDepth 20000 in
theorem ggX0_side_X0_after : GoodIn wsX0_side wsX0_after := goodIn_r _ [7, 8, 9, 10, 11] (by decide +kernel) (by decide +kernel)
set_option maxRecDepth 20000 in
theorem gX0_side_X0_after : GoodIn wsX0_side (wsV RX0 41 RX0 yX0_after wsX0_after) := goodIn_app (goodIn_of _ (by decide +kernel)) ggX0_side_X0_after
theorem dX0_side_0 : decode cX0_side 0 = .ok (.aload_n 0, 1) := by decide +kernel
theorem dX0_side_1 : decode cX0_side 1 = .ok (.iload_n 1, 1) := by decide +kernel
theorem dX0_side_2 : decode cX0_side 2 = .ok (.invokevirtual 41, 3) := by decide +kernel
theorem dX0_side_5 : decode cX0_side 5 = .ok (.istore 4, 2) := by decide +kernel
theorem dX0_side_7 : decode cX0_side 7 = .ok (.aload_n 0, 1) := by decide +kernel
theorem dX0_side_8 : decode cX0_side 8 = .ok (.getfield 9, 3) := by decide +kernel
theorem dX0_side_11 : decode cX0_side 11 = .ok (.iload 4, 2) := by decide +kernel
theorem dX0_side_13 : decode cX0_side 13 = .ok (.iaload, 1) := by decide +kernel
theorem dX0_side_14 : decode cX0_side 14 = .ok (.aload_n 0, 1) := by decide +kernel
theorem dX0_side_15 : decode cX0_side 15 = .ok (.getfield 9, 3) := by decide +kernel
theorem dX0_side_18 : decode cX0_side 18 = .ok (.iload_n 1, 1) := by decide +kernel
theorem dX0_side_19 : decode cX0_side 19 = .ok (.iaload, 1) := by decide +kernel
theorem dX0_side_20 : decode cX0_side 20 = .ok (.isub, 1) := by decide +kernel
theorem dX0_side_21 : decode cX0_side 21 = .ok (.i2l, 1) := by decide +kernel
theorem dX0_side_22 : decode cX0_side 22 = .ok (.lstore 5, 2) := by decide +kernel
theorem dX0_side_24 : decode cX0_side 24 = .ok (.aload_n 0, 1) := by decide +kernel
theorem dX0_side_25 : decode cX0_side 25 = .ok (.getfield 15, 3) := by decide +kernel
theorem dX0_side_28 : decode cX0_side 28 = .ok (.iload 4, 2) := by decide +kernel
theorem dX0_side_30 : decode cX0_side 30 = .ok (.iaload, 1) := by decide +kernel
theorem dX0_side_31 : decode cX0_side 31 = .ok (.aload_n 0, 1) := by decide +kernel
theorem dX0_side_32 : decode cX0_side 32 = .ok (.getfield 15, 3) := by decide +kernel
theorem dX0_side_35 : decode cX0_side 35 = .ok (.iload_n 1, 1) := by decide +kernel
theorem dX0_side_36 : decode cX0_side 36 = .ok (.iaload, 1) := by decide +kernel
theorem dX0_side_37 : decode cX0_side 37 = .ok (.isub, 1) := by decide +kernel
theorem dX0_side_38 : decode cX0_side 38 = .ok (.i2l, 1) := by decide +kernel
theorem dX0_side_39 : decode cX0_side 39 = .ok (.lstore 7, 2) := by decide +kernel
theorem dX0_side_41 : decode cX0_side 41 = .ok (.lload 5, 2) := by decide +kernel
theorem dX0_side_43 : decode cX0_side 43 = .ok (.iload_n 3, 1) := by decide +kernel
theorem dX0_side_44 : decode cX0_side 44 = .ok (.aload_n 0, 1) := by decide +kernel
theorem dX0_side_45 : decode cX0_side 45 = .ok (.getfield 15, 3) := by decide +kernel
theorem dX0_side_48 : decode cX0_side 48 = .ok (.iload_n 1, 1) := by decide +kernel
theorem dX0_side_49 : decode cX0_side 49 = .ok (.iaload, 1) := by decide +kernel
theorem dX0_side_50 : decode cX0_side 50 = .ok (.isub, 1) := by decide +kernel
theorem dX0_side_51 : decode cX0_side 51 = .ok (.i2l, 1) := by decide +kernel
theorem dX0_side_52 : decode cX0_side 52 = .ok (.lmul, 1) := by decide +kernel
theorem dX0_side_53 : decode cX0_side 53 = .ok (.lload 7, 2) := by decide +kernel
theorem dX0_side_55 : decode cX0_side 55 = .ok (.iload_n 2, 1) := by decide +kernel
theorem dX0_side_56 : decode cX0_side 56 = .ok (.aload_n 0, 1) := by decide +kernel
theorem dX0_side_57 : decode cX0_side 57 = .ok (.getfield 9, 3) := by decide +kernel
theorem dX0_side_60 : decode cX0_side 60 = .ok (.iload_n 1, 1) := by decide +kernel
theorem dX0_side_61 : decode cX0_side 61 = .ok (.iaload, 1) := by decide +kernel
theorem dX0_side_62 : decode cX0_side 62 = .ok (.isub, 1) := by decide +kernel
theorem dX0_side_63 : decode cX0_side 63 = .ok (.i2l, 1) := by decide +kernel
theorem dX0_side_64 : decode cX0_side 64 = .ok (.lmul, 1) := by decide +kernel
theorem dX0_side_65 : decode cX0_side 65 = .ok (.lsub, 1) := by decide +kernel
theorem dX0_side_66 : decode cX0_side 66 = .ok (.lreturn, 1) := by decide +kernel
set_option maxRecDepth 20000 in
theorem ggX0_squaredLength_X0_after : GoodIn wsX0_squaredLength wsX0_after := goodIn_r _ [7, 8, 9, 10, 11] (by decide +kernel) (by decide +kernel)
set_option maxRecDepth 20000 in
theorem gX0_squaredLength_X0_after : GoodIn wsX0_squaredLength (wsV RX0 41 RX0 yX0_after wsX0_after) := goodIn_app (goodIn_of _ (by decide +kernel)) ggX0_squaredLength_X0_after
theorem dX0_squaredLength_0 : decode cX0_squaredLength 0 = .ok (.aload_n 0, 1) := by decide +kernel
theorem dX0_squaredLength_1 : decode cX0_squaredLength 1 = .ok (.iload_n 1, 1) := by decide +kernel
theorem dX0_squaredLength_2 : decode cX0_squaredLength 2 = .ok (.invokevirtual 41, 3) := by decide +kernel
end
section
theorem dX0_squaredLength_5 : decode cX0_squaredLength 5 = .ok (.istore_n 2, 1) := by decide +kernel
theorem dX0_squaredLength_6 : decode cX0_squaredLength 6 = .ok (.aload_n 0, 1) := by decide +kernel
theorem dX0_squaredLength_7 : decode cX0_squaredLength 7 = .ok (.getfield 9, 3) := by decide +kernel
theorem dX0_squaredLength_10 : decode cX0_squaredLength 10 = .ok (.iload_n 2, 1) := by decide +kernel
theorem dX0_squaredLength_11 : decode cX0_squaredLength 11 = .ok (.iaload, 1) := by decide +kernel
theorem dX0_squaredLength_12 : decode cX0_squaredLength 12 = .ok (.aload_n 0, 1) := by decide +kernel
theorem dX0_squaredLength_13 : decode cX0_squaredLength 13 = .ok (.getfield 9, 3) := by decide +kernel
theorem dX0_squaredLength_16 : decode cX0_squaredLength 16 = .ok (.iload_n 1, 1) := by decide +kernel
theorem dX0_squaredLength_17 : decode cX0_squaredLength 17 = .ok (.iaload, 1) := by decide +kernel
theorem dX0_squaredLength_18 : decode cX0_squaredLength 18 = .ok (.isub, 1) := by decide +kernel
theorem dX0_squaredLength_19 : decode cX0_squaredLength 19 = .ok (.i2l, 1) := by decide +kernel
theorem dX0_squaredLength_20 : decode cX0_squaredLength 20 = .ok (.lstore_n 3, 1) := by decide +kernel
theorem dX0_squaredLength_21 : decode cX0_squaredLength 21 = .ok (.aload_n 0, 1) := by decide +kernel
theorem dX0_squaredLength_22 : decode cX0_squaredLength 22 = .ok (.getfield 15, 3) := by decide +kernel
theorem dX0_squaredLength_25 : decode cX0_squaredLength 25 = .ok (.iload_n 2, 1) := by decide +kernel
theorem dX0_squaredLength_26 : decode cX0_squaredLength 26 = .ok (.iaload, 1) := by decide +kernel
theorem dX0_squaredLength_27 : decode cX0_squaredLength 27 = .ok (.aload_n 0, 1) := by decide +kernel
theorem dX0_squaredLength_28 : decode cX0_squaredLength 28 = .ok (.getfield 15, 3) := by decide +kernel
theorem dX0_squaredLength_31 : decode cX0_squaredLength 31 = .ok (.iload_n 1, 1) := by decide +kernel
theorem dX0_squaredLength_32 : decode cX0_squaredLength 32 = .ok (.iaload, 1) := by decide +kernel
theorem dX0_squaredLength_33 : decode cX0_squaredLength 33 = .ok (.isub, 1) := by decide +kernel
theorem dX0_squaredLength_34 : decode cX0_squaredLength 34 = .ok (.i2l, 1) := by decide +kernel
theorem dX0_squaredLength_35 : decode cX0_squaredLength 35 = .ok (.lstore 5, 2) := by decide +kernel
theorem dX0_squaredLength_37 : decode cX0_squaredLength 37 = .ok (.lload_n 3, 1) := by decide +kernel
theorem dX0_squaredLength_38 : decode cX0_squaredLength 38 = .ok (.lload_n 3, 1) := by decide +kernel
theorem dX0_squaredLength_39 : decode cX0_squaredLength 39 = .ok (.lmul, 1) := by decide +kernel
theorem dX0_squaredLength_40 : decode cX0_squaredLength 40 = .ok (.lload 5, 2) := by decide +kernel
theorem dX0_squaredLength_42 : decode cX0_squaredLength 42 = .ok (.lload 5, 2) := by decide +kernel
theorem dX0_squaredLength_44 : decode cX0_squaredLength 44 = .ok (.lmul, 1) := by decide +kernel
theorem dX0_squaredLength_45 : decode cX0_squaredLength 45 = .ok (.ladd, 1) := by decide +kernel
theorem dX0_squaredLength_46 : decode cX0_squaredLength 46 = .ok (.lreturn, 1) := by decide +kernel
theorem dX0_after_0 : decode cX0_after 0 = .ok (.iload_n 1, 1) := by decide +kernel
theorem dX0_after_1 : decode cX0_after 1 = .ok (.iconst 1, 1) := by decide +kernel
theorem dX0_after_2 : decode cX0_after 2 = .ok (.iadd, 1) := by decide +kernel
theorem dX0_after_3 : decode cX0_after 3 = .ok (.aload_n 0, 1) := by decide +kernel
theorem dX0_after_4 : decode cX0_after 4 = .ok (.getfield 18, 3) := by decide +kernel
theorem dX0_after_7 : decode cX0_after 7 = .ok (.if_icmp .ge 9, 3) := by decide +kernel
theorem dX0_after_10 : decode cX0_after 10 = .ok (.iload_n 1, 1) := by decide +kernel
theorem dX0_after_11 : decode cX0_after 11 = .ok (.iconst 1, 1) := by decide +kernel
theorem dX0_after_12 : decode cX0_after 12 = .ok (.iadd, 1) := by decide +kernel
theorem dX0_after_13 : decode cX0_after 13 = .ok (.goto 4, 3) := by decide +kernel
theorem dX0_after_16 : decode cX0_after 16 = .ok (.iconst 0, 1) := by decide +kernel
theorem dX0_after_17 : decode cX0_after 17 = .ok (.ireturn, 1) := by decide +kernel
theorem dX1_init_0 : decode cX1_init 0 = .ok (.aload_n 0, 1) := by decide +kernel
theorem dX1_init_1 : decode cX1_init 1 = .ok (.invokespecial 3, 3) := by decide +kernel
theorem dX1_init_4 : decode cX1_init 4 = .ok (.aload_n 0, 1) := by decide +kernel
theorem dX1_init_5 : decode cX1_init 5 = .ok (.bipush 24, 2) := by decide +kernel
theorem dX1_init_7 : decode cX1_init 7 = .ok (.newarray .int, 2) := by decide +kernel
theorem dX1_init_9 : decode cX1_init 9 = .ok (.putfield 9, 3) := by decide +kernel
theorem dX1_init_12 : decode cX1_init 12 = .ok (.aload_n 0, 1) := by decide +kernel
theorem dX1_init_13 : decode cX1_init 13 = .ok (.iconst 0, 1) := by decide +kernel
theorem dX1_init_14 : decode cX1_init 14 = .ok (.putfield 15, 3) := by decide +kernel
theorem dX1_init_17 : decode cX1_init 17 = .ok (.return_, 1) := by decide +kernel
theorem dX1_isEmpty_0 : decode cX1_isEmpty 0 = .ok (.aload_n 0, 1) := by decide +kernel
theorem dX1_isEmpty_1 : decode cX1_isEmpty 1 = .ok (.getfield 15, 3) := by decide +kernel
theorem dX1_isEmpty_4 : decode cX1_isEmpty 4 = .ok (.ifCond .ne 7, 3) := by decide +kernel
theorem dX1_isEmpty_7 : decode cX1_isEmpty 7 = .ok (.iconst 1, 1) := by decide +kernel
theorem dX1_isEmpty_8 : decode cX1_isEmpty 8 = .ok (.goto 4, 3) := by decide +kernel
theorem dX1_isEmpty_11 : decode cX1_isEmpty 11 = .ok (.iconst 0, 1) := by decide +kernel
theorem dX1_isEmpty_12 : decode cX1_isEmpty 12 = .ok (.ireturn, 1) := by decide +kernel
theorem dX1_clear_0 : decode cX1_clear 0 = .ok (.aload_n 0, 1) := by decide +kernel
theorem dX1_clear_1 : decode cX1_clear 1 = .ok (.iconst 0, 1) := by decide +kernel
theorem dX1_clear_2 : decode cX1_clear 2 = .ok (.putfield 15, 3) := by decide +kernel
theorem dX1_clear_5 : decode cX1_clear 5 = .ok (.return_, 1) := by decide +kernel
theorem dX1_add_0 : decode cX1_add 0 = .ok (.aload_n 0, 1) := by decide +kernel
theorem dX1_add_1 : decode cX1_add 1 = .ok (.getfield 15, 3) := by decide +kernel
theorem dX1_add_4 : decode cX1_add 4 = .ok (.bipush 8, 2) := by decide +kernel
theorem dX1_add_6 : decode cX1_add 6 = .ok (.if_icmp .ge 55, 3) := by decide +kernel
theorem dX1_add_9 : decode cX1_add 9 = .ok (.aload_n 0, 1) := by decide +kernel
theorem dX1_add_10 : decode cX1_add 10 = .ok (.getfield 9, 3) := by decide +kernel
theorem dX1_add_13 : decode cX1_add 13 = .ok (.aload_n 0, 1) := by decide +kernel
theorem dX1_add_14 : decode cX1_add 14 = .ok (.getfield 15, 3) := by decide +kernel
theorem dX1_add_17 : decode cX1_add 17 = .ok (.iconst 3, 1) := by decide +kernel
theorem dX1_add_18 : decode cX1_add 18 = .ok (.imul, 1) := by decide +kernel
theorem dX1_add_19 : decode cX1_add 19 = .ok (.iconst 0, 1) := by decide +kernel
theorem dX1_add_20 : decode cX1_add 20 = .ok (.iadd, 1) := by decide +kernel
theorem dX1_add_21 : decode cX1_add 21 = .ok (.iload_n 1, 1) := by decide +kernel
theorem dX1_add_22 : decode cX1_add 22 = .ok (.iastore, 1) := by decide +kernel
theorem dX1_add_23 : decode cX1_add 23 = .ok (.aload_n 0, 1) := by decide +kernel
theorem dX1_add_24 : decode cX1_add 24 = .ok (.getfield 9, 3) := by decide +kernel
theorem dX1_add_27 : decode cX1_add 27 = .ok (.aload_n 0, 1) := by decide +kernel
theorem dX1_add_28 : decode cX1_add 28 = .ok (.getfield 15, 3) := by decide +kernel
theorem dX1_add_31 : decode cX1_add 31 = .ok (.iconst 3, 1) := by decide +kernel
theorem dX1_add_32 : decode cX1_add 32 = .ok (.imul, 1) := by decide +kernel
theorem dX1_add_33 : decode cX1_add 33 = .ok (.iconst 1, 1) := by decide +kernel
theorem dX1_add_34 : decode cX1_add 34 = .ok (.iadd, 1) := by decide +kernel
theorem dX1_add_35 : decode cX1_add 35 = .ok (.iload_n 2, 1) := by decide +kernel
theorem dX1_add_36 : decode cX1_add 36 = .ok (.iastore, 1) := by decide +kernel
theorem dX1_add_37 : decode cX1_add 37 = .ok (.aload_n 0, 1) := by decide +kernel
theorem dX1_add_38 : decode cX1_add 38 = .ok (.getfield 9, 3) := by decide +kernel
theorem dX1_add_41 : decode cX1_add 41 = .ok (.aload_n 0, 1) := by decide +kernel
theorem dX1_add_42 : decode cX1_add 42 = .ok (.getfield 15, 3) := by decide +kernel
theorem dX1_add_45 : decode cX1_add 45 = .ok (.iconst 3, 1) := by decide +kernel
theorem dX1_add_46 : decode cX1_add 46 = .ok (.imul, 1) := by decide +kernel
theorem dX1_add_47 : decode cX1_add 47 = .ok (.iconst 2, 1) := by decide +kernel
theorem dX1_add_48 : decode cX1_add 48 = .ok (.iadd, 1) := by decide +kernel
theorem dX1_add_49 : decode cX1_add 49 = .ok (.iload_n 3, 1) := by decide +kernel
theorem dX1_add_50 : decode cX1_add 50 = .ok (.iastore, 1) := by decide +kernel
theorem dX1_add_51 : decode cX1_add 51 = .ok (.aload_n 0, 1) := by decide +kernel
theorem dX1_add_52 : decode cX1_add 52 = .ok (.dup, 1) := by decide +kernel
theorem dX1_add_53 : decode cX1_add 53 = .ok (.getfield 15, 3) := by decide +kernel
theorem dX1_add_56 : decode cX1_add 56 = .ok (.iconst 1, 1) := by decide +kernel
theorem dX1_add_57 : decode cX1_add 57 = .ok (.iadd, 1) := by decide +kernel
theorem dX1_add_58 : decode cX1_add 58 = .ok (.putfield 15, 3) := by decide +kernel
theorem dX1_add_61 : decode cX1_add 61 = .ok (.return_, 1) := by decide +kernel
set_option maxRecDepth 20000 in
theorem ggX1_read_X5_isWithin : GoodIn wsX1_read wsX5_isWithin := goodIn_r _ [5] (by decide +kernel) (by decide +kernel)
set_option maxRecDepth 20000 in
theorem gX1_read_X5_isWithin_n19 : GoodIn wsX1_read (wsX5_isWithin) := ggX1_read_X5_isWithin
theorem dX1_read_0 : decode cX1_read 0 = .ok (.iload_n 1, 1) := by decide +kernel
theorem dX1_read_1 : decode cX1_read 1 = .ok (.iconst 0, 1) := by decide +kernel
theorem dX1_read_2 : decode cX1_read 2 = .ok (.aload_n 0, 1) := by decide +kernel
theorem dX1_read_3 : decode cX1_read 3 = .ok (.getfield 15, 3) := by decide +kernel
theorem dX1_read_6 : decode cX1_read 6 = .ok (.iconst 1, 1) := by decide +kernel
theorem dX1_read_7 : decode cX1_read 7 = .ok (.isub, 1) := by decide +kernel
theorem dX1_read_8 : decode cX1_read 8 = .ok (.invokestatic 19, 3) := by decide +kernel
theorem dX1_read_11 : decode cX1_read 11 = .ok (.ifCond .eq 16, 3) := by decide +kernel
theorem dX1_read_14 : decode cX1_read 14 = .ok (.aload_n 0, 1) := by decide +kernel
theorem dX1_read_15 : decode cX1_read 15 = .ok (.getfield 9, 3) := by decide +kernel
theorem dX1_read_18 : decode cX1_read 18 = .ok (.iload_n 1, 1) := by decide +kernel
theorem dX1_read_19 : decode cX1_read 19 = .ok (.iconst 3, 1) := by decide +kernel
theorem dX1_read_20 : decode cX1_read 20 = .ok (.imul, 1) := by decide +kernel
theorem dX1_read_21 : decode cX1_read 21 = .ok (.iload_n 2, 1) := by decide +kernel
theorem dX1_read_22 : decode cX1_read 22 = .ok (.iadd, 1) := by decide +kernel
theorem dX1_read_23 : decode cX1_read 23 = .ok (.iaload, 1) := by decide +kernel
theorem dX1_read_24 : decode cX1_read 24 = .ok (.goto 4, 3) := by decide +kernel
theorem dX1_read_27 : decode cX1_read 27 = .ok (.iconst 0, 1) := by decide +kernel
theorem dX1_read_28 : decode cX1_read 28 = .ok (.ireturn, 1) := by decide +kernel
theorem dX1_copyFrom_0 : decode cX1_copyFrom 0 = .ok (.aload_n 1, 1) := by decide +kernel
theorem dX1_copyFrom_1 : decode cX1_copyFrom 1 = .ok (.getfield 9, 3) := by decide +kernel
theorem dX1_copyFrom_4 : decode cX1_copyFrom 4 = .ok (.iconst 0, 1) := by decide +kernel
theorem dX1_copyFrom_5 : decode cX1_copyFrom 5 = .ok (.aload_n 0, 1) := by decide +kernel
theorem dX1_copyFrom_6 : decode cX1_copyFrom 6 = .ok (.getfield 9, 3) := by decide +kernel
theorem dX1_copyFrom_9 : decode cX1_copyFrom 9 = .ok (.iconst 0, 1) := by decide +kernel
theorem dX1_copyFrom_10 : decode cX1_copyFrom 10 = .ok (.aload_n 0, 1) := by decide +kernel
theorem dX1_copyFrom_11 : decode cX1_copyFrom 11 = .ok (.getfield 9, 3) := by decide +kernel
theorem dX1_copyFrom_14 : decode cX1_copyFrom 14 = .ok (.arraylength, 1) := by decide +kernel
theorem dX1_copyFrom_15 : decode cX1_copyFrom 15 = .ok (.invokestatic 23, 3) := by decide +kernel
theorem dX1_copyFrom_18 : decode cX1_copyFrom 18 = .ok (.aload_n 0, 1) := by decide +kernel
theorem dX1_copyFrom_19 : decode cX1_copyFrom 19 = .ok (.aload_n 1, 1) := by decide +kernel
theorem dX1_copyFrom_20 : decode cX1_copyFrom 20 = .ok (.getfield 15, 3) := by decide +kernel
theorem dX1_copyFrom_23 : decode cX1_copyFrom 23 = .ok (.putfield 15, 3) := by decide +kernel
theorem dX1_copyFrom_26 : decode cX1_copyFrom 26 = .ok (.return_, 1) := by decide +kernel
theorem dX2_init_0 : decode cX2_init 0 = .ok (.aload_n 0, 1) := by decide +kernel
theorem dX2_init_1 : decode cX2_init 1 = .ok (.invokespecial 3, 3) := by decide +kernel
theorem dX2_init_4 : decode cX2_init 4 = .ok (.aload_n 0, 1) := by decide +kernel
theorem dX2_init_5 : decode cX2_init 5 = .ok (.bipush 16, 2) := by decide +kernel
theorem dX2_init_7 : decode cX2_init 7 = .ok (.newarray .int, 2) := by decide +kernel
theorem dX2_init_9 : decode cX2_init 9 = .ok (.putfield 9, 3) := by decide +kernel
theorem dX2_init_12 : decode cX2_init 12 = .ok (.iconst 0, 1) := by decide +kernel
theorem dX2_init_13 : decode cX2_init 13 = .ok (.istore_n 1, 1) := by decide +kernel
theorem dX2_init_14 : decode cX2_init 14 = .ok (.iload_n 1, 1) := by decide +kernel
theorem dX2_init_15 : decode cX2_init 15 = .ok (.bipush 16, 2) := by decide +kernel
theorem dX2_init_17 : decode cX2_init 17 = .ok (.if_icmp .ge 16, 3) := by decide +kernel
theorem dX2_init_20 : decode cX2_init 20 = .ok (.aload_n 0, 1) := by decide +kernel
theorem dX2_init_21 : decode cX2_init 21 = .ok (.getfield 9, 3) := by decide +kernel
theorem dX2_init_24 : decode cX2_init 24 = .ok (.iload_n 1, 1) := by decide +kernel
theorem dX2_init_25 : decode cX2_init 25 = .ok (.iconst (-1), 1) := by decide +kernel
theorem dX2_init_26 : decode cX2_init 26 = .ok (.iastore, 1) := by decide +kernel
theorem dX2_init_27 : decode cX2_init 27 = .ok (.iinc 1 1, 3) := by decide +kernel
theorem dX2_init_30 : decode cX2_init 30 = .ok (.goto (-16), 3) := by decide +kernel
theorem dX2_init_33 : decode cX2_init 33 = .ok (.aload_n 0, 1) := by decide +kernel
theorem dX2_init_34 : decode cX2_init 34 = .ok (.iconst 0, 1) := by decide +kernel
theorem dX2_init_35 : decode cX2_init 35 = .ok (.putfield 15, 3) := by decide +kernel
theorem dX2_init_38 : decode cX2_init 38 = .ok (.aload_n 0, 1) := by decide +kernel
theorem dX2_init_39 : decode cX2_init 39 = .ok (.iconst 0, 1) := by decide +kernel
theorem dX2_init_40 : decode cX2_init 40 = .ok (.putfield 19, 3) := by decide +kernel
theorem dX2_init_43 : decode cX2_init 43 = .ok (.return_, 1) := by decide +kernel
theorem dX2_enter_0 : decode cX2_enter 0 = .ok (.iload_n 1, 1) := by decide +kernel
theorem dX2_enter_1 : decode cX2_enter 1 = .ok (.aload_n 0, 1) := by decide +kernel
theorem dX2_enter_2 : decode cX2_enter 2 = .ok (.getfield 15, 3) := by decide +kernel
theorem dX2_enter_5 : decode cX2_enter 5 = .ok (.if_icmp .ne 4, 3) := by decide +kernel
theorem dX2_enter_8 : decode cX2_enter 8 = .ok (.return_, 1) := by decide +kernel
theorem dX2_enter_9 : decode cX2_enter 9 = .ok (.aload_n 0, 1) := by decide +kernel
theorem dX2_enter_10 : decode cX2_enter 10 = .ok (.iload_n 1, 1) := by decide +kernel
theorem dX2_enter_11 : decode cX2_enter 11 = .ok (.putfield 15, 3) := by decide +kernel
theorem dX2_enter_14 : decode cX2_enter 14 = .ok (.aload_n 0, 1) := by decide +kernel
theorem dX2_enter_15 : decode cX2_enter 15 = .ok (.iconst 0, 1) := by decide +kernel
theorem dX2_enter_16 : decode cX2_enter 16 = .ok (.putfield 19, 3) := by decide +kernel
theorem dX2_enter_19 : decode cX2_enter 19 = .ok (.bipush 15, 2) := by decide +kernel
theorem dX2_enter_21 : decode cX2_enter 21 = .ok (.istore_n 3, 1) := by decide +kernel
theorem dX2_enter_22 : decode cX2_enter 22 = .ok (.iload_n 3, 1) := by decide +kernel
theorem dX2_enter_23 : decode cX2_enter 23 = .ok (.ifCond .le 23, 3) := by decide +kernel
theorem dX2_enter_26 : decode cX2_enter 26 = .ok (.aload_n 0, 1) := by decide +kernel
theorem dX2_enter_27 : decode cX2_enter 27 = .ok (.getfield 9, 3) := by decide +kernel
theorem dX2_enter_30 : decode cX2_enter 30 = .ok (.iload_n 3, 1) := by decide +kernel
theorem dX2_enter_31 : decode cX2_enter 31 = .ok (.aload_n 0, 1) := by decide +kernel
theorem dX2_enter_32 : decode cX2_enter 32 = .ok (.getfield 9, 3) := by decide +kernel
theorem dX2_enter_35 : decode cX2_enter 35 = .ok (.iload_n 3, 1) := by decide +kernel
theorem dX2_enter_36 : decode cX2_enter 36 = .ok (.iconst 1, 1) := by decide +kernel
theorem dX2_enter_37 : decode cX2_enter 37 = .ok (.isub, 1) := by decide +kernel
theorem dX2_enter_38 : decode cX2_enter 38 = .ok (.iaload, 1) := by decide +kernel
theorem dX2_enter_39 : decode cX2_enter 39 = .ok (.iastore, 1) := by decide +kernel
theorem dX2_enter_40 : decode cX2_enter 40 = .ok (.iinc 3 (-1), 3) := by decide +kernel
theorem dX2_enter_43 : decode cX2_enter 43 = .ok (.goto (-21), 3) := by decide +kernel
theorem dX2_enter_46 : decode cX2_enter 46 = .ok (.aload_n 0, 1) := by decide +kernel
theorem dX2_enter_47 : decode cX2_enter 47 = .ok (.getfield 9, 3) := by decide +kernel
theorem dX2_enter_50 : decode cX2_enter 50 = .ok (.iconst 0, 1) := by decide +kernel
theorem dX2_enter_51 : decode cX2_enter 51 = .ok (.bipush 8, 2) := by decide +kernel
theorem dX2_enter_53 : decode cX2_enter 53 = .ok (.iload_n 2, 1) := by decide +kernel
theorem dX2_enter_54 : decode cX2_enter 54 = .ok (.imul, 1) := by decide +kernel
theorem dX2_enter_55 : decode cX2_enter 55 = .ok (.iload_n 1, 1) := by decide +kernel
theorem dX2_enter_56 : decode cX2_enter 56 = .ok (.iadd, 1) := by decide +kernel
theorem dX2_enter_57 : decode cX2_enter 57 = .ok (.iastore, 1) := by decide +kernel
theorem dX2_enter_58 : decode cX2_enter 58 = .ok (.return_, 1) := by decide +kernel
set_option maxRecDepth 20000 in
theorem ggX2_forceLand_X2_enter : GoodIn wsX2_forceLand wsX2_enter := goodIn_r _ [6, 7, 1, 8, 9, 10, 11] (by decide +kernel) (by decide +kernel)
set_option maxRecDepth 20000 in
theorem gX2_forceLand_X2_enter : GoodIn wsX2_forceLand (wsV RX2 23 RX2 yX2_enter wsX2_enter) := goodIn_app (goodIn_of _ (by decide +kernel)) ggX2_forceLand_X2_enter
theorem dX2_forceLand_0 : decode cX2_forceLand 0 = .ok (.aload_n 0, 1) := by decide +kernel
theorem dX2_forceLand_1 : decode cX2_forceLand 1 = .ok (.iconst 5, 1) := by decide +kernel
theorem dX2_forceLand_2 : decode cX2_forceLand 2 = .ok (.iload_n 1, 1) := by decide +kernel
theorem dX2_forceLand_3 : decode cX2_forceLand 3 = .ok (.invokevirtual 23, 3) := by decide +kernel
theorem dX2_forceLand_6 : decode cX2_forceLand 6 = .ok (.aload_n 0, 1) := by decide +kernel
theorem dX2_forceLand_7 : decode cX2_forceLand 7 = .ok (.iconst 1, 1) := by decide +kernel
theorem dX2_forceLand_8 : decode cX2_forceLand 8 = .ok (.putfield 19, 3) := by decide +kernel
theorem dX2_forceLand_11 : decode cX2_forceLand 11 = .ok (.return_, 1) := by decide +kernel
theorem dX3_init_0 : decode cX3_init 0 = .ok (.aload_n 0, 1) := by decide +kernel
theorem dX3_init_1 : decode cX3_init 1 = .ok (.invokespecial 3, 3) := by decide +kernel
theorem dX3_init_4 : decode cX3_init 4 = .ok (.aload_n 0, 1) := by decide +kernel
theorem dX3_init_5 : decode cX3_init 5 = .ok (.bipush 9, 2) := by decide +kernel
theorem dX3_init_7 : decode cX3_init 7 = .ok (.newarray .int, 2) := by decide +kernel
theorem dX3_init_9 : decode cX3_init 9 = .ok (.putfield 9, 3) := by decide +kernel
theorem dX3_init_12 : decode cX3_init 12 = .ok (.aload_n 0, 1) := by decide +kernel
theorem dX3_init_13 : decode cX3_init 13 = .ok (.iconst 3, 1) := by decide +kernel
theorem dX3_init_14 : decode cX3_init 14 = .ok (.newarray .boolean, 2) := by decide +kernel
theorem dX3_init_16 : decode cX3_init 16 = .ok (.putfield 15, 3) := by decide +kernel
theorem dX3_init_19 : decode cX3_init 19 = .ok (.return_, 1) := by decide +kernel
theorem dX3_take_0 : decode cX3_take 0 = .ok (.aload_n 0, 1) := by decide +kernel
theorem dX3_take_1 : decode cX3_take 1 = .ok (.getfield 9, 3) := by decide +kernel
theorem dX3_take_4 : decode cX3_take 4 = .ok (.iload_n 1, 1) := by decide +kernel
theorem dX3_take_5 : decode cX3_take 5 = .ok (.iconst 3, 1) := by decide +kernel
theorem dX3_take_6 : decode cX3_take 6 = .ok (.imul, 1) := by decide +kernel
theorem dX3_take_7 : decode cX3_take 7 = .ok (.iconst 0, 1) := by decide +kernel
theorem dX3_take_8 : decode cX3_take 8 = .ok (.iadd, 1) := by decide +kernel
theorem dX3_take_9 : decode cX3_take 9 = .ok (.iload_n 2, 1) := by decide +kernel
theorem dX3_take_10 : decode cX3_take 10 = .ok (.iastore, 1) := by decide +kernel
theorem dX3_take_11 : decode cX3_take 11 = .ok (.aload_n 0, 1) := by decide +kernel
theorem dX3_take_12 : decode cX3_take 12 = .ok (.getfield 9, 3) := by decide +kernel
theorem dX3_take_15 : decode cX3_take 15 = .ok (.iload_n 1, 1) := by decide +kernel
theorem dX3_take_16 : decode cX3_take 16 = .ok (.iconst 3, 1) := by decide +kernel
theorem dX3_take_17 : decode cX3_take 17 = .ok (.imul, 1) := by decide +kernel
theorem dX3_take_18 : decode cX3_take 18 = .ok (.iconst 1, 1) := by decide +kernel
theorem dX3_take_19 : decode cX3_take 19 = .ok (.iadd, 1) := by decide +kernel
theorem dX3_take_20 : decode cX3_take 20 = .ok (.iload_n 3, 1) := by decide +kernel
theorem dX3_take_21 : decode cX3_take 21 = .ok (.iastore, 1) := by decide +kernel
theorem dX3_take_22 : decode cX3_take 22 = .ok (.aload_n 0, 1) := by decide +kernel
theorem dX3_take_23 : decode cX3_take 23 = .ok (.getfield 9, 3) := by decide +kernel
theorem dX3_take_26 : decode cX3_take 26 = .ok (.iload_n 1, 1) := by decide +kernel
theorem dX3_take_27 : decode cX3_take 27 = .ok (.iconst 3, 1) := by decide +kernel
theorem dX3_take_28 : decode cX3_take 28 = .ok (.imul, 1) := by decide +kernel
theorem dX3_take_29 : decode cX3_take 29 = .ok (.iconst 2, 1) := by decide +kernel
theorem dX3_take_30 : decode cX3_take 30 = .ok (.iadd, 1) := by decide +kernel
theorem dX3_take_31 : decode cX3_take 31 = .ok (.iload 4, 2) := by decide +kernel
theorem dX3_take_33 : decode cX3_take 33 = .ok (.iastore, 1) := by decide +kernel
theorem dX3_take_34 : decode cX3_take 34 = .ok (.aload_n 0, 1) := by decide +kernel
theorem dX3_take_35 : decode cX3_take 35 = .ok (.getfield 15, 3) := by decide +kernel
theorem dX3_take_38 : decode cX3_take 38 = .ok (.iload_n 1, 1) := by decide +kernel
theorem dX3_take_39 : decode cX3_take 39 = .ok (.iconst 1, 1) := by decide +kernel
theorem dX3_take_40 : decode cX3_take 40 = .ok (.bastore, 1) := by decide +kernel
theorem dX3_take_41 : decode cX3_take 41 = .ok (.return_, 1) := by decide +kernel
theorem dX3_countFresh_0 : decode cX3_countFresh 0 = .ok (.iconst 0, 1) := by decide +kernel
theorem dX3_countFresh_1 : decode cX3_countFresh 1 = .ok (.istore_n 1, 1) := by decide +kernel
theorem dX3_countFresh_2 : decode cX3_countFresh 2 = .ok (.iconst 0, 1) := by decide +kernel
theorem dX3_countFresh_3 : decode cX3_countFresh 3 = .ok (.istore_n 2, 1) := by decide +kernel
theorem dX3_countFresh_4 : decode cX3_countFresh 4 = .ok (.iload_n 2, 1) := by decide +kernel
theorem dX3_countFresh_5 : decode cX3_countFresh 5 = .ok (.iconst 3, 1) := by decide +kernel
theorem dX3_countFresh_6 : decode cX3_countFresh 6 = .ok (.if_icmp .ge 21, 3) := by decide +kernel
theorem dX3_countFresh_9 : decode cX3_countFresh 9 = .ok (.aload_n 0, 1) := by decide +kernel
theorem dX3_countFresh_10 : decode cX3_countFresh 10 = .ok (.getfield 15, 3) := by decide +kernel
theorem dX3_countFresh_13 : decode cX3_countFresh 13 = .ok (.iload_n 2, 1) := by decide +kernel
theorem dX3_countFresh_14 : decode cX3_countFresh 14 = .ok (.baload, 1) := by decide +kernel
theorem dX3_countFresh_15 : decode cX3_countFresh 15 = .ok (.ifCond .eq 6, 3) := by decide +kernel
theorem dX3_countFresh_18 : decode cX3_countFresh 18 = .ok (.iinc 1 1, 3) := by decide +kernel
theorem dX3_countFresh_21 : decode cX3_countFresh 21 = .ok (.iinc 2 1, 3) := by decide +kernel
theorem dX3_countFresh_24 : decode cX3_countFresh 24 = .ok (.goto (-20), 3) := by decide +kernel
theorem dX3_countFresh_27 : decode cX3_countFresh 27 = .ok (.iload_n 1, 1) := by decide +kernel
theorem dX3_countFresh_28 : decode cX3_countFresh 28 = .ok (.ireturn, 1) := by decide +kernel
theorem dX3_forget_0 : decode cX3_forget 0 = .ok (.iconst 0, 1) := by decide +kernel
theorem dX3_forget_1 : decode cX3_forget 1 = .ok (.istore_n 1, 1) := by decide +kernel
theorem dX3_forget_2 : decode cX3_forget 2 = .ok (.iload_n 1, 1) := by decide +kernel
theorem dX3_forget_3 : decode cX3_forget 3 = .ok (.iconst 3, 1) := by decide +kernel
theorem dX3_forget_4 : decode cX3_forget 4 = .ok (.if_icmp .ge 16, 3) := by decide +kernel
theorem dX3_forget_7 : decode cX3_forget 7 = .ok (.aload_n 0, 1) := by decide +kernel
theorem dX3_forget_8 : decode cX3_forget 8 = .ok (.getfield 15, 3) := by decide +kernel
theorem dX3_forget_11 : decode cX3_forget 11 = .ok (.iload_n 1, 1) := by decide +kernel
theorem dX3_forget_12 : decode cX3_forget 12 = .ok (.iconst 0, 1) := by decide +kernel
theorem dX3_forget_13 : decode cX3_forget 13 = .ok (.bastore, 1) := by decide +kernel
theorem dX3_forget_14 : decode cX3_forget 14 = .ok (.iinc 1 1, 3) := by decide +kernel
theorem dX3_forget_17 : decode cX3_forget 17 = .ok (.goto (-15), 3) := by decide +kernel
theorem dX3_forget_20 : decode cX3_forget 20 = .ok (.return_, 1) := by decide +kernel
set_option maxRecDepth 20000 in
theorem ggX3_vote_X3_countFresh : GoodIn wsX3_vote wsX3_countFresh := goodIn_r _ [7, 2, 22, 23] (by decide +kernel) (by decide +kernel)
set_option maxRecDepth 20000 in
theorem gX3_vote_X3_countFresh : GoodIn wsX3_vote (wsV RX3 19 RX3 yX3_countFresh wsX3_countFresh) := goodIn_app (goodIn_of _ (by decide +kernel)) ggX3_vote_X3_countFresh
set_option maxRecDepth 20000 in
theorem ggX3_vote_X3_middle : GoodIn wsX3_vote wsX3_middle := goodIn_r _ [10, 11, 12, 13, 14, 15, 16, 17] (by decide +kernel) (by decide +kernel)
set_option maxRecDepth 20000 in
theorem gX3_vote_X3_middle : GoodIn wsX3_vote (va_wsS RX3 23 yX3_middle wsX3_middle) := goodIn_app (goodIn_of _ (by decide +kernel)) ggX3_vote_X3_middle
set_option maxRecDepth 20000 in
theorem ggX3_vote_J9_floorDiv_7cf53 : GoodIn wsX3_vote wsJ9_floorDiv_7cf53 := goodIn_r _ [21] (by decide +kernel) (by decide +kernel)
set_option maxRecDepth 20000 in
theorem gX3_vote_J9_floorDiv_7cf53 : GoodIn wsX3_vote (va_wsS RX3 27 yJ9_floorDiv_7cf53 wsJ9_floorDiv_7cf53) := goodIn_app (goodIn_of _ (by decide +kernel)) ggX3_vote_J9_floorDiv_7cf53
theorem dX3_vote_0 : decode cX3_vote 0 = .ok (.aload_n 0, 1) := by decide +kernel
theorem dX3_vote_1 : decode cX3_vote 1 = .ok (.invokevirtual 19, 3) := by decide +kernel
theorem dX3_vote_4 : decode cX3_vote 4 = .ok (.iconst 3, 1) := by decide +kernel
theorem dX3_vote_5 : decode cX3_vote 5 = .ok (.if_icmp .ne 30, 3) := by decide +kernel
theorem dX3_vote_8 : decode cX3_vote 8 = .ok (.aload_n 0, 1) := by decide +kernel
theorem dX3_vote_9 : decode cX3_vote 9 = .ok (.getfield 9, 3) := by decide +kernel
theorem dX3_vote_12 : decode cX3_vote 12 = .ok (.iload_n 1, 1) := by decide +kernel
theorem dX3_vote_13 : decode cX3_vote 13 = .ok (.iaload, 1) := by decide +kernel
theorem dX3_vote_14 : decode cX3_vote 14 = .ok (.aload_n 0, 1) := by decide +kernel
theorem dX3_vote_15 : decode cX3_vote 15 = .ok (.getfield 9, 3) := by decide +kernel
theorem dX3_vote_18 : decode cX3_vote 18 = .ok (.iconst 3, 1) := by decide +kernel
theorem dX3_vote_19 : decode cX3_vote 19 = .ok (.iload_n 1, 1) := by decide +kernel
theorem dX3_vote_20 : decode cX3_vote 20 = .ok (.iadd, 1) := by decide +kernel
theorem dX3_vote_21 : decode cX3_vote 21 = .ok (.iaload, 1) := by decide +kernel
theorem dX3_vote_22 : decode cX3_vote 22 = .ok (.aload_n 0, 1) := by decide +kernel
theorem dX3_vote_23 : decode cX3_vote 23 = .ok (.getfield 9, 3) := by decide +kernel
theorem dX3_vote_26 : decode cX3_vote 26 = .ok (.bipush 6, 2) := by decide +kernel
theorem dX3_vote_28 : decode cX3_vote 28 = .ok (.iload_n 1, 1) := by decide +kernel
theorem dX3_vote_29 : decode cX3_vote 29 = .ok (.iadd, 1) := by decide +kernel
theorem dX3_vote_30 : decode cX3_vote 30 = .ok (.iaload, 1) := by decide +kernel
theorem dX3_vote_31 : decode cX3_vote 31 = .ok (.invokestatic 23, 3) := by decide +kernel
theorem dX3_vote_34 : decode cX3_vote 34 = .ok (.ireturn, 1) := by decide +kernel
theorem dX3_vote_35 : decode cX3_vote 35 = .ok (.iconst 0, 1) := by decide +kernel
theorem dX3_vote_36 : decode cX3_vote 36 = .ok (.istore_n 2, 1) := by decide +kernel
theorem dX3_vote_37 : decode cX3_vote 37 = .ok (.iconst 0, 1) := by decide +kernel
theorem dX3_vote_38 : decode cX3_vote 38 = .ok (.istore_n 3, 1) := by decide +kernel
theorem dX3_vote_39 : decode cX3_vote 39 = .ok (.iload_n 3, 1) := by decide +kernel
theorem dX3_vote_40 : decode cX3_vote 40 = .ok (.iconst 3, 1) := by decide +kernel
theorem dX3_vote_41 : decode cX3_vote 41 = .ok (.if_icmp .ge 31, 3) := by decide +kernel
theorem dX3_vote_44 : decode cX3_vote 44 = .ok (.aload_n 0, 1) := by decide +kernel
theorem dX3_vote_45 : decode cX3_vote 45 = .ok (.getfield 15, 3) := by decide +kernel
theorem dX3_vote_48 : decode cX3_vote 48 = .ok (.iload_n 3, 1) := by decide +kernel
theorem dX3_vote_49 : decode cX3_vote 49 = .ok (.baload, 1) := by decide +kernel
theorem dX3_vote_50 : decode cX3_vote 50 = .ok (.ifCond .eq 16, 3) := by decide +kernel
theorem dX3_vote_53 : decode cX3_vote 53 = .ok (.iload_n 2, 1) := by decide +kernel
theorem dX3_vote_54 : decode cX3_vote 54 = .ok (.aload_n 0, 1) := by decide +kernel
theorem dX3_vote_55 : decode cX3_vote 55 = .ok (.getfield 9, 3) := by decide +kernel
theorem dX3_vote_58 : decode cX3_vote 58 = .ok (.iload_n 3, 1) := by decide +kernel
theorem dX3_vote_59 : decode cX3_vote 59 = .ok (.iconst 3, 1) := by decide +kernel
theorem dX3_vote_60 : decode cX3_vote 60 = .ok (.imul, 1) := by decide +kernel
theorem dX3_vote_61 : decode cX3_vote 61 = .ok (.iload_n 1, 1) := by decide +kernel
theorem dX3_vote_62 : decode cX3_vote 62 = .ok (.iadd, 1) := by decide +kernel
theorem dX3_vote_63 : decode cX3_vote 63 = .ok (.iaload, 1) := by decide +kernel
theorem dX3_vote_64 : decode cX3_vote 64 = .ok (.iadd, 1) := by decide +kernel
theorem dX3_vote_65 : decode cX3_vote 65 = .ok (.istore_n 2, 1) := by decide +kernel
theorem dX3_vote_66 : decode cX3_vote 66 = .ok (.iinc 3 1, 3) := by decide +kernel
theorem dX3_vote_69 : decode cX3_vote 69 = .ok (.goto (-30), 3) := by decide +kernel
theorem dX3_vote_72 : decode cX3_vote 72 = .ok (.iload_n 2, 1) := by decide +kernel
theorem dX3_vote_73 : decode cX3_vote 73 = .ok (.iconst 2, 1) := by decide +kernel
theorem dX3_vote_74 : decode cX3_vote 74 = .ok (.invokestatic 27, 3) := by decide +kernel
theorem dX3_vote_77 : decode cX3_vote 77 = .ok (.ireturn, 1) := by decide +kernel
theorem dX3_middle_0 : decode cX3_middle 0 = .ok (.iload_n 0, 1) := by decide +kernel
theorem dX3_middle_1 : decode cX3_middle 1 = .ok (.iload_n 1, 1) := by decide +kernel
theorem dX3_middle_2 : decode cX3_middle 2 = .ok (.invokestatic 33, 3) := by decide +kernel
theorem dX3_middle_5 : decode cX3_middle 5 = .ok (.iload_n 0, 1) := by decide +kernel
theorem dX3_middle_6 : decode cX3_middle 6 = .ok (.iload_n 1, 1) := by decide +kernel
theorem dX3_middle_7 : decode cX3_middle 7 = .ok (.invokestatic 36, 3) := by decide +kernel
theorem dX3_middle_10 : decode cX3_middle 10 = .ok (.iload_n 2, 1) := by decide +kernel
theorem dX3_middle_11 : decode cX3_middle 11 = .ok (.invokestatic 33, 3) := by decide +kernel
theorem dX3_middle_14 : decode cX3_middle 14 = .ok (.invokestatic 36, 3) := by decide +kernel
theorem dX3_middle_17 : decode cX3_middle 17 = .ok (.ireturn, 1) := by decide +kernel
set_option maxRecDepth 20000 in
theorem ggX4_init_X1_init : GoodIn wsX4_init wsX1_init := goodIn_r _ [14, 15, 2, 3, 16, 17, 18, 19, 20] (by decide +kernel) (by decide +kernel)
set_option maxRecDepth 20000 in
theorem gX4_init_X1_init : GoodIn wsX4_init (wsX1_init) := ggX4_init_X1_init
theorem dX4_init_0 : decode cX4_init 0 = .ok (.aload_n 0, 1) := by decide +kernel
theorem dX4_init_1 : decode cX4_init 1 = .ok (.invokespecial 3, 3) := by decide +kernel
theorem dX4_init_4 : decode cX4_init 4 = .ok (.aload_n 0, 1) := by decide +kernel
theorem dX4_init_5 : decode cX4_init 5 = .ok (.new 9, 3) := by decide +kernel
theorem dX4_init_8 : decode cX4_init 8 = .ok (.dup, 1) := by decide +kernel
theorem dX4_init_9 : decode cX4_init 9 = .ok (.invokespecial 11, 3) := by decide +kernel
theorem dX4_init_12 : decode cX4_init 12 = .ok (.putfield 12, 3) := by decide +kernel
theorem dX4_init_15 : decode cX4_init 15 = .ok (.aload_n 0, 1) := by decide +kernel
theorem dX4_init_16 : decode cX4_init 16 = .ok (.iconst 0, 1) := by decide +kernel
theorem dX4_init_17 : decode cX4_init 17 = .ok (.putfield 18, 3) := by decide +kernel
theorem dX4_init_20 : decode cX4_init 20 = .ok (.aload_n 0, 1) := by decide +kernel
theorem dX4_init_21 : decode cX4_init 21 = .ok (.iconst 0, 1) := by decide +kernel
theorem dX4_init_22 : decode cX4_init 22 = .ok (.putfield 22, 3) := by decide +kernel
theorem dX4_init_25 : decode cX4_init 25 = .ok (.aload_n 0, 1) := by decide +kernel
theorem dX4_init_26 : decode cX4_init 26 = .ok (.iconst 0, 1) := by decide +kernel
theorem dX4_init_27 : decode cX4_init 27 = .ok (.putfield 26, 3) := by decide +kernel
theorem dX4_init_30 : decode cX4_init 30 = .ok (.aload_n 0, 1) := by decide +kernel
theorem dX4_init_31 : decode cX4_init 31 = .ok (.iconst 0, 1) := by decide +kernel
theorem dX4_init_32 : decode cX4_init 32 = .ok (.putfield 29, 3) := by decide +kernel
theorem dX4_init_35 : decode cX4_init 35 = .ok (.return_, 1) := by decide +kernel
set_option maxRecDepth 20000 in
theorem ggX4_begin_X1_clear : GoodIn wsX4_begin wsX1_clear := goodIn_r _ [10, 11, 17, 18] (by decide +kernel) (by decide +kernel)
set_option maxRecDepth 20000 in
theorem gX4_begin_X1_clear : GoodIn wsX4_begin (wsV RX4 32 RX1 yX1_clear wsX1_clear) := goodIn_app (goodIn_of _ (by decide +kernel)) ggX4_begin_X1_clear
theorem dX4_begin_0 : decode cX4_begin 0 = .ok (.aload_n 0, 1) := by decide +kernel
theorem dX4_begin_1 : decode cX4_begin 1 = .ok (.getfield 12, 3) := by decide +kernel
theorem dX4_begin_4 : decode cX4_begin 4 = .ok (.invokevirtual 32, 3) := by decide +kernel
theorem dX4_begin_7 : decode cX4_begin 7 = .ok (.aload_n 0, 1) := by decide +kernel
theorem dX4_begin_8 : decode cX4_begin 8 = .ok (.iconst 1, 1) := by decide +kernel
theorem dX4_begin_9 : decode cX4_begin 9 = .ok (.putfield 18, 3) := by decide +kernel
theorem dX4_begin_12 : decode cX4_begin 12 = .ok (.aload_n 0, 1) := by decide +kernel
theorem dX4_begin_13 : decode cX4_begin 13 = .ok (.iload_n 1, 1) := by decide +kernel
theorem dX4_begin_14 : decode cX4_begin 14 = .ok (.putfield 22, 3) := by decide +kernel
theorem dX4_begin_17 : decode cX4_begin 17 = .ok (.aload_n 0, 1) := by decide +kernel
theorem dX4_begin_18 : decode cX4_begin 18 = .ok (.iconst 0, 1) := by decide +kernel
theorem dX4_begin_19 : decode cX4_begin 19 = .ok (.putfield 26, 3) := by decide +kernel
theorem dX4_begin_22 : decode cX4_begin 22 = .ok (.aload_n 0, 1) := by decide +kernel
theorem dX4_begin_23 : decode cX4_begin 23 = .ok (.iconst 0, 1) := by decide +kernel
theorem dX4_begin_24 : decode cX4_begin 24 = .ok (.putfield 29, 3) := by decide +kernel
theorem dX4_begin_27 : decode cX4_begin 27 = .ok (.return_, 1) := by decide +kernel
theorem dX4_end_0 : decode cX4_end 0 = .ok (.aload_n 0, 1) := by decide +kernel
theorem dX4_end_1 : decode cX4_end 1 = .ok (.iconst 0, 1) := by decide +kernel
theorem dX4_end_2 : decode cX4_end 2 = .ok (.putfield 18, 3) := by decide +kernel
theorem dX4_end_5 : decode cX4_end 5 = .ok (.return_, 1) := by decide +kernel
theorem dX4_next_0 : decode cX4_next 0 = .ok (.aload_n 0, 1) := by decide +kernel
theorem dX4_next_1 : decode cX4_next 1 = .ok (.getfield 12, 3) := by decide +kernel
theorem dX4_next_4 : decode cX4_next 4 = .ok (.getfield 35, 3) := by decide +kernel
theorem dX4_next_7 : decode cX4_next 7 = .ok (.ireturn, 1) := by decide +kernel
theorem dX4_isComplete_0 : decode cX4_isComplete 0 = .ok (.aload_n 0, 1) := by decide +kernel
theorem dX4_isComplete_1 : decode cX4_isComplete 1 = .ok (.getfield 12, 3) := by decide +kernel
theorem dX4_isComplete_4 : decode cX4_isComplete 4 = .ok (.getfield 35, 3) := by decide +kernel
theorem dX4_isComplete_7 : decode cX4_isComplete 7 = .ok (.aload_n 0, 1) := by decide +kernel
end
section
theorem dX4_isComplete_8 : decode cX4_isComplete 8 = .ok (.getfield 22, 3) := by decide +kernel
theorem dX4_isComplete_11 : decode cX4_isComplete 11 = .ok (.if_icmp .lt 7, 3) := by decide +kernel
theorem dX4_isComplete_14 : decode cX4_isComplete 14 = .ok (.iconst 1, 1) := by decide +kernel
theorem dX4_isComplete_15 : decode cX4_isComplete 15 = .ok (.goto 4, 3) := by decide +kernel
theorem dX4_isComplete_18 : decode cX4_isComplete 18 = .ok (.iconst 0, 1) := by decide +kernel
theorem dX4_isComplete_19 : decode cX4_isComplete 19 = .ok (.ireturn, 1) := by decide +kernel
set_option maxRecDepth 20000 in
theorem ggX4_keep_X1_add : GoodIn wsX4_keep wsX1_add := goodIn_r _ [8, 9, 10, 16, 17] (by decide +kernel) (by decide +kernel)
set_option maxRecDepth 20000 in
theorem gX4_keep_X1_add : GoodIn wsX4_keep (wsV RX4 38 RX1 yX1_add wsX1_add) := goodIn_app (goodIn_of _ (by decide +kernel)) ggX4_keep_X1_add
theorem dX4_keep_0 : decode cX4_keep 0 = .ok (.aload_n 0, 1) := by decide +kernel
theorem dX4_keep_1 : decode cX4_keep 1 = .ok (.getfield 12, 3) := by decide +kernel
theorem dX4_keep_4 : decode cX4_keep 4 = .ok (.iload_n 1, 1) := by decide +kernel
theorem dX4_keep_5 : decode cX4_keep 5 = .ok (.iload_n 2, 1) := by decide +kernel
theorem dX4_keep_6 : decode cX4_keep 6 = .ok (.iload_n 3, 1) := by decide +kernel
theorem dX4_keep_7 : decode cX4_keep 7 = .ok (.invokevirtual 38, 3) := by decide +kernel
theorem dX4_keep_10 : decode cX4_keep 10 = .ok (.aload_n 0, 1) := by decide +kernel
theorem dX4_keep_11 : decode cX4_keep 11 = .ok (.iconst 0, 1) := by decide +kernel
theorem dX4_keep_12 : decode cX4_keep 12 = .ok (.putfield 26, 3) := by decide +kernel
theorem dX4_keep_15 : decode cX4_keep 15 = .ok (.aload_n 0, 1) := by decide +kernel
theorem dX4_keep_16 : decode cX4_keep 16 = .ok (.iconst 0, 1) := by decide +kernel
theorem dX4_keep_17 : decode cX4_keep 17 = .ok (.putfield 29, 3) := by decide +kernel
theorem dX4_keep_20 : decode cX4_keep 20 = .ok (.return_, 1) := by decide +kernel
theorem dX4_growOlder_0 : decode cX4_growOlder 0 = .ok (.aload_n 0, 1) := by decide +kernel
theorem dX4_growOlder_1 : decode cX4_growOlder 1 = .ok (.getfield 18, 3) := by decide +kernel
theorem dX4_growOlder_4 : decode cX4_growOlder 4 = .ok (.ifCond .ne 4, 3) := by decide +kernel
theorem dX4_growOlder_7 : decode cX4_growOlder 7 = .ok (.return_, 1) := by decide +kernel
theorem dX4_growOlder_8 : decode cX4_growOlder 8 = .ok (.aload_n 0, 1) := by decide +kernel
theorem dX4_growOlder_9 : decode cX4_growOlder 9 = .ok (.dup, 1) := by decide +kernel
theorem dX4_growOlder_10 : decode cX4_growOlder 10 = .ok (.getfield 26, 3) := by decide +kernel
theorem dX4_growOlder_13 : decode cX4_growOlder 13 = .ok (.iconst 1, 1) := by decide +kernel
theorem dX4_growOlder_14 : decode cX4_growOlder 14 = .ok (.iadd, 1) := by decide +kernel
theorem dX4_growOlder_15 : decode cX4_growOlder 15 = .ok (.putfield 26, 3) := by decide +kernel
theorem dX4_growOlder_18 : decode cX4_growOlder 18 = .ok (.aload_n 0, 1) := by decide +kernel
theorem dX4_growOlder_19 : decode cX4_growOlder 19 = .ok (.getfield 26, 3) := by decide +kernel
theorem dX4_growOlder_22 : decode cX4_growOlder 22 = .ok (.bipush 10, 2) := by decide +kernel
theorem dX4_growOlder_24 : decode cX4_growOlder 24 = .ok (.if_icmp .lt 35, 3) := by decide +kernel
theorem dX4_growOlder_27 : decode cX4_growOlder 27 = .ok (.aload_n 0, 1) := by decide +kernel
theorem dX4_growOlder_28 : decode cX4_growOlder 28 = .ok (.iconst 0, 1) := by decide +kernel
theorem dX4_growOlder_29 : decode cX4_growOlder 29 = .ok (.putfield 26, 3) := by decide +kernel
theorem dX4_growOlder_32 : decode cX4_growOlder 32 = .ok (.aload_n 0, 1) := by decide +kernel
theorem dX4_growOlder_33 : decode cX4_growOlder 33 = .ok (.dup, 1) := by decide +kernel
theorem dX4_growOlder_34 : decode cX4_growOlder 34 = .ok (.getfield 29, 3) := by decide +kernel
theorem dX4_growOlder_37 : decode cX4_growOlder 37 = .ok (.iconst 1, 1) := by decide +kernel
theorem dX4_growOlder_38 : decode cX4_growOlder 38 = .ok (.iadd, 1) := by decide +kernel
theorem dX4_growOlder_39 : decode cX4_growOlder 39 = .ok (.putfield 29, 3) := by decide +kernel
theorem dX4_growOlder_42 : decode cX4_growOlder 42 = .ok (.aload_n 0, 1) := by decide +kernel
theorem dX4_growOlder_43 : decode cX4_growOlder 43 = .ok (.aload_n 0, 1) := by decide +kernel
theorem dX4_growOlder_44 : decode cX4_growOlder 44 = .ok (.getfield 29, 3) := by decide +kernel
theorem dX4_growOlder_47 : decode cX4_growOlder 47 = .ok (.iconst 3, 1) := by decide +kernel
theorem dX4_growOlder_48 : decode cX4_growOlder 48 = .ok (.if_icmp .ge 7, 3) := by decide +kernel
theorem dX4_growOlder_51 : decode cX4_growOlder 51 = .ok (.iconst 1, 1) := by decide +kernel
theorem dX4_growOlder_52 : decode cX4_growOlder 52 = .ok (.goto 4, 3) := by decide +kernel
theorem dX4_growOlder_55 : decode cX4_growOlder 55 = .ok (.iconst 0, 1) := by decide +kernel
theorem dX4_growOlder_56 : decode cX4_growOlder 56 = .ok (.putfield 18, 3) := by decide +kernel
theorem dX4_growOlder_59 : decode cX4_growOlder 59 = .ok (.return_, 1) := by decide +kernel
set_option maxRecDepth 20000 in
theorem ggX5_init_X0_init : GoodIn wsX5_init wsX0_init := goodIn_r _ [35, 36, 2, 3, 25, 37, 38, 39, 71, 72, 73] (by decide +kernel) (by decide +kernel)
set_option maxRecDepth 20000 in
theorem gX5_init_X0_init : GoodIn wsX5_init (wsX0_init) := ggX5_init_X0_init
set_option maxRecDepth 20000 in
theorem ggX5_init_X4_init : GoodIn wsX5_init wsX4_init := goodIn_r _ [42, 43, 2, 3, 44, 14, 15, 45, 46, 47, 48, 49, 50, 51, 52, 53, 25, 54, 55, 92, 93, 87, 88, 89, 90, 91] (by decide +kernel) (by decide +kernel)
set_option maxRecDepth 20000 in
theorem gX5_init_X4_init : GoodIn wsX5_init (wsX4_init) := ggX5_init_X4_init
set_option maxRecDepth 20000 in
theorem ggX5_init_X1_init : GoodIn wsX5_init wsX1_init := goodIn_r _ [52, 53, 2, 3, 25, 54, 55, 92, 93] (by decide +kernel) (by decide +kernel)
set_option maxRecDepth 20000 in
theorem gX5_init_X1_init : GoodIn wsX5_init (wsX1_init) := ggX5_init_X1_init
set_option maxRecDepth 20000 in
theorem ggX5_init_X3_init : GoodIn wsX5_init wsX3_init := goodIn_r _ [59, 60, 2, 3, 25, 61, 62, 63, 94, 95] (by decide +kernel) (by decide +kernel)
set_option maxRecDepth 20000 in
theorem gX5_init_X3_init : GoodIn wsX5_init (wsX3_init) := ggX5_init_X3_init
set_option maxRecDepth 20000 in
theorem ggX5_init_X2_init : GoodIn wsX5_init wsX2_init := goodIn_r _ [66, 67, 2, 3, 25, 68, 69, 70, 96, 97, 98] (by decide +kernel) (by decide +kernel)
set_option maxRecDepth 20000 in
theorem gX5_init_X2_init : GoodIn wsX5_init (wsX2_init) := ggX5_init_X2_init
theorem dX5_init_0 : decode cX5_init 0 = .ok (.aload_n 0, 1) := by decide +kernel
theorem dX5_init_1 : decode cX5_init 1 = .ok (.invokespecial 1, 3) := by decide +kernel
theorem dX5_init_4 : decode cX5_init 4 = .ok (.aload_n 0, 1) := by decide +kernel
theorem dX5_init_5 : decode cX5_init 5 = .ok (.new 7, 3) := by decide +kernel
theorem dX5_init_8 : decode cX5_init 8 = .ok (.dup, 1) := by decide +kernel
theorem dX5_init_9 : decode cX5_init 9 = .ok (.invokespecial 9, 3) := by decide +kernel
theorem dX5_init_12 : decode cX5_init 12 = .ok (.putfield 10, 3) := by decide +kernel
theorem dX5_init_15 : decode cX5_init 15 = .ok (.aload_n 0, 1) := by decide +kernel
theorem dX5_init_16 : decode cX5_init 16 = .ok (.new 7, 3) := by decide +kernel
theorem dX5_init_19 : decode cX5_init 19 = .ok (.dup, 1) := by decide +kernel
theorem dX5_init_20 : decode cX5_init 20 = .ok (.invokespecial 9, 3) := by decide +kernel
theorem dX5_init_23 : decode cX5_init 23 = .ok (.putfield 16, 3) := by decide +kernel
theorem dX5_init_26 : decode cX5_init 26 = .ok (.aload_n 0, 1) := by decide +kernel
theorem dX5_init_27 : decode cX5_init 27 = .ok (.new 19, 3) := by decide +kernel
theorem dX5_init_30 : decode cX5_init 30 = .ok (.dup, 1) := by decide +kernel
theorem dX5_init_31 : decode cX5_init 31 = .ok (.invokespecial 21, 3) := by decide +kernel
theorem dX5_init_34 : decode cX5_init 34 = .ok (.putfield 22, 3) := by decide +kernel
theorem dX5_init_37 : decode cX5_init 37 = .ok (.aload_n 0, 1) := by decide +kernel
theorem dX5_init_38 : decode cX5_init 38 = .ok (.new 26, 3) := by decide +kernel
theorem dX5_init_41 : decode cX5_init 41 = .ok (.dup, 1) := by decide +kernel
theorem dX5_init_42 : decode cX5_init 42 = .ok (.invokespecial 28, 3) := by decide +kernel
theorem dX5_init_45 : decode cX5_init 45 = .ok (.putfield 29, 3) := by decide +kernel
theorem dX5_init_48 : decode cX5_init 48 = .ok (.aload_n 0, 1) := by decide +kernel
theorem dX5_init_49 : decode cX5_init 49 = .ok (.new 33, 3) := by decide +kernel
theorem dX5_init_52 : decode cX5_init 52 = .ok (.dup, 1) := by decide +kernel
theorem dX5_init_53 : decode cX5_init 53 = .ok (.invokespecial 35, 3) := by decide +kernel
theorem dX5_init_56 : decode cX5_init 56 = .ok (.putfield 36, 3) := by decide +kernel
theorem dX5_init_59 : decode cX5_init 59 = .ok (.aload_n 0, 1) := by decide +kernel
theorem dX5_init_60 : decode cX5_init 60 = .ok (.new 40, 3) := by decide +kernel
theorem dX5_init_63 : decode cX5_init 63 = .ok (.dup, 1) := by decide +kernel
theorem dX5_init_64 : decode cX5_init 64 = .ok (.invokespecial 42, 3) := by decide +kernel
theorem dX5_init_67 : decode cX5_init 67 = .ok (.putfield 43, 3) := by decide +kernel
theorem dX5_init_70 : decode cX5_init 70 = .ok (.aload_n 0, 1) := by decide +kernel
theorem dX5_init_71 : decode cX5_init 71 = .ok (.iconst 3, 1) := by decide +kernel
theorem dX5_init_72 : decode cX5_init 72 = .ok (.newarray .int, 2) := by decide +kernel
theorem dX5_init_74 : decode cX5_init 74 = .ok (.putfield 47, 3) := by decide +kernel
theorem dX5_init_77 : decode cX5_init 77 = .ok (.aload_n 0, 1) := by decide +kernel
theorem dX5_init_78 : decode cX5_init 78 = .ok (.iconst 3, 1) := by decide +kernel
theorem dX5_init_79 : decode cX5_init 79 = .ok (.newarray .int, 2) := by decide +kernel
theorem dX5_init_81 : decode cX5_init 81 = .ok (.putfield 51, 3) := by decide +kernel
theorem dX5_init_84 : decode cX5_init 84 = .ok (.aload_n 0, 1) := by decide +kernel
theorem dX5_init_85 : decode cX5_init 85 = .ok (.iconst 0, 1) := by decide +kernel
theorem dX5_init_86 : decode cX5_init 86 = .ok (.putfield 54, 3) := by decide +kernel
theorem dX5_init_89 : decode cX5_init 89 = .ok (.aload_n 0, 1) := by decide +kernel
theorem dX5_init_90 : decode cX5_init 90 = .ok (.iconst 0, 1) := by decide +kernel
theorem dX5_init_91 : decode cX5_init 91 = .ok (.putfield 58, 3) := by decide +kernel
theorem dX5_init_94 : decode cX5_init 94 = .ok (.aload_n 0, 1) := by decide +kernel
theorem dX5_init_95 : decode cX5_init 95 = .ok (.iconst 1, 1) := by decide +kernel
theorem dX5_init_96 : decode cX5_init 96 = .ok (.putfield 61, 3) := by decide +kernel
theorem dX5_init_99 : decode cX5_init 99 = .ok (.aload_n 0, 1) := by decide +kernel
theorem dX5_init_100 : decode cX5_init 100 = .ok (.iconst 0, 1) := by decide +kernel
theorem dX5_init_101 : decode cX5_init 101 = .ok (.putfield 64, 3) := by decide +kernel
theorem dX5_init_104 : decode cX5_init 104 = .ok (.aload_n 0, 1) := by decide +kernel
theorem dX5_init_105 : decode cX5_init 105 = .ok (.iconst 0, 1) := by decide +kernel
theorem dX5_init_106 : decode cX5_init 106 = .ok (.putfield 67, 3) := by decide +kernel
theorem dX5_init_109 : decode cX5_init 109 = .ok (.return_, 1) := by decide +kernel
set_option maxRecDepth 20000 in
theorem ggX5_corner_X0_isFull : GoodIn wsX5_corner wsX0_isFull := goodIn_r _ [6, 7, 35, 36, 37] (by decide +kernel) (by decide +kernel)
set_option maxRecDepth 20000 in
theorem gX5_corner_X0_isFull : GoodIn wsX5_corner (wsV RX5 70 RX0 yX0_isFull wsX0_isFull) := goodIn_app (goodIn_of _ (by decide +kernel)) ggX5_corner_X0_isFull
set_option maxRecDepth 20000 in
theorem ggX5_corner_X5_isOnMap : GoodIn wsX5_corner wsX5_isOnMap := goodIn_r _ [11, 12, 13, 10, 14] (by decide +kernel) (by decide +kernel)
set_option maxRecDepth 20000 in
theorem gX5_corner_X5_isOnMap : GoodIn wsX5_corner (va_wsS RX5 74 yX5_isOnMap wsX5_isOnMap) := goodIn_app (goodIn_of _ (by decide +kernel)) ggX5_corner_X5_isOnMap
set_option maxRecDepth 20000 in
theorem ggX5_corner_X0_add : GoodIn wsX5_corner wsX0_add := goodIn_r _ [18, 19, 7, 20, 21, 3, 4, 5, 6, 35, 36, 37] (by decide +kernel) (by decide +kernel)
set_option maxRecDepth 20000 in
theorem gX5_corner_X0_add : GoodIn wsX5_corner (wsV RX5 78 RX0 yX0_add wsX0_add) := goodIn_app (goodIn_of _ (by decide +kernel)) ggX5_corner_X0_add
theorem dX5_corner_0 : decode cX5_corner 0 = .ok (.aload_n 0, 1) := by decide +kernel
theorem dX5_corner_1 : decode cX5_corner 1 = .ok (.getfield 10, 3) := by decide +kernel
theorem dX5_corner_4 : decode cX5_corner 4 = .ok (.invokevirtual 70, 3) := by decide +kernel
theorem dX5_corner_7 : decode cX5_corner 7 = .ok (.ifCond .ne 11, 3) := by decide +kernel
theorem dX5_corner_10 : decode cX5_corner 10 = .ok (.iload_n 1, 1) := by decide +kernel
theorem dX5_corner_11 : decode cX5_corner 11 = .ok (.iload_n 2, 1) := by decide +kernel
theorem dX5_corner_12 : decode cX5_corner 12 = .ok (.invokestatic 74, 3) := by decide +kernel
theorem dX5_corner_15 : decode cX5_corner 15 = .ok (.ifCond .ne 5, 3) := by decide +kernel
theorem dX5_corner_18 : decode cX5_corner 18 = .ok (.iconst 0, 1) := by decide +kernel
theorem dX5_corner_19 : decode cX5_corner 19 = .ok (.ireturn, 1) := by decide +kernel
theorem dX5_corner_20 : decode cX5_corner 20 = .ok (.aload_n 0, 1) := by decide +kernel
theorem dX5_corner_21 : decode cX5_corner 21 = .ok (.getfield 10, 3) := by decide +kernel
theorem dX5_corner_24 : decode cX5_corner 24 = .ok (.iload_n 1, 1) := by decide +kernel
theorem dX5_corner_25 : decode cX5_corner 25 = .ok (.iload_n 2, 1) := by decide +kernel
theorem dX5_corner_26 : decode cX5_corner 26 = .ok (.invokevirtual 78, 3) := by decide +kernel
theorem dX5_corner_29 : decode cX5_corner 29 = .ok (.iconst 1, 1) := by decide +kernel
theorem dX5_corner_30 : decode cX5_corner 30 = .ok (.ireturn, 1) := by decide +kernel
set_option maxRecDepth 20000 in
theorem ggX5_erase_X0_clear : GoodIn wsX5_erase wsX0_clear := goodIn_r _ [6, 7, 21, 22, 23] (by decide +kernel) (by decide +kernel)
set_option maxRecDepth 20000 in
theorem gX5_erase_X0_clear : GoodIn wsX5_erase (wsV RX5 82 RX0 yX0_clear wsX0_clear) := goodIn_app (goodIn_of _ (by decide +kernel)) ggX5_erase_X0_clear
theorem dX5_erase_0 : decode cX5_erase 0 = .ok (.aload_n 0, 1) := by decide +kernel
theorem dX5_erase_1 : decode cX5_erase 1 = .ok (.getfield 10, 3) := by decide +kernel
theorem dX5_erase_4 : decode cX5_erase 4 = .ok (.invokevirtual 82, 3) := by decide +kernel
theorem dX5_erase_7 : decode cX5_erase 7 = .ok (.return_, 1) := by decide +kernel
set_option maxRecDepth 20000 in
theorem ggX5_fence_X0_areEnough : GoodIn wsX5_fence wsX0_areEnough := goodIn_r _ [9, 10, 70, 71, 72] (by decide +kernel) (by decide +kernel)
set_option maxRecDepth 20000 in
theorem gX5_fence_X0_areEnough : GoodIn wsX5_fence (wsV RX5 88 RX0 yX0_areEnough wsX0_areEnough) := goodIn_app (goodIn_of _ (by decide +kernel)) ggX5_fence_X0_areEnough
set_option maxRecDepth 20000 in
theorem ggX5_fence_X0_areConvex : GoodIn wsX5_fence wsX0_areConvex := goodIn_r _ [14, 10, 15, 16, 17, 8, 18, 19, 20, 21, 22, 23, 24, 25, 26, 27, 28, 29, 30, 31, 32, 70, 71, 72] (by decide +kernel) (by decide +kernel)
set_option maxRecDepth 20000 in
theorem gX5_fence_X0_areConvex : GoodIn wsX5_fence (wsV RX5 91 RX0 yX0_areConvex wsX0_areConvex) := goodIn_app (goodIn_of _ (by decide +kernel)) ggX5_fence_X0_areConvex
set_option maxRecDepth 20000 in
theorem ggX5_fence_X0_leaveClear : GoodIn wsX5_fence wsX0_leaveClear := goodIn_r _ [36, 10, 37, 6, 7, 8, 9, 38, 39, 40, 41, 29, 30, 31, 32, 19, 20, 21, 22, 23, 24, 15, 16, 17, 18, 70, 71, 72] (by decide +kernel) (by decide +kernel)
set_option maxRecDepth 20000 in
theorem gX5_fence_X0_leaveClear : GoodIn wsX5_fence (wsV RX5 94 RX0 yX0_leaveClear wsX0_leaveClear) := goodIn_app (goodIn_of _ (by decide +kernel)) ggX5_fence_X0_leaveClear
set_option maxRecDepth 20000 in
theorem ggX5_fence_X5_isWithin : GoodIn wsX5_fence wsX5_isWithin := goodIn_r _ [45] (by decide +kernel) (by decide +kernel)
set_option maxRecDepth 20000 in
theorem gX5_fence_X5_isWithin : GoodIn wsX5_fence (va_wsS RX5 98 yX5_isWithin wsX5_isWithin) := goodIn_app (goodIn_of _ (by decide +kernel)) ggX5_fence_X5_isWithin
set_option maxRecDepth 20000 in
theorem ggX5_fence_X0_copyFrom : GoodIn wsX5_fence wsX0_copyFrom := goodIn_r _ [49, 10, 19, 20, 70, 71, 72] (by decide +kernel) (by decide +kernel)
set_option maxRecDepth 20000 in
theorem gX5_fence_X0_copyFrom : GoodIn wsX5_fence (wsV RX5 101 RX0 yX0_copyFrom wsX0_copyFrom) := goodIn_app (goodIn_of _ (by decide +kernel)) ggX5_fence_X0_copyFrom
set_option maxRecDepth 20000 in
theorem ggX5_fence_X0_clear : GoodIn wsX5_fence wsX0_clear := goodIn_r _ [53, 10, 70, 71, 72] (by decide +kernel) (by decide +kernel)
set_option maxRecDepth 20000 in
theorem gX5_fence_X0_clear : GoodIn wsX5_fence (wsV RX5 82 RX0 yX0_clear wsX0_clear) := goodIn_app (goodIn_of _ (by decide +kernel)) ggX5_fence_X0_clear
theorem dX5_fence_0 : decode cX5_fence 0 = .ok (.aload_n 0, 1) := by decide +kernel
theorem dX5_fence_1 : decode cX5_fence 1 = .ok (.getfield 43, 3) := by decide +kernel
theorem dX5_fence_4 : decode cX5_fence 4 = .ok (.getfield 85, 3) := by decide +kernel
theorem dX5_fence_7 : decode cX5_fence 7 = .ok (.ifCond .eq 5, 3) := by decide +kernel
theorem dX5_fence_10 : decode cX5_fence 10 = .ok (.iconst (-1), 1) := by decide +kernel
theorem dX5_fence_11 : decode cX5_fence 11 = .ok (.ireturn, 1) := by decide +kernel
theorem dX5_fence_12 : decode cX5_fence 12 = .ok (.aload_n 0, 1) := by decide +kernel
theorem dX5_fence_13 : decode cX5_fence 13 = .ok (.getfield 10, 3) := by decide +kernel
theorem dX5_fence_16 : decode cX5_fence 16 = .ok (.invokevirtual 88, 3) := by decide +kernel
theorem dX5_fence_19 : decode cX5_fence 19 = .ok (.ifCond .ne 6, 3) := by decide +kernel
theorem dX5_fence_22 : decode cX5_fence 22 = .ok (.bipush (-2), 2) := by decide +kernel
theorem dX5_fence_24 : decode cX5_fence 24 = .ok (.ireturn, 1) := by decide +kernel
theorem dX5_fence_25 : decode cX5_fence 25 = .ok (.aload_n 0, 1) := by decide +kernel
theorem dX5_fence_26 : decode cX5_fence 26 = .ok (.getfield 10, 3) := by decide +kernel
theorem dX5_fence_29 : decode cX5_fence 29 = .ok (.invokevirtual 91, 3) := by decide +kernel
theorem dX5_fence_32 : decode cX5_fence 32 = .ok (.ifCond .ne 6, 3) := by decide +kernel
theorem dX5_fence_35 : decode cX5_fence 35 = .ok (.bipush (-3), 2) := by decide +kernel
theorem dX5_fence_37 : decode cX5_fence 37 = .ok (.ireturn, 1) := by decide +kernel
theorem dX5_fence_38 : decode cX5_fence 38 = .ok (.aload_n 0, 1) := by decide +kernel
theorem dX5_fence_39 : decode cX5_fence 39 = .ok (.getfield 10, 3) := by decide +kernel
theorem dX5_fence_42 : decode cX5_fence 42 = .ok (.iconst 0, 1) := by decide +kernel
theorem dX5_fence_43 : decode cX5_fence 43 = .ok (.iconst 0, 1) := by decide +kernel
theorem dX5_fence_44 : decode cX5_fence 44 = .ok (.sipush 1000, 3) := by decide +kernel
theorem dX5_fence_47 : decode cX5_fence 47 = .ok (.invokevirtual 94, 3) := by decide +kernel
theorem dX5_fence_50 : decode cX5_fence 50 = .ok (.ifCond .ne 6, 3) := by decide +kernel
theorem dX5_fence_53 : decode cX5_fence 53 = .ok (.bipush (-4), 2) := by decide +kernel
theorem dX5_fence_55 : decode cX5_fence 55 = .ok (.ireturn, 1) := by decide +kernel
theorem dX5_fence_56 : decode cX5_fence 56 = .ok (.iload_n 1, 1) := by decide +kernel
theorem dX5_fence_57 : decode cX5_fence 57 = .ok (.sipush 1500, 3) := by decide +kernel
theorem dX5_fence_60 : decode cX5_fence 60 = .ok (.sipush 10000, 3) := by decide +kernel
theorem dX5_fence_63 : decode cX5_fence 63 = .ok (.invokestatic 98, 3) := by decide +kernel
theorem dX5_fence_66 : decode cX5_fence 66 = .ok (.ifCond .ne 6, 3) := by decide +kernel
theorem dX5_fence_69 : decode cX5_fence 69 = .ok (.bipush (-5), 2) := by decide +kernel
theorem dX5_fence_71 : decode cX5_fence 71 = .ok (.ireturn, 1) := by decide +kernel
theorem dX5_fence_72 : decode cX5_fence 72 = .ok (.aload_n 0, 1) := by decide +kernel
theorem dX5_fence_73 : decode cX5_fence 73 = .ok (.getfield 16, 3) := by decide +kernel
theorem dX5_fence_76 : decode cX5_fence 76 = .ok (.aload_n 0, 1) := by decide +kernel
theorem dX5_fence_77 : decode cX5_fence 77 = .ok (.getfield 10, 3) := by decide +kernel
theorem dX5_fence_80 : decode cX5_fence 80 = .ok (.invokevirtual 101, 3) := by decide +kernel
theorem dX5_fence_83 : decode cX5_fence 83 = .ok (.aload_n 0, 1) := by decide +kernel
theorem dX5_fence_84 : decode cX5_fence 84 = .ok (.iload_n 1, 1) := by decide +kernel
theorem dX5_fence_85 : decode cX5_fence 85 = .ok (.putfield 54, 3) := by decide +kernel
theorem dX5_fence_88 : decode cX5_fence 88 = .ok (.aload_n 0, 1) := by decide +kernel
theorem dX5_fence_89 : decode cX5_fence 89 = .ok (.getfield 10, 3) := by decide +kernel
theorem dX5_fence_92 : decode cX5_fence 92 = .ok (.invokevirtual 82, 3) := by decide +kernel
theorem dX5_fence_95 : decode cX5_fence 95 = .ok (.iconst 0, 1) := by decide +kernel
theorem dX5_fence_96 : decode cX5_fence 96 = .ok (.ireturn, 1) := by decide +kernel
set_option maxRecDepth 20000 in
theorem ggX5_upload_X5_isWithin : GoodIn wsX5_upload wsX5_isWithin := goodIn_r _ [5] (by decide +kernel) (by decide +kernel)
set_option maxRecDepth 20000 in
theorem gX5_upload_X5_isWithin : GoodIn wsX5_upload (va_wsS RX5 98 yX5_isWithin wsX5_isWithin) := goodIn_app (goodIn_of _ (by decide +kernel)) ggX5_upload_X5_isWithin
set_option maxRecDepth 20000 in
theorem ggX5_upload_X4_begin : GoodIn wsX5_upload wsX4_begin := goodIn_r _ [10, 11, 12, 13, 14, 15, 16, 17, 18, 19, 20, 21, 35, 36, 37, 38, 39, 40, 41] (by decide +kernel) (by decide +kernel)
set_option maxRecDepth 20000 in
theorem gX5_upload_X4_begin : GoodIn wsX5_upload (wsV RX5 105 RX4 yX4_begin wsX4_begin) := goodIn_app (goodIn_of _ (by decide +kernel)) ggX5_upload_X4_begin
theorem dX5_upload_0 : decode cX5_upload 0 = .ok (.iload_n 1, 1) := by decide +kernel
theorem dX5_upload_1 : decode cX5_upload 1 = .ok (.iconst 1, 1) := by decide +kernel
theorem dX5_upload_2 : decode cX5_upload 2 = .ok (.bipush 8, 2) := by decide +kernel
theorem dX5_upload_4 : decode cX5_upload 4 = .ok (.invokestatic 98, 3) := by decide +kernel
theorem dX5_upload_7 : decode cX5_upload 7 = .ok (.ifCond .ne 6, 3) := by decide +kernel
theorem dX5_upload_10 : decode cX5_upload 10 = .ok (.bipush (-5), 2) := by decide +kernel
theorem dX5_upload_12 : decode cX5_upload 12 = .ok (.ireturn, 1) := by decide +kernel
theorem dX5_upload_13 : decode cX5_upload 13 = .ok (.aload_n 0, 1) := by decide +kernel
theorem dX5_upload_14 : decode cX5_upload 14 = .ok (.getfield 22, 3) := by decide +kernel
theorem dX5_upload_17 : decode cX5_upload 17 = .ok (.iload_n 1, 1) := by decide +kernel
theorem dX5_upload_18 : decode cX5_upload 18 = .ok (.invokevirtual 105, 3) := by decide +kernel
theorem dX5_upload_21 : decode cX5_upload 21 = .ok (.iconst 0, 1) := by decide +kernel
theorem dX5_upload_22 : decode cX5_upload 22 = .ok (.ireturn, 1) := by decide +kernel
set_option maxRecDepth 20000 in
theorem ggX5_item_X5_isOnMap : GoodIn wsX5_item wsX5_isOnMap := goodIn_r _ [7, 8, 9, 6, 10] (by decide +kernel) (by decide +kernel)
set_option maxRecDepth 20000 in
theorem gX5_item_X5_isOnMap : GoodIn wsX5_item (va_wsS RX5 74 yX5_isOnMap wsX5_isOnMap) := goodIn_app (goodIn_of _ (by decide +kernel)) ggX5_item_X5_isOnMap
set_option maxRecDepth 20000 in
theorem ggX5_item_X5_isWithin : GoodIn wsX5_item wsX5_isWithin := goodIn_r _ [10] (by decide +kernel) (by decide +kernel)
set_option maxRecDepth 20000 in
theorem gX5_item_X5_isWithin : GoodIn wsX5_item (va_wsS RX5 98 yX5_isWithin wsX5_isWithin) := goodIn_app (goodIn_of _ (by decide +kernel)) ggX5_item_X5_isWithin
set_option maxRecDepth 20000 in
theorem ggX5_item_X4_next : GoodIn wsX5_item wsX4_next := goodIn_r _ [15, 16, 61, 62, 63, 64, 65, 66, 67] (by decide +kernel) (by decide +kernel)
set_option maxRecDepth 20000 in
theorem gX5_item_X4_next : GoodIn wsX5_item (wsV RX5 113 RX4 yX4_next wsX4_next) := goodIn_app (goodIn_of _ (by decide +kernel)) ggX5_item_X4_next
set_option maxRecDepth 20000 in
theorem ggX5_item_X4_keep : GoodIn wsX5_item wsX4_keep := goodIn_r _ [20, 16, 21, 22, 23, 24, 25, 26, 27, 28, 29, 61, 62, 63, 64, 65, 66, 67] (by decide +kernel) (by decide +kernel)
set_option maxRecDepth 20000 in
theorem gX5_item_X4_keep : GoodIn wsX5_item (wsV RX5 117 RX4 yX4_keep wsX4_keep) := goodIn_app (goodIn_of _ (by decide +kernel)) ggX5_item_X4_keep
set_option maxRecDepth 20000 in
theorem ggX5_item_X4_isComplete : GoodIn wsX5_item wsX4_isComplete := goodIn_r _ [33, 16, 34, 61, 62, 63, 64, 65, 66, 67] (by decide +kernel) (by decide +kernel)
set_option maxRecDepth 20000 in
theorem gX5_item_X4_isComplete : GoodIn wsX5_item (wsV RX5 121 RX4 yX4_isComplete wsX4_isComplete) := goodIn_app (goodIn_of _ (by decide +kernel)) ggX5_item_X4_isComplete
set_option maxRecDepth 20000 in
theorem ggX5_item_X4_end : GoodIn wsX5_item wsX4_end := goodIn_r _ [38, 39, 61, 62, 63, 64, 65] (by decide +kernel) (by decide +kernel)
set_option maxRecDepth 20000 in
theorem gX5_item_X4_end : GoodIn wsX5_item (wsV RX5 124 RX4 yX4_end wsX4_end) := goodIn_app (goodIn_of _ (by decide +kernel)) ggX5_item_X4_end
set_option maxRecDepth 20000 in
theorem ggX5_item_X1_copyFrom : GoodIn wsX5_item wsX1_copyFrom := goodIn_r _ [43, 29, 44, 45, 46, 47, 28, 66, 67] (by decide +kernel) (by decide +kernel)
set_option maxRecDepth 20000 in
theorem gX5_item_X1_copyFrom : GoodIn wsX5_item (wsV RX5 130 RX1 yX1_copyFrom wsX1_copyFrom) := goodIn_app (goodIn_of _ (by decide +kernel)) ggX5_item_X1_copyFrom
theorem dX5_item_0 : decode cX5_item 0 = .ok (.aload_n 0, 1) := by decide +kernel
theorem dX5_item_1 : decode cX5_item 1 = .ok (.getfield 22, 3) := by decide +kernel
theorem dX5_item_4 : decode cX5_item 4 = .ok (.getfield 109, 3) := by decide +kernel
theorem dX5_item_7 : decode cX5_item 7 = .ok (.ifCond .ne 6, 3) := by decide +kernel
theorem dX5_item_10 : decode cX5_item 10 = .ok (.bipush (-6), 2) := by decide +kernel
theorem dX5_item_12 : decode cX5_item 12 = .ok (.ireturn, 1) := by decide +kernel
theorem dX5_item_13 : decode cX5_item 13 = .ok (.iload_n 2, 1) := by decide +kernel
theorem dX5_item_14 : decode cX5_item 14 = .ok (.iload_n 3, 1) := by decide +kernel
theorem dX5_item_15 : decode cX5_item 15 = .ok (.invokestatic 74, 3) := by decide +kernel
theorem dX5_item_18 : decode cX5_item 18 = .ok (.ifCond .eq 17, 3) := by decide +kernel
theorem dX5_item_21 : decode cX5_item 21 = .ok (.iload 4, 2) := by decide +kernel
theorem dX5_item_23 : decode cX5_item 23 = .ok (.sipush 500, 3) := by decide +kernel
theorem dX5_item_26 : decode cX5_item 26 = .ok (.sipush 10000, 3) := by decide +kernel
theorem dX5_item_29 : decode cX5_item 29 = .ok (.invokestatic 98, 3) := by decide +kernel
theorem dX5_item_32 : decode cX5_item 32 = .ok (.ifCond .ne 6, 3) := by decide +kernel
theorem dX5_item_35 : decode cX5_item 35 = .ok (.bipush (-5), 2) := by decide +kernel
theorem dX5_item_37 : decode cX5_item 37 = .ok (.ireturn, 1) := by decide +kernel
theorem dX5_item_38 : decode cX5_item 38 = .ok (.iload_n 1, 1) := by decide +kernel
theorem dX5_item_39 : decode cX5_item 39 = .ok (.aload_n 0, 1) := by decide +kernel
theorem dX5_item_40 : decode cX5_item 40 = .ok (.getfield 22, 3) := by decide +kernel
theorem dX5_item_43 : decode cX5_item 43 = .ok (.invokevirtual 113, 3) := by decide +kernel
theorem dX5_item_46 : decode cX5_item 46 = .ok (.if_icmp .eq 11, 3) := by decide +kernel
theorem dX5_item_49 : decode cX5_item 49 = .ok (.aload_n 0, 1) := by decide +kernel
theorem dX5_item_50 : decode cX5_item 50 = .ok (.getfield 22, 3) := by decide +kernel
theorem dX5_item_53 : decode cX5_item 53 = .ok (.invokevirtual 113, 3) := by decide +kernel
theorem dX5_item_56 : decode cX5_item 56 = .ok (.ireturn, 1) := by decide +kernel
theorem dX5_item_57 : decode cX5_item 57 = .ok (.aload_n 0, 1) := by decide +kernel
theorem dX5_item_58 : decode cX5_item 58 = .ok (.getfield 22, 3) := by decide +kernel
theorem dX5_item_61 : decode cX5_item 61 = .ok (.iload_n 2, 1) := by decide +kernel
theorem dX5_item_62 : decode cX5_item 62 = .ok (.iload_n 3, 1) := by decide +kernel
theorem dX5_item_63 : decode cX5_item 63 = .ok (.iload 4, 2) := by decide +kernel
theorem dX5_item_65 : decode cX5_item 65 = .ok (.invokevirtual 117, 3) := by decide +kernel
theorem dX5_item_68 : decode cX5_item 68 = .ok (.aload_n 0, 1) := by decide +kernel
theorem dX5_item_69 : decode cX5_item 69 = .ok (.getfield 22, 3) := by decide +kernel
theorem dX5_item_72 : decode cX5_item 72 = .ok (.invokevirtual 121, 3) := by decide +kernel
theorem dX5_item_75 : decode cX5_item 75 = .ok (.ifCond .ne 11, 3) := by decide +kernel
theorem dX5_item_78 : decode cX5_item 78 = .ok (.aload_n 0, 1) := by decide +kernel
theorem dX5_item_79 : decode cX5_item 79 = .ok (.getfield 22, 3) := by decide +kernel
theorem dX5_item_82 : decode cX5_item 82 = .ok (.invokevirtual 113, 3) := by decide +kernel
theorem dX5_item_85 : decode cX5_item 85 = .ok (.ireturn, 1) := by decide +kernel
theorem dX5_item_86 : decode cX5_item 86 = .ok (.aload_n 0, 1) := by decide +kernel
theorem dX5_item_87 : decode cX5_item 87 = .ok (.getfield 22, 3) := by decide +kernel
theorem dX5_item_90 : decode cX5_item 90 = .ok (.invokevirtual 124, 3) := by decide +kernel
theorem dX5_item_93 : decode cX5_item 93 = .ok (.aload_n 0, 1) := by decide +kernel
theorem dX5_item_94 : decode cX5_item 94 = .ok (.getfield 29, 3) := by decide +kernel
theorem dX5_item_97 : decode cX5_item 97 = .ok (.aload_n 0, 1) := by decide +kernel
theorem dX5_item_98 : decode cX5_item 98 = .ok (.getfield 22, 3) := by decide +kernel
theorem dX5_item_101 : decode cX5_item 101 = .ok (.getfield 127, 3) := by decide +kernel
theorem dX5_item_104 : decode cX5_item 104 = .ok (.invokevirtual 130, 3) := by decide +kernel
theorem dX5_item_107 : decode cX5_item 107 = .ok (.aload_n 0, 1) := by decide +kernel
theorem dX5_item_108 : decode cX5_item 108 = .ok (.iconst 0, 1) := by decide +kernel
theorem dX5_item_109 : decode cX5_item 109 = .ok (.putfield 58, 3) := by decide +kernel
theorem dX5_item_112 : decode cX5_item 112 = .ok (.bipush 100, 2) := by decide +kernel
theorem dX5_item_114 : decode cX5_item 114 = .ok (.ireturn, 1) := by decide +kernel
set_option maxRecDepth 20000 in
theorem ggX5_wanted_X4_next : GoodIn wsX5_wanted wsX4_next := goodIn_r _ [6, 7, 21, 22, 23, 24, 25, 26, 27] (by decide +kernel) (by decide +kernel)
set_option maxRecDepth 20000 in
theorem gX5_wanted_X4_next : GoodIn wsX5_wanted (wsV RX5 113 RX4 yX4_next wsX4_next) := goodIn_app (goodIn_of _ (by decide +kernel)) ggX5_wanted_X4_next
theorem dX5_wanted_0 : decode cX5_wanted 0 = .ok (.aload_n 0, 1) := by decide +kernel
theorem dX5_wanted_1 : decode cX5_wanted 1 = .ok (.getfield 22, 3) := by decide +kernel
theorem dX5_wanted_4 : decode cX5_wanted 4 = .ok (.getfield 109, 3) := by decide +kernel
theorem dX5_wanted_7 : decode cX5_wanted 7 = .ok (.ifCond .eq 13, 3) := by decide +kernel
theorem dX5_wanted_10 : decode cX5_wanted 10 = .ok (.aload_n 0, 1) := by decide +kernel
theorem dX5_wanted_11 : decode cX5_wanted 11 = .ok (.getfield 22, 3) := by decide +kernel
theorem dX5_wanted_14 : decode cX5_wanted 14 = .ok (.invokevirtual 113, 3) := by decide +kernel
theorem dX5_wanted_17 : decode cX5_wanted 17 = .ok (.goto 5, 3) := by decide +kernel
theorem dX5_wanted_20 : decode cX5_wanted 20 = .ok (.bipush (-6), 2) := by decide +kernel
theorem dX5_wanted_22 : decode cX5_wanted 22 = .ok (.ireturn, 1) := by decide +kernel
set_option maxRecDepth 20000 in
theorem ggX5_sample_X5_isWithin : GoodIn wsX5_sample wsX5_isWithin := goodIn_r _ [5] (by decide +kernel) (by decide +kernel)
set_option maxRecDepth 20000 in
theorem gX5_sample_X5_isWithin : GoodIn wsX5_sample (va_wsS RX5 98 yX5_isWithin wsX5_isWithin) := goodIn_app (goodIn_of _ (by decide +kernel)) ggX5_sample_X5_isWithin
set_option maxRecDepth 20000 in
theorem ggX5_sample_X5_isInSensorReach : GoodIn wsX5_sample wsX5_isInSensorReach := goodIn_r _ [8, 2, 3, 4, 5] (by decide +kernel) (by decide +kernel)
set_option maxRecDepth 20000 in
theorem gX5_sample_X5_isInSensorReach : GoodIn wsX5_sample (va_wsS RX5 133 yX5_isInSensorReach wsX5_isInSensorReach) := goodIn_app (goodIn_of _ (by decide +kernel)) ggX5_sample_X5_isInSensorReach
set_option maxRecDepth 20000 in
theorem ggX5_sample_X3_take : GoodIn wsX5_sample wsX3_take := goodIn_r _ [13, 14, 15, 29, 30] (by decide +kernel) (by decide +kernel)
set_option maxRecDepth 20000 in
theorem gX5_sample_X3_take : GoodIn wsX5_sample (wsV RX5 136 RX3 yX3_take wsX3_take) := goodIn_app (goodIn_of _ (by decide +kernel)) ggX5_sample_X3_take
theorem dX5_sample_0 : decode cX5_sample 0 = .ok (.iload_n 1, 1) := by decide +kernel
theorem dX5_sample_1 : decode cX5_sample 1 = .ok (.iconst 0, 1) := by decide +kernel
theorem dX5_sample_2 : decode cX5_sample 2 = .ok (.iconst 2, 1) := by decide +kernel
theorem dX5_sample_3 : decode cX5_sample 3 = .ok (.invokestatic 98, 3) := by decide +kernel
theorem dX5_sample_6 : decode cX5_sample 6 = .ok (.ifCond .eq 25, 3) := by decide +kernel
theorem dX5_sample_9 : decode cX5_sample 9 = .ok (.iload_n 2, 1) := by decide +kernel
theorem dX5_sample_10 : decode cX5_sample 10 = .ok (.iload_n 3, 1) := by decide +kernel
theorem dX5_sample_11 : decode cX5_sample 11 = .ok (.invokestatic 133, 3) := by decide +kernel
theorem dX5_sample_14 : decode cX5_sample 14 = .ok (.ifCond .eq 17, 3) := by decide +kernel
theorem dX5_sample_17 : decode cX5_sample 17 = .ok (.iload 4, 2) := by decide +kernel
theorem dX5_sample_19 : decode cX5_sample 19 = .ok (.sipush (-2000), 3) := by decide +kernel
theorem dX5_sample_22 : decode cX5_sample 22 = .ok (.sipush 20000, 3) := by decide +kernel
theorem dX5_sample_25 : decode cX5_sample 25 = .ok (.invokestatic 98, 3) := by decide +kernel
theorem dX5_sample_28 : decode cX5_sample 28 = .ok (.ifCond .ne 5, 3) := by decide +kernel
theorem dX5_sample_31 : decode cX5_sample 31 = .ok (.iconst 0, 1) := by decide +kernel
theorem dX5_sample_32 : decode cX5_sample 32 = .ok (.ireturn, 1) := by decide +kernel
theorem dX5_sample_33 : decode cX5_sample 33 = .ok (.aload_n 0, 1) := by decide +kernel
theorem dX5_sample_34 : decode cX5_sample 34 = .ok (.getfield 36, 3) := by decide +kernel
theorem dX5_sample_37 : decode cX5_sample 37 = .ok (.iload_n 1, 1) := by decide +kernel
theorem dX5_sample_38 : decode cX5_sample 38 = .ok (.iload_n 2, 1) := by decide +kernel
theorem dX5_sample_39 : decode cX5_sample 39 = .ok (.iload_n 3, 1) := by decide +kernel
theorem dX5_sample_40 : decode cX5_sample 40 = .ok (.iload 4, 2) := by decide +kernel
theorem dX5_sample_42 : decode cX5_sample 42 = .ok (.invokevirtual 136, 3) := by decide +kernel
theorem dX5_sample_45 : decode cX5_sample 45 = .ok (.iconst 1, 1) := by decide +kernel
theorem dX5_sample_46 : decode cX5_sample 46 = .ok (.ireturn, 1) := by decide +kernel
theorem dX5_beat_0 : decode cX5_beat 0 = .ok (.aload_n 0, 1) := by decide +kernel
theorem dX5_beat_1 : decode cX5_beat 1 = .ok (.iconst 0, 1) := by decide +kernel
theorem dX5_beat_2 : decode cX5_beat 2 = .ok (.putfield 64, 3) := by decide +kernel
theorem dX5_beat_5 : decode cX5_beat 5 = .ok (.return_, 1) := by decide +kernel
set_option maxRecDepth 20000 in
theorem ggX5_arm_X0_areEnough : GoodIn wsX5_arm wsX0_areEnough := goodIn_r _ [10, 11, 59, 60, 61] (by decide +kernel) (by decide +kernel)
set_option maxRecDepth 20000 in
theorem gX5_arm_X0_areEnough : GoodIn wsX5_arm (wsV RX5 88 RX0 yX0_areEnough wsX0_areEnough) := goodIn_app (goodIn_of _ (by decide +kernel)) ggX5_arm_X0_areEnough
set_option maxRecDepth 20000 in
theorem ggX5_arm_X0_leaveClear : GoodIn wsX5_arm wsX0_leaveClear := goodIn_r _ [15, 11, 16, 7, 8, 9, 10, 17, 18, 19, 20, 21, 22, 23, 24, 25, 26, 27, 28, 29, 30, 31, 32, 33, 34, 59, 60, 61] (by decide +kernel) (by decide +kernel)
set_option maxRecDepth 20000 in
theorem gX5_arm_X0_leaveClear : GoodIn wsX5_arm (wsV RX5 94 RX0 yX0_leaveClear wsX0_leaveClear) := goodIn_app (goodIn_of _ (by decide +kernel)) ggX5_arm_X0_leaveClear
set_option maxRecDepth 20000 in
theorem ggX5_arm_X2_enter : GoodIn wsX5_arm wsX2_enter := goodIn_r _ [39, 40, 41, 42, 56, 57, 58] (by decide +kernel) (by decide +kernel)
set_option maxRecDepth 20000 in
theorem gX5_arm_X2_enter : GoodIn wsX5_arm (wsV RX5 140 RX2 yX2_enter wsX2_enter) := goodIn_app (goodIn_of _ (by decide +kernel)) ggX5_arm_X2_enter
theorem dX5_arm_0 : decode cX5_arm 0 = .ok (.aload_n 0, 1) := by decide +kernel
theorem dX5_arm_1 : decode cX5_arm 1 = .ok (.getfield 43, 3) := by decide +kernel
theorem dX5_arm_4 : decode cX5_arm 4 = .ok (.getfield 85, 3) := by decide +kernel
theorem dX5_arm_7 : decode cX5_arm 7 = .ok (.ifCond .eq 5, 3) := by decide +kernel
theorem dX5_arm_10 : decode cX5_arm 10 = .ok (.iconst (-1), 1) := by decide +kernel
theorem dX5_arm_11 : decode cX5_arm 11 = .ok (.ireturn, 1) := by decide +kernel
theorem dX5_arm_12 : decode cX5_arm 12 = .ok (.aload_n 0, 1) := by decide +kernel
theorem dX5_arm_13 : decode cX5_arm 13 = .ok (.getfield 16, 3) := by decide +kernel
theorem dX5_arm_16 : decode cX5_arm 16 = .ok (.invokevirtual 88, 3) := by decide +kernel
theorem dX5_arm_19 : decode cX5_arm 19 = .ok (.ifCond .ne 6, 3) := by decide +kernel
end
section
theorem dX5_arm_22 : decode cX5_arm 22 = .ok (.bipush (-7), 2) := by decide +kernel
theorem dX5_arm_24 : decode cX5_arm 24 = .ok (.ireturn, 1) := by decide +kernel
theorem dX5_arm_25 : decode cX5_arm 25 = .ok (.aload_n 0, 1) := by decide +kernel
theorem dX5_arm_26 : decode cX5_arm 26 = .ok (.getfield 61, 3) := by decide +kernel
theorem dX5_arm_29 : decode cX5_arm 29 = .ok (.ifCond .gt 28, 3) := by decide +kernel
theorem dX5_arm_32 : decode cX5_arm 32 = .ok (.aload_n 0, 1) := by decide +kernel
theorem dX5_arm_33 : decode cX5_arm 33 = .ok (.getfield 16, 3) := by decide +kernel
theorem dX5_arm_36 : decode cX5_arm 36 = .ok (.aload_n 0, 1) := by decide +kernel
theorem dX5_arm_37 : decode cX5_arm 37 = .ok (.getfield 47, 3) := by decide +kernel
theorem dX5_arm_40 : decode cX5_arm 40 = .ok (.iconst 0, 1) := by decide +kernel
theorem dX5_arm_41 : decode cX5_arm 41 = .ok (.iaload, 1) := by decide +kernel
theorem dX5_arm_42 : decode cX5_arm 42 = .ok (.aload_n 0, 1) := by decide +kernel
theorem dX5_arm_43 : decode cX5_arm 43 = .ok (.getfield 47, 3) := by decide +kernel
theorem dX5_arm_46 : decode cX5_arm 46 = .ok (.iconst 1, 1) := by decide +kernel
theorem dX5_arm_47 : decode cX5_arm 47 = .ok (.iaload, 1) := by decide +kernel
theorem dX5_arm_48 : decode cX5_arm 48 = .ok (.sipush 200, 3) := by decide +kernel
theorem dX5_arm_51 : decode cX5_arm 51 = .ok (.invokevirtual 94, 3) := by decide +kernel
theorem dX5_arm_54 : decode cX5_arm 54 = .ok (.ifCond .ne 6, 3) := by decide +kernel
theorem dX5_arm_57 : decode cX5_arm 57 = .ok (.bipush (-8), 2) := by decide +kernel
theorem dX5_arm_59 : decode cX5_arm 59 = .ok (.ireturn, 1) := by decide +kernel
theorem dX5_arm_60 : decode cX5_arm 60 = .ok (.aload_n 0, 1) := by decide +kernel
theorem dX5_arm_61 : decode cX5_arm 61 = .ok (.getfield 43, 3) := by decide +kernel
theorem dX5_arm_64 : decode cX5_arm 64 = .ok (.iconst 1, 1) := by decide +kernel
theorem dX5_arm_65 : decode cX5_arm 65 = .ok (.aload_n 0, 1) := by decide +kernel
theorem dX5_arm_66 : decode cX5_arm 66 = .ok (.getfield 67, 3) := by decide +kernel
theorem dX5_arm_69 : decode cX5_arm 69 = .ok (.invokevirtual 140, 3) := by decide +kernel
theorem dX5_arm_72 : decode cX5_arm 72 = .ok (.iconst 0, 1) := by decide +kernel
theorem dX5_arm_73 : decode cX5_arm 73 = .ok (.ireturn, 1) := by decide +kernel
set_option maxRecDepth 20000 in
theorem ggX5_command_X5_isWithin : GoodIn wsX5_command wsX5_isWithin := goodIn_r _ [7] (by decide +kernel) (by decide +kernel)
set_option maxRecDepth 20000 in
theorem gX5_command_X5_isWithin : GoodIn wsX5_command (va_wsS RX5 98 yX5_isWithin wsX5_isWithin) := goodIn_app (goodIn_of _ (by decide +kernel)) ggX5_command_X5_isWithin
set_option maxRecDepth 20000 in
theorem ggX5_command_X1_isEmpty : GoodIn wsX5_command wsX1_isEmpty := goodIn_r _ [12, 13, 38, 39] (by decide +kernel) (by decide +kernel)
set_option maxRecDepth 20000 in
theorem gX5_command_X1_isEmpty : GoodIn wsX5_command (wsV RX5 146 RX1 yX1_isEmpty wsX1_isEmpty) := goodIn_app (goodIn_of _ (by decide +kernel)) ggX5_command_X1_isEmpty
set_option maxRecDepth 20000 in
theorem ggX5_command_X2_enter : GoodIn wsX5_command wsX2_enter := goodIn_r _ [18, 19, 20, 21, 35, 36, 37] (by decide +kernel) (by decide +kernel)
set_option maxRecDepth 20000 in
theorem gX5_command_X2_enter : GoodIn wsX5_command (wsV RX5 140 RX2 yX2_enter wsX2_enter) := goodIn_app (goodIn_of _ (by decide +kernel)) ggX5_command_X2_enter
theorem dX5_command_0 : decode cX5_command 0 = .ok (.iload_n 1, 1) := by decide +kernel
theorem dX5_command_1 : decode cX5_command 1 = .ok (.iconst 2, 1) := by decide +kernel
theorem dX5_command_2 : decode cX5_command 2 = .ok (.iconst 5, 1) := by decide +kernel
theorem dX5_command_3 : decode cX5_command 3 = .ok (.invokestatic 98, 3) := by decide +kernel
theorem dX5_command_6 : decode cX5_command 6 = .ok (.ifCond .ne 6, 3) := by decide +kernel
theorem dX5_command_9 : decode cX5_command 9 = .ok (.bipush (-5), 2) := by decide +kernel
theorem dX5_command_11 : decode cX5_command 11 = .ok (.ireturn, 1) := by decide +kernel
theorem dX5_command_12 : decode cX5_command 12 = .ok (.aload_n 0, 1) := by decide +kernel
theorem dX5_command_13 : decode cX5_command 13 = .ok (.getfield 43, 3) := by decide +kernel
theorem dX5_command_16 : decode cX5_command 16 = .ok (.getfield 85, 3) := by decide +kernel
theorem dX5_command_19 : decode cX5_command 19 = .ok (.ifCond .ne 6, 3) := by decide +kernel
theorem dX5_command_22 : decode cX5_command 22 = .ok (.bipush (-9), 2) := by decide +kernel
theorem dX5_command_24 : decode cX5_command 24 = .ok (.ireturn, 1) := by decide +kernel
theorem dX5_command_25 : decode cX5_command 25 = .ok (.aload_n 0, 1) := by decide +kernel
theorem dX5_command_26 : decode cX5_command 26 = .ok (.getfield 43, 3) := by decide +kernel
theorem dX5_command_29 : decode cX5_command 29 = .ok (.getfield 143, 3) := by decide +kernel
theorem dX5_command_32 : decode cX5_command 32 = .ok (.ifCond .ne 19, 3) := by decide +kernel
theorem dX5_command_35 : decode cX5_command 35 = .ok (.aload_n 0, 1) := by decide +kernel
theorem dX5_command_36 : decode cX5_command 36 = .ok (.getfield 43, 3) := by decide +kernel
theorem dX5_command_39 : decode cX5_command 39 = .ok (.getfield 85, 3) := by decide +kernel
theorem dX5_command_42 : decode cX5_command 42 = .ok (.iconst 1, 1) := by decide +kernel
theorem dX5_command_43 : decode cX5_command 43 = .ok (.if_icmp .ne 11, 3) := by decide +kernel
theorem dX5_command_46 : decode cX5_command 46 = .ok (.iload_n 1, 1) := by decide +kernel
theorem dX5_command_47 : decode cX5_command 47 = .ok (.iconst 2, 1) := by decide +kernel
theorem dX5_command_48 : decode cX5_command 48 = .ok (.if_icmp .ne 6, 3) := by decide +kernel
theorem dX5_command_51 : decode cX5_command 51 = .ok (.bipush (-10), 2) := by decide +kernel
theorem dX5_command_53 : decode cX5_command 53 = .ok (.ireturn, 1) := by decide +kernel
theorem dX5_command_54 : decode cX5_command 54 = .ok (.iload_n 1, 1) := by decide +kernel
theorem dX5_command_55 : decode cX5_command 55 = .ok (.iconst 2, 1) := by decide +kernel
theorem dX5_command_56 : decode cX5_command 56 = .ok (.if_icmp .ne 16, 3) := by decide +kernel
theorem dX5_command_59 : decode cX5_command 59 = .ok (.aload_n 0, 1) := by decide +kernel
theorem dX5_command_60 : decode cX5_command 60 = .ok (.getfield 29, 3) := by decide +kernel
theorem dX5_command_63 : decode cX5_command 63 = .ok (.invokevirtual 146, 3) := by decide +kernel
theorem dX5_command_66 : decode cX5_command 66 = .ok (.ifCond .eq 6, 3) := by decide +kernel
theorem dX5_command_69 : decode cX5_command 69 = .ok (.bipush (-11), 2) := by decide +kernel
theorem dX5_command_71 : decode cX5_command 71 = .ok (.ireturn, 1) := by decide +kernel
theorem dX5_command_72 : decode cX5_command 72 = .ok (.aload_n 0, 1) := by decide +kernel
theorem dX5_command_73 : decode cX5_command 73 = .ok (.getfield 43, 3) := by decide +kernel
theorem dX5_command_76 : decode cX5_command 76 = .ok (.iload_n 1, 1) := by decide +kernel
theorem dX5_command_77 : decode cX5_command 77 = .ok (.aload_n 0, 1) := by decide +kernel
theorem dX5_command_78 : decode cX5_command 78 = .ok (.getfield 67, 3) := by decide +kernel
theorem dX5_command_81 : decode cX5_command 81 = .ok (.invokevirtual 140, 3) := by decide +kernel
theorem dX5_command_84 : decode cX5_command 84 = .ok (.iconst 0, 1) := by decide +kernel
theorem dX5_command_85 : decode cX5_command 85 = .ok (.ireturn, 1) := by decide +kernel
set_option maxRecDepth 20000 in
theorem ggX5_tick_X5_isWithin : GoodIn wsX5_tick wsX5_isWithin := goodIn_r _ [8] (by decide +kernel) (by decide +kernel)
set_option maxRecDepth 20000 in
theorem gX5_tick_X5_isWithin : GoodIn wsX5_tick (va_wsS RX5 98 yX5_isWithin wsX5_isWithin) := goodIn_app (goodIn_of _ (by decide +kernel)) ggX5_tick_X5_isWithin
set_option maxRecDepth 20000 in
theorem ggX5_tick_X4_growOlder : GoodIn wsX5_tick wsX4_growOlder := goodIn_r _ [13, 14, 15, 16, 179, 180, 181, 182, 183] (by decide +kernel) (by decide +kernel)
set_option maxRecDepth 20000 in
theorem gX5_tick_X4_growOlder : GoodIn wsX5_tick (wsV RX5 149 RX4 yX4_growOlder wsX4_growOlder) := goodIn_app (goodIn_of _ (by decide +kernel)) ggX5_tick_X4_growOlder
set_option maxRecDepth 20000 in
theorem ggX5_tick_X5_locate : GoodIn wsX5_tick wsX5_locate := goodIn_r _ [20, 21, 22, 23, 24, 25, 26, 27, 28, 29, 30, 31, 32, 33, 34, 35, 36, 37, 38, 39, 40, 41, 42, 43, 44, 45, 46, 47, 48, 49, 50, 51, 52, 53, 163, 164, 165, 166, 167, 168, 169, 170, 171, 172, 173, 174, 175, 184, 185] (by decide +kernel) (by decide +kernel)
set_option maxRecDepth 20000 in
theorem gX5_tick_X5_locate : GoodIn wsX5_tick (wsV RX5 152 RX5 yX5_locate wsX5_locate) := goodIn_app (goodIn_of _ (by decide +kernel)) ggX5_tick_X5_locate
set_option maxRecDepth 20000 in
theorem ggX5_tick_X5_setWish : GoodIn wsX5_tick wsX5_setWish := goodIn_r _ [57, 58, 163, 164, 165, 166, 167, 168, 169, 170, 171, 172, 173, 174, 175] (by decide +kernel) (by decide +kernel)
set_option maxRecDepth 20000 in
theorem gX5_tick_X5_setWish : GoodIn wsX5_tick (wsV RX5 155 RX5 yX5_setWish wsX5_setWish) := goodIn_app (goodIn_of _ (by decide +kernel)) ggX5_tick_X5_setWish
set_option maxRecDepth 20000 in
theorem ggX5_tick_X5_fly : GoodIn wsX5_tick wsX5_fly := goodIn_r _ [62, 22, 4, 63, 64, 65, 7, 66, 1, 3, 67, 68, 69, 70, 71, 72, 73, 74, 75, 76, 77, 78, 79, 80, 81, 82, 83, 23, 84, 85, 86, 87, 88, 89, 90, 91, 92, 93, 94, 95, 96, 97, 98, 99, 100, 6, 8, 101, 102, 103, 5, 104, 105, 106, 107, 108, 109, 110, 111, 54, 55, 56, 57, 58, 112, 113, 114, 115, 116, 117, 118, 119, 40, 41, 42, 120, 44, 45, 121, 122, 123, 124, 125, 126, 127, 128, 129, 130, 131, 132, 133, 134, 135, 136, 137, 138, 139, 140, 141, 142, 143, 144, 145, 146, 147, 148, 149, 150, 151, 152, 153, 154, 155, 156, 157, 158, 159, 160, 161, 162, 163, 164, 165, 166, 167, 168, 169, 170, 171, 172, 173, 174, 175, 176, 177, 178, 186, 187, 188, 189, 190] (by decide +kernel) (by decide +kernel)
set_option maxRecDepth 20000 in
theorem gX5_tick_X5_fly : GoodIn wsX5_tick (wsV RX5 158 RX5 yX5_fly wsX5_fly) := goodIn_app (goodIn_of _ (by decide +kernel)) ggX5_tick_X5_fly
theorem dX5_tick_0 : decode cX5_tick 0 = .ok (.iload_n 1, 1) := by decide +kernel
theorem dX5_tick_1 : decode cX5_tick 1 = .ok (.iconst 0, 1) := by decide +kernel
theorem dX5_tick_2 : decode cX5_tick 2 = .ok (.bipush 100, 2) := by decide +kernel
theorem dX5_tick_4 : decode cX5_tick 4 = .ok (.invokestatic 98, 3) := by decide +kernel
theorem dX5_tick_7 : decode cX5_tick 7 = .ok (.ifCond .ne 6, 3) := by decide +kernel
theorem dX5_tick_10 : decode cX5_tick 10 = .ok (.bipush (-5), 2) := by decide +kernel
theorem dX5_tick_12 : decode cX5_tick 12 = .ok (.ireturn, 1) := by decide +kernel
theorem dX5_tick_13 : decode cX5_tick 13 = .ok (.aload_n 0, 1) := by decide +kernel
theorem dX5_tick_14 : decode cX5_tick 14 = .ok (.dup, 1) := by decide +kernel
theorem dX5_tick_15 : decode cX5_tick 15 = .ok (.getfield 67, 3) := by decide +kernel
theorem dX5_tick_18 : decode cX5_tick 18 = .ok (.iconst 1, 1) := by decide +kernel
theorem dX5_tick_19 : decode cX5_tick 19 = .ok (.iadd, 1) := by decide +kernel
theorem dX5_tick_20 : decode cX5_tick 20 = .ok (.putfield 67, 3) := by decide +kernel
theorem dX5_tick_23 : decode cX5_tick 23 = .ok (.aload_n 0, 1) := by decide +kernel
theorem dX5_tick_24 : decode cX5_tick 24 = .ok (.getfield 22, 3) := by decide +kernel
theorem dX5_tick_27 : decode cX5_tick 27 = .ok (.invokevirtual 149, 3) := by decide +kernel
theorem dX5_tick_30 : decode cX5_tick 30 = .ok (.aload_n 0, 1) := by decide +kernel
theorem dX5_tick_31 : decode cX5_tick 31 = .ok (.invokevirtual 152, 3) := by decide +kernel
theorem dX5_tick_34 : decode cX5_tick 34 = .ok (.aload_n 0, 1) := by decide +kernel
theorem dX5_tick_35 : decode cX5_tick 35 = .ok (.dup, 1) := by decide +kernel
theorem dX5_tick_36 : decode cX5_tick 36 = .ok (.getfield 64, 3) := by decide +kernel
theorem dX5_tick_39 : decode cX5_tick 39 = .ok (.iconst 1, 1) := by decide +kernel
theorem dX5_tick_40 : decode cX5_tick 40 = .ok (.iadd, 1) := by decide +kernel
theorem dX5_tick_41 : decode cX5_tick 41 = .ok (.putfield 64, 3) := by decide +kernel
theorem dX5_tick_44 : decode cX5_tick 44 = .ok (.aload_n 0, 1) := by decide +kernel
theorem dX5_tick_45 : decode cX5_tick 45 = .ok (.getfield 43, 3) := by decide +kernel
theorem dX5_tick_48 : decode cX5_tick 48 = .ok (.getfield 85, 3) := by decide +kernel
theorem dX5_tick_51 : decode cX5_tick 51 = .ok (.ifCond .ne 13, 3) := by decide +kernel
theorem dX5_tick_54 : decode cX5_tick 54 = .ok (.aload_n 0, 1) := by decide +kernel
theorem dX5_tick_55 : decode cX5_tick 55 = .ok (.iconst 0, 1) := by decide +kernel
theorem dX5_tick_56 : decode cX5_tick 56 = .ok (.iconst 0, 1) := by decide +kernel
theorem dX5_tick_57 : decode cX5_tick 57 = .ok (.iconst 0, 1) := by decide +kernel
theorem dX5_tick_58 : decode cX5_tick 58 = .ok (.invokevirtual 155, 3) := by decide +kernel
theorem dX5_tick_61 : decode cX5_tick 61 = .ok (.goto 8, 3) := by decide +kernel
theorem dX5_tick_64 : decode cX5_tick 64 = .ok (.aload_n 0, 1) := by decide +kernel
theorem dX5_tick_65 : decode cX5_tick 65 = .ok (.iload_n 1, 1) := by decide +kernel
theorem dX5_tick_66 : decode cX5_tick 66 = .ok (.invokevirtual 158, 3) := by decide +kernel
theorem dX5_tick_69 : decode cX5_tick 69 = .ok (.aload_n 0, 1) := by decide +kernel
theorem dX5_tick_70 : decode cX5_tick 70 = .ok (.getfield 43, 3) := by decide +kernel
theorem dX5_tick_73 : decode cX5_tick 73 = .ok (.getfield 85, 3) := by decide +kernel
theorem dX5_tick_76 : decode cX5_tick 76 = .ok (.ireturn, 1) := by decide +kernel
theorem dX5_mode_0 : decode cX5_mode 0 = .ok (.aload_n 0, 1) := by decide +kernel
theorem dX5_mode_1 : decode cX5_mode 1 = .ok (.getfield 43, 3) := by decide +kernel
theorem dX5_mode_4 : decode cX5_mode 4 = .ok (.getfield 85, 3) := by decide +kernel
theorem dX5_mode_7 : decode cX5_mode 7 = .ok (.ireturn, 1) := by decide +kernel
set_option maxRecDepth 20000 in
theorem ggX5_demand_X5_isWithin : GoodIn wsX5_demand wsX5_isWithin := goodIn_r _ [5] (by decide +kernel) (by decide +kernel)
set_option maxRecDepth 20000 in
theorem gX5_demand_X5_isWithin : GoodIn wsX5_demand (va_wsS RX5 98 yX5_isWithin wsX5_isWithin) := goodIn_app (goodIn_of _ (by decide +kernel)) ggX5_demand_X5_isWithin
theorem dX5_demand_0 : decode cX5_demand 0 = .ok (.iload_n 1, 1) := by decide +kernel
theorem dX5_demand_1 : decode cX5_demand 1 = .ok (.iconst 0, 1) := by decide +kernel
theorem dX5_demand_2 : decode cX5_demand 2 = .ok (.iconst 2, 1) := by decide +kernel
theorem dX5_demand_3 : decode cX5_demand 3 = .ok (.invokestatic 98, 3) := by decide +kernel
theorem dX5_demand_6 : decode cX5_demand 6 = .ok (.ifCond .eq 12, 3) := by decide +kernel
theorem dX5_demand_9 : decode cX5_demand 9 = .ok (.aload_n 0, 1) := by decide +kernel
theorem dX5_demand_10 : decode cX5_demand 10 = .ok (.getfield 51, 3) := by decide +kernel
theorem dX5_demand_13 : decode cX5_demand 13 = .ok (.iload_n 1, 1) := by decide +kernel
theorem dX5_demand_14 : decode cX5_demand 14 = .ok (.iaload, 1) := by decide +kernel
theorem dX5_demand_15 : decode cX5_demand 15 = .ok (.goto 4, 3) := by decide +kernel
theorem dX5_demand_18 : decode cX5_demand 18 = .ok (.iconst 0, 1) := by decide +kernel
theorem dX5_demand_19 : decode cX5_demand 19 = .ok (.ireturn, 1) := by decide +kernel
set_option maxRecDepth 20000 in
theorem ggX5_position_X5_isWithin : GoodIn wsX5_position wsX5_isWithin := goodIn_r _ [5] (by decide +kernel) (by decide +kernel)
set_option maxRecDepth 20000 in
theorem gX5_position_X5_isWithin : GoodIn wsX5_position (va_wsS RX5 98 yX5_isWithin wsX5_isWithin) := goodIn_app (goodIn_of _ (by decide +kernel)) ggX5_position_X5_isWithin
theorem dX5_position_0 : decode cX5_position 0 = .ok (.iload_n 1, 1) := by decide +kernel
theorem dX5_position_1 : decode cX5_position 1 = .ok (.iconst 0, 1) := by decide +kernel
theorem dX5_position_2 : decode cX5_position 2 = .ok (.iconst 2, 1) := by decide +kernel
theorem dX5_position_3 : decode cX5_position 3 = .ok (.invokestatic 98, 3) := by decide +kernel
theorem dX5_position_6 : decode cX5_position 6 = .ok (.ifCond .eq 12, 3) := by decide +kernel
theorem dX5_position_9 : decode cX5_position 9 = .ok (.aload_n 0, 1) := by decide +kernel
theorem dX5_position_10 : decode cX5_position 10 = .ok (.getfield 47, 3) := by decide +kernel
theorem dX5_position_13 : decode cX5_position 13 = .ok (.iload_n 1, 1) := by decide +kernel
theorem dX5_position_14 : decode cX5_position 14 = .ok (.iaload, 1) := by decide +kernel
theorem dX5_position_15 : decode cX5_position 15 = .ok (.goto 4, 3) := by decide +kernel
theorem dX5_position_18 : decode cX5_position 18 = .ok (.iconst 0, 1) := by decide +kernel
theorem dX5_position_19 : decode cX5_position 19 = .ok (.ireturn, 1) := by decide +kernel
theorem dX5_lost_0 : decode cX5_lost 0 = .ok (.aload_n 0, 1) := by decide +kernel
theorem dX5_lost_1 : decode cX5_lost 1 = .ok (.getfield 61, 3) := by decide +kernel
theorem dX5_lost_4 : decode cX5_lost 4 = .ok (.ireturn, 1) := by decide +kernel
set_option maxRecDepth 20000 in
theorem ggX5_waypoint_X1_isEmpty : GoodIn wsX5_waypoint wsX1_isEmpty := goodIn_r _ [7, 8, 22, 23] (by decide +kernel) (by decide +kernel)
set_option maxRecDepth 20000 in
theorem gX5_waypoint_X1_isEmpty : GoodIn wsX5_waypoint (wsV RX5 146 RX1 yX1_isEmpty wsX1_isEmpty) := goodIn_app (goodIn_of _ (by decide +kernel)) ggX5_waypoint_X1_isEmpty
theorem dX5_waypoint_0 : decode cX5_waypoint 0 = .ok (.aload_n 0, 1) := by decide +kernel
theorem dX5_waypoint_1 : decode cX5_waypoint 1 = .ok (.getfield 29, 3) := by decide +kernel
theorem dX5_waypoint_4 : decode cX5_waypoint 4 = .ok (.invokevirtual 146, 3) := by decide +kernel
theorem dX5_waypoint_7 : decode cX5_waypoint 7 = .ok (.ifCond .eq 8, 3) := by decide +kernel
theorem dX5_waypoint_10 : decode cX5_waypoint 10 = .ok (.bipush (-11), 2) := by decide +kernel
theorem dX5_waypoint_12 : decode cX5_waypoint 12 = .ok (.goto 7, 3) := by decide +kernel
theorem dX5_waypoint_15 : decode cX5_waypoint 15 = .ok (.aload_n 0, 1) := by decide +kernel
theorem dX5_waypoint_16 : decode cX5_waypoint 16 = .ok (.getfield 58, 3) := by decide +kernel
theorem dX5_waypoint_19 : decode cX5_waypoint 19 = .ok (.ireturn, 1) := by decide +kernel
set_option maxRecDepth 20000 in
theorem ggX5_safe_X5_isInSensorReach : GoodIn wsX5_safe wsX5_isInSensorReach := goodIn_r _ [5, 6, 7, 4, 8] (by decide +kernel) (by decide +kernel)
set_option maxRecDepth 20000 in
theorem gX5_safe_X5_isInSensorReach : GoodIn wsX5_safe (va_wsS RX5 133 yX5_isInSensorReach wsX5_isInSensorReach) := goodIn_app (goodIn_of _ (by decide +kernel)) ggX5_safe_X5_isInSensorReach
set_option maxRecDepth 20000 in
theorem ggX5_safe_X0_leaveClear : GoodIn wsX5_safe wsX0_leaveClear := goodIn_r _ [13, 14, 15, 16, 17, 12, 18, 19, 20, 21, 22, 23, 24, 25, 26, 27, 28, 29, 30, 31, 32, 33, 34, 35, 36, 50, 51, 52] (by decide +kernel) (by decide +kernel)
set_option maxRecDepth 20000 in
theorem gX5_safe_X0_leaveClear : GoodIn wsX5_safe (wsV RX5 94 RX0 yX0_leaveClear wsX0_leaveClear) := goodIn_app (goodIn_of _ (by decide +kernel)) ggX5_safe_X0_leaveClear
theorem dX5_safe_0 : decode cX5_safe 0 = .ok (.iload_n 1, 1) := by decide +kernel
theorem dX5_safe_1 : decode cX5_safe 1 = .ok (.iload_n 2, 1) := by decide +kernel
theorem dX5_safe_2 : decode cX5_safe 2 = .ok (.invokestatic 133, 3) := by decide +kernel
theorem dX5_safe_5 : decode cX5_safe 5 = .ok (.ifCond .eq 22, 3) := by decide +kernel
theorem dX5_safe_8 : decode cX5_safe 8 = .ok (.aload_n 0, 1) := by decide +kernel
theorem dX5_safe_9 : decode cX5_safe 9 = .ok (.getfield 16, 3) := by decide +kernel
theorem dX5_safe_12 : decode cX5_safe 12 = .ok (.iload_n 1, 1) := by decide +kernel
theorem dX5_safe_13 : decode cX5_safe 13 = .ok (.iload_n 2, 1) := by decide +kernel
theorem dX5_safe_14 : decode cX5_safe 14 = .ok (.sipush 200, 3) := by decide +kernel
theorem dX5_safe_17 : decode cX5_safe 17 = .ok (.invokevirtual 94, 3) := by decide +kernel
theorem dX5_safe_20 : decode cX5_safe 20 = .ok (.ifCond .eq 7, 3) := by decide +kernel
theorem dX5_safe_23 : decode cX5_safe 23 = .ok (.iconst 1, 1) := by decide +kernel
theorem dX5_safe_24 : decode cX5_safe 24 = .ok (.goto 4, 3) := by decide +kernel
theorem dX5_safe_27 : decode cX5_safe 27 = .ok (.iconst 0, 1) := by decide +kernel
theorem dX5_safe_28 : decode cX5_safe 28 = .ok (.ireturn, 1) := by decide +kernel
set_option maxRecDepth 20000 in
theorem ggX5_change_X5_isWithin : GoodIn wsX5_change wsX5_isWithin := goodIn_r _ [5] (by decide +kernel) (by decide +kernel)
set_option maxRecDepth 20000 in
theorem gX5_change_X5_isWithin : GoodIn wsX5_change (va_wsS RX5 98 yX5_isWithin wsX5_isWithin) := goodIn_app (goodIn_of _ (by decide +kernel)) ggX5_change_X5_isWithin
theorem dX5_change_0 : decode cX5_change 0 = .ok (.iload_n 1, 1) := by decide +kernel
theorem dX5_change_1 : decode cX5_change 1 = .ok (.iconst 0, 1) := by decide +kernel
theorem dX5_change_2 : decode cX5_change 2 = .ok (.bipush 15, 2) := by decide +kernel
theorem dX5_change_4 : decode cX5_change 4 = .ok (.invokestatic 98, 3) := by decide +kernel
theorem dX5_change_7 : decode cX5_change 7 = .ok (.ifCond .eq 15, 3) := by decide +kernel
theorem dX5_change_10 : decode cX5_change 10 = .ok (.aload_n 0, 1) := by decide +kernel
theorem dX5_change_11 : decode cX5_change 11 = .ok (.getfield 43, 3) := by decide +kernel
theorem dX5_change_14 : decode cX5_change 14 = .ok (.getfield 161, 3) := by decide +kernel
theorem dX5_change_17 : decode cX5_change 17 = .ok (.iload_n 1, 1) := by decide +kernel
theorem dX5_change_18 : decode cX5_change 18 = .ok (.iaload, 1) := by decide +kernel
theorem dX5_change_19 : decode cX5_change 19 = .ok (.goto 4, 3) := by decide +kernel
theorem dX5_change_22 : decode cX5_change 22 = .ok (.iconst (-1), 1) := by decide +kernel
theorem dX5_change_23 : decode cX5_change 23 = .ok (.ireturn, 1) := by decide +kernel
set_option maxRecDepth 20000 in
theorem ggX5_locate_X3_countFresh : GoodIn wsX5_locate wsX3_countFresh := goodIn_r _ [8, 9, 47, 48] (by decide +kernel) (by decide +kernel)
set_option maxRecDepth 20000 in
theorem gX5_locate_X3_countFresh : GoodIn wsX5_locate (wsV RX5 164 RX3 yX3_countFresh wsX3_countFresh) := goodIn_app (goodIn_of _ (by decide +kernel)) ggX5_locate_X3_countFresh
set_option maxRecDepth 20000 in
theorem ggX5_locate_X3_vote : GoodIn wsX5_locate wsX3_vote := goodIn_r _ [13, 14, 9, 15, 5, 6, 7, 8, 16, 17, 18, 19, 20, 21, 22, 23, 24, 25, 26, 27, 28, 29, 47, 48] (by decide +kernel) (by decide +kernel)
set_option maxRecDepth 20000 in
theorem gX5_locate_X3_vote : GoodIn wsX5_locate (wsV RX5 167 RX3 yX3_vote wsX3_vote) := goodIn_app (goodIn_of _ (by decide +kernel)) ggX5_locate_X3_vote
set_option maxRecDepth 20000 in
theorem ggX5_locate_X3_forget : GoodIn wsX5_locate wsX3_forget := goodIn_r _ [33, 9, 47, 48] (by decide +kernel) (by decide +kernel)
set_option maxRecDepth 20000 in
theorem gX5_locate_X3_forget : GoodIn wsX5_locate (wsV RX5 171 RX3 yX3_forget wsX3_forget) := goodIn_app (goodIn_of _ (by decide +kernel)) ggX5_locate_X3_forget
theorem dX5_locate_0 : decode cX5_locate 0 = .ok (.aload_n 0, 1) := by decide +kernel
theorem dX5_locate_1 : decode cX5_locate 1 = .ok (.getfield 36, 3) := by decide +kernel
theorem dX5_locate_4 : decode cX5_locate 4 = .ok (.invokevirtual 164, 3) := by decide +kernel
theorem dX5_locate_7 : decode cX5_locate 7 = .ok (.iconst 2, 1) := by decide +kernel
theorem dX5_locate_8 : decode cX5_locate 8 = .ok (.if_icmp .ge 16, 3) := by decide +kernel
theorem dX5_locate_11 : decode cX5_locate 11 = .ok (.aload_n 0, 1) := by decide +kernel
theorem dX5_locate_12 : decode cX5_locate 12 = .ok (.dup, 1) := by decide +kernel
theorem dX5_locate_13 : decode cX5_locate 13 = .ok (.getfield 61, 3) := by decide +kernel
theorem dX5_locate_16 : decode cX5_locate 16 = .ok (.iconst 1, 1) := by decide +kernel
theorem dX5_locate_17 : decode cX5_locate 17 = .ok (.iadd, 1) := by decide +kernel
theorem dX5_locate_18 : decode cX5_locate 18 = .ok (.putfield 61, 3) := by decide +kernel
theorem dX5_locate_21 : decode cX5_locate 21 = .ok (.goto 35, 3) := by decide +kernel
theorem dX5_locate_24 : decode cX5_locate 24 = .ok (.iconst 0, 1) := by decide +kernel
theorem dX5_locate_25 : decode cX5_locate 25 = .ok (.istore_n 1, 1) := by decide +kernel
theorem dX5_locate_26 : decode cX5_locate 26 = .ok (.iload_n 1, 1) := by decide +kernel
theorem dX5_locate_27 : decode cX5_locate 27 = .ok (.iconst 3, 1) := by decide +kernel
theorem dX5_locate_28 : decode cX5_locate 28 = .ok (.if_icmp .ge 23, 3) := by decide +kernel
theorem dX5_locate_31 : decode cX5_locate 31 = .ok (.aload_n 0, 1) := by decide +kernel
theorem dX5_locate_32 : decode cX5_locate 32 = .ok (.getfield 47, 3) := by decide +kernel
theorem dX5_locate_35 : decode cX5_locate 35 = .ok (.iload_n 1, 1) := by decide +kernel
theorem dX5_locate_36 : decode cX5_locate 36 = .ok (.aload_n 0, 1) := by decide +kernel
theorem dX5_locate_37 : decode cX5_locate 37 = .ok (.getfield 36, 3) := by decide +kernel
theorem dX5_locate_40 : decode cX5_locate 40 = .ok (.iload_n 1, 1) := by decide +kernel
theorem dX5_locate_41 : decode cX5_locate 41 = .ok (.invokevirtual 167, 3) := by decide +kernel
theorem dX5_locate_44 : decode cX5_locate 44 = .ok (.iastore, 1) := by decide +kernel
theorem dX5_locate_45 : decode cX5_locate 45 = .ok (.iinc 1 1, 3) := by decide +kernel
theorem dX5_locate_48 : decode cX5_locate 48 = .ok (.goto (-22), 3) := by decide +kernel
theorem dX5_locate_51 : decode cX5_locate 51 = .ok (.aload_n 0, 1) := by decide +kernel
theorem dX5_locate_52 : decode cX5_locate 52 = .ok (.iconst 0, 1) := by decide +kernel
theorem dX5_locate_53 : decode cX5_locate 53 = .ok (.putfield 61, 3) := by decide +kernel
theorem dX5_locate_56 : decode cX5_locate 56 = .ok (.aload_n 0, 1) := by decide +kernel
theorem dX5_locate_57 : decode cX5_locate 57 = .ok (.getfield 36, 3) := by decide +kernel
theorem dX5_locate_60 : decode cX5_locate 60 = .ok (.invokevirtual 171, 3) := by decide +kernel
theorem dX5_locate_63 : decode cX5_locate 63 = .ok (.return_, 1) := by decide +kernel
set_option maxRecDepth 20000 in
theorem ggX5_fly_X5_applyFailsafes : GoodIn wsX5_fly wsX5_applyFailsafes := goodIn_r _ [7, 1, 2, 8, 9, 10, 11, 12, 13, 14, 15, 16, 17, 18, 19, 20, 21, 22, 120, 121, 122, 123, 124, 125, 126, 127, 128, 129, 130, 131, 132, 133, 134, 135] (by decide +kernel) (by decide +kernel)
set_option maxRecDepth 20000 in
theorem gX5_fly_X5_applyFailsafes : GoodIn wsX5_fly (wsV RX5 174 RX5 yX5_applyFailsafes wsX5_applyFailsafes) := goodIn_app (goodIn_of _ (by decide +kernel)) ggX5_fly_X5_applyFailsafes
set_option maxRecDepth 20000 in
theorem ggX5_fly_X5_moveOn : GoodIn wsX5_fly wsX5_moveOn := goodIn_r _ [26, 2, 27, 28, 8, 29, 30, 31, 32, 33, 34, 22, 17, 18, 13, 19, 20, 15, 21, 35, 36, 37, 6, 38, 39, 40, 41, 42, 43, 44, 45, 46, 47, 48, 49, 50, 51, 52, 53, 54, 120, 121, 122, 123, 124, 125, 126, 127, 128, 129, 130, 131, 132, 133, 134, 135, 136, 137] (by decide +kernel) (by decide +kernel)
set_option maxRecDepth 20000 in
theorem gX5_fly_X5_moveOn : GoodIn wsX5_fly (wsV RX5 177 RX5 yX5_moveOn wsX5_moveOn) := goodIn_app (goodIn_of _ (by decide +kernel)) ggX5_fly_X5_moveOn
set_option maxRecDepth 20000 in
theorem ggX5_fly_X5_guide : GoodIn wsX5_fly wsX5_guide := goodIn_r _ [58, 2, 27, 59, 60, 61, 6, 62, 63, 64, 65, 66, 67, 28, 39, 40, 41, 42, 32, 43, 34, 44, 45, 46, 68, 69, 70, 71, 72, 73, 74, 75, 76, 77, 120, 121, 122, 123, 124, 125, 126, 127, 128, 129, 130, 131, 132, 133, 134, 135, 136, 137] (by decide +kernel) (by decide +kernel)
set_option maxRecDepth 20000 in
theorem gX5_fly_X5_guide : GoodIn wsX5_fly (wsV RX5 180 RX5 yX5_guide wsX5_guide) := goodIn_app (goodIn_of _ (by decide +kernel)) ggX5_fly_X5_guide
set_option maxRecDepth 20000 in
theorem ggX5_fly_X5_flyBlind : GoodIn wsX5_fly wsX5_flyBlind := goodIn_r _ [81, 2, 63, 59, 60, 61, 6, 62, 120, 121, 122, 123, 124, 125, 126, 127, 128, 129, 130, 131, 132, 133, 134, 135] (by decide +kernel) (by decide +kernel)
set_option maxRecDepth 20000 in
theorem gX5_fly_X5_flyBlind : GoodIn wsX5_fly (wsV RX5 183 RX5 yX5_flyBlind wsX5_flyBlind) := goodIn_app (goodIn_of _ (by decide +kernel)) ggX5_fly_X5_flyBlind
set_option maxRecDepth 20000 in
theorem ggX5_fly_X5_guardSides : GoodIn wsX5_fly wsX5_guardSides := goodIn_r _ [85, 27, 86, 63, 87, 88, 89, 90, 91, 92, 93, 94, 95, 96, 97, 98, 99, 100, 101, 102, 103, 104, 105, 106, 107, 108, 109, 110, 111, 112, 113, 114, 68, 69, 6, 70, 71, 72, 73, 74, 75, 76, 77, 59, 60, 61, 62, 120, 121, 122, 123, 124, 125, 126, 127, 128, 129, 130, 131, 132, 138, 139, 140] (by decide +kernel) (by decide +kernel)
set_option maxRecDepth 20000 in
theorem gX5_fly_X5_guardSides : GoodIn wsX5_fly (wsV RX5 186 RX5 yX5_guardSides wsX5_guardSides) := goodIn_app (goodIn_of _ (by decide +kernel)) ggX5_fly_X5_guardSides
set_option maxRecDepth 20000 in
theorem ggX5_fly_X5_guardTop : GoodIn wsX5_fly wsX5_guardTop := goodIn_r _ [118, 119, 27, 63, 75, 76, 73, 77, 120, 121, 122, 123, 124, 125, 126, 127, 128, 129, 130, 131, 132] (by decide +kernel) (by decide +kernel)
set_option maxRecDepth 20000 in
theorem gX5_fly_X5_guardTop : GoodIn wsX5_fly (wsV RX5 189 RX5 yX5_guardTop wsX5_guardTop) := goodIn_app (goodIn_of _ (by decide +kernel)) ggX5_fly_X5_guardTop
theorem dX5_fly_0 : decode cX5_fly 0 = .ok (.aload_n 0, 1) := by decide +kernel
theorem dX5_fly_1 : decode cX5_fly 1 = .ok (.iload_n 1, 1) := by decide +kernel
theorem dX5_fly_2 : decode cX5_fly 2 = .ok (.invokevirtual 174, 3) := by decide +kernel
theorem dX5_fly_5 : decode cX5_fly 5 = .ok (.aload_n 0, 1) := by decide +kernel
theorem dX5_fly_6 : decode cX5_fly 6 = .ok (.getfield 61, 3) := by decide +kernel
theorem dX5_fly_9 : decode cX5_fly 9 = .ok (.ifCond .ne 7, 3) := by decide +kernel
theorem dX5_fly_12 : decode cX5_fly 12 = .ok (.aload_n 0, 1) := by decide +kernel
theorem dX5_fly_13 : decode cX5_fly 13 = .ok (.invokevirtual 177, 3) := by decide +kernel
theorem dX5_fly_16 : decode cX5_fly 16 = .ok (.aload_n 0, 1) := by decide +kernel
theorem dX5_fly_17 : decode cX5_fly 17 = .ok (.invokevirtual 180, 3) := by decide +kernel
theorem dX5_fly_20 : decode cX5_fly 20 = .ok (.aload_n 0, 1) := by decide +kernel
theorem dX5_fly_21 : decode cX5_fly 21 = .ok (.getfield 61, 3) := by decide +kernel
theorem dX5_fly_24 : decode cX5_fly 24 = .ok (.ifCond .le 10, 3) := by decide +kernel
theorem dX5_fly_27 : decode cX5_fly 27 = .ok (.aload_n 0, 1) := by decide +kernel
theorem dX5_fly_28 : decode cX5_fly 28 = .ok (.invokevirtual 183, 3) := by decide +kernel
theorem dX5_fly_31 : decode cX5_fly 31 = .ok (.goto 21, 3) := by decide +kernel
theorem dX5_fly_34 : decode cX5_fly 34 = .ok (.aload_n 0, 1) := by decide +kernel
theorem dX5_fly_35 : decode cX5_fly 35 = .ok (.getfield 43, 3) := by decide +kernel
theorem dX5_fly_38 : decode cX5_fly 38 = .ok (.getfield 85, 3) := by decide +kernel
theorem dX5_fly_41 : decode cX5_fly 41 = .ok (.ifCond .eq 11, 3) := by decide +kernel
theorem dX5_fly_44 : decode cX5_fly 44 = .ok (.aload_n 0, 1) := by decide +kernel
theorem dX5_fly_45 : decode cX5_fly 45 = .ok (.invokevirtual 186, 3) := by decide +kernel
theorem dX5_fly_48 : decode cX5_fly 48 = .ok (.aload_n 0, 1) := by decide +kernel
theorem dX5_fly_49 : decode cX5_fly 49 = .ok (.invokevirtual 189, 3) := by decide +kernel
theorem dX5_fly_52 : decode cX5_fly 52 = .ok (.return_, 1) := by decide +kernel
set_option maxRecDepth 20000 in
theorem ggX5_applyFailsafes_X2_forceLand : GoodIn wsX5_applyFailsafes wsX2_forceLand := goodIn_r _ [9, 10, 11, 12, 13, 8, 14, 15, 16, 31, 32, 33] (by decide +kernel) (by decide +kernel)
set_option maxRecDepth 20000 in
theorem gX5_applyFailsafes_X2_forceLand : GoodIn wsX5_applyFailsafes (wsV RX5 192 RX2 yX2_forceLand wsX2_forceLand) := goodIn_app (goodIn_of _ (by decide +kernel)) ggX5_applyFailsafes_X2_forceLand
set_option maxRecDepth 20000 in
theorem ggX5_applyFailsafes_X2_enter : GoodIn wsX5_applyFailsafes wsX2_enter := goodIn_r _ [14, 15, 10, 16, 31, 32, 33] (by decide +kernel) (by decide +kernel)
set_option maxRecDepth 20000 in
theorem gX5_applyFailsafes_X2_enter : GoodIn wsX5_applyFailsafes (wsV RX5 140 RX2 yX2_enter wsX2_enter) := goodIn_app (goodIn_of _ (by decide +kernel)) ggX5_applyFailsafes_X2_enter
theorem dX5_applyFailsafes_0 : decode cX5_applyFailsafes 0 = .ok (.iload_n 1, 1) := by decide +kernel
theorem dX5_applyFailsafes_1 : decode cX5_applyFailsafes 1 = .ok (.bipush 10, 2) := by decide +kernel
theorem dX5_applyFailsafes_3 : decode cX5_applyFailsafes 3 = .ok (.if_icmp .lt 11, 3) := by decide +kernel
theorem dX5_applyFailsafes_6 : decode cX5_applyFailsafes 6 = .ok (.aload_n 0, 1) := by decide +kernel
theorem dX5_applyFailsafes_7 : decode cX5_applyFailsafes 7 = .ok (.getfield 61, 3) := by decide +kernel
theorem dX5_applyFailsafes_10 : decode cX5_applyFailsafes 10 = .ok (.iconst 5, 1) := by decide +kernel
theorem dX5_applyFailsafes_11 : decode cX5_applyFailsafes 11 = .ok (.if_icmp .lt 17, 3) := by decide +kernel
theorem dX5_applyFailsafes_14 : decode cX5_applyFailsafes 14 = .ok (.aload_n 0, 1) := by decide +kernel
theorem dX5_applyFailsafes_15 : decode cX5_applyFailsafes 15 = .ok (.getfield 43, 3) := by decide +kernel
theorem dX5_applyFailsafes_18 : decode cX5_applyFailsafes 18 = .ok (.aload_n 0, 1) := by decide +kernel
theorem dX5_applyFailsafes_19 : decode cX5_applyFailsafes 19 = .ok (.getfield 67, 3) := by decide +kernel
theorem dX5_applyFailsafes_22 : decode cX5_applyFailsafes 22 = .ok (.invokevirtual 192, 3) := by decide +kernel
theorem dX5_applyFailsafes_25 : decode cX5_applyFailsafes 25 = .ok (.goto 52, 3) := by decide +kernel
theorem dX5_applyFailsafes_28 : decode cX5_applyFailsafes 28 = .ok (.iload_n 1, 1) := by decide +kernel
theorem dX5_applyFailsafes_29 : decode cX5_applyFailsafes 29 = .ok (.bipush 25, 2) := by decide +kernel
theorem dX5_applyFailsafes_31 : decode cX5_applyFailsafes 31 = .ok (.if_icmp .lt 12, 3) := by decide +kernel
theorem dX5_applyFailsafes_34 : decode cX5_applyFailsafes 34 = .ok (.aload_n 0, 1) := by decide +kernel
theorem dX5_applyFailsafes_35 : decode cX5_applyFailsafes 35 = .ok (.getfield 64, 3) := by decide +kernel
theorem dX5_applyFailsafes_38 : decode cX5_applyFailsafes 38 = .ok (.bipush 20, 2) := by decide +kernel
theorem dX5_applyFailsafes_40 : decode cX5_applyFailsafes 40 = .ok (.if_icmp .lt 37, 3) := by decide +kernel
theorem dX5_applyFailsafes_43 : decode cX5_applyFailsafes 43 = .ok (.aload_n 0, 1) := by decide +kernel
theorem dX5_applyFailsafes_44 : decode cX5_applyFailsafes 44 = .ok (.getfield 43, 3) := by decide +kernel
theorem dX5_applyFailsafes_47 : decode cX5_applyFailsafes 47 = .ok (.getfield 85, 3) := by decide +kernel
theorem dX5_applyFailsafes_50 : decode cX5_applyFailsafes 50 = .ok (.iconst 4, 1) := by decide +kernel
theorem dX5_applyFailsafes_51 : decode cX5_applyFailsafes 51 = .ok (.if_icmp .eq 26, 3) := by decide +kernel
theorem dX5_applyFailsafes_54 : decode cX5_applyFailsafes 54 = .ok (.aload_n 0, 1) := by decide +kernel
theorem dX5_applyFailsafes_55 : decode cX5_applyFailsafes 55 = .ok (.getfield 43, 3) := by decide +kernel
theorem dX5_applyFailsafes_58 : decode cX5_applyFailsafes 58 = .ok (.getfield 85, 3) := by decide +kernel
theorem dX5_applyFailsafes_61 : decode cX5_applyFailsafes 61 = .ok (.iconst 5, 1) := by decide +kernel
theorem dX5_applyFailsafes_62 : decode cX5_applyFailsafes 62 = .ok (.if_icmp .eq 15, 3) := by decide +kernel
theorem dX5_applyFailsafes_65 : decode cX5_applyFailsafes 65 = .ok (.aload_n 0, 1) := by decide +kernel
theorem dX5_applyFailsafes_66 : decode cX5_applyFailsafes 66 = .ok (.getfield 43, 3) := by decide +kernel
theorem dX5_applyFailsafes_69 : decode cX5_applyFailsafes 69 = .ok (.iconst 4, 1) := by decide +kernel
theorem dX5_applyFailsafes_70 : decode cX5_applyFailsafes 70 = .ok (.aload_n 0, 1) := by decide +kernel
theorem dX5_applyFailsafes_71 : decode cX5_applyFailsafes 71 = .ok (.getfield 67, 3) := by decide +kernel
theorem dX5_applyFailsafes_74 : decode cX5_applyFailsafes 74 = .ok (.invokevirtual 140, 3) := by decide +kernel
theorem dX5_applyFailsafes_77 : decode cX5_applyFailsafes 77 = .ok (.return_, 1) := by decide +kernel
set_option maxRecDepth 20000 in
theorem ggX5_moveOn_X1_isEmpty : GoodIn wsX5_moveOn wsX1_isEmpty := goodIn_r _ [9, 10, 56, 57] (by decide +kernel) (by decide +kernel)
set_option maxRecDepth 20000 in
theorem gX5_moveOn_X1_isEmpty : GoodIn wsX5_moveOn (wsV RX5 146 RX1 yX1_isEmpty wsX1_isEmpty) := goodIn_app (goodIn_of _ (by decide +kernel)) ggX5_moveOn_X1_isEmpty
set_option maxRecDepth 20000 in
theorem ggX5_moveOn_X2_enter : GoodIn wsX5_moveOn wsX2_enter := goodIn_r _ [15, 16, 17, 18, 53, 54, 55] (by decide +kernel) (by decide +kernel)
set_option maxRecDepth 20000 in
theorem gX5_moveOn_X2_enter : GoodIn wsX5_moveOn (wsV RX5 140 RX2 yX2_enter wsX2_enter) := goodIn_app (goodIn_of _ (by decide +kernel)) ggX5_moveOn_X2_enter
set_option maxRecDepth 20000 in
theorem ggX5_moveOn_X5_hasReachedItem : GoodIn wsX5_moveOn wsX5_hasReachedItem := goodIn_r _ [23, 2, 3, 24, 25, 26, 27, 8, 28, 10, 29, 30, 22, 31, 32, 33, 34, 35, 40, 41, 42, 43, 44, 45, 46, 47, 48, 49, 50, 51, 52, 56, 57] (by decide +kernel) (by decide +kernel)
set_option maxRecDepth 20000 in
theorem gX5_moveOn_X5_hasReachedItem : GoodIn wsX5_moveOn (wsV RX5 195 RX5 yX5_hasReachedItem wsX5_hasReachedItem) := goodIn_app (goodIn_of _ (by decide +kernel)) ggX5_moveOn_X5_hasReachedItem
set_option maxRecDepth 20000 in
theorem ggX5_moveOn_X5_passItem : GoodIn wsX5_moveOn wsX5_passItem := goodIn_r _ [39, 24, 3, 1, 4, 11, 12, 13, 14, 15, 16, 17, 18, 40, 41, 42, 43, 44, 45, 46, 47, 48, 49, 50, 51, 52, 56, 57, 53, 54, 55] (by decide +kernel) (by decide +kernel)
set_option maxRecDepth 20000 in
theorem gX5_moveOn_X5_passItem : GoodIn wsX5_moveOn (wsV RX5 198 RX5 yX5_passItem wsX5_passItem) := goodIn_app (goodIn_of _ (by decide +kernel)) ggX5_moveOn_X5_passItem
set_option maxRecDepth 20000 in
theorem ggX5_moveOn_X5_isNear : GoodIn wsX5_moveOn wsX5_isNear := goodIn_r _ [34, 35, 30, 22, 31] (by decide +kernel) (by decide +kernel)
set_option maxRecDepth 20000 in
theorem gX5_moveOn_X5_isNear : GoodIn wsX5_moveOn (va_wsS RX5 201 yX5_isNear wsX5_isNear) := goodIn_app (goodIn_of _ (by decide +kernel)) ggX5_moveOn_X5_isNear
theorem dX5_moveOn_0 : decode cX5_moveOn 0 = .ok (.aload_n 0, 1) := by decide +kernel
theorem dX5_moveOn_1 : decode cX5_moveOn 1 = .ok (.getfield 43, 3) := by decide +kernel
theorem dX5_moveOn_4 : decode cX5_moveOn 4 = .ok (.getfield 85, 3) := by decide +kernel
theorem dX5_moveOn_7 : decode cX5_moveOn 7 = .ok (.istore_n 1, 1) := by decide +kernel
theorem dX5_moveOn_8 : decode cX5_moveOn 8 = .ok (.iload_n 1, 1) := by decide +kernel
theorem dX5_moveOn_9 : decode cX5_moveOn 9 = .ok (.iconst 1, 1) := by decide +kernel
theorem dX5_moveOn_10 : decode cX5_moveOn 10 = .ok (.if_icmp .ne 44, 3) := by decide +kernel
theorem dX5_moveOn_13 : decode cX5_moveOn 13 = .ok (.aload_n 0, 1) := by decide +kernel
theorem dX5_moveOn_14 : decode cX5_moveOn 14 = .ok (.getfield 47, 3) := by decide +kernel
theorem dX5_moveOn_17 : decode cX5_moveOn 17 = .ok (.iconst 2, 1) := by decide +kernel
theorem dX5_moveOn_18 : decode cX5_moveOn 18 = .ok (.iaload, 1) := by decide +kernel
theorem dX5_moveOn_19 : decode cX5_moveOn 19 = .ok (.sipush 1000, 3) := by decide +kernel
theorem dX5_moveOn_22 : decode cX5_moveOn 22 = .ok (.if_icmp .lt 32, 3) := by decide +kernel
theorem dX5_moveOn_25 : decode cX5_moveOn 25 = .ok (.aload_n 0, 1) := by decide +kernel
theorem dX5_moveOn_26 : decode cX5_moveOn 26 = .ok (.getfield 43, 3) := by decide +kernel
theorem dX5_moveOn_29 : decode cX5_moveOn 29 = .ok (.aload_n 0, 1) := by decide +kernel
theorem dX5_moveOn_30 : decode cX5_moveOn 30 = .ok (.getfield 29, 3) := by decide +kernel
theorem dX5_moveOn_33 : decode cX5_moveOn 33 = .ok (.invokevirtual 146, 3) := by decide +kernel
theorem dX5_moveOn_36 : decode cX5_moveOn 36 = .ok (.ifCond .eq 7, 3) := by decide +kernel
theorem dX5_moveOn_39 : decode cX5_moveOn 39 = .ok (.iconst 3, 1) := by decide +kernel
theorem dX5_moveOn_40 : decode cX5_moveOn 40 = .ok (.goto 4, 3) := by decide +kernel
theorem dX5_moveOn_43 : decode cX5_moveOn 43 = .ok (.iconst 2, 1) := by decide +kernel
theorem dX5_moveOn_44 : decode cX5_moveOn 44 = .ok (.aload_n 0, 1) := by decide +kernel
end
section
theorem dX5_moveOn_45 : decode cX5_moveOn 45 = .ok (.getfield 67, 3) := by decide +kernel
theorem dX5_moveOn_48 : decode cX5_moveOn 48 = .ok (.invokevirtual 140, 3) := by decide +kernel
theorem dX5_moveOn_51 : decode cX5_moveOn 51 = .ok (.goto 96, 3) := by decide +kernel
theorem dX5_moveOn_54 : decode cX5_moveOn 54 = .ok (.iload_n 1, 1) := by decide +kernel
theorem dX5_moveOn_55 : decode cX5_moveOn 55 = .ok (.iconst 2, 1) := by decide +kernel
theorem dX5_moveOn_56 : decode cX5_moveOn 56 = .ok (.if_icmp .ne 17, 3) := by decide +kernel
theorem dX5_moveOn_59 : decode cX5_moveOn 59 = .ok (.aload_n 0, 1) := by decide +kernel
theorem dX5_moveOn_60 : decode cX5_moveOn 60 = .ok (.invokevirtual 195, 3) := by decide +kernel
theorem dX5_moveOn_63 : decode cX5_moveOn 63 = .ok (.ifCond .eq 10, 3) := by decide +kernel
theorem dX5_moveOn_66 : decode cX5_moveOn 66 = .ok (.aload_n 0, 1) := by decide +kernel
theorem dX5_moveOn_67 : decode cX5_moveOn 67 = .ok (.invokevirtual 198, 3) := by decide +kernel
theorem dX5_moveOn_70 : decode cX5_moveOn 70 = .ok (.goto 77, 3) := by decide +kernel
theorem dX5_moveOn_73 : decode cX5_moveOn 73 = .ok (.iload_n 1, 1) := by decide +kernel
theorem dX5_moveOn_74 : decode cX5_moveOn 74 = .ok (.iconst 4, 1) := by decide +kernel
theorem dX5_moveOn_75 : decode cX5_moveOn 75 = .ok (.if_icmp .ne 44, 3) := by decide +kernel
theorem dX5_moveOn_78 : decode cX5_moveOn 78 = .ok (.aload_n 0, 1) := by decide +kernel
theorem dX5_moveOn_79 : decode cX5_moveOn 79 = .ok (.getfield 47, 3) := by decide +kernel
theorem dX5_moveOn_82 : decode cX5_moveOn 82 = .ok (.iconst 0, 1) := by decide +kernel
theorem dX5_moveOn_83 : decode cX5_moveOn 83 = .ok (.iaload, 1) := by decide +kernel
theorem dX5_moveOn_84 : decode cX5_moveOn 84 = .ok (.iconst 0, 1) := by decide +kernel
theorem dX5_moveOn_85 : decode cX5_moveOn 85 = .ok (.invokestatic 201, 3) := by decide +kernel
theorem dX5_moveOn_88 : decode cX5_moveOn 88 = .ok (.ifCond .eq 31, 3) := by decide +kernel
theorem dX5_moveOn_91 : decode cX5_moveOn 91 = .ok (.aload_n 0, 1) := by decide +kernel
theorem dX5_moveOn_92 : decode cX5_moveOn 92 = .ok (.getfield 47, 3) := by decide +kernel
theorem dX5_moveOn_95 : decode cX5_moveOn 95 = .ok (.iconst 1, 1) := by decide +kernel
theorem dX5_moveOn_96 : decode cX5_moveOn 96 = .ok (.iaload, 1) := by decide +kernel
theorem dX5_moveOn_97 : decode cX5_moveOn 97 = .ok (.iconst 0, 1) := by decide +kernel
theorem dX5_moveOn_98 : decode cX5_moveOn 98 = .ok (.invokestatic 201, 3) := by decide +kernel
theorem dX5_moveOn_101 : decode cX5_moveOn 101 = .ok (.ifCond .eq 18, 3) := by decide +kernel
theorem dX5_moveOn_104 : decode cX5_moveOn 104 = .ok (.aload_n 0, 1) := by decide +kernel
theorem dX5_moveOn_105 : decode cX5_moveOn 105 = .ok (.getfield 43, 3) := by decide +kernel
theorem dX5_moveOn_108 : decode cX5_moveOn 108 = .ok (.iconst 5, 1) := by decide +kernel
theorem dX5_moveOn_109 : decode cX5_moveOn 109 = .ok (.aload_n 0, 1) := by decide +kernel
theorem dX5_moveOn_110 : decode cX5_moveOn 110 = .ok (.getfield 67, 3) := by decide +kernel
theorem dX5_moveOn_113 : decode cX5_moveOn 113 = .ok (.invokevirtual 140, 3) := by decide +kernel
theorem dX5_moveOn_116 : decode cX5_moveOn 116 = .ok (.goto 31, 3) := by decide +kernel
theorem dX5_moveOn_119 : decode cX5_moveOn 119 = .ok (.iload_n 1, 1) := by decide +kernel
theorem dX5_moveOn_120 : decode cX5_moveOn 120 = .ok (.iconst 5, 1) := by decide +kernel
theorem dX5_moveOn_121 : decode cX5_moveOn 121 = .ok (.if_icmp .ne 26, 3) := by decide +kernel
theorem dX5_moveOn_124 : decode cX5_moveOn 124 = .ok (.aload_n 0, 1) := by decide +kernel
theorem dX5_moveOn_125 : decode cX5_moveOn 125 = .ok (.getfield 47, 3) := by decide +kernel
theorem dX5_moveOn_128 : decode cX5_moveOn 128 = .ok (.iconst 2, 1) := by decide +kernel
theorem dX5_moveOn_129 : decode cX5_moveOn 129 = .ok (.iaload, 1) := by decide +kernel
theorem dX5_moveOn_130 : decode cX5_moveOn 130 = .ok (.bipush 20, 2) := by decide +kernel
theorem dX5_moveOn_132 : decode cX5_moveOn 132 = .ok (.if_icmp .gt 15, 3) := by decide +kernel
theorem dX5_moveOn_135 : decode cX5_moveOn 135 = .ok (.aload_n 0, 1) := by decide +kernel
theorem dX5_moveOn_136 : decode cX5_moveOn 136 = .ok (.getfield 43, 3) := by decide +kernel
theorem dX5_moveOn_139 : decode cX5_moveOn 139 = .ok (.iconst 0, 1) := by decide +kernel
theorem dX5_moveOn_140 : decode cX5_moveOn 140 = .ok (.aload_n 0, 1) := by decide +kernel
theorem dX5_moveOn_141 : decode cX5_moveOn 141 = .ok (.getfield 67, 3) := by decide +kernel
theorem dX5_moveOn_144 : decode cX5_moveOn 144 = .ok (.invokevirtual 140, 3) := by decide +kernel
theorem dX5_moveOn_147 : decode cX5_moveOn 147 = .ok (.return_, 1) := by decide +kernel
set_option maxRecDepth 20000 in
theorem ggX5_hasReachedItem_X1_read : GoodIn wsX5_hasReachedItem wsX1_read := goodIn_r _ [8, 9, 10, 11, 12, 13, 31, 32] (by decide +kernel) (by decide +kernel)
set_option maxRecDepth 20000 in
theorem gX5_hasReachedItem_X1_read : GoodIn wsX5_hasReachedItem (wsV RX5 204 RX1 yX1_read wsX1_read) := goodIn_app (goodIn_of _ (by decide +kernel)) ggX5_hasReachedItem_X1_read
set_option maxRecDepth 20000 in
theorem ggX5_hasReachedItem_X5_isNear : GoodIn wsX5_hasReachedItem wsX5_isNear := goodIn_r _ [16, 17, 11, 12, 13] (by decide +kernel) (by decide +kernel)
set_option maxRecDepth 20000 in
theorem gX5_hasReachedItem_X5_isNear : GoodIn wsX5_hasReachedItem (va_wsS RX5 201 yX5_isNear wsX5_isNear) := goodIn_app (goodIn_of _ (by decide +kernel)) ggX5_hasReachedItem_X5_isNear
theorem dX5_hasReachedItem_0 : decode cX5_hasReachedItem 0 = .ok (.iconst 0, 1) := by decide +kernel
theorem dX5_hasReachedItem_1 : decode cX5_hasReachedItem 1 = .ok (.istore_n 1, 1) := by decide +kernel
theorem dX5_hasReachedItem_2 : decode cX5_hasReachedItem 2 = .ok (.iload_n 1, 1) := by decide +kernel
theorem dX5_hasReachedItem_3 : decode cX5_hasReachedItem 3 = .ok (.iconst 3, 1) := by decide +kernel
theorem dX5_hasReachedItem_4 : decode cX5_hasReachedItem 4 = .ok (.if_icmp .ge 35, 3) := by decide +kernel
theorem dX5_hasReachedItem_7 : decode cX5_hasReachedItem 7 = .ok (.aload_n 0, 1) := by decide +kernel
theorem dX5_hasReachedItem_8 : decode cX5_hasReachedItem 8 = .ok (.getfield 47, 3) := by decide +kernel
theorem dX5_hasReachedItem_11 : decode cX5_hasReachedItem 11 = .ok (.iload_n 1, 1) := by decide +kernel
theorem dX5_hasReachedItem_12 : decode cX5_hasReachedItem 12 = .ok (.iaload, 1) := by decide +kernel
theorem dX5_hasReachedItem_13 : decode cX5_hasReachedItem 13 = .ok (.aload_n 0, 1) := by decide +kernel
theorem dX5_hasReachedItem_14 : decode cX5_hasReachedItem 14 = .ok (.getfield 29, 3) := by decide +kernel
theorem dX5_hasReachedItem_17 : decode cX5_hasReachedItem 17 = .ok (.aload_n 0, 1) := by decide +kernel
theorem dX5_hasReachedItem_18 : decode cX5_hasReachedItem 18 = .ok (.getfield 58, 3) := by decide +kernel
theorem dX5_hasReachedItem_21 : decode cX5_hasReachedItem 21 = .ok (.iload_n 1, 1) := by decide +kernel
theorem dX5_hasReachedItem_22 : decode cX5_hasReachedItem 22 = .ok (.invokevirtual 204, 3) := by decide +kernel
theorem dX5_hasReachedItem_25 : decode cX5_hasReachedItem 25 = .ok (.invokestatic 201, 3) := by decide +kernel
theorem dX5_hasReachedItem_28 : decode cX5_hasReachedItem 28 = .ok (.ifCond .ne 5, 3) := by decide +kernel
theorem dX5_hasReachedItem_31 : decode cX5_hasReachedItem 31 = .ok (.iconst 0, 1) := by decide +kernel
theorem dX5_hasReachedItem_32 : decode cX5_hasReachedItem 32 = .ok (.ireturn, 1) := by decide +kernel
theorem dX5_hasReachedItem_33 : decode cX5_hasReachedItem 33 = .ok (.iinc 1 1, 3) := by decide +kernel
theorem dX5_hasReachedItem_36 : decode cX5_hasReachedItem 36 = .ok (.goto (-34), 3) := by decide +kernel
theorem dX5_hasReachedItem_39 : decode cX5_hasReachedItem 39 = .ok (.iconst 1, 1) := by decide +kernel
theorem dX5_hasReachedItem_40 : decode cX5_hasReachedItem 40 = .ok (.ireturn, 1) := by decide +kernel
set_option maxRecDepth 20000 in
theorem ggX5_passItem_X2_enter : GoodIn wsX5_passItem wsX2_enter := goodIn_r _ [9, 10, 11, 12, 28, 29, 30] (by decide +kernel) (by decide +kernel)
set_option maxRecDepth 20000 in
theorem gX5_passItem_X2_enter : GoodIn wsX5_passItem (wsV RX5 140 RX2 yX2_enter wsX2_enter) := goodIn_app (goodIn_of _ (by decide +kernel)) ggX5_passItem_X2_enter
theorem dX5_passItem_0 : decode cX5_passItem 0 = .ok (.aload_n 0, 1) := by decide +kernel
theorem dX5_passItem_1 : decode cX5_passItem 1 = .ok (.dup, 1) := by decide +kernel
theorem dX5_passItem_2 : decode cX5_passItem 2 = .ok (.getfield 58, 3) := by decide +kernel
theorem dX5_passItem_5 : decode cX5_passItem 5 = .ok (.iconst 1, 1) := by decide +kernel
theorem dX5_passItem_6 : decode cX5_passItem 6 = .ok (.iadd, 1) := by decide +kernel
theorem dX5_passItem_7 : decode cX5_passItem 7 = .ok (.putfield 58, 3) := by decide +kernel
theorem dX5_passItem_10 : decode cX5_passItem 10 = .ok (.aload_n 0, 1) := by decide +kernel
theorem dX5_passItem_11 : decode cX5_passItem 11 = .ok (.getfield 58, 3) := by decide +kernel
theorem dX5_passItem_14 : decode cX5_passItem 14 = .ok (.aload_n 0, 1) := by decide +kernel
theorem dX5_passItem_15 : decode cX5_passItem 15 = .ok (.getfield 29, 3) := by decide +kernel
theorem dX5_passItem_18 : decode cX5_passItem 18 = .ok (.getfield 208, 3) := by decide +kernel
theorem dX5_passItem_21 : decode cX5_passItem 21 = .ok (.if_icmp .lt 20, 3) := by decide +kernel
theorem dX5_passItem_24 : decode cX5_passItem 24 = .ok (.aload_n 0, 1) := by decide +kernel
theorem dX5_passItem_25 : decode cX5_passItem 25 = .ok (.iconst 0, 1) := by decide +kernel
theorem dX5_passItem_26 : decode cX5_passItem 26 = .ok (.putfield 58, 3) := by decide +kernel
theorem dX5_passItem_29 : decode cX5_passItem 29 = .ok (.aload_n 0, 1) := by decide +kernel
theorem dX5_passItem_30 : decode cX5_passItem 30 = .ok (.getfield 43, 3) := by decide +kernel
theorem dX5_passItem_33 : decode cX5_passItem 33 = .ok (.iconst 4, 1) := by decide +kernel
theorem dX5_passItem_34 : decode cX5_passItem 34 = .ok (.aload_n 0, 1) := by decide +kernel
theorem dX5_passItem_35 : decode cX5_passItem 35 = .ok (.getfield 67, 3) := by decide +kernel
theorem dX5_passItem_38 : decode cX5_passItem 38 = .ok (.invokevirtual 140, 3) := by decide +kernel
theorem dX5_passItem_41 : decode cX5_passItem 41 = .ok (.return_, 1) := by decide +kernel
set_option maxRecDepth 20000 in
theorem ggX5_guide_X5_setWish : GoodIn wsX5_guide wsX5_setWish := goodIn_r _ [7, 8, 34, 35, 36, 37, 38, 39, 40, 41, 42, 43, 44, 45, 46] (by decide +kernel) (by decide +kernel)
set_option maxRecDepth 20000 in
theorem gX5_guide_X5_setWish : GoodIn wsX5_guide (wsV RX5 155 RX5 yX5_setWish wsX5_setWish) := goodIn_app (goodIn_of _ (by decide +kernel)) ggX5_guide_X5_setWish
set_option maxRecDepth 20000 in
theorem ggX5_guide_X5_wishForItem : GoodIn wsX5_guide wsX5_wishForItem := goodIn_r _ [12, 8, 13, 14, 2, 15, 16, 17, 18, 19, 20, 21, 22, 6, 23, 24, 25, 26, 27, 28, 29, 30, 31, 32, 33, 34, 35, 36, 37, 38, 39, 40, 41, 42, 43, 44, 45, 46, 50, 51] (by decide +kernel) (by decide +kernel)
set_option maxRecDepth 20000 in
theorem gX5_guide_X5_wishForItem : GoodIn wsX5_guide (wsV RX5 211 RX5 yX5_wishForItem wsX5_wishForItem) := goodIn_app (goodIn_of _ (by decide +kernel)) ggX5_guide_X5_wishForItem
set_option maxRecDepth 20000 in
theorem ggX5_guide_X5_saturate : GoodIn wsX5_guide wsX5_saturate := goodIn_r _ [26, 27, 28, 29, 30, 31, 32, 33] (by decide +kernel) (by decide +kernel)
set_option maxRecDepth 20000 in
theorem gX5_guide_X5_saturate : GoodIn wsX5_guide (va_wsS RX5 214 yX5_saturate wsX5_saturate) := goodIn_app (goodIn_of _ (by decide +kernel)) ggX5_guide_X5_saturate
theorem dX5_guide_0 : decode cX5_guide 0 = .ok (.aload_n 0, 1) := by decide +kernel
theorem dX5_guide_1 : decode cX5_guide 1 = .ok (.getfield 43, 3) := by decide +kernel
theorem dX5_guide_4 : decode cX5_guide 4 = .ok (.getfield 85, 3) := by decide +kernel
theorem dX5_guide_7 : decode cX5_guide 7 = .ok (.iconst 1, 1) := by decide +kernel
theorem dX5_guide_8 : decode cX5_guide 8 = .ok (.if_icmp .ne 14, 3) := by decide +kernel
theorem dX5_guide_11 : decode cX5_guide 11 = .ok (.aload_n 0, 1) := by decide +kernel
theorem dX5_guide_12 : decode cX5_guide 12 = .ok (.iconst 0, 1) := by decide +kernel
theorem dX5_guide_13 : decode cX5_guide 13 = .ok (.iconst 0, 1) := by decide +kernel
theorem dX5_guide_14 : decode cX5_guide 14 = .ok (.bipush 100, 2) := by decide +kernel
theorem dX5_guide_16 : decode cX5_guide 16 = .ok (.invokevirtual 155, 3) := by decide +kernel
theorem dX5_guide_19 : decode cX5_guide 19 = .ok (.goto 89, 3) := by decide +kernel
theorem dX5_guide_22 : decode cX5_guide 22 = .ok (.aload_n 0, 1) := by decide +kernel
theorem dX5_guide_23 : decode cX5_guide 23 = .ok (.getfield 43, 3) := by decide +kernel
theorem dX5_guide_26 : decode cX5_guide 26 = .ok (.getfield 85, 3) := by decide +kernel
theorem dX5_guide_29 : decode cX5_guide 29 = .ok (.iconst 2, 1) := by decide +kernel
theorem dX5_guide_30 : decode cX5_guide 30 = .ok (.if_icmp .ne 10, 3) := by decide +kernel
theorem dX5_guide_33 : decode cX5_guide 33 = .ok (.aload_n 0, 1) := by decide +kernel
theorem dX5_guide_34 : decode cX5_guide 34 = .ok (.invokevirtual 211, 3) := by decide +kernel
theorem dX5_guide_37 : decode cX5_guide 37 = .ok (.goto 71, 3) := by decide +kernel
theorem dX5_guide_40 : decode cX5_guide 40 = .ok (.aload_n 0, 1) := by decide +kernel
theorem dX5_guide_41 : decode cX5_guide 41 = .ok (.getfield 43, 3) := by decide +kernel
theorem dX5_guide_44 : decode cX5_guide 44 = .ok (.getfield 85, 3) := by decide +kernel
theorem dX5_guide_47 : decode cX5_guide 47 = .ok (.iconst 4, 1) := by decide +kernel
theorem dX5_guide_48 : decode cX5_guide 48 = .ok (.if_icmp .ne 31, 3) := by decide +kernel
theorem dX5_guide_51 : decode cX5_guide 51 = .ok (.aload_n 0, 1) := by decide +kernel
theorem dX5_guide_52 : decode cX5_guide 52 = .ok (.aload_n 0, 1) := by decide +kernel
theorem dX5_guide_53 : decode cX5_guide 53 = .ok (.getfield 47, 3) := by decide +kernel
theorem dX5_guide_56 : decode cX5_guide 56 = .ok (.iconst 0, 1) := by decide +kernel
theorem dX5_guide_57 : decode cX5_guide 57 = .ok (.iaload, 1) := by decide +kernel
theorem dX5_guide_58 : decode cX5_guide 58 = .ok (.ineg, 1) := by decide +kernel
theorem dX5_guide_59 : decode cX5_guide 59 = .ok (.invokestatic 214, 3) := by decide +kernel
theorem dX5_guide_62 : decode cX5_guide 62 = .ok (.aload_n 0, 1) := by decide +kernel
theorem dX5_guide_63 : decode cX5_guide 63 = .ok (.getfield 47, 3) := by decide +kernel
theorem dX5_guide_66 : decode cX5_guide 66 = .ok (.iconst 1, 1) := by decide +kernel
theorem dX5_guide_67 : decode cX5_guide 67 = .ok (.iaload, 1) := by decide +kernel
theorem dX5_guide_68 : decode cX5_guide 68 = .ok (.ineg, 1) := by decide +kernel
theorem dX5_guide_69 : decode cX5_guide 69 = .ok (.invokestatic 214, 3) := by decide +kernel
theorem dX5_guide_72 : decode cX5_guide 72 = .ok (.iconst 0, 1) := by decide +kernel
theorem dX5_guide_73 : decode cX5_guide 73 = .ok (.invokevirtual 155, 3) := by decide +kernel
theorem dX5_guide_76 : decode cX5_guide 76 = .ok (.goto 32, 3) := by decide +kernel
theorem dX5_guide_79 : decode cX5_guide 79 = .ok (.aload_n 0, 1) := by decide +kernel
theorem dX5_guide_80 : decode cX5_guide 80 = .ok (.getfield 43, 3) := by decide +kernel
theorem dX5_guide_83 : decode cX5_guide 83 = .ok (.getfield 85, 3) := by decide +kernel
theorem dX5_guide_86 : decode cX5_guide 86 = .ok (.iconst 5, 1) := by decide +kernel
theorem dX5_guide_87 : decode cX5_guide 87 = .ok (.if_icmp .ne 14, 3) := by decide +kernel
theorem dX5_guide_90 : decode cX5_guide 90 = .ok (.aload_n 0, 1) := by decide +kernel
theorem dX5_guide_91 : decode cX5_guide 91 = .ok (.iconst 0, 1) := by decide +kernel
theorem dX5_guide_92 : decode cX5_guide 92 = .ok (.iconst 0, 1) := by decide +kernel
theorem dX5_guide_93 : decode cX5_guide 93 = .ok (.bipush (-50), 2) := by decide +kernel
theorem dX5_guide_95 : decode cX5_guide 95 = .ok (.invokevirtual 155, 3) := by decide +kernel
theorem dX5_guide_98 : decode cX5_guide 98 = .ok (.goto 10, 3) := by decide +kernel
theorem dX5_guide_101 : decode cX5_guide 101 = .ok (.aload_n 0, 1) := by decide +kernel
theorem dX5_guide_102 : decode cX5_guide 102 = .ok (.iconst 0, 1) := by decide +kernel
theorem dX5_guide_103 : decode cX5_guide 103 = .ok (.iconst 0, 1) := by decide +kernel
theorem dX5_guide_104 : decode cX5_guide 104 = .ok (.iconst 0, 1) := by decide +kernel
theorem dX5_guide_105 : decode cX5_guide 105 = .ok (.invokevirtual 155, 3) := by decide +kernel
theorem dX5_guide_108 : decode cX5_guide 108 = .ok (.return_, 1) := by decide +kernel
set_option maxRecDepth 20000 in
theorem ggX5_wishForItem_X1_read : GoodIn wsX5_wishForItem wsX1_read := goodIn_r _ [9, 10, 11, 12, 13, 14, 38, 39] (by decide +kernel) (by decide +kernel)
set_option maxRecDepth 20000 in
theorem gX5_wishForItem_X1_read : GoodIn wsX5_wishForItem (wsV RX5 204 RX1 yX1_read wsX1_read) := goodIn_app (goodIn_of _ (by decide +kernel)) ggX5_wishForItem_X1_read
set_option maxRecDepth 20000 in
theorem ggX5_wishForItem_X5_saturate : GoodIn wsX5_wishForItem wsX5_saturate := goodIn_r _ [17, 18, 19, 20, 21, 22, 23, 24] (by decide +kernel) (by decide +kernel)
set_option maxRecDepth 20000 in
theorem gX5_wishForItem_X5_saturate : GoodIn wsX5_wishForItem (va_wsS RX5 214 yX5_saturate wsX5_saturate) := goodIn_app (goodIn_of _ (by decide +kernel)) ggX5_wishForItem_X5_saturate
theorem dX5_wishForItem_0 : decode cX5_wishForItem 0 = .ok (.iconst 0, 1) := by decide +kernel
theorem dX5_wishForItem_1 : decode cX5_wishForItem 1 = .ok (.istore_n 1, 1) := by decide +kernel
theorem dX5_wishForItem_2 : decode cX5_wishForItem 2 = .ok (.iload_n 1, 1) := by decide +kernel
theorem dX5_wishForItem_3 : decode cX5_wishForItem 3 = .ok (.iconst 3, 1) := by decide +kernel
theorem dX5_wishForItem_4 : decode cX5_wishForItem 4 = .ok (.if_icmp .ge 37, 3) := by decide +kernel
theorem dX5_wishForItem_7 : decode cX5_wishForItem 7 = .ok (.aload_n 0, 1) := by decide +kernel
theorem dX5_wishForItem_8 : decode cX5_wishForItem 8 = .ok (.getfield 51, 3) := by decide +kernel
theorem dX5_wishForItem_11 : decode cX5_wishForItem 11 = .ok (.iload_n 1, 1) := by decide +kernel
theorem dX5_wishForItem_12 : decode cX5_wishForItem 12 = .ok (.aload_n 0, 1) := by decide +kernel
theorem dX5_wishForItem_13 : decode cX5_wishForItem 13 = .ok (.getfield 29, 3) := by decide +kernel
theorem dX5_wishForItem_16 : decode cX5_wishForItem 16 = .ok (.aload_n 0, 1) := by decide +kernel
theorem dX5_wishForItem_17 : decode cX5_wishForItem 17 = .ok (.getfield 58, 3) := by decide +kernel
theorem dX5_wishForItem_20 : decode cX5_wishForItem 20 = .ok (.iload_n 1, 1) := by decide +kernel
theorem dX5_wishForItem_21 : decode cX5_wishForItem 21 = .ok (.invokevirtual 204, 3) := by decide +kernel
theorem dX5_wishForItem_24 : decode cX5_wishForItem 24 = .ok (.aload_n 0, 1) := by decide +kernel
theorem dX5_wishForItem_25 : decode cX5_wishForItem 25 = .ok (.getfield 47, 3) := by decide +kernel
theorem dX5_wishForItem_28 : decode cX5_wishForItem 28 = .ok (.iload_n 1, 1) := by decide +kernel
theorem dX5_wishForItem_29 : decode cX5_wishForItem 29 = .ok (.iaload, 1) := by decide +kernel
theorem dX5_wishForItem_30 : decode cX5_wishForItem 30 = .ok (.isub, 1) := by decide +kernel
theorem dX5_wishForItem_31 : decode cX5_wishForItem 31 = .ok (.invokestatic 214, 3) := by decide +kernel
theorem dX5_wishForItem_34 : decode cX5_wishForItem 34 = .ok (.iastore, 1) := by decide +kernel
theorem dX5_wishForItem_35 : decode cX5_wishForItem 35 = .ok (.iinc 1 1, 3) := by decide +kernel
theorem dX5_wishForItem_38 : decode cX5_wishForItem 38 = .ok (.goto (-36), 3) := by decide +kernel
theorem dX5_wishForItem_41 : decode cX5_wishForItem 41 = .ok (.return_, 1) := by decide +kernel
set_option maxRecDepth 20000 in
theorem ggX5_flyBlind_X5_setWish : GoodIn wsX5_flyBlind wsX5_setWish := goodIn_r _ [7, 2, 8, 9, 10, 11, 12, 13, 14, 15, 16, 17, 18, 19, 20] (by decide +kernel) (by decide +kernel)
set_option maxRecDepth 20000 in
theorem gX5_flyBlind_X5_setWish : GoodIn wsX5_flyBlind (wsV RX5 155 RX5 yX5_setWish wsX5_setWish) := goodIn_app (goodIn_of _ (by decide +kernel)) ggX5_flyBlind_X5_setWish
theorem dX5_flyBlind_0 : decode cX5_flyBlind 0 = .ok (.aload_n 0, 1) := by decide +kernel
theorem dX5_flyBlind_1 : decode cX5_flyBlind 1 = .ok (.iconst 0, 1) := by decide +kernel
theorem dX5_flyBlind_2 : decode cX5_flyBlind 2 = .ok (.iconst 0, 1) := by decide +kernel
theorem dX5_flyBlind_3 : decode cX5_flyBlind 3 = .ok (.aload_n 0, 1) := by decide +kernel
theorem dX5_flyBlind_4 : decode cX5_flyBlind 4 = .ok (.getfield 43, 3) := by decide +kernel
theorem dX5_flyBlind_7 : decode cX5_flyBlind 7 = .ok (.getfield 85, 3) := by decide +kernel
theorem dX5_flyBlind_10 : decode cX5_flyBlind 10 = .ok (.iconst 5, 1) := by decide +kernel
theorem dX5_flyBlind_11 : decode cX5_flyBlind 11 = .ok (.if_icmp .ne 12, 3) := by decide +kernel
theorem dX5_flyBlind_14 : decode cX5_flyBlind 14 = .ok (.aload_n 0, 1) := by decide +kernel
theorem dX5_flyBlind_15 : decode cX5_flyBlind 15 = .ok (.getfield 51, 3) := by decide +kernel
theorem dX5_flyBlind_18 : decode cX5_flyBlind 18 = .ok (.iconst 2, 1) := by decide +kernel
theorem dX5_flyBlind_19 : decode cX5_flyBlind 19 = .ok (.iaload, 1) := by decide +kernel
theorem dX5_flyBlind_20 : decode cX5_flyBlind 20 = .ok (.goto 4, 3) := by decide +kernel
theorem dX5_flyBlind_23 : decode cX5_flyBlind 23 = .ok (.iconst 0, 1) := by decide +kernel
theorem dX5_flyBlind_24 : decode cX5_flyBlind 24 = .ok (.invokevirtual 155, 3) := by decide +kernel
theorem dX5_flyBlind_27 : decode cX5_flyBlind 27 = .ok (.return_, 1) := by decide +kernel
set_option maxRecDepth 20000 in
theorem ggX5_guardSides_X0_leaveClear : GoodIn wsX5_guardSides wsX0_leaveClear := goodIn_r _ [8, 9, 10, 11, 12, 7, 13, 14, 15, 16, 17, 18, 19, 20, 21, 22, 23, 24, 25, 26, 27, 28, 29, 30, 31, 60, 61, 62] (by decide +kernel) (by decide +kernel)
set_option maxRecDepth 20000 in
theorem gX5_guardSides_X0_leaveClear : GoodIn wsX5_guardSides (wsV RX5 94 RX0 yX0_leaveClear wsX0_leaveClear) := goodIn_app (goodIn_of _ (by decide +kernel)) ggX5_guardSides_X0_leaveClear
set_option maxRecDepth 20000 in
theorem ggX5_guardSides_X5_saturate : GoodIn wsX5_guardSides wsX5_saturate := goodIn_r _ [35, 36, 37, 38, 39, 40, 41, 42] (by decide +kernel) (by decide +kernel)
set_option maxRecDepth 20000 in
theorem gX5_guardSides_X5_saturate : GoodIn wsX5_guardSides (va_wsS RX5 214 yX5_saturate wsX5_saturate) := goodIn_app (goodIn_of _ (by decide +kernel)) ggX5_guardSides_X5_saturate
set_option maxRecDepth 20000 in
theorem ggX5_guardSides_X5_setWish : GoodIn wsX5_guardSides wsX5_setWish := goodIn_r _ [46, 3, 47, 48, 49, 50, 51, 52, 53, 54, 55, 56, 57, 58, 59] (by decide +kernel) (by decide +kernel)
set_option maxRecDepth 20000 in
theorem gX5_guardSides_X5_setWish : GoodIn wsX5_guardSides (wsV RX5 155 RX5 yX5_setWish wsX5_setWish) := goodIn_app (goodIn_of _ (by decide +kernel)) ggX5_guardSides_X5_setWish
theorem dX5_guardSides_0 : decode cX5_guardSides 0 = .ok (.aload_n 0, 1) := by decide +kernel
theorem dX5_guardSides_1 : decode cX5_guardSides 1 = .ok (.getfield 47, 3) := by decide +kernel
theorem dX5_guardSides_4 : decode cX5_guardSides 4 = .ok (.iconst 0, 1) := by decide +kernel
theorem dX5_guardSides_5 : decode cX5_guardSides 5 = .ok (.iaload, 1) := by decide +kernel
theorem dX5_guardSides_6 : decode cX5_guardSides 6 = .ok (.istore_n 1, 1) := by decide +kernel
theorem dX5_guardSides_7 : decode cX5_guardSides 7 = .ok (.aload_n 0, 1) := by decide +kernel
theorem dX5_guardSides_8 : decode cX5_guardSides 8 = .ok (.getfield 47, 3) := by decide +kernel
theorem dX5_guardSides_11 : decode cX5_guardSides 11 = .ok (.iconst 1, 1) := by decide +kernel
theorem dX5_guardSides_12 : decode cX5_guardSides 12 = .ok (.iaload, 1) := by decide +kernel
theorem dX5_guardSides_13 : decode cX5_guardSides 13 = .ok (.istore_n 2, 1) := by decide +kernel
theorem dX5_guardSides_14 : decode cX5_guardSides 14 = .ok (.aload_n 0, 1) := by decide +kernel
theorem dX5_guardSides_15 : decode cX5_guardSides 15 = .ok (.getfield 16, 3) := by decide +kernel
theorem dX5_guardSides_18 : decode cX5_guardSides 18 = .ok (.iload_n 1, 1) := by decide +kernel
theorem dX5_guardSides_19 : decode cX5_guardSides 19 = .ok (.iload_n 2, 1) := by decide +kernel
theorem dX5_guardSides_20 : decode cX5_guardSides 20 = .ok (.sipush 200, 3) := by decide +kernel
theorem dX5_guardSides_23 : decode cX5_guardSides 23 = .ok (.invokevirtual 94, 3) := by decide +kernel
theorem dX5_guardSides_26 : decode cX5_guardSides 26 = .ok (.ifCond .ne 24, 3) := by decide +kernel
theorem dX5_guardSides_29 : decode cX5_guardSides 29 = .ok (.aload_n 0, 1) := by decide +kernel
theorem dX5_guardSides_30 : decode cX5_guardSides 30 = .ok (.iload_n 1, 1) := by decide +kernel
theorem dX5_guardSides_31 : decode cX5_guardSides 31 = .ok (.ineg, 1) := by decide +kernel
theorem dX5_guardSides_32 : decode cX5_guardSides 32 = .ok (.invokestatic 214, 3) := by decide +kernel
theorem dX5_guardSides_35 : decode cX5_guardSides 35 = .ok (.iload_n 2, 1) := by decide +kernel
theorem dX5_guardSides_36 : decode cX5_guardSides 36 = .ok (.ineg, 1) := by decide +kernel
theorem dX5_guardSides_37 : decode cX5_guardSides 37 = .ok (.invokestatic 214, 3) := by decide +kernel
theorem dX5_guardSides_40 : decode cX5_guardSides 40 = .ok (.aload_n 0, 1) := by decide +kernel
theorem dX5_guardSides_41 : decode cX5_guardSides 41 = .ok (.getfield 51, 3) := by decide +kernel
theorem dX5_guardSides_44 : decode cX5_guardSides 44 = .ok (.iconst 2, 1) := by decide +kernel
theorem dX5_guardSides_45 : decode cX5_guardSides 45 = .ok (.iaload, 1) := by decide +kernel
theorem dX5_guardSides_46 : decode cX5_guardSides 46 = .ok (.invokevirtual 155, 3) := by decide +kernel
theorem dX5_guardSides_49 : decode cX5_guardSides 49 = .ok (.return_, 1) := by decide +kernel
theorem dX5_guardSides_50 : decode cX5_guardSides 50 = .ok (.iconst 4, 1) := by decide +kernel
theorem dX5_guardSides_51 : decode cX5_guardSides 51 = .ok (.istore_n 3, 1) := by decide +kernel
theorem dX5_guardSides_52 : decode cX5_guardSides 52 = .ok (.iload_n 3, 1) := by decide +kernel
theorem dX5_guardSides_53 : decode cX5_guardSides 53 = .ok (.ifCond .lt 69, 3) := by decide +kernel
theorem dX5_guardSides_56 : decode cX5_guardSides 56 = .ok (.aload_n 0, 1) := by decide +kernel
theorem dX5_guardSides_57 : decode cX5_guardSides 57 = .ok (.getfield 51, 3) := by decide +kernel
theorem dX5_guardSides_60 : decode cX5_guardSides 60 = .ok (.iconst 0, 1) := by decide +kernel
theorem dX5_guardSides_61 : decode cX5_guardSides 61 = .ok (.iaload, 1) := by decide +kernel
theorem dX5_guardSides_62 : decode cX5_guardSides 62 = .ok (.iload_n 3, 1) := by decide +kernel
theorem dX5_guardSides_63 : decode cX5_guardSides 63 = .ok (.imul, 1) := by decide +kernel
theorem dX5_guardSides_64 : decode cX5_guardSides 64 = .ok (.iconst 4, 1) := by decide +kernel
theorem dX5_guardSides_65 : decode cX5_guardSides 65 = .ok (.idiv, 1) := by decide +kernel
theorem dX5_guardSides_66 : decode cX5_guardSides 66 = .ok (.istore 4, 2) := by decide +kernel
theorem dX5_guardSides_68 : decode cX5_guardSides 68 = .ok (.aload_n 0, 1) := by decide +kernel
theorem dX5_guardSides_69 : decode cX5_guardSides 69 = .ok (.getfield 51, 3) := by decide +kernel
theorem dX5_guardSides_72 : decode cX5_guardSides 72 = .ok (.iconst 1, 1) := by decide +kernel
theorem dX5_guardSides_73 : decode cX5_guardSides 73 = .ok (.iaload, 1) := by decide +kernel
theorem dX5_guardSides_74 : decode cX5_guardSides 74 = .ok (.iload_n 3, 1) := by decide +kernel
theorem dX5_guardSides_75 : decode cX5_guardSides 75 = .ok (.imul, 1) := by decide +kernel
theorem dX5_guardSides_76 : decode cX5_guardSides 76 = .ok (.iconst 4, 1) := by decide +kernel
theorem dX5_guardSides_77 : decode cX5_guardSides 77 = .ok (.idiv, 1) := by decide +kernel
theorem dX5_guardSides_78 : decode cX5_guardSides 78 = .ok (.istore 5, 2) := by decide +kernel
theorem dX5_guardSides_80 : decode cX5_guardSides 80 = .ok (.aload_n 0, 1) := by decide +kernel
theorem dX5_guardSides_81 : decode cX5_guardSides 81 = .ok (.getfield 16, 3) := by decide +kernel
theorem dX5_guardSides_84 : decode cX5_guardSides 84 = .ok (.iload_n 1, 1) := by decide +kernel
theorem dX5_guardSides_85 : decode cX5_guardSides 85 = .ok (.iload 4, 2) := by decide +kernel
theorem dX5_guardSides_87 : decode cX5_guardSides 87 = .ok (.iadd, 1) := by decide +kernel
theorem dX5_guardSides_88 : decode cX5_guardSides 88 = .ok (.iload_n 2, 1) := by decide +kernel
theorem dX5_guardSides_89 : decode cX5_guardSides 89 = .ok (.iload 5, 2) := by decide +kernel
theorem dX5_guardSides_91 : decode cX5_guardSides 91 = .ok (.iadd, 1) := by decide +kernel
theorem dX5_guardSides_92 : decode cX5_guardSides 92 = .ok (.sipush 200, 3) := by decide +kernel
theorem dX5_guardSides_95 : decode cX5_guardSides 95 = .ok (.invokevirtual 94, 3) := by decide +kernel
theorem dX5_guardSides_98 : decode cX5_guardSides 98 = .ok (.ifCond .eq 18, 3) := by decide +kernel
theorem dX5_guardSides_101 : decode cX5_guardSides 101 = .ok (.aload_n 0, 1) := by decide +kernel
theorem dX5_guardSides_102 : decode cX5_guardSides 102 = .ok (.iload 4, 2) := by decide +kernel
theorem dX5_guardSides_104 : decode cX5_guardSides 104 = .ok (.iload 5, 2) := by decide +kernel
theorem dX5_guardSides_106 : decode cX5_guardSides 106 = .ok (.aload_n 0, 1) := by decide +kernel
theorem dX5_guardSides_107 : decode cX5_guardSides 107 = .ok (.getfield 51, 3) := by decide +kernel
theorem dX5_guardSides_110 : decode cX5_guardSides 110 = .ok (.iconst 2, 1) := by decide +kernel
theorem dX5_guardSides_111 : decode cX5_guardSides 111 = .ok (.iaload, 1) := by decide +kernel
theorem dX5_guardSides_112 : decode cX5_guardSides 112 = .ok (.invokevirtual 155, 3) := by decide +kernel
theorem dX5_guardSides_115 : decode cX5_guardSides 115 = .ok (.return_, 1) := by decide +kernel
theorem dX5_guardSides_116 : decode cX5_guardSides 116 = .ok (.iinc 3 (-1), 3) := by decide +kernel
theorem dX5_guardSides_119 : decode cX5_guardSides 119 = .ok (.goto (-67), 3) := by decide +kernel
theorem dX5_guardSides_122 : decode cX5_guardSides 122 = .ok (.return_, 1) := by decide +kernel
theorem dX5_guardTop_0 : decode cX5_guardTop 0 = .ok (.aload_n 0, 1) := by decide +kernel
theorem dX5_guardTop_1 : decode cX5_guardTop 1 = .ok (.getfield 54, 3) := by decide +kernel
theorem dX5_guardTop_4 : decode cX5_guardTop 4 = .ok (.sipush 200, 3) := by decide +kernel
theorem dX5_guardTop_7 : decode cX5_guardTop 7 = .ok (.isub, 1) := by decide +kernel
theorem dX5_guardTop_8 : decode cX5_guardTop 8 = .ok (.aload_n 0, 1) := by decide +kernel
theorem dX5_guardTop_9 : decode cX5_guardTop 9 = .ok (.getfield 47, 3) := by decide +kernel
theorem dX5_guardTop_12 : decode cX5_guardTop 12 = .ok (.iconst 2, 1) := by decide +kernel
theorem dX5_guardTop_13 : decode cX5_guardTop 13 = .ok (.iaload, 1) := by decide +kernel
theorem dX5_guardTop_14 : decode cX5_guardTop 14 = .ok (.isub, 1) := by decide +kernel
theorem dX5_guardTop_15 : decode cX5_guardTop 15 = .ok (.istore_n 1, 1) := by decide +kernel
theorem dX5_guardTop_16 : decode cX5_guardTop 16 = .ok (.aload_n 0, 1) := by decide +kernel
theorem dX5_guardTop_17 : decode cX5_guardTop 17 = .ok (.getfield 51, 3) := by decide +kernel
theorem dX5_guardTop_20 : decode cX5_guardTop 20 = .ok (.iconst 2, 1) := by decide +kernel
theorem dX5_guardTop_21 : decode cX5_guardTop 21 = .ok (.iaload, 1) := by decide +kernel
theorem dX5_guardTop_22 : decode cX5_guardTop 22 = .ok (.iload_n 1, 1) := by decide +kernel
theorem dX5_guardTop_23 : decode cX5_guardTop 23 = .ok (.if_icmp .le 16, 3) := by decide +kernel
theorem dX5_guardTop_26 : decode cX5_guardTop 26 = .ok (.aload_n 0, 1) := by decide +kernel
theorem dX5_guardTop_27 : decode cX5_guardTop 27 = .ok (.getfield 51, 3) := by decide +kernel
theorem dX5_guardTop_30 : decode cX5_guardTop 30 = .ok (.iconst 2, 1) := by decide +kernel
theorem dX5_guardTop_31 : decode cX5_guardTop 31 = .ok (.iload_n 1, 1) := by decide +kernel
theorem dX5_guardTop_32 : decode cX5_guardTop 32 = .ok (.sipush (-200), 3) := by decide +kernel
theorem dX5_guardTop_35 : decode cX5_guardTop 35 = .ok (.invokestatic 217, 3) := by decide +kernel
theorem dX5_guardTop_38 : decode cX5_guardTop 38 = .ok (.iastore, 1) := by decide +kernel
theorem dX5_guardTop_39 : decode cX5_guardTop 39 = .ok (.return_, 1) := by decide +kernel
theorem dX5_setWish_0 : decode cX5_setWish 0 = .ok (.aload_n 0, 1) := by decide +kernel
theorem dX5_setWish_1 : decode cX5_setWish 1 = .ok (.getfield 51, 3) := by decide +kernel
theorem dX5_setWish_4 : decode cX5_setWish 4 = .ok (.iconst 0, 1) := by decide +kernel
theorem dX5_setWish_5 : decode cX5_setWish 5 = .ok (.iload_n 1, 1) := by decide +kernel
theorem dX5_setWish_6 : decode cX5_setWish 6 = .ok (.iastore, 1) := by decide +kernel
theorem dX5_setWish_7 : decode cX5_setWish 7 = .ok (.aload_n 0, 1) := by decide +kernel
theorem dX5_setWish_8 : decode cX5_setWish 8 = .ok (.getfield 51, 3) := by decide +kernel
theorem dX5_setWish_11 : decode cX5_setWish 11 = .ok (.iconst 1, 1) := by decide +kernel
theorem dX5_setWish_12 : decode cX5_setWish 12 = .ok (.iload_n 2, 1) := by decide +kernel
theorem dX5_setWish_13 : decode cX5_setWish 13 = .ok (.iastore, 1) := by decide +kernel
theorem dX5_setWish_14 : decode cX5_setWish 14 = .ok (.aload_n 0, 1) := by decide +kernel
theorem dX5_setWish_15 : decode cX5_setWish 15 = .ok (.getfield 51, 3) := by decide +kernel
theorem dX5_setWish_18 : decode cX5_setWish 18 = .ok (.iconst 2, 1) := by decide +kernel
theorem dX5_setWish_19 : decode cX5_setWish 19 = .ok (.iload_n 3, 1) := by decide +kernel
theorem dX5_setWish_20 : decode cX5_setWish 20 = .ok (.iastore, 1) := by decide +kernel
theorem dX5_setWish_21 : decode cX5_setWish 21 = .ok (.return_, 1) := by decide +kernel
theorem dX5_isWithin_0 : decode cX5_isWithin 0 = .ok (.iload_n 0, 1) := by decide +kernel
theorem dX5_isWithin_1 : decode cX5_isWithin 1 = .ok (.iload_n 1, 1) := by decide +kernel
theorem dX5_isWithin_2 : decode cX5_isWithin 2 = .ok (.if_icmp .lt 12, 3) := by decide +kernel
theorem dX5_isWithin_5 : decode cX5_isWithin 5 = .ok (.iload_n 0, 1) := by decide +kernel
theorem dX5_isWithin_6 : decode cX5_isWithin 6 = .ok (.iload_n 2, 1) := by decide +kernel
theorem dX5_isWithin_7 : decode cX5_isWithin 7 = .ok (.if_icmp .gt 7, 3) := by decide +kernel
theorem dX5_isWithin_10 : decode cX5_isWithin 10 = .ok (.iconst 1, 1) := by decide +kernel
theorem dX5_isWithin_11 : decode cX5_isWithin 11 = .ok (.goto 4, 3) := by decide +kernel
theorem dX5_isWithin_14 : decode cX5_isWithin 14 = .ok (.iconst 0, 1) := by decide +kernel
theorem dX5_isWithin_15 : decode cX5_isWithin 15 = .ok (.ireturn, 1) := by decide +kernel
set_option maxRecDepth 20000 in
theorem ggX5_isOnMap_X5_isWithin : GoodIn wsX5_isOnMap wsX5_isWithin := goodIn_r _ [4] (by decide +kernel) (by decide +kernel)
set_option maxRecDepth 20000 in
theorem gX5_isOnMap_X5_isWithin : GoodIn wsX5_isOnMap (va_wsS RX5 98 yX5_isWithin wsX5_isWithin) := goodIn_app (goodIn_of _ (by decide +kernel)) ggX5_isOnMap_X5_isWithin
theorem dX5_isOnMap_0 : decode cX5_isOnMap 0 = .ok (.iload_n 0, 1) := by decide +kernel
theorem dX5_isOnMap_1 : decode cX5_isOnMap 1 = .ok (.sipush (-10000), 3) := by decide +kernel
theorem dX5_isOnMap_4 : decode cX5_isOnMap 4 = .ok (.sipush 10000, 3) := by decide +kernel
theorem dX5_isOnMap_7 : decode cX5_isOnMap 7 = .ok (.invokestatic 98, 3) := by decide +kernel
theorem dX5_isOnMap_10 : decode cX5_isOnMap 10 = .ok (.ifCond .eq 20, 3) := by decide +kernel
theorem dX5_isOnMap_13 : decode cX5_isOnMap 13 = .ok (.iload_n 1, 1) := by decide +kernel
theorem dX5_isOnMap_14 : decode cX5_isOnMap 14 = .ok (.sipush (-10000), 3) := by decide +kernel
theorem dX5_isOnMap_17 : decode cX5_isOnMap 17 = .ok (.sipush 10000, 3) := by decide +kernel
theorem dX5_isOnMap_20 : decode cX5_isOnMap 20 = .ok (.invokestatic 98, 3) := by decide +kernel
theorem dX5_isOnMap_23 : decode cX5_isOnMap 23 = .ok (.ifCond .eq 7, 3) := by decide +kernel
theorem dX5_isOnMap_26 : decode cX5_isOnMap 26 = .ok (.iconst 1, 1) := by decide +kernel
theorem dX5_isOnMap_27 : decode cX5_isOnMap 27 = .ok (.goto 4, 3) := by decide +kernel
theorem dX5_isOnMap_30 : decode cX5_isOnMap 30 = .ok (.iconst 0, 1) := by decide +kernel
theorem dX5_isOnMap_31 : decode cX5_isOnMap 31 = .ok (.ireturn, 1) := by decide +kernel
set_option maxRecDepth 20000 in
theorem ggX5_isInSensorReach_X5_isWithin : GoodIn wsX5_isInSensorReach wsX5_isWithin := goodIn_r _ [4] (by decide +kernel) (by decide +kernel)
set_option maxRecDepth 20000 in
theorem gX5_isInSensorReach_X5_isWithin : GoodIn wsX5_isInSensorReach (va_wsS RX5 98 yX5_isWithin wsX5_isWithin) := goodIn_app (goodIn_of _ (by decide +kernel)) ggX5_isInSensorReach_X5_isWithin
theorem dX5_isInSensorReach_0 : decode cX5_isInSensorReach 0 = .ok (.iload_n 0, 1) := by decide +kernel
theorem dX5_isInSensorReach_1 : decode cX5_isInSensorReach 1 = .ok (.sipush (-20000), 3) := by decide +kernel
theorem dX5_isInSensorReach_4 : decode cX5_isInSensorReach 4 = .ok (.sipush 20000, 3) := by decide +kernel
theorem dX5_isInSensorReach_7 : decode cX5_isInSensorReach 7 = .ok (.invokestatic 98, 3) := by decide +kernel
theorem dX5_isInSensorReach_10 : decode cX5_isInSensorReach 10 = .ok (.ifCond .eq 20, 3) := by decide +kernel
theorem dX5_isInSensorReach_13 : decode cX5_isInSensorReach 13 = .ok (.iload_n 1, 1) := by decide +kernel
theorem dX5_isInSensorReach_14 : decode cX5_isInSensorReach 14 = .ok (.sipush (-20000), 3) := by decide +kernel
theorem dX5_isInSensorReach_17 : decode cX5_isInSensorReach 17 = .ok (.sipush 20000, 3) := by decide +kernel
theorem dX5_isInSensorReach_20 : decode cX5_isInSensorReach 20 = .ok (.invokestatic 98, 3) := by decide +kernel
theorem dX5_isInSensorReach_23 : decode cX5_isInSensorReach 23 = .ok (.ifCond .eq 7, 3) := by decide +kernel
theorem dX5_isInSensorReach_26 : decode cX5_isInSensorReach 26 = .ok (.iconst 1, 1) := by decide +kernel
theorem dX5_isInSensorReach_27 : decode cX5_isInSensorReach 27 = .ok (.goto 4, 3) := by decide +kernel
theorem dX5_isInSensorReach_30 : decode cX5_isInSensorReach 30 = .ok (.iconst 0, 1) := by decide +kernel
theorem dX5_isInSensorReach_31 : decode cX5_isInSensorReach 31 = .ok (.ireturn, 1) := by decide +kernel
set_option maxRecDepth 20000 in
theorem ggX5_isNear_X5_isWithin : GoodIn wsX5_isNear wsX5_isWithin := goodIn_r _ [4] (by decide +kernel) (by decide +kernel)
set_option maxRecDepth 20000 in
theorem gX5_isNear_X5_isWithin : GoodIn wsX5_isNear (va_wsS RX5 98 yX5_isWithin wsX5_isWithin) := goodIn_app (goodIn_of _ (by decide +kernel)) ggX5_isNear_X5_isWithin
theorem dX5_isNear_0 : decode cX5_isNear 0 = .ok (.iload_n 0, 1) := by decide +kernel
theorem dX5_isNear_1 : decode cX5_isNear 1 = .ok (.iload_n 1, 1) := by decide +kernel
theorem dX5_isNear_2 : decode cX5_isNear 2 = .ok (.isub, 1) := by decide +kernel
theorem dX5_isNear_3 : decode cX5_isNear 3 = .ok (.bipush (-100), 2) := by decide +kernel
theorem dX5_isNear_5 : decode cX5_isNear 5 = .ok (.bipush 100, 2) := by decide +kernel
theorem dX5_isNear_7 : decode cX5_isNear 7 = .ok (.invokestatic 98, 3) := by decide +kernel
theorem dX5_isNear_10 : decode cX5_isNear 10 = .ok (.ireturn, 1) := by decide +kernel
theorem dX5_saturate_0 : decode cX5_saturate 0 = .ok (.sipush (-200), 3) := by decide +kernel
theorem dX5_saturate_3 : decode cX5_saturate 3 = .ok (.sipush 200, 3) := by decide +kernel
theorem dX5_saturate_6 : decode cX5_saturate 6 = .ok (.iload_n 0, 1) := by decide +kernel
theorem dX5_saturate_7 : decode cX5_saturate 7 = .ok (.invokestatic 222, 3) := by decide +kernel
theorem dX5_saturate_10 : decode cX5_saturate 10 = .ok (.invokestatic 217, 3) := by decide +kernel
theorem dX5_saturate_13 : decode cX5_saturate 13 = .ok (.ireturn, 1) := by decide +kernel
end
section
theorem dX6_init_0 : decode cX6_init 0 = .ok (.aload_n 0, 1) := by decide +kernel
theorem dX6_init_1 : decode cX6_init 1 = .ok (.invokespecial 1, 3) := by decide +kernel
theorem dX6_init_4 : decode cX6_init 4 = .ok (.aload_n 0, 1) := by decide +kernel
theorem dX6_init_5 : decode cX6_init 5 = .ok (.bipush 16, 2) := by decide +kernel
theorem dX6_init_7 : decode cX6_init 7 = .ok (.newarray .int, 2) := by decide +kernel
theorem dX6_init_9 : decode cX6_init 9 = .ok (.putfield 7, 3) := by decide +kernel
theorem dX6_init_12 : decode cX6_init 12 = .ok (.aload_n 0, 1) := by decide +kernel
theorem dX6_init_13 : decode cX6_init 13 = .ok (.bipush 16, 2) := by decide +kernel
theorem dX6_init_15 : decode cX6_init 15 = .ok (.newarray .int, 2) := by decide +kernel
theorem dX6_init_17 : decode cX6_init 17 = .ok (.putfield 13, 3) := by decide +kernel
theorem dX6_init_20 : decode cX6_init 20 = .ok (.aload_n 0, 1) := by decide +kernel
theorem dX6_init_21 : decode cX6_init 21 = .ok (.bipush 48, 2) := by decide +kernel
theorem dX6_init_23 : decode cX6_init 23 = .ok (.newarray .int, 2) := by decide +kernel
theorem dX6_init_25 : decode cX6_init 25 = .ok (.putfield 16, 3) := by decide +kernel
theorem dX6_init_28 : decode cX6_init 28 = .ok (.aload_n 0, 1) := by decide +kernel
theorem dX6_init_29 : decode cX6_init 29 = .ok (.iconst 3, 1) := by decide +kernel
theorem dX6_init_30 : decode cX6_init 30 = .ok (.newarray .boolean, 2) := by decide +kernel
theorem dX6_init_32 : decode cX6_init 32 = .ok (.putfield 19, 3) := by decide +kernel
theorem dX6_init_35 : decode cX6_init 35 = .ok (.aload_n 0, 1) := by decide +kernel
theorem dX6_init_36 : decode cX6_init 36 = .ok (.bipush 9, 2) := by decide +kernel
theorem dX6_init_38 : decode cX6_init 38 = .ok (.newarray .int, 2) := by decide +kernel
theorem dX6_init_40 : decode cX6_init 40 = .ok (.putfield 23, 3) := by decide +kernel
theorem dX6_init_43 : decode cX6_init 43 = .ok (.aload_n 0, 1) := by decide +kernel
theorem dX6_init_44 : decode cX6_init 44 = .ok (.iconst 3, 1) := by decide +kernel
theorem dX6_init_45 : decode cX6_init 45 = .ok (.newarray .int, 2) := by decide +kernel
theorem dX6_init_47 : decode cX6_init 47 = .ok (.putfield 26, 3) := by decide +kernel
theorem dX6_init_50 : decode cX6_init 50 = .ok (.aload_n 0, 1) := by decide +kernel
theorem dX6_init_51 : decode cX6_init 51 = .ok (.iconst 3, 1) := by decide +kernel
theorem dX6_init_52 : decode cX6_init 52 = .ok (.newarray .int, 2) := by decide +kernel
theorem dX6_init_54 : decode cX6_init 54 = .ok (.putfield 29, 3) := by decide +kernel
theorem dX6_init_57 : decode cX6_init 57 = .ok (.aload_n 0, 1) := by decide +kernel
theorem dX6_init_58 : decode cX6_init 58 = .ok (.iconst 1, 1) := by decide +kernel
theorem dX6_init_59 : decode cX6_init 59 = .ok (.putfield 32, 3) := by decide +kernel
theorem dX6_init_62 : decode cX6_init 62 = .ok (.aload_n 0, 1) := by decide +kernel
theorem dX6_init_63 : decode cX6_init 63 = .ok (.bipush 16, 2) := by decide +kernel
theorem dX6_init_65 : decode cX6_init 65 = .ok (.newarray .int, 2) := by decide +kernel
theorem dX6_init_67 : decode cX6_init 67 = .ok (.putfield 36, 3) := by decide +kernel
theorem dX6_init_70 : decode cX6_init 70 = .ok (.return_, 1) := by decide +kernel
theorem dX6_within_0 : decode cX6_within 0 = .ok (.iload_n 0, 1) := by decide +kernel
theorem dX6_within_1 : decode cX6_within 1 = .ok (.iload_n 1, 1) := by decide +kernel
theorem dX6_within_2 : decode cX6_within 2 = .ok (.if_icmp .lt 12, 3) := by decide +kernel
theorem dX6_within_5 : decode cX6_within 5 = .ok (.iload_n 0, 1) := by decide +kernel
theorem dX6_within_6 : decode cX6_within 6 = .ok (.iload_n 2, 1) := by decide +kernel
theorem dX6_within_7 : decode cX6_within 7 = .ok (.if_icmp .gt 7, 3) := by decide +kernel
theorem dX6_within_10 : decode cX6_within 10 = .ok (.iconst 1, 1) := by decide +kernel
theorem dX6_within_11 : decode cX6_within 11 = .ok (.goto 4, 3) := by decide +kernel
theorem dX6_within_14 : decode cX6_within 14 = .ok (.iconst 0, 1) := by decide +kernel
theorem dX6_within_15 : decode cX6_within 15 = .ok (.ireturn, 1) := by decide +kernel
theorem dX6_side_0 : decode cX6_side 0 = .ok (.aload_n 0, 1) := by decide +kernel
theorem dX6_side_1 : decode cX6_side 1 = .ok (.getfield 7, 3) := by decide +kernel
theorem dX6_side_4 : decode cX6_side 4 = .ok (.iload_n 2, 1) := by decide +kernel
theorem dX6_side_5 : decode cX6_side 5 = .ok (.iaload, 1) := by decide +kernel
theorem dX6_side_6 : decode cX6_side 6 = .ok (.aload_n 0, 1) := by decide +kernel
theorem dX6_side_7 : decode cX6_side 7 = .ok (.getfield 7, 3) := by decide +kernel
theorem dX6_side_10 : decode cX6_side 10 = .ok (.iload_n 1, 1) := by decide +kernel
theorem dX6_side_11 : decode cX6_side 11 = .ok (.iaload, 1) := by decide +kernel
theorem dX6_side_12 : decode cX6_side 12 = .ok (.isub, 1) := by decide +kernel
theorem dX6_side_13 : decode cX6_side 13 = .ok (.i2l, 1) := by decide +kernel
theorem dX6_side_14 : decode cX6_side 14 = .ok (.iload 4, 2) := by decide +kernel
theorem dX6_side_16 : decode cX6_side 16 = .ok (.aload_n 0, 1) := by decide +kernel
theorem dX6_side_17 : decode cX6_side 17 = .ok (.getfield 13, 3) := by decide +kernel
theorem dX6_side_20 : decode cX6_side 20 = .ok (.iload_n 1, 1) := by decide +kernel
theorem dX6_side_21 : decode cX6_side 21 = .ok (.iaload, 1) := by decide +kernel
theorem dX6_side_22 : decode cX6_side 22 = .ok (.isub, 1) := by decide +kernel
theorem dX6_side_23 : decode cX6_side 23 = .ok (.i2l, 1) := by decide +kernel
theorem dX6_side_24 : decode cX6_side 24 = .ok (.lmul, 1) := by decide +kernel
theorem dX6_side_25 : decode cX6_side 25 = .ok (.lstore 5, 2) := by decide +kernel
theorem dX6_side_27 : decode cX6_side 27 = .ok (.aload_n 0, 1) := by decide +kernel
theorem dX6_side_28 : decode cX6_side 28 = .ok (.getfield 13, 3) := by decide +kernel
theorem dX6_side_31 : decode cX6_side 31 = .ok (.iload_n 2, 1) := by decide +kernel
theorem dX6_side_32 : decode cX6_side 32 = .ok (.iaload, 1) := by decide +kernel
theorem dX6_side_33 : decode cX6_side 33 = .ok (.aload_n 0, 1) := by decide +kernel
theorem dX6_side_34 : decode cX6_side 34 = .ok (.getfield 13, 3) := by decide +kernel
theorem dX6_side_37 : decode cX6_side 37 = .ok (.iload_n 1, 1) := by decide +kernel
theorem dX6_side_38 : decode cX6_side 38 = .ok (.iaload, 1) := by decide +kernel
theorem dX6_side_39 : decode cX6_side 39 = .ok (.isub, 1) := by decide +kernel
theorem dX6_side_40 : decode cX6_side 40 = .ok (.i2l, 1) := by decide +kernel
theorem dX6_side_41 : decode cX6_side 41 = .ok (.iload_n 3, 1) := by decide +kernel
theorem dX6_side_42 : decode cX6_side 42 = .ok (.aload_n 0, 1) := by decide +kernel
theorem dX6_side_43 : decode cX6_side 43 = .ok (.getfield 7, 3) := by decide +kernel
theorem dX6_side_46 : decode cX6_side 46 = .ok (.iload_n 1, 1) := by decide +kernel
theorem dX6_side_47 : decode cX6_side 47 = .ok (.iaload, 1) := by decide +kernel
theorem dX6_side_48 : decode cX6_side 48 = .ok (.isub, 1) := by decide +kernel
theorem dX6_side_49 : decode cX6_side 49 = .ok (.i2l, 1) := by decide +kernel
theorem dX6_side_50 : decode cX6_side 50 = .ok (.lmul, 1) := by decide +kernel
theorem dX6_side_51 : decode cX6_side 51 = .ok (.lstore 7, 2) := by decide +kernel
theorem dX6_side_53 : decode cX6_side 53 = .ok (.lload 5, 2) := by decide +kernel
theorem dX6_side_55 : decode cX6_side 55 = .ok (.lload 7, 2) := by decide +kernel
theorem dX6_side_57 : decode cX6_side 57 = .ok (.lsub, 1) := by decide +kernel
theorem dX6_side_58 : decode cX6_side 58 = .ok (.lreturn, 1) := by decide +kernel
set_option maxRecDepth 20000 in
theorem ggX6_clearOf_X6_side : GoodIn wsX6_clearOf wsX6_side := goodIn_r _ [7, 1, 2, 8, 9, 10, 11, 12, 13, 14, 15, 16, 17, 18, 19, 20, 21, 22, 23, 24, 25, 26, 27, 28, 29, 30] (by decide +kernel) (by decide +kernel)
set_option maxRecDepth 20000 in
theorem gX6_clearOf_X6_side : GoodIn wsX6_clearOf (wsV RX6 39 RX6 yX6_side wsX6_side) := goodIn_app (goodIn_of _ (by decide +kernel)) ggX6_clearOf_X6_side
theorem dX6_clearOf_0 : decode cX6_clearOf 0 = .ok (.aload_n 0, 1) := by decide +kernel
theorem dX6_clearOf_1 : decode cX6_clearOf 1 = .ok (.iload_n 1, 1) := by decide +kernel
theorem dX6_clearOf_2 : decode cX6_clearOf 2 = .ok (.iload_n 2, 1) := by decide +kernel
theorem dX6_clearOf_3 : decode cX6_clearOf 3 = .ok (.iload_n 3, 1) := by decide +kernel
theorem dX6_clearOf_4 : decode cX6_clearOf 4 = .ok (.iload 4, 2) := by decide +kernel
theorem dX6_clearOf_6 : decode cX6_clearOf 6 = .ok (.invokevirtual 39, 3) := by decide +kernel
theorem dX6_clearOf_9 : decode cX6_clearOf 9 = .ok (.lstore 7, 2) := by decide +kernel
theorem dX6_clearOf_11 : decode cX6_clearOf 11 = .ok (.aload_n 0, 1) := by decide +kernel
theorem dX6_clearOf_12 : decode cX6_clearOf 12 = .ok (.getfield 7, 3) := by decide +kernel
theorem dX6_clearOf_15 : decode cX6_clearOf 15 = .ok (.iload_n 2, 1) := by decide +kernel
theorem dX6_clearOf_16 : decode cX6_clearOf 16 = .ok (.iaload, 1) := by decide +kernel
theorem dX6_clearOf_17 : decode cX6_clearOf 17 = .ok (.aload_n 0, 1) := by decide +kernel
theorem dX6_clearOf_18 : decode cX6_clearOf 18 = .ok (.getfield 7, 3) := by decide +kernel
theorem dX6_clearOf_21 : decode cX6_clearOf 21 = .ok (.iload_n 1, 1) := by decide +kernel
theorem dX6_clearOf_22 : decode cX6_clearOf 22 = .ok (.iaload, 1) := by decide +kernel
theorem dX6_clearOf_23 : decode cX6_clearOf 23 = .ok (.isub, 1) := by decide +kernel
theorem dX6_clearOf_24 : decode cX6_clearOf 24 = .ok (.i2l, 1) := by decide +kernel
theorem dX6_clearOf_25 : decode cX6_clearOf 25 = .ok (.lstore 9, 2) := by decide +kernel
theorem dX6_clearOf_27 : decode cX6_clearOf 27 = .ok (.aload_n 0, 1) := by decide +kernel
theorem dX6_clearOf_28 : decode cX6_clearOf 28 = .ok (.getfield 13, 3) := by decide +kernel
theorem dX6_clearOf_31 : decode cX6_clearOf 31 = .ok (.iload_n 2, 1) := by decide +kernel
theorem dX6_clearOf_32 : decode cX6_clearOf 32 = .ok (.iaload, 1) := by decide +kernel
theorem dX6_clearOf_33 : decode cX6_clearOf 33 = .ok (.aload_n 0, 1) := by decide +kernel
theorem dX6_clearOf_34 : decode cX6_clearOf 34 = .ok (.getfield 13, 3) := by decide +kernel
theorem dX6_clearOf_37 : decode cX6_clearOf 37 = .ok (.iload_n 1, 1) := by decide +kernel
theorem dX6_clearOf_38 : decode cX6_clearOf 38 = .ok (.iaload, 1) := by decide +kernel
theorem dX6_clearOf_39 : decode cX6_clearOf 39 = .ok (.isub, 1) := by decide +kernel
theorem dX6_clearOf_40 : decode cX6_clearOf 40 = .ok (.i2l, 1) := by decide +kernel
theorem dX6_clearOf_41 : decode cX6_clearOf 41 = .ok (.lstore 11, 2) := by decide +kernel
theorem dX6_clearOf_43 : decode cX6_clearOf 43 = .ok (.lload 7, 2) := by decide +kernel
theorem dX6_clearOf_45 : decode cX6_clearOf 45 = .ok (.lconst 0, 1) := by decide +kernel
theorem dX6_clearOf_46 : decode cX6_clearOf 46 = .ok (.lcmp, 1) := by decide +kernel
theorem dX6_clearOf_47 : decode cX6_clearOf 47 = .ok (.ifCond .lt 33, 3) := by decide +kernel
theorem dX6_clearOf_50 : decode cX6_clearOf 50 = .ok (.lload 7, 2) := by decide +kernel
theorem dX6_clearOf_52 : decode cX6_clearOf 52 = .ok (.lload 7, 2) := by decide +kernel
theorem dX6_clearOf_54 : decode cX6_clearOf 54 = .ok (.lmul, 1) := by decide +kernel
theorem dX6_clearOf_55 : decode cX6_clearOf 55 = .ok (.lload 5, 2) := by decide +kernel
theorem dX6_clearOf_57 : decode cX6_clearOf 57 = .ok (.lload 5, 2) := by decide +kernel
theorem dX6_clearOf_59 : decode cX6_clearOf 59 = .ok (.lmul, 1) := by decide +kernel
theorem dX6_clearOf_60 : decode cX6_clearOf 60 = .ok (.lload 9, 2) := by decide +kernel
theorem dX6_clearOf_62 : decode cX6_clearOf 62 = .ok (.lload 9, 2) := by decide +kernel
theorem dX6_clearOf_64 : decode cX6_clearOf 64 = .ok (.lmul, 1) := by decide +kernel
theorem dX6_clearOf_65 : decode cX6_clearOf 65 = .ok (.lload 11, 2) := by decide +kernel
theorem dX6_clearOf_67 : decode cX6_clearOf 67 = .ok (.lload 11, 2) := by decide +kernel
theorem dX6_clearOf_69 : decode cX6_clearOf 69 = .ok (.lmul, 1) := by decide +kernel
theorem dX6_clearOf_70 : decode cX6_clearOf 70 = .ok (.ladd, 1) := by decide +kernel
theorem dX6_clearOf_71 : decode cX6_clearOf 71 = .ok (.lmul, 1) := by decide +kernel
theorem dX6_clearOf_72 : decode cX6_clearOf 72 = .ok (.lcmp, 1) := by decide +kernel
theorem dX6_clearOf_73 : decode cX6_clearOf 73 = .ok (.ifCond .lt 7, 3) := by decide +kernel
theorem dX6_clearOf_76 : decode cX6_clearOf 76 = .ok (.iconst 1, 1) := by decide +kernel
theorem dX6_clearOf_77 : decode cX6_clearOf 77 = .ok (.goto 4, 3) := by decide +kernel
theorem dX6_clearOf_80 : decode cX6_clearOf 80 = .ok (.iconst 0, 1) := by decide +kernel
theorem dX6_clearOf_81 : decode cX6_clearOf 81 = .ok (.ireturn, 1) := by decide +kernel
set_option maxRecDepth 20000 in
theorem ggX6_clearOfAll_X6_clearOf : GoodIn wsX6_clearOfAll wsX6_clearOf := goodIn_r _ [5, 6, 7, 8, 9, 10, 4, 11, 12, 13, 14, 15, 16, 17, 18, 19, 20, 21, 22, 23, 24, 25, 26, 27, 28, 29, 30, 31, 32, 33, 34] (by decide +kernel) (by decide +kernel)
set_option maxRecDepth 20000 in
theorem gX6_clearOfAll_X6_clearOf : GoodIn wsX6_clearOfAll (wsV RX6 43 RX6 yX6_clearOf wsX6_clearOf) := goodIn_app (goodIn_of _ (by decide +kernel)) ggX6_clearOfAll_X6_clearOf
theorem dX6_clearOfAll_0 : decode cX6_clearOfAll 0 = .ok (.iconst 0, 1) := by decide +kernel
theorem dX6_clearOfAll_1 : decode cX6_clearOfAll 1 = .ok (.istore 7, 2) := by decide +kernel
theorem dX6_clearOfAll_3 : decode cX6_clearOfAll 3 = .ok (.iload 7, 2) := by decide +kernel
theorem dX6_clearOfAll_5 : decode cX6_clearOfAll 5 = .ok (.iload_n 2, 1) := by decide +kernel
theorem dX6_clearOfAll_6 : decode cX6_clearOfAll 6 = .ok (.if_icmp .ge 35, 3) := by decide +kernel
theorem dX6_clearOfAll_9 : decode cX6_clearOfAll 9 = .ok (.aload_n 0, 1) := by decide +kernel
theorem dX6_clearOfAll_10 : decode cX6_clearOfAll 10 = .ok (.iload_n 1, 1) := by decide +kernel
theorem dX6_clearOfAll_11 : decode cX6_clearOfAll 11 = .ok (.iload 7, 2) := by decide +kernel
theorem dX6_clearOfAll_13 : decode cX6_clearOfAll 13 = .ok (.iadd, 1) := by decide +kernel
theorem dX6_clearOfAll_14 : decode cX6_clearOfAll 14 = .ok (.iload_n 1, 1) := by decide +kernel
theorem dX6_clearOfAll_15 : decode cX6_clearOfAll 15 = .ok (.iload 7, 2) := by decide +kernel
theorem dX6_clearOfAll_17 : decode cX6_clearOfAll 17 = .ok (.iconst 1, 1) := by decide +kernel
theorem dX6_clearOfAll_18 : decode cX6_clearOfAll 18 = .ok (.iadd, 1) := by decide +kernel
theorem dX6_clearOfAll_19 : decode cX6_clearOfAll 19 = .ok (.iload_n 2, 1) := by decide +kernel
theorem dX6_clearOfAll_20 : decode cX6_clearOfAll 20 = .ok (.irem, 1) := by decide +kernel
theorem dX6_clearOfAll_21 : decode cX6_clearOfAll 21 = .ok (.iadd, 1) := by decide +kernel
theorem dX6_clearOfAll_22 : decode cX6_clearOfAll 22 = .ok (.iload_n 3, 1) := by decide +kernel
theorem dX6_clearOfAll_23 : decode cX6_clearOfAll 23 = .ok (.iload 4, 2) := by decide +kernel
theorem dX6_clearOfAll_25 : decode cX6_clearOfAll 25 = .ok (.lload 5, 2) := by decide +kernel
theorem dX6_clearOfAll_27 : decode cX6_clearOfAll 27 = .ok (.invokevirtual 43, 3) := by decide +kernel
theorem dX6_clearOfAll_30 : decode cX6_clearOfAll 30 = .ok (.ifCond .ne 5, 3) := by decide +kernel
theorem dX6_clearOfAll_33 : decode cX6_clearOfAll 33 = .ok (.iconst 0, 1) := by decide +kernel
theorem dX6_clearOfAll_34 : decode cX6_clearOfAll 34 = .ok (.ireturn, 1) := by decide +kernel
theorem dX6_clearOfAll_35 : decode cX6_clearOfAll 35 = .ok (.iinc 7 1, 3) := by decide +kernel
theorem dX6_clearOfAll_38 : decode cX6_clearOfAll 38 = .ok (.goto (-35), 3) := by decide +kernel
theorem dX6_clearOfAll_41 : decode cX6_clearOfAll 41 = .ok (.iconst 1, 1) := by decide +kernel
theorem dX6_clearOfAll_42 : decode cX6_clearOfAll 42 = .ok (.ireturn, 1) := by decide +kernel
set_option maxRecDepth 20000 in
theorem ggX6_convex_X6_side : GoodIn wsX6_convex wsX6_side := goodIn_r _ [8, 2, 3, 9, 10, 11, 12, 13, 14, 15, 16, 17, 18, 19, 20, 21, 22, 23, 24, 25, 26, 27, 28, 29, 30, 31] (by decide +kernel) (by decide +kernel)
set_option maxRecDepth 20000 in
theorem gX6_convex_X6_side : GoodIn wsX6_convex (wsV RX6 39 RX6 yX6_side wsX6_side) := goodIn_app (goodIn_of _ (by decide +kernel)) ggX6_convex_X6_side
theorem dX6_convex_0 : decode cX6_convex 0 = .ok (.iconst 0, 1) := by decide +kernel
theorem dX6_convex_1 : decode cX6_convex 1 = .ok (.istore_n 1, 1) := by decide +kernel
theorem dX6_convex_2 : decode cX6_convex 2 = .ok (.iload_n 1, 1) := by decide +kernel
theorem dX6_convex_3 : decode cX6_convex 3 = .ok (.aload_n 0, 1) := by decide +kernel
theorem dX6_convex_4 : decode cX6_convex 4 = .ok (.getfield 47, 3) := by decide +kernel
theorem dX6_convex_7 : decode cX6_convex 7 = .ok (.if_icmp .ge 101, 3) := by decide +kernel
theorem dX6_convex_10 : decode cX6_convex 10 = .ok (.iload_n 1, 1) := by decide +kernel
theorem dX6_convex_11 : decode cX6_convex 11 = .ok (.iconst 1, 1) := by decide +kernel
theorem dX6_convex_12 : decode cX6_convex 12 = .ok (.iadd, 1) := by decide +kernel
theorem dX6_convex_13 : decode cX6_convex 13 = .ok (.aload_n 0, 1) := by decide +kernel
theorem dX6_convex_14 : decode cX6_convex 14 = .ok (.getfield 47, 3) := by decide +kernel
theorem dX6_convex_17 : decode cX6_convex 17 = .ok (.irem, 1) := by decide +kernel
theorem dX6_convex_18 : decode cX6_convex 18 = .ok (.istore_n 2, 1) := by decide +kernel
theorem dX6_convex_19 : decode cX6_convex 19 = .ok (.aload_n 0, 1) := by decide +kernel
theorem dX6_convex_20 : decode cX6_convex 20 = .ok (.getfield 7, 3) := by decide +kernel
theorem dX6_convex_23 : decode cX6_convex 23 = .ok (.iload_n 1, 1) := by decide +kernel
theorem dX6_convex_24 : decode cX6_convex 24 = .ok (.iaload, 1) := by decide +kernel
theorem dX6_convex_25 : decode cX6_convex 25 = .ok (.aload_n 0, 1) := by decide +kernel
theorem dX6_convex_26 : decode cX6_convex 26 = .ok (.getfield 7, 3) := by decide +kernel
theorem dX6_convex_29 : decode cX6_convex 29 = .ok (.iload_n 2, 1) := by decide +kernel
theorem dX6_convex_30 : decode cX6_convex 30 = .ok (.iaload, 1) := by decide +kernel
theorem dX6_convex_31 : decode cX6_convex 31 = .ok (.if_icmp .ne 20, 3) := by decide +kernel
theorem dX6_convex_34 : decode cX6_convex 34 = .ok (.aload_n 0, 1) := by decide +kernel
theorem dX6_convex_35 : decode cX6_convex 35 = .ok (.getfield 13, 3) := by decide +kernel
theorem dX6_convex_38 : decode cX6_convex 38 = .ok (.iload_n 1, 1) := by decide +kernel
theorem dX6_convex_39 : decode cX6_convex 39 = .ok (.iaload, 1) := by decide +kernel
theorem dX6_convex_40 : decode cX6_convex 40 = .ok (.aload_n 0, 1) := by decide +kernel
theorem dX6_convex_41 : decode cX6_convex 41 = .ok (.getfield 13, 3) := by decide +kernel
theorem dX6_convex_44 : decode cX6_convex 44 = .ok (.iload_n 2, 1) := by decide +kernel
theorem dX6_convex_45 : decode cX6_convex 45 = .ok (.iaload, 1) := by decide +kernel
theorem dX6_convex_46 : decode cX6_convex 46 = .ok (.if_icmp .ne 5, 3) := by decide +kernel
theorem dX6_convex_49 : decode cX6_convex 49 = .ok (.iconst 0, 1) := by decide +kernel
theorem dX6_convex_50 : decode cX6_convex 50 = .ok (.ireturn, 1) := by decide +kernel
theorem dX6_convex_51 : decode cX6_convex 51 = .ok (.iconst 0, 1) := by decide +kernel
theorem dX6_convex_52 : decode cX6_convex 52 = .ok (.istore_n 3, 1) := by decide +kernel
theorem dX6_convex_53 : decode cX6_convex 53 = .ok (.iload_n 3, 1) := by decide +kernel
theorem dX6_convex_54 : decode cX6_convex 54 = .ok (.aload_n 0, 1) := by decide +kernel
theorem dX6_convex_55 : decode cX6_convex 55 = .ok (.getfield 47, 3) := by decide +kernel
theorem dX6_convex_58 : decode cX6_convex 58 = .ok (.if_icmp .ge 44, 3) := by decide +kernel
theorem dX6_convex_61 : decode cX6_convex 61 = .ok (.iload_n 3, 1) := by decide +kernel
theorem dX6_convex_62 : decode cX6_convex 62 = .ok (.iload_n 1, 1) := by decide +kernel
theorem dX6_convex_63 : decode cX6_convex 63 = .ok (.if_icmp .eq 33, 3) := by decide +kernel
theorem dX6_convex_66 : decode cX6_convex 66 = .ok (.iload_n 3, 1) := by decide +kernel
theorem dX6_convex_67 : decode cX6_convex 67 = .ok (.iload_n 2, 1) := by decide +kernel
theorem dX6_convex_68 : decode cX6_convex 68 = .ok (.if_icmp .eq 28, 3) := by decide +kernel
theorem dX6_convex_71 : decode cX6_convex 71 = .ok (.aload_n 0, 1) := by decide +kernel
theorem dX6_convex_72 : decode cX6_convex 72 = .ok (.iload_n 1, 1) := by decide +kernel
theorem dX6_convex_73 : decode cX6_convex 73 = .ok (.iload_n 2, 1) := by decide +kernel
theorem dX6_convex_74 : decode cX6_convex 74 = .ok (.aload_n 0, 1) := by decide +kernel
theorem dX6_convex_75 : decode cX6_convex 75 = .ok (.getfield 7, 3) := by decide +kernel
theorem dX6_convex_78 : decode cX6_convex 78 = .ok (.iload_n 3, 1) := by decide +kernel
theorem dX6_convex_79 : decode cX6_convex 79 = .ok (.iaload, 1) := by decide +kernel
theorem dX6_convex_80 : decode cX6_convex 80 = .ok (.aload_n 0, 1) := by decide +kernel
theorem dX6_convex_81 : decode cX6_convex 81 = .ok (.getfield 13, 3) := by decide +kernel
theorem dX6_convex_84 : decode cX6_convex 84 = .ok (.iload_n 3, 1) := by decide +kernel
theorem dX6_convex_85 : decode cX6_convex 85 = .ok (.iaload, 1) := by decide +kernel
theorem dX6_convex_86 : decode cX6_convex 86 = .ok (.invokevirtual 39, 3) := by decide +kernel
theorem dX6_convex_89 : decode cX6_convex 89 = .ok (.lconst 0, 1) := by decide +kernel
theorem dX6_convex_90 : decode cX6_convex 90 = .ok (.lcmp, 1) := by decide +kernel
theorem dX6_convex_91 : decode cX6_convex 91 = .ok (.ifCond .gt 5, 3) := by decide +kernel
theorem dX6_convex_94 : decode cX6_convex 94 = .ok (.iconst 0, 1) := by decide +kernel
theorem dX6_convex_95 : decode cX6_convex 95 = .ok (.ireturn, 1) := by decide +kernel
theorem dX6_convex_96 : decode cX6_convex 96 = .ok (.iinc 3 1, 3) := by decide +kernel
theorem dX6_convex_99 : decode cX6_convex 99 = .ok (.goto (-46), 3) := by decide +kernel
theorem dX6_convex_102 : decode cX6_convex 102 = .ok (.iinc 1 1, 3) := by decide +kernel
theorem dX6_convex_105 : decode cX6_convex 105 = .ok (.goto (-103), 3) := by decide +kernel
theorem dX6_convex_108 : decode cX6_convex 108 = .ok (.iconst 1, 1) := by decide +kernel
theorem dX6_convex_109 : decode cX6_convex 109 = .ok (.ireturn, 1) := by decide +kernel
set_option maxRecDepth 20000 in
theorem ggX6_safeAt_X6_clearOfAll : GoodIn wsX6_safeAt wsX6_clearOfAll := goodIn_r _ [7, 8, 9, 10, 6, 11, 12, 13, 14, 15, 16, 17, 18, 19, 20, 21, 22, 23, 24, 25, 26, 27, 28, 29, 30, 31, 32, 33, 34, 35, 36, 37, 38, 39, 40] (by decide +kernel) (by decide +kernel)
set_option maxRecDepth 20000 in
theorem gX6_safeAt_X6_clearOfAll : GoodIn wsX6_safeAt (wsV RX6 55 RX6 yX6_clearOfAll wsX6_clearOfAll) := goodIn_app (goodIn_of _ (by decide +kernel)) ggX6_safeAt_X6_clearOfAll
theorem dX6_safeAt_0 : decode cX6_safeAt 0 = .ok (.aload_n 0, 1) := by decide +kernel
theorem dX6_safeAt_1 : decode cX6_safeAt 1 = .ok (.bipush 8, 2) := by decide +kernel
theorem dX6_safeAt_3 : decode cX6_safeAt 3 = .ok (.aload_n 0, 1) := by decide +kernel
theorem dX6_safeAt_4 : decode cX6_safeAt 4 = .ok (.getfield 50, 3) := by decide +kernel
theorem dX6_safeAt_7 : decode cX6_safeAt 7 = .ok (.iload_n 1, 1) := by decide +kernel
theorem dX6_safeAt_8 : decode cX6_safeAt 8 = .ok (.iload_n 2, 1) := by decide +kernel
theorem dX6_safeAt_9 : decode cX6_safeAt 9 = .ok (.ldc2_w 53, 3) := by decide +kernel
theorem dX6_safeAt_12 : decode cX6_safeAt 12 = .ok (.invokevirtual 55, 3) := by decide +kernel
theorem dX6_safeAt_15 : decode cX6_safeAt 15 = .ok (.ireturn, 1) := by decide +kernel
set_option maxRecDepth 20000 in
theorem ggX6_corner_X6_within : GoodIn wsX6_corner wsX6_within := goodIn_r _ [7] (by decide +kernel) (by decide +kernel)
set_option maxRecDepth 20000 in
theorem gX6_corner_X6_within : GoodIn wsX6_corner (va_wsS RX6 58 yX6_within wsX6_within) := goodIn_app (goodIn_of _ (by decide +kernel)) ggX6_corner_X6_within
theorem dX6_corner_0 : decode cX6_corner 0 = .ok (.aload_n 0, 1) := by decide +kernel
theorem dX6_corner_1 : decode cX6_corner 1 = .ok (.getfield 47, 3) := by decide +kernel
theorem dX6_corner_4 : decode cX6_corner 4 = .ok (.bipush 8, 2) := by decide +kernel
theorem dX6_corner_6 : decode cX6_corner 6 = .ok (.if_icmp .eq 29, 3) := by decide +kernel
theorem dX6_corner_9 : decode cX6_corner 9 = .ok (.iload_n 1, 1) := by decide +kernel
theorem dX6_corner_10 : decode cX6_corner 10 = .ok (.sipush (-10000), 3) := by decide +kernel
theorem dX6_corner_13 : decode cX6_corner 13 = .ok (.sipush 10000, 3) := by decide +kernel
theorem dX6_corner_16 : decode cX6_corner 16 = .ok (.invokestatic 58, 3) := by decide +kernel
theorem dX6_corner_19 : decode cX6_corner 19 = .ok (.ifCond .eq 16, 3) := by decide +kernel
theorem dX6_corner_22 : decode cX6_corner 22 = .ok (.iload_n 2, 1) := by decide +kernel
theorem dX6_corner_23 : decode cX6_corner 23 = .ok (.sipush (-10000), 3) := by decide +kernel
theorem dX6_corner_26 : decode cX6_corner 26 = .ok (.sipush 10000, 3) := by decide +kernel
theorem dX6_corner_29 : decode cX6_corner 29 = .ok (.invokestatic 58, 3) := by decide +kernel
theorem dX6_corner_32 : decode cX6_corner 32 = .ok (.ifCond .ne 5, 3) := by decide +kernel
theorem dX6_corner_35 : decode cX6_corner 35 = .ok (.iconst 0, 1) := by decide +kernel
theorem dX6_corner_36 : decode cX6_corner 36 = .ok (.ireturn, 1) := by decide +kernel
theorem dX6_corner_37 : decode cX6_corner 37 = .ok (.aload_n 0, 1) := by decide +kernel
theorem dX6_corner_38 : decode cX6_corner 38 = .ok (.getfield 7, 3) := by decide +kernel
theorem dX6_corner_41 : decode cX6_corner 41 = .ok (.aload_n 0, 1) := by decide +kernel
theorem dX6_corner_42 : decode cX6_corner 42 = .ok (.getfield 47, 3) := by decide +kernel
theorem dX6_corner_45 : decode cX6_corner 45 = .ok (.iload_n 1, 1) := by decide +kernel
theorem dX6_corner_46 : decode cX6_corner 46 = .ok (.iastore, 1) := by decide +kernel
theorem dX6_corner_47 : decode cX6_corner 47 = .ok (.aload_n 0, 1) := by decide +kernel
theorem dX6_corner_48 : decode cX6_corner 48 = .ok (.getfield 13, 3) := by decide +kernel
theorem dX6_corner_51 : decode cX6_corner 51 = .ok (.aload_n 0, 1) := by decide +kernel
theorem dX6_corner_52 : decode cX6_corner 52 = .ok (.getfield 47, 3) := by decide +kernel
theorem dX6_corner_55 : decode cX6_corner 55 = .ok (.iload_n 2, 1) := by decide +kernel
theorem dX6_corner_56 : decode cX6_corner 56 = .ok (.iastore, 1) := by decide +kernel
theorem dX6_corner_57 : decode cX6_corner 57 = .ok (.aload_n 0, 1) := by decide +kernel
theorem dX6_corner_58 : decode cX6_corner 58 = .ok (.dup, 1) := by decide +kernel
theorem dX6_corner_59 : decode cX6_corner 59 = .ok (.getfield 47, 3) := by decide +kernel
theorem dX6_corner_62 : decode cX6_corner 62 = .ok (.iconst 1, 1) := by decide +kernel
theorem dX6_corner_63 : decode cX6_corner 63 = .ok (.iadd, 1) := by decide +kernel
theorem dX6_corner_64 : decode cX6_corner 64 = .ok (.putfield 47, 3) := by decide +kernel
theorem dX6_corner_67 : decode cX6_corner 67 = .ok (.iconst 1, 1) := by decide +kernel
theorem dX6_corner_68 : decode cX6_corner 68 = .ok (.ireturn, 1) := by decide +kernel
theorem dX6_erase_0 : decode cX6_erase 0 = .ok (.aload_n 0, 1) := by decide +kernel
theorem dX6_erase_1 : decode cX6_erase 1 = .ok (.iconst 0, 1) := by decide +kernel
theorem dX6_erase_2 : decode cX6_erase 2 = .ok (.putfield 47, 3) := by decide +kernel
theorem dX6_erase_5 : decode cX6_erase 5 = .ok (.return_, 1) := by decide +kernel
set_option maxRecDepth 20000 in
theorem ggX6_fence_X6_convex : GoodIn wsX6_fence wsX6_convex := goodIn_r _ [12, 2, 4, 5, 13, 14, 15, 11, 16, 28, 29, 30, 31, 32, 33, 34, 35, 36, 37, 38, 39, 40, 41, 42, 43, 44, 45, 46, 47, 48, 49, 50] (by decide +kernel) (by decide +kernel)
set_option maxRecDepth 20000 in
theorem gX6_fence_X6_convex : GoodIn wsX6_fence (wsV RX6 65 RX6 yX6_convex wsX6_convex) := goodIn_app (goodIn_of _ (by decide +kernel)) ggX6_fence_X6_convex
set_option maxRecDepth 20000 in
theorem ggX6_fence_X6_clearOfAll : GoodIn wsX6_fence wsX6_clearOfAll := goodIn_r _ [20, 21, 22, 23, 11, 24, 4, 5, 13, 14, 15, 16, 28, 29, 30, 31, 32, 33, 34, 35, 36, 37, 38, 39, 40, 41, 42, 43, 44, 45, 46, 47, 48, 49, 50] (by decide +kernel) (by decide +kernel)
set_option maxRecDepth 20000 in
theorem gX6_fence_X6_clearOfAll : GoodIn wsX6_fence (wsV RX6 55 RX6 yX6_clearOfAll wsX6_clearOfAll) := goodIn_app (goodIn_of _ (by decide +kernel)) ggX6_fence_X6_clearOfAll
set_option maxRecDepth 20000 in
theorem ggX6_fence_X6_within : GoodIn wsX6_fence wsX6_within := goodIn_r _ [27] (by decide +kernel) (by decide +kernel)
set_option maxRecDepth 20000 in
theorem gX6_fence_X6_within : GoodIn wsX6_fence (va_wsS RX6 58 yX6_within wsX6_within) := goodIn_app (goodIn_of _ (by decide +kernel)) ggX6_fence_X6_within
theorem dX6_fence_0 : decode cX6_fence 0 = .ok (.aload_n 0, 1) := by decide +kernel
theorem dX6_fence_1 : decode cX6_fence 1 = .ok (.getfield 62, 3) := by decide +kernel
theorem dX6_fence_4 : decode cX6_fence 4 = .ok (.ifCond .eq 5, 3) := by decide +kernel
theorem dX6_fence_7 : decode cX6_fence 7 = .ok (.iconst (-1), 1) := by decide +kernel
theorem dX6_fence_8 : decode cX6_fence 8 = .ok (.ireturn, 1) := by decide +kernel
theorem dX6_fence_9 : decode cX6_fence 9 = .ok (.aload_n 0, 1) := by decide +kernel
theorem dX6_fence_10 : decode cX6_fence 10 = .ok (.getfield 47, 3) := by decide +kernel
theorem dX6_fence_13 : decode cX6_fence 13 = .ok (.iconst 3, 1) := by decide +kernel
theorem dX6_fence_14 : decode cX6_fence 14 = .ok (.if_icmp .ge 6, 3) := by decide +kernel
theorem dX6_fence_17 : decode cX6_fence 17 = .ok (.bipush (-2), 2) := by decide +kernel
theorem dX6_fence_19 : decode cX6_fence 19 = .ok (.ireturn, 1) := by decide +kernel
theorem dX6_fence_20 : decode cX6_fence 20 = .ok (.aload_n 0, 1) := by decide +kernel
theorem dX6_fence_21 : decode cX6_fence 21 = .ok (.invokevirtual 65, 3) := by decide +kernel
theorem dX6_fence_24 : decode cX6_fence 24 = .ok (.ifCond .ne 6, 3) := by decide +kernel
theorem dX6_fence_27 : decode cX6_fence 27 = .ok (.bipush (-3), 2) := by decide +kernel
theorem dX6_fence_29 : decode cX6_fence 29 = .ok (.ireturn, 1) := by decide +kernel
theorem dX6_fence_30 : decode cX6_fence 30 = .ok (.aload_n 0, 1) := by decide +kernel
theorem dX6_fence_31 : decode cX6_fence 31 = .ok (.iconst 0, 1) := by decide +kernel
theorem dX6_fence_32 : decode cX6_fence 32 = .ok (.aload_n 0, 1) := by decide +kernel
theorem dX6_fence_33 : decode cX6_fence 33 = .ok (.getfield 47, 3) := by decide +kernel
theorem dX6_fence_36 : decode cX6_fence 36 = .ok (.iconst 0, 1) := by decide +kernel
theorem dX6_fence_37 : decode cX6_fence 37 = .ok (.iconst 0, 1) := by decide +kernel
theorem dX6_fence_38 : decode cX6_fence 38 = .ok (.ldc2_w 69, 3) := by decide +kernel
theorem dX6_fence_41 : decode cX6_fence 41 = .ok (.invokevirtual 55, 3) := by decide +kernel
theorem dX6_fence_44 : decode cX6_fence 44 = .ok (.ifCond .ne 6, 3) := by decide +kernel
theorem dX6_fence_47 : decode cX6_fence 47 = .ok (.bipush (-4), 2) := by decide +kernel
theorem dX6_fence_49 : decode cX6_fence 49 = .ok (.ireturn, 1) := by decide +kernel
theorem dX6_fence_50 : decode cX6_fence 50 = .ok (.iload_n 1, 1) := by decide +kernel
theorem dX6_fence_51 : decode cX6_fence 51 = .ok (.sipush 1500, 3) := by decide +kernel
theorem dX6_fence_54 : decode cX6_fence 54 = .ok (.sipush 10000, 3) := by decide +kernel
theorem dX6_fence_57 : decode cX6_fence 57 = .ok (.invokestatic 58, 3) := by decide +kernel
theorem dX6_fence_60 : decode cX6_fence 60 = .ok (.ifCond .ne 6, 3) := by decide +kernel
theorem dX6_fence_63 : decode cX6_fence 63 = .ok (.bipush (-5), 2) := by decide +kernel
theorem dX6_fence_65 : decode cX6_fence 65 = .ok (.ireturn, 1) := by decide +kernel
theorem dX6_fence_66 : decode cX6_fence 66 = .ok (.iconst 0, 1) := by decide +kernel
theorem dX6_fence_67 : decode cX6_fence 67 = .ok (.istore_n 2, 1) := by decide +kernel
theorem dX6_fence_68 : decode cX6_fence 68 = .ok (.iload_n 2, 1) := by decide +kernel
theorem dX6_fence_69 : decode cX6_fence 69 = .ok (.aload_n 0, 1) := by decide +kernel
theorem dX6_fence_70 : decode cX6_fence 70 = .ok (.getfield 47, 3) := by decide +kernel
theorem dX6_fence_73 : decode cX6_fence 73 = .ok (.if_icmp .ge 39, 3) := by decide +kernel
theorem dX6_fence_76 : decode cX6_fence 76 = .ok (.aload_n 0, 1) := by decide +kernel
theorem dX6_fence_77 : decode cX6_fence 77 = .ok (.getfield 7, 3) := by decide +kernel
theorem dX6_fence_80 : decode cX6_fence 80 = .ok (.bipush 8, 2) := by decide +kernel
theorem dX6_fence_82 : decode cX6_fence 82 = .ok (.iload_n 2, 1) := by decide +kernel
theorem dX6_fence_83 : decode cX6_fence 83 = .ok (.iadd, 1) := by decide +kernel
theorem dX6_fence_84 : decode cX6_fence 84 = .ok (.aload_n 0, 1) := by decide +kernel
theorem dX6_fence_85 : decode cX6_fence 85 = .ok (.getfield 7, 3) := by decide +kernel
theorem dX6_fence_88 : decode cX6_fence 88 = .ok (.iload_n 2, 1) := by decide +kernel
theorem dX6_fence_89 : decode cX6_fence 89 = .ok (.iaload, 1) := by decide +kernel
theorem dX6_fence_90 : decode cX6_fence 90 = .ok (.iastore, 1) := by decide +kernel
theorem dX6_fence_91 : decode cX6_fence 91 = .ok (.aload_n 0, 1) := by decide +kernel
theorem dX6_fence_92 : decode cX6_fence 92 = .ok (.getfield 13, 3) := by decide +kernel
theorem dX6_fence_95 : decode cX6_fence 95 = .ok (.bipush 8, 2) := by decide +kernel
theorem dX6_fence_97 : decode cX6_fence 97 = .ok (.iload_n 2, 1) := by decide +kernel
theorem dX6_fence_98 : decode cX6_fence 98 = .ok (.iadd, 1) := by decide +kernel
theorem dX6_fence_99 : decode cX6_fence 99 = .ok (.aload_n 0, 1) := by decide +kernel
theorem dX6_fence_100 : decode cX6_fence 100 = .ok (.getfield 13, 3) := by decide +kernel
theorem dX6_fence_103 : decode cX6_fence 103 = .ok (.iload_n 2, 1) := by decide +kernel
theorem dX6_fence_104 : decode cX6_fence 104 = .ok (.iaload, 1) := by decide +kernel
theorem dX6_fence_105 : decode cX6_fence 105 = .ok (.iastore, 1) := by decide +kernel
theorem dX6_fence_106 : decode cX6_fence 106 = .ok (.iinc 2 1, 3) := by decide +kernel
theorem dX6_fence_109 : decode cX6_fence 109 = .ok (.goto (-41), 3) := by decide +kernel
theorem dX6_fence_112 : decode cX6_fence 112 = .ok (.aload_n 0, 1) := by decide +kernel
theorem dX6_fence_113 : decode cX6_fence 113 = .ok (.aload_n 0, 1) := by decide +kernel
theorem dX6_fence_114 : decode cX6_fence 114 = .ok (.getfield 47, 3) := by decide +kernel
theorem dX6_fence_117 : decode cX6_fence 117 = .ok (.putfield 50, 3) := by decide +kernel
theorem dX6_fence_120 : decode cX6_fence 120 = .ok (.aload_n 0, 1) := by decide +kernel
theorem dX6_fence_121 : decode cX6_fence 121 = .ok (.iconst 0, 1) := by decide +kernel
theorem dX6_fence_122 : decode cX6_fence 122 = .ok (.putfield 47, 3) := by decide +kernel
theorem dX6_fence_125 : decode cX6_fence 125 = .ok (.aload_n 0, 1) := by decide +kernel
theorem dX6_fence_126 : decode cX6_fence 126 = .ok (.iload_n 1, 1) := by decide +kernel
theorem dX6_fence_127 : decode cX6_fence 127 = .ok (.putfield 71, 3) := by decide +kernel
theorem dX6_fence_130 : decode cX6_fence 130 = .ok (.iconst 0, 1) := by decide +kernel
theorem dX6_fence_131 : decode cX6_fence 131 = .ok (.ireturn, 1) := by decide +kernel
set_option maxRecDepth 20000 in
theorem ggX6_safe_X6_within : GoodIn wsX6_safe wsX6_within := goodIn_r _ [5] (by decide +kernel) (by decide +kernel)
set_option maxRecDepth 20000 in
theorem gX6_safe_X6_within : GoodIn wsX6_safe (va_wsS RX6 58 yX6_within wsX6_within) := goodIn_app (goodIn_of _ (by decide +kernel)) ggX6_safe_X6_within
set_option maxRecDepth 20000 in
theorem ggX6_safe_X6_safeAt : GoodIn wsX6_safe wsX6_safeAt := goodIn_r _ [9, 1, 10, 11, 12, 13, 4, 14, 15, 16, 17, 18, 19, 20, 21, 22, 23, 24, 25, 26, 27, 28, 29, 30, 31, 32, 33, 34, 35, 36, 37, 38, 39, 40, 41, 42, 43, 44, 45, 46, 47] (by decide +kernel) (by decide +kernel)
set_option maxRecDepth 20000 in
theorem gX6_safe_X6_safeAt : GoodIn wsX6_safe (wsV RX6 74 RX6 yX6_safeAt wsX6_safeAt) := goodIn_app (goodIn_of _ (by decide +kernel)) ggX6_safe_X6_safeAt
theorem dX6_safe_0 : decode cX6_safe 0 = .ok (.aload_n 0, 1) := by decide +kernel
theorem dX6_safe_1 : decode cX6_safe 1 = .ok (.getfield 50, 3) := by decide +kernel
theorem dX6_safe_4 : decode cX6_safe 4 = .ok (.ifCond .le 42, 3) := by decide +kernel
theorem dX6_safe_7 : decode cX6_safe 7 = .ok (.iload_n 1, 1) := by decide +kernel
theorem dX6_safe_8 : decode cX6_safe 8 = .ok (.sipush (-20000), 3) := by decide +kernel
theorem dX6_safe_11 : decode cX6_safe 11 = .ok (.sipush 20000, 3) := by decide +kernel
theorem dX6_safe_14 : decode cX6_safe 14 = .ok (.invokestatic 58, 3) := by decide +kernel
theorem dX6_safe_17 : decode cX6_safe 17 = .ok (.ifCond .eq 29, 3) := by decide +kernel
theorem dX6_safe_20 : decode cX6_safe 20 = .ok (.iload_n 2, 1) := by decide +kernel
theorem dX6_safe_21 : decode cX6_safe 21 = .ok (.sipush (-20000), 3) := by decide +kernel
theorem dX6_safe_24 : decode cX6_safe 24 = .ok (.sipush 20000, 3) := by decide +kernel
theorem dX6_safe_27 : decode cX6_safe 27 = .ok (.invokestatic 58, 3) := by decide +kernel
theorem dX6_safe_30 : decode cX6_safe 30 = .ok (.ifCond .eq 16, 3) := by decide +kernel
theorem dX6_safe_33 : decode cX6_safe 33 = .ok (.aload_n 0, 1) := by decide +kernel
theorem dX6_safe_34 : decode cX6_safe 34 = .ok (.iload_n 1, 1) := by decide +kernel
theorem dX6_safe_35 : decode cX6_safe 35 = .ok (.iload_n 2, 1) := by decide +kernel
theorem dX6_safe_36 : decode cX6_safe 36 = .ok (.invokevirtual 74, 3) := by decide +kernel
theorem dX6_safe_39 : decode cX6_safe 39 = .ok (.ifCond .eq 7, 3) := by decide +kernel
theorem dX6_safe_42 : decode cX6_safe 42 = .ok (.iconst 1, 1) := by decide +kernel
end
section
theorem dX6_safe_43 : decode cX6_safe 43 = .ok (.goto 4, 3) := by decide +kernel
theorem dX6_safe_46 : decode cX6_safe 46 = .ok (.iconst 0, 1) := by decide +kernel
theorem dX6_safe_47 : decode cX6_safe 47 = .ok (.ireturn, 1) := by decide +kernel
set_option maxRecDepth 20000 in
theorem ggX6_upload_X6_within : GoodIn wsX6_upload wsX6_within := goodIn_r _ [8] (by decide +kernel) (by decide +kernel)
set_option maxRecDepth 20000 in
theorem gX6_upload_X6_within : GoodIn wsX6_upload (va_wsS RX6 58 yX6_within wsX6_within) := goodIn_app (goodIn_of _ (by decide +kernel)) ggX6_upload_X6_within
theorem dX6_upload_0 : decode cX6_upload 0 = .ok (.iload_n 1, 1) := by decide +kernel
theorem dX6_upload_1 : decode cX6_upload 1 = .ok (.iconst 1, 1) := by decide +kernel
theorem dX6_upload_2 : decode cX6_upload 2 = .ok (.bipush 8, 2) := by decide +kernel
theorem dX6_upload_4 : decode cX6_upload 4 = .ok (.invokestatic 58, 3) := by decide +kernel
theorem dX6_upload_7 : decode cX6_upload 7 = .ok (.ifCond .ne 6, 3) := by decide +kernel
theorem dX6_upload_10 : decode cX6_upload 10 = .ok (.bipush (-5), 2) := by decide +kernel
theorem dX6_upload_12 : decode cX6_upload 12 = .ok (.ireturn, 1) := by decide +kernel
theorem dX6_upload_13 : decode cX6_upload 13 = .ok (.aload_n 0, 1) := by decide +kernel
theorem dX6_upload_14 : decode cX6_upload 14 = .ok (.iload_n 1, 1) := by decide +kernel
theorem dX6_upload_15 : decode cX6_upload 15 = .ok (.putfield 78, 3) := by decide +kernel
theorem dX6_upload_18 : decode cX6_upload 18 = .ok (.aload_n 0, 1) := by decide +kernel
theorem dX6_upload_19 : decode cX6_upload 19 = .ok (.iconst 0, 1) := by decide +kernel
theorem dX6_upload_20 : decode cX6_upload 20 = .ok (.putfield 81, 3) := by decide +kernel
theorem dX6_upload_23 : decode cX6_upload 23 = .ok (.aload_n 0, 1) := by decide +kernel
theorem dX6_upload_24 : decode cX6_upload 24 = .ok (.iconst 0, 1) := by decide +kernel
theorem dX6_upload_25 : decode cX6_upload 25 = .ok (.putfield 84, 3) := by decide +kernel
theorem dX6_upload_28 : decode cX6_upload 28 = .ok (.aload_n 0, 1) := by decide +kernel
theorem dX6_upload_29 : decode cX6_upload 29 = .ok (.iconst 0, 1) := by decide +kernel
theorem dX6_upload_30 : decode cX6_upload 30 = .ok (.putfield 87, 3) := by decide +kernel
theorem dX6_upload_33 : decode cX6_upload 33 = .ok (.iconst 0, 1) := by decide +kernel
theorem dX6_upload_34 : decode cX6_upload 34 = .ok (.ireturn, 1) := by decide +kernel
set_option maxRecDepth 20000 in
theorem ggX6_item_X6_within : GoodIn wsX6_item wsX6_within := goodIn_r _ [11] (by decide +kernel) (by decide +kernel)
set_option maxRecDepth 20000 in
theorem gX6_item_X6_within : GoodIn wsX6_item (va_wsS RX6 58 yX6_within wsX6_within) := goodIn_app (goodIn_of _ (by decide +kernel)) ggX6_item_X6_within
theorem dX6_item_0 : decode cX6_item 0 = .ok (.aload_n 0, 1) := by decide +kernel
theorem dX6_item_1 : decode cX6_item 1 = .ok (.getfield 78, 3) := by decide +kernel
theorem dX6_item_4 : decode cX6_item 4 = .ok (.ifCond .ne 6, 3) := by decide +kernel
theorem dX6_item_7 : decode cX6_item 7 = .ok (.bipush (-6), 2) := by decide +kernel
theorem dX6_item_9 : decode cX6_item 9 = .ok (.ireturn, 1) := by decide +kernel
theorem dX6_item_10 : decode cX6_item 10 = .ok (.iload_n 2, 1) := by decide +kernel
theorem dX6_item_11 : decode cX6_item 11 = .ok (.sipush (-10000), 3) := by decide +kernel
theorem dX6_item_14 : decode cX6_item 14 = .ok (.sipush 10000, 3) := by decide +kernel
theorem dX6_item_17 : decode cX6_item 17 = .ok (.invokestatic 58, 3) := by decide +kernel
theorem dX6_item_20 : decode cX6_item 20 = .ok (.ifCond .eq 30, 3) := by decide +kernel
theorem dX6_item_23 : decode cX6_item 23 = .ok (.iload_n 3, 1) := by decide +kernel
theorem dX6_item_24 : decode cX6_item 24 = .ok (.sipush (-10000), 3) := by decide +kernel
theorem dX6_item_27 : decode cX6_item 27 = .ok (.sipush 10000, 3) := by decide +kernel
theorem dX6_item_30 : decode cX6_item 30 = .ok (.invokestatic 58, 3) := by decide +kernel
theorem dX6_item_33 : decode cX6_item 33 = .ok (.ifCond .eq 17, 3) := by decide +kernel
theorem dX6_item_36 : decode cX6_item 36 = .ok (.iload 4, 2) := by decide +kernel
theorem dX6_item_38 : decode cX6_item 38 = .ok (.sipush 500, 3) := by decide +kernel
theorem dX6_item_41 : decode cX6_item 41 = .ok (.sipush 10000, 3) := by decide +kernel
theorem dX6_item_44 : decode cX6_item 44 = .ok (.invokestatic 58, 3) := by decide +kernel
theorem dX6_item_47 : decode cX6_item 47 = .ok (.ifCond .ne 6, 3) := by decide +kernel
theorem dX6_item_50 : decode cX6_item 50 = .ok (.bipush (-5), 2) := by decide +kernel
theorem dX6_item_52 : decode cX6_item 52 = .ok (.ireturn, 1) := by decide +kernel
theorem dX6_item_53 : decode cX6_item 53 = .ok (.iload_n 1, 1) := by decide +kernel
theorem dX6_item_54 : decode cX6_item 54 = .ok (.aload_n 0, 1) := by decide +kernel
theorem dX6_item_55 : decode cX6_item 55 = .ok (.getfield 81, 3) := by decide +kernel
theorem dX6_item_58 : decode cX6_item 58 = .ok (.if_icmp .eq 8, 3) := by decide +kernel
theorem dX6_item_61 : decode cX6_item 61 = .ok (.aload_n 0, 1) := by decide +kernel
theorem dX6_item_62 : decode cX6_item 62 = .ok (.getfield 81, 3) := by decide +kernel
theorem dX6_item_65 : decode cX6_item 65 = .ok (.ireturn, 1) := by decide +kernel
theorem dX6_item_66 : decode cX6_item 66 = .ok (.aload_n 0, 1) := by decide +kernel
theorem dX6_item_67 : decode cX6_item 67 = .ok (.getfield 16, 3) := by decide +kernel
theorem dX6_item_70 : decode cX6_item 70 = .ok (.bipush 24, 2) := by decide +kernel
theorem dX6_item_72 : decode cX6_item 72 = .ok (.iconst 3, 1) := by decide +kernel
theorem dX6_item_73 : decode cX6_item 73 = .ok (.iload_n 1, 1) := by decide +kernel
theorem dX6_item_74 : decode cX6_item 74 = .ok (.imul, 1) := by decide +kernel
theorem dX6_item_75 : decode cX6_item 75 = .ok (.iadd, 1) := by decide +kernel
theorem dX6_item_76 : decode cX6_item 76 = .ok (.iload_n 2, 1) := by decide +kernel
theorem dX6_item_77 : decode cX6_item 77 = .ok (.iastore, 1) := by decide +kernel
theorem dX6_item_78 : decode cX6_item 78 = .ok (.aload_n 0, 1) := by decide +kernel
theorem dX6_item_79 : decode cX6_item 79 = .ok (.getfield 16, 3) := by decide +kernel
theorem dX6_item_82 : decode cX6_item 82 = .ok (.bipush 25, 2) := by decide +kernel
theorem dX6_item_84 : decode cX6_item 84 = .ok (.iconst 3, 1) := by decide +kernel
theorem dX6_item_85 : decode cX6_item 85 = .ok (.iload_n 1, 1) := by decide +kernel
theorem dX6_item_86 : decode cX6_item 86 = .ok (.imul, 1) := by decide +kernel
theorem dX6_item_87 : decode cX6_item 87 = .ok (.iadd, 1) := by decide +kernel
theorem dX6_item_88 : decode cX6_item 88 = .ok (.iload_n 3, 1) := by decide +kernel
theorem dX6_item_89 : decode cX6_item 89 = .ok (.iastore, 1) := by decide +kernel
theorem dX6_item_90 : decode cX6_item 90 = .ok (.aload_n 0, 1) := by decide +kernel
theorem dX6_item_91 : decode cX6_item 91 = .ok (.getfield 16, 3) := by decide +kernel
theorem dX6_item_94 : decode cX6_item 94 = .ok (.bipush 26, 2) := by decide +kernel
theorem dX6_item_96 : decode cX6_item 96 = .ok (.iconst 3, 1) := by decide +kernel
theorem dX6_item_97 : decode cX6_item 97 = .ok (.iload_n 1, 1) := by decide +kernel
theorem dX6_item_98 : decode cX6_item 98 = .ok (.imul, 1) := by decide +kernel
theorem dX6_item_99 : decode cX6_item 99 = .ok (.iadd, 1) := by decide +kernel
theorem dX6_item_100 : decode cX6_item 100 = .ok (.iload 4, 2) := by decide +kernel
theorem dX6_item_102 : decode cX6_item 102 = .ok (.iastore, 1) := by decide +kernel
theorem dX6_item_103 : decode cX6_item 103 = .ok (.aload_n 0, 1) := by decide +kernel
theorem dX6_item_104 : decode cX6_item 104 = .ok (.iconst 0, 1) := by decide +kernel
theorem dX6_item_105 : decode cX6_item 105 = .ok (.putfield 84, 3) := by decide +kernel
theorem dX6_item_108 : decode cX6_item 108 = .ok (.aload_n 0, 1) := by decide +kernel
theorem dX6_item_109 : decode cX6_item 109 = .ok (.iconst 0, 1) := by decide +kernel
theorem dX6_item_110 : decode cX6_item 110 = .ok (.putfield 87, 3) := by decide +kernel
theorem dX6_item_113 : decode cX6_item 113 = .ok (.aload_n 0, 1) := by decide +kernel
theorem dX6_item_114 : decode cX6_item 114 = .ok (.dup, 1) := by decide +kernel
theorem dX6_item_115 : decode cX6_item 115 = .ok (.getfield 81, 3) := by decide +kernel
theorem dX6_item_118 : decode cX6_item 118 = .ok (.iconst 1, 1) := by decide +kernel
theorem dX6_item_119 : decode cX6_item 119 = .ok (.iadd, 1) := by decide +kernel
theorem dX6_item_120 : decode cX6_item 120 = .ok (.putfield 81, 3) := by decide +kernel
theorem dX6_item_123 : decode cX6_item 123 = .ok (.aload_n 0, 1) := by decide +kernel
theorem dX6_item_124 : decode cX6_item 124 = .ok (.getfield 81, 3) := by decide +kernel
theorem dX6_item_127 : decode cX6_item 127 = .ok (.aload_n 0, 1) := by decide +kernel
theorem dX6_item_128 : decode cX6_item 128 = .ok (.getfield 78, 3) := by decide +kernel
theorem dX6_item_131 : decode cX6_item 131 = .ok (.if_icmp .ge 8, 3) := by decide +kernel
theorem dX6_item_134 : decode cX6_item 134 = .ok (.aload_n 0, 1) := by decide +kernel
theorem dX6_item_135 : decode cX6_item 135 = .ok (.getfield 81, 3) := by decide +kernel
theorem dX6_item_138 : decode cX6_item 138 = .ok (.ireturn, 1) := by decide +kernel
theorem dX6_item_139 : decode cX6_item 139 = .ok (.iconst 0, 1) := by decide +kernel
theorem dX6_item_140 : decode cX6_item 140 = .ok (.istore 5, 2) := by decide +kernel
theorem dX6_item_142 : decode cX6_item 142 = .ok (.iload 5, 2) := by decide +kernel
theorem dX6_item_144 : decode cX6_item 144 = .ok (.bipush 24, 2) := by decide +kernel
theorem dX6_item_146 : decode cX6_item 146 = .ok (.if_icmp .ge 26, 3) := by decide +kernel
theorem dX6_item_149 : decode cX6_item 149 = .ok (.aload_n 0, 1) := by decide +kernel
theorem dX6_item_150 : decode cX6_item 150 = .ok (.getfield 16, 3) := by decide +kernel
theorem dX6_item_153 : decode cX6_item 153 = .ok (.iload 5, 2) := by decide +kernel
theorem dX6_item_155 : decode cX6_item 155 = .ok (.aload_n 0, 1) := by decide +kernel
theorem dX6_item_156 : decode cX6_item 156 = .ok (.getfield 16, 3) := by decide +kernel
theorem dX6_item_159 : decode cX6_item 159 = .ok (.bipush 24, 2) := by decide +kernel
theorem dX6_item_161 : decode cX6_item 161 = .ok (.iload 5, 2) := by decide +kernel
theorem dX6_item_163 : decode cX6_item 163 = .ok (.iadd, 1) := by decide +kernel
theorem dX6_item_164 : decode cX6_item 164 = .ok (.iaload, 1) := by decide +kernel
theorem dX6_item_165 : decode cX6_item 165 = .ok (.iastore, 1) := by decide +kernel
theorem dX6_item_166 : decode cX6_item 166 = .ok (.iinc 5 1, 3) := by decide +kernel
theorem dX6_item_169 : decode cX6_item 169 = .ok (.goto (-27), 3) := by decide +kernel
theorem dX6_item_172 : decode cX6_item 172 = .ok (.aload_n 0, 1) := by decide +kernel
theorem dX6_item_173 : decode cX6_item 173 = .ok (.aload_n 0, 1) := by decide +kernel
theorem dX6_item_174 : decode cX6_item 174 = .ok (.getfield 78, 3) := by decide +kernel
theorem dX6_item_177 : decode cX6_item 177 = .ok (.putfield 90, 3) := by decide +kernel
theorem dX6_item_180 : decode cX6_item 180 = .ok (.aload_n 0, 1) := by decide +kernel
theorem dX6_item_181 : decode cX6_item 181 = .ok (.iconst 0, 1) := by decide +kernel
theorem dX6_item_182 : decode cX6_item 182 = .ok (.putfield 78, 3) := by decide +kernel
theorem dX6_item_185 : decode cX6_item 185 = .ok (.aload_n 0, 1) := by decide +kernel
theorem dX6_item_186 : decode cX6_item 186 = .ok (.iconst 0, 1) := by decide +kernel
theorem dX6_item_187 : decode cX6_item 187 = .ok (.putfield 93, 3) := by decide +kernel
theorem dX6_item_190 : decode cX6_item 190 = .ok (.bipush 100, 2) := by decide +kernel
theorem dX6_item_192 : decode cX6_item 192 = .ok (.ireturn, 1) := by decide +kernel
theorem dX6_wanted_0 : decode cX6_wanted 0 = .ok (.aload_n 0, 1) := by decide +kernel
theorem dX6_wanted_1 : decode cX6_wanted 1 = .ok (.getfield 78, 3) := by decide +kernel
theorem dX6_wanted_4 : decode cX6_wanted 4 = .ok (.ifCond .ne 8, 3) := by decide +kernel
theorem dX6_wanted_7 : decode cX6_wanted 7 = .ok (.bipush (-6), 2) := by decide +kernel
theorem dX6_wanted_9 : decode cX6_wanted 9 = .ok (.goto 7, 3) := by decide +kernel
theorem dX6_wanted_12 : decode cX6_wanted 12 = .ok (.aload_n 0, 1) := by decide +kernel
theorem dX6_wanted_13 : decode cX6_wanted 13 = .ok (.getfield 81, 3) := by decide +kernel
theorem dX6_wanted_16 : decode cX6_wanted 16 = .ok (.ireturn, 1) := by decide +kernel
set_option maxRecDepth 20000 in
theorem ggX6_sample_X6_within : GoodIn wsX6_sample wsX6_within := goodIn_r _ [6] (by decide +kernel) (by decide +kernel)
set_option maxRecDepth 20000 in
theorem gX6_sample_X6_within : GoodIn wsX6_sample (va_wsS RX6 58 yX6_within wsX6_within) := goodIn_app (goodIn_of _ (by decide +kernel)) ggX6_sample_X6_within
theorem dX6_sample_0 : decode cX6_sample 0 = .ok (.iload_n 1, 1) := by decide +kernel
theorem dX6_sample_1 : decode cX6_sample 1 = .ok (.iconst 0, 1) := by decide +kernel
theorem dX6_sample_2 : decode cX6_sample 2 = .ok (.iconst 2, 1) := by decide +kernel
theorem dX6_sample_3 : decode cX6_sample 3 = .ok (.invokestatic 58, 3) := by decide +kernel
theorem dX6_sample_6 : decode cX6_sample 6 = .ok (.ifCond .eq 43, 3) := by decide +kernel
theorem dX6_sample_9 : decode cX6_sample 9 = .ok (.iload_n 2, 1) := by decide +kernel
theorem dX6_sample_10 : decode cX6_sample 10 = .ok (.sipush (-20000), 3) := by decide +kernel
theorem dX6_sample_13 : decode cX6_sample 13 = .ok (.sipush 20000, 3) := by decide +kernel
theorem dX6_sample_16 : decode cX6_sample 16 = .ok (.invokestatic 58, 3) := by decide +kernel
theorem dX6_sample_19 : decode cX6_sample 19 = .ok (.ifCond .eq 30, 3) := by decide +kernel
theorem dX6_sample_22 : decode cX6_sample 22 = .ok (.iload_n 3, 1) := by decide +kernel
theorem dX6_sample_23 : decode cX6_sample 23 = .ok (.sipush (-20000), 3) := by decide +kernel
theorem dX6_sample_26 : decode cX6_sample 26 = .ok (.sipush 20000, 3) := by decide +kernel
theorem dX6_sample_29 : decode cX6_sample 29 = .ok (.invokestatic 58, 3) := by decide +kernel
theorem dX6_sample_32 : decode cX6_sample 32 = .ok (.ifCond .eq 17, 3) := by decide +kernel
theorem dX6_sample_35 : decode cX6_sample 35 = .ok (.iload 4, 2) := by decide +kernel
theorem dX6_sample_37 : decode cX6_sample 37 = .ok (.sipush (-2000), 3) := by decide +kernel
theorem dX6_sample_40 : decode cX6_sample 40 = .ok (.sipush 20000, 3) := by decide +kernel
theorem dX6_sample_43 : decode cX6_sample 43 = .ok (.invokestatic 58, 3) := by decide +kernel
theorem dX6_sample_46 : decode cX6_sample 46 = .ok (.ifCond .ne 5, 3) := by decide +kernel
theorem dX6_sample_49 : decode cX6_sample 49 = .ok (.iconst 0, 1) := by decide +kernel
theorem dX6_sample_50 : decode cX6_sample 50 = .ok (.ireturn, 1) := by decide +kernel
theorem dX6_sample_51 : decode cX6_sample 51 = .ok (.aload_n 0, 1) := by decide +kernel
theorem dX6_sample_52 : decode cX6_sample 52 = .ok (.getfield 19, 3) := by decide +kernel
theorem dX6_sample_55 : decode cX6_sample 55 = .ok (.iload_n 1, 1) := by decide +kernel
theorem dX6_sample_56 : decode cX6_sample 56 = .ok (.iconst 1, 1) := by decide +kernel
theorem dX6_sample_57 : decode cX6_sample 57 = .ok (.bastore, 1) := by decide +kernel
theorem dX6_sample_58 : decode cX6_sample 58 = .ok (.aload_n 0, 1) := by decide +kernel
theorem dX6_sample_59 : decode cX6_sample 59 = .ok (.getfield 23, 3) := by decide +kernel
theorem dX6_sample_62 : decode cX6_sample 62 = .ok (.iconst 3, 1) := by decide +kernel
theorem dX6_sample_63 : decode cX6_sample 63 = .ok (.iload_n 1, 1) := by decide +kernel
theorem dX6_sample_64 : decode cX6_sample 64 = .ok (.imul, 1) := by decide +kernel
theorem dX6_sample_65 : decode cX6_sample 65 = .ok (.iload_n 2, 1) := by decide +kernel
theorem dX6_sample_66 : decode cX6_sample 66 = .ok (.iastore, 1) := by decide +kernel
theorem dX6_sample_67 : decode cX6_sample 67 = .ok (.aload_n 0, 1) := by decide +kernel
theorem dX6_sample_68 : decode cX6_sample 68 = .ok (.getfield 23, 3) := by decide +kernel
theorem dX6_sample_71 : decode cX6_sample 71 = .ok (.iconst 3, 1) := by decide +kernel
theorem dX6_sample_72 : decode cX6_sample 72 = .ok (.iload_n 1, 1) := by decide +kernel
theorem dX6_sample_73 : decode cX6_sample 73 = .ok (.imul, 1) := by decide +kernel
theorem dX6_sample_74 : decode cX6_sample 74 = .ok (.iconst 1, 1) := by decide +kernel
theorem dX6_sample_75 : decode cX6_sample 75 = .ok (.iadd, 1) := by decide +kernel
theorem dX6_sample_76 : decode cX6_sample 76 = .ok (.iload_n 3, 1) := by decide +kernel
theorem dX6_sample_77 : decode cX6_sample 77 = .ok (.iastore, 1) := by decide +kernel
theorem dX6_sample_78 : decode cX6_sample 78 = .ok (.aload_n 0, 1) := by decide +kernel
theorem dX6_sample_79 : decode cX6_sample 79 = .ok (.getfield 23, 3) := by decide +kernel
theorem dX6_sample_82 : decode cX6_sample 82 = .ok (.iconst 3, 1) := by decide +kernel
theorem dX6_sample_83 : decode cX6_sample 83 = .ok (.iload_n 1, 1) := by decide +kernel
theorem dX6_sample_84 : decode cX6_sample 84 = .ok (.imul, 1) := by decide +kernel
theorem dX6_sample_85 : decode cX6_sample 85 = .ok (.iconst 2, 1) := by decide +kernel
theorem dX6_sample_86 : decode cX6_sample 86 = .ok (.iadd, 1) := by decide +kernel
theorem dX6_sample_87 : decode cX6_sample 87 = .ok (.iload 4, 2) := by decide +kernel
theorem dX6_sample_89 : decode cX6_sample 89 = .ok (.iastore, 1) := by decide +kernel
theorem dX6_sample_90 : decode cX6_sample 90 = .ok (.iconst 1, 1) := by decide +kernel
theorem dX6_sample_91 : decode cX6_sample 91 = .ok (.ireturn, 1) := by decide +kernel
theorem dX6_beat_0 : decode cX6_beat 0 = .ok (.aload_n 0, 1) := by decide +kernel
theorem dX6_beat_1 : decode cX6_beat 1 = .ok (.iconst 0, 1) := by decide +kernel
theorem dX6_beat_2 : decode cX6_beat 2 = .ok (.putfield 96, 3) := by decide +kernel
theorem dX6_beat_5 : decode cX6_beat 5 = .ok (.return_, 1) := by decide +kernel
theorem dX6_become_0 : decode cX6_become 0 = .ok (.iload_n 1, 1) := by decide +kernel
theorem dX6_become_1 : decode cX6_become 1 = .ok (.aload_n 0, 1) := by decide +kernel
theorem dX6_become_2 : decode cX6_become 2 = .ok (.getfield 62, 3) := by decide +kernel
theorem dX6_become_5 : decode cX6_become 5 = .ok (.if_icmp .eq 69, 3) := by decide +kernel
theorem dX6_become_8 : decode cX6_become 8 = .ok (.bipush 15, 2) := by decide +kernel
theorem dX6_become_10 : decode cX6_become 10 = .ok (.istore_n 2, 1) := by decide +kernel
theorem dX6_become_11 : decode cX6_become 11 = .ok (.iload_n 2, 1) := by decide +kernel
theorem dX6_become_12 : decode cX6_become 12 = .ok (.ifCond .le 23, 3) := by decide +kernel
theorem dX6_become_15 : decode cX6_become 15 = .ok (.aload_n 0, 1) := by decide +kernel
theorem dX6_become_16 : decode cX6_become 16 = .ok (.getfield 36, 3) := by decide +kernel
theorem dX6_become_19 : decode cX6_become 19 = .ok (.iload_n 2, 1) := by decide +kernel
theorem dX6_become_20 : decode cX6_become 20 = .ok (.aload_n 0, 1) := by decide +kernel
theorem dX6_become_21 : decode cX6_become 21 = .ok (.getfield 36, 3) := by decide +kernel
theorem dX6_become_24 : decode cX6_become 24 = .ok (.iload_n 2, 1) := by decide +kernel
theorem dX6_become_25 : decode cX6_become 25 = .ok (.iconst 1, 1) := by decide +kernel
theorem dX6_become_26 : decode cX6_become 26 = .ok (.isub, 1) := by decide +kernel
theorem dX6_become_27 : decode cX6_become 27 = .ok (.iaload, 1) := by decide +kernel
theorem dX6_become_28 : decode cX6_become 28 = .ok (.iastore, 1) := by decide +kernel
theorem dX6_become_29 : decode cX6_become 29 = .ok (.iinc 2 (-1), 3) := by decide +kernel
theorem dX6_become_32 : decode cX6_become 32 = .ok (.goto (-21), 3) := by decide +kernel
theorem dX6_become_35 : decode cX6_become 35 = .ok (.aload_n 0, 1) := by decide +kernel
theorem dX6_become_36 : decode cX6_become 36 = .ok (.getfield 36, 3) := by decide +kernel
theorem dX6_become_39 : decode cX6_become 39 = .ok (.iconst 0, 1) := by decide +kernel
theorem dX6_become_40 : decode cX6_become 40 = .ok (.bipush 8, 2) := by decide +kernel
theorem dX6_become_42 : decode cX6_become 42 = .ok (.aload_n 0, 1) := by decide +kernel
theorem dX6_become_43 : decode cX6_become 43 = .ok (.getfield 99, 3) := by decide +kernel
theorem dX6_become_46 : decode cX6_become 46 = .ok (.imul, 1) := by decide +kernel
theorem dX6_become_47 : decode cX6_become 47 = .ok (.iload_n 1, 1) := by decide +kernel
theorem dX6_become_48 : decode cX6_become 48 = .ok (.iadd, 1) := by decide +kernel
theorem dX6_become_49 : decode cX6_become 49 = .ok (.iastore, 1) := by decide +kernel
theorem dX6_become_50 : decode cX6_become 50 = .ok (.aload_n 0, 1) := by decide +kernel
theorem dX6_become_51 : decode cX6_become 51 = .ok (.aload_n 0, 1) := by decide +kernel
theorem dX6_become_52 : decode cX6_become 52 = .ok (.getfield 102, 3) := by decide +kernel
theorem dX6_become_55 : decode cX6_become 55 = .ok (.bipush 16, 2) := by decide +kernel
theorem dX6_become_57 : decode cX6_become 57 = .ok (.if_icmp .ge 12, 3) := by decide +kernel
theorem dX6_become_60 : decode cX6_become 60 = .ok (.aload_n 0, 1) := by decide +kernel
theorem dX6_become_61 : decode cX6_become 61 = .ok (.getfield 102, 3) := by decide +kernel
theorem dX6_become_64 : decode cX6_become 64 = .ok (.iconst 1, 1) := by decide +kernel
theorem dX6_become_65 : decode cX6_become 65 = .ok (.iadd, 1) := by decide +kernel
theorem dX6_become_66 : decode cX6_become 66 = .ok (.goto 5, 3) := by decide +kernel
theorem dX6_become_69 : decode cX6_become 69 = .ok (.bipush 16, 2) := by decide +kernel
theorem dX6_become_71 : decode cX6_become 71 = .ok (.putfield 102, 3) := by decide +kernel
theorem dX6_become_74 : decode cX6_become 74 = .ok (.aload_n 0, 1) := by decide +kernel
theorem dX6_become_75 : decode cX6_become 75 = .ok (.iload_n 1, 1) := by decide +kernel
theorem dX6_become_76 : decode cX6_become 76 = .ok (.putfield 62, 3) := by decide +kernel
theorem dX6_become_79 : decode cX6_become 79 = .ok (.aload_n 0, 1) := by decide +kernel
theorem dX6_become_80 : decode cX6_become 80 = .ok (.aload_n 0, 1) := by decide +kernel
theorem dX6_become_81 : decode cX6_become 81 = .ok (.getfield 105, 3) := by decide +kernel
theorem dX6_become_84 : decode cX6_become 84 = .ok (.ifCond .eq 12, 3) := by decide +kernel
theorem dX6_become_87 : decode cX6_become 87 = .ok (.iload_n 1, 1) := by decide +kernel
theorem dX6_become_88 : decode cX6_become 88 = .ok (.iconst 5, 1) := by decide +kernel
theorem dX6_become_89 : decode cX6_become 89 = .ok (.if_icmp .ne 7, 3) := by decide +kernel
theorem dX6_become_92 : decode cX6_become 92 = .ok (.iconst 1, 1) := by decide +kernel
theorem dX6_become_93 : decode cX6_become 93 = .ok (.goto 4, 3) := by decide +kernel
theorem dX6_become_96 : decode cX6_become 96 = .ok (.iconst 0, 1) := by decide +kernel
theorem dX6_become_97 : decode cX6_become 97 = .ok (.putfield 105, 3) := by decide +kernel
theorem dX6_become_100 : decode cX6_become 100 = .ok (.return_, 1) := by decide +kernel
set_option maxRecDepth 20000 in
theorem ggX6_arm_X6_safeAt : GoodIn wsX6_arm wsX6_safeAt := goodIn_r _ [9, 2, 10, 11, 12, 13, 8, 14, 15, 16, 17, 18, 19, 20, 21, 22, 23, 24, 33, 34, 35, 36, 37, 38, 39, 40, 41, 42, 43, 44, 45, 46, 47, 48, 49, 50, 51, 52, 53, 54, 55] (by decide +kernel) (by decide +kernel)
set_option maxRecDepth 20000 in
theorem gX6_arm_X6_safeAt : GoodIn wsX6_arm (wsV RX6 74 RX6 yX6_safeAt wsX6_safeAt) := goodIn_app (goodIn_of _ (by decide +kernel)) ggX6_arm_X6_safeAt
set_option maxRecDepth 20000 in
theorem ggX6_arm_X6_become : GoodIn wsX6_arm wsX6_become := goodIn_r _ [28, 1, 29, 30, 31, 32, 33, 34, 35, 36, 37, 38, 39, 40, 41, 42, 43, 44, 45, 46, 47, 48, 49, 50, 51, 52, 53, 54, 55] (by decide +kernel) (by decide +kernel)
set_option maxRecDepth 20000 in
theorem gX6_arm_X6_become : GoodIn wsX6_arm (wsV RX6 109 RX6 yX6_become wsX6_become) := goodIn_app (goodIn_of _ (by decide +kernel)) ggX6_arm_X6_become
theorem dX6_arm_0 : decode cX6_arm 0 = .ok (.aload_n 0, 1) := by decide +kernel
theorem dX6_arm_1 : decode cX6_arm 1 = .ok (.getfield 62, 3) := by decide +kernel
theorem dX6_arm_4 : decode cX6_arm 4 = .ok (.ifCond .eq 5, 3) := by decide +kernel
theorem dX6_arm_7 : decode cX6_arm 7 = .ok (.iconst (-1), 1) := by decide +kernel
theorem dX6_arm_8 : decode cX6_arm 8 = .ok (.ireturn, 1) := by decide +kernel
theorem dX6_arm_9 : decode cX6_arm 9 = .ok (.aload_n 0, 1) := by decide +kernel
theorem dX6_arm_10 : decode cX6_arm 10 = .ok (.getfield 50, 3) := by decide +kernel
theorem dX6_arm_13 : decode cX6_arm 13 = .ok (.ifCond .ne 6, 3) := by decide +kernel
theorem dX6_arm_16 : decode cX6_arm 16 = .ok (.bipush (-7), 2) := by decide +kernel
theorem dX6_arm_18 : decode cX6_arm 18 = .ok (.ireturn, 1) := by decide +kernel
theorem dX6_arm_19 : decode cX6_arm 19 = .ok (.aload_n 0, 1) := by decide +kernel
theorem dX6_arm_20 : decode cX6_arm 20 = .ok (.getfield 32, 3) := by decide +kernel
theorem dX6_arm_23 : decode cX6_arm 23 = .ok (.ifCond .gt 22, 3) := by decide +kernel
theorem dX6_arm_26 : decode cX6_arm 26 = .ok (.aload_n 0, 1) := by decide +kernel
theorem dX6_arm_27 : decode cX6_arm 27 = .ok (.aload_n 0, 1) := by decide +kernel
theorem dX6_arm_28 : decode cX6_arm 28 = .ok (.getfield 26, 3) := by decide +kernel
theorem dX6_arm_31 : decode cX6_arm 31 = .ok (.iconst 0, 1) := by decide +kernel
theorem dX6_arm_32 : decode cX6_arm 32 = .ok (.iaload, 1) := by decide +kernel
theorem dX6_arm_33 : decode cX6_arm 33 = .ok (.aload_n 0, 1) := by decide +kernel
theorem dX6_arm_34 : decode cX6_arm 34 = .ok (.getfield 26, 3) := by decide +kernel
theorem dX6_arm_37 : decode cX6_arm 37 = .ok (.iconst 1, 1) := by decide +kernel
theorem dX6_arm_38 : decode cX6_arm 38 = .ok (.iaload, 1) := by decide +kernel
theorem dX6_arm_39 : decode cX6_arm 39 = .ok (.invokevirtual 74, 3) := by decide +kernel
theorem dX6_arm_42 : decode cX6_arm 42 = .ok (.ifCond .ne 6, 3) := by decide +kernel
theorem dX6_arm_45 : decode cX6_arm 45 = .ok (.bipush (-8), 2) := by decide +kernel
theorem dX6_arm_47 : decode cX6_arm 47 = .ok (.ireturn, 1) := by decide +kernel
theorem dX6_arm_48 : decode cX6_arm 48 = .ok (.aload_n 0, 1) := by decide +kernel
theorem dX6_arm_49 : decode cX6_arm 49 = .ok (.iconst 1, 1) := by decide +kernel
theorem dX6_arm_50 : decode cX6_arm 50 = .ok (.invokevirtual 109, 3) := by decide +kernel
theorem dX6_arm_53 : decode cX6_arm 53 = .ok (.iconst 0, 1) := by decide +kernel
theorem dX6_arm_54 : decode cX6_arm 54 = .ok (.ireturn, 1) := by decide +kernel
set_option maxRecDepth 20000 in
theorem ggX6_command_X6_within : GoodIn wsX6_command wsX6_within := goodIn_r _ [7] (by decide +kernel) (by decide +kernel)
set_option maxRecDepth 20000 in
theorem gX6_command_X6_within : GoodIn wsX6_command (va_wsS RX6 58 yX6_within wsX6_within) := goodIn_app (goodIn_of _ (by decide +kernel)) ggX6_command_X6_within
set_option maxRecDepth 20000 in
theorem ggX6_command_X6_become : GoodIn wsX6_command wsX6_become := goodIn_r _ [11, 1, 12, 13, 14, 2, 15, 16, 17, 18, 19, 20, 21, 22, 23, 24, 25, 26, 27, 28, 29, 30, 31, 32, 33, 34, 35, 36, 37] (by decide +kernel) (by decide +kernel)
set_option maxRecDepth 20000 in
theorem gX6_command_X6_become : GoodIn wsX6_command (wsV RX6 109 RX6 yX6_become wsX6_become) := goodIn_app (goodIn_of _ (by decide +kernel)) ggX6_command_X6_become
theorem dX6_command_0 : decode cX6_command 0 = .ok (.iload_n 1, 1) := by decide +kernel
theorem dX6_command_1 : decode cX6_command 1 = .ok (.iconst 2, 1) := by decide +kernel
theorem dX6_command_2 : decode cX6_command 2 = .ok (.iconst 5, 1) := by decide +kernel
theorem dX6_command_3 : decode cX6_command 3 = .ok (.invokestatic 58, 3) := by decide +kernel
theorem dX6_command_6 : decode cX6_command 6 = .ok (.ifCond .ne 6, 3) := by decide +kernel
theorem dX6_command_9 : decode cX6_command 9 = .ok (.bipush (-5), 2) := by decide +kernel
theorem dX6_command_11 : decode cX6_command 11 = .ok (.ireturn, 1) := by decide +kernel
theorem dX6_command_12 : decode cX6_command 12 = .ok (.aload_n 0, 1) := by decide +kernel
theorem dX6_command_13 : decode cX6_command 13 = .ok (.getfield 62, 3) := by decide +kernel
theorem dX6_command_16 : decode cX6_command 16 = .ok (.ifCond .ne 6, 3) := by decide +kernel
theorem dX6_command_19 : decode cX6_command 19 = .ok (.bipush (-9), 2) := by decide +kernel
theorem dX6_command_21 : decode cX6_command 21 = .ok (.ireturn, 1) := by decide +kernel
theorem dX6_command_22 : decode cX6_command 22 = .ok (.aload_n 0, 1) := by decide +kernel
theorem dX6_command_23 : decode cX6_command 23 = .ok (.getfield 105, 3) := by decide +kernel
theorem dX6_command_26 : decode cX6_command 26 = .ok (.ifCond .ne 16, 3) := by decide +kernel
theorem dX6_command_29 : decode cX6_command 29 = .ok (.aload_n 0, 1) := by decide +kernel
theorem dX6_command_30 : decode cX6_command 30 = .ok (.getfield 62, 3) := by decide +kernel
theorem dX6_command_33 : decode cX6_command 33 = .ok (.iconst 1, 1) := by decide +kernel
theorem dX6_command_34 : decode cX6_command 34 = .ok (.if_icmp .ne 11, 3) := by decide +kernel
theorem dX6_command_37 : decode cX6_command 37 = .ok (.iload_n 1, 1) := by decide +kernel
theorem dX6_command_38 : decode cX6_command 38 = .ok (.iconst 2, 1) := by decide +kernel
theorem dX6_command_39 : decode cX6_command 39 = .ok (.if_icmp .ne 6, 3) := by decide +kernel
theorem dX6_command_42 : decode cX6_command 42 = .ok (.bipush (-10), 2) := by decide +kernel
theorem dX6_command_44 : decode cX6_command 44 = .ok (.ireturn, 1) := by decide +kernel
theorem dX6_command_45 : decode cX6_command 45 = .ok (.iload_n 1, 1) := by decide +kernel
theorem dX6_command_46 : decode cX6_command 46 = .ok (.iconst 2, 1) := by decide +kernel
theorem dX6_command_47 : decode cX6_command 47 = .ok (.if_icmp .ne 13, 3) := by decide +kernel
theorem dX6_command_50 : decode cX6_command 50 = .ok (.aload_n 0, 1) := by decide +kernel
theorem dX6_command_51 : decode cX6_command 51 = .ok (.getfield 90, 3) := by decide +kernel
theorem dX6_command_54 : decode cX6_command 54 = .ok (.ifCond .ne 6, 3) := by decide +kernel
theorem dX6_command_57 : decode cX6_command 57 = .ok (.bipush (-11), 2) := by decide +kernel
theorem dX6_command_59 : decode cX6_command 59 = .ok (.ireturn, 1) := by decide +kernel
theorem dX6_command_60 : decode cX6_command 60 = .ok (.aload_n 0, 1) := by decide +kernel
theorem dX6_command_61 : decode cX6_command 61 = .ok (.iload_n 1, 1) := by decide +kernel
theorem dX6_command_62 : decode cX6_command 62 = .ok (.invokevirtual 109, 3) := by decide +kernel
theorem dX6_command_65 : decode cX6_command 65 = .ok (.iconst 0, 1) := by decide +kernel
theorem dX6_command_66 : decode cX6_command 66 = .ok (.ireturn, 1) := by decide +kernel
theorem dX6_lesser_0 : decode cX6_lesser 0 = .ok (.iload_n 0, 1) := by decide +kernel
theorem dX6_lesser_1 : decode cX6_lesser 1 = .ok (.iload_n 1, 1) := by decide +kernel
theorem dX6_lesser_2 : decode cX6_lesser 2 = .ok (.if_icmp .ge 7, 3) := by decide +kernel
theorem dX6_lesser_5 : decode cX6_lesser 5 = .ok (.iload_n 0, 1) := by decide +kernel
theorem dX6_lesser_6 : decode cX6_lesser 6 = .ok (.goto 4, 3) := by decide +kernel
theorem dX6_lesser_9 : decode cX6_lesser 9 = .ok (.iload_n 1, 1) := by decide +kernel
theorem dX6_lesser_10 : decode cX6_lesser 10 = .ok (.ireturn, 1) := by decide +kernel
theorem dX6_greater_0 : decode cX6_greater 0 = .ok (.iload_n 0, 1) := by decide +kernel
theorem dX6_greater_1 : decode cX6_greater 1 = .ok (.iload_n 1, 1) := by decide +kernel
theorem dX6_greater_2 : decode cX6_greater 2 = .ok (.if_icmp .le 7, 3) := by decide +kernel
theorem dX6_greater_5 : decode cX6_greater 5 = .ok (.iload_n 0, 1) := by decide +kernel
theorem dX6_greater_6 : decode cX6_greater 6 = .ok (.goto 4, 3) := by decide +kernel
theorem dX6_greater_9 : decode cX6_greater 9 = .ok (.iload_n 1, 1) := by decide +kernel
theorem dX6_greater_10 : decode cX6_greater 10 = .ok (.ireturn, 1) := by decide +kernel
theorem dX6_saturated_0 : decode cX6_saturated 0 = .ok (.iload_n 0, 1) := by decide +kernel
theorem dX6_saturated_1 : decode cX6_saturated 1 = .ok (.iload_n 1, 1) := by decide +kernel
theorem dX6_saturated_2 : decode cX6_saturated 2 = .ok (.if_icmp .le 7, 3) := by decide +kernel
theorem dX6_saturated_5 : decode cX6_saturated 5 = .ok (.iload_n 1, 1) := by decide +kernel
theorem dX6_saturated_6 : decode cX6_saturated 6 = .ok (.goto 15, 3) := by decide +kernel
theorem dX6_saturated_9 : decode cX6_saturated 9 = .ok (.iload_n 0, 1) := by decide +kernel
theorem dX6_saturated_10 : decode cX6_saturated 10 = .ok (.iload_n 1, 1) := by decide +kernel
theorem dX6_saturated_11 : decode cX6_saturated 11 = .ok (.ineg, 1) := by decide +kernel
theorem dX6_saturated_12 : decode cX6_saturated 12 = .ok (.if_icmp .ge 8, 3) := by decide +kernel
theorem dX6_saturated_15 : decode cX6_saturated 15 = .ok (.iload_n 1, 1) := by decide +kernel
theorem dX6_saturated_16 : decode cX6_saturated 16 = .ok (.ineg, 1) := by decide +kernel
theorem dX6_saturated_17 : decode cX6_saturated 17 = .ok (.goto 4, 3) := by decide +kernel
theorem dX6_saturated_20 : decode cX6_saturated 20 = .ok (.iload_n 0, 1) := by decide +kernel
theorem dX6_saturated_21 : decode cX6_saturated 21 = .ok (.ireturn, 1) := by decide +kernel
set_option maxRecDepth 20000 in
theorem ggX6_voted_X6_lesser : GoodIn wsX6_voted wsX6_lesser := goodIn_r _ [7] (by decide +kernel) (by decide +kernel)
set_option maxRecDepth 20000 in
theorem gX6_voted_X6_lesser : GoodIn wsX6_voted (va_wsS RX6 113 yX6_lesser wsX6_lesser) := goodIn_app (goodIn_of _ (by decide +kernel)) ggX6_voted_X6_lesser
set_option maxRecDepth 20000 in
theorem ggX6_voted_X6_greater : GoodIn wsX6_voted wsX6_greater := goodIn_r _ [10] (by decide +kernel) (by decide +kernel)
set_option maxRecDepth 20000 in
theorem gX6_voted_X6_greater : GoodIn wsX6_voted (va_wsS RX6 117 yX6_greater wsX6_greater) := goodIn_app (goodIn_of _ (by decide +kernel)) ggX6_voted_X6_greater
theorem dX6_voted_0 : decode cX6_voted 0 = .ok (.iconst 0, 1) := by decide +kernel
theorem dX6_voted_1 : decode cX6_voted 1 = .ok (.istore_n 2, 1) := by decide +kernel
theorem dX6_voted_2 : decode cX6_voted 2 = .ok (.sipush 30000, 3) := by decide +kernel
theorem dX6_voted_5 : decode cX6_voted 5 = .ok (.istore_n 3, 1) := by decide +kernel
theorem dX6_voted_6 : decode cX6_voted 6 = .ok (.sipush (-30000), 3) := by decide +kernel
theorem dX6_voted_9 : decode cX6_voted 9 = .ok (.istore 4, 2) := by decide +kernel
theorem dX6_voted_11 : decode cX6_voted 11 = .ok (.iconst 0, 1) := by decide +kernel
theorem dX6_voted_12 : decode cX6_voted 12 = .ok (.istore 5, 2) := by decide +kernel
theorem dX6_voted_14 : decode cX6_voted 14 = .ok (.iconst 0, 1) := by decide +kernel
theorem dX6_voted_15 : decode cX6_voted 15 = .ok (.istore 6, 2) := by decide +kernel
theorem dX6_voted_17 : decode cX6_voted 17 = .ok (.iload 6, 2) := by decide +kernel
theorem dX6_voted_19 : decode cX6_voted 19 = .ok (.iconst 3, 1) := by decide +kernel
theorem dX6_voted_20 : decode cX6_voted 20 = .ok (.if_icmp .ge 56, 3) := by decide +kernel
theorem dX6_voted_23 : decode cX6_voted 23 = .ok (.aload_n 0, 1) := by decide +kernel
theorem dX6_voted_24 : decode cX6_voted 24 = .ok (.getfield 19, 3) := by decide +kernel
theorem dX6_voted_27 : decode cX6_voted 27 = .ok (.iload 6, 2) := by decide +kernel
theorem dX6_voted_29 : decode cX6_voted 29 = .ok (.baload, 1) := by decide +kernel
theorem dX6_voted_30 : decode cX6_voted 30 = .ok (.ifCond .eq 40, 3) := by decide +kernel
theorem dX6_voted_33 : decode cX6_voted 33 = .ok (.aload_n 0, 1) := by decide +kernel
theorem dX6_voted_34 : decode cX6_voted 34 = .ok (.getfield 23, 3) := by decide +kernel
theorem dX6_voted_37 : decode cX6_voted 37 = .ok (.iconst 3, 1) := by decide +kernel
theorem dX6_voted_38 : decode cX6_voted 38 = .ok (.iload 6, 2) := by decide +kernel
theorem dX6_voted_40 : decode cX6_voted 40 = .ok (.imul, 1) := by decide +kernel
theorem dX6_voted_41 : decode cX6_voted 41 = .ok (.iload_n 1, 1) := by decide +kernel
theorem dX6_voted_42 : decode cX6_voted 42 = .ok (.iadd, 1) := by decide +kernel
theorem dX6_voted_43 : decode cX6_voted 43 = .ok (.iaload, 1) := by decide +kernel
theorem dX6_voted_44 : decode cX6_voted 44 = .ok (.istore 7, 2) := by decide +kernel
theorem dX6_voted_46 : decode cX6_voted 46 = .ok (.iload_n 2, 1) := by decide +kernel
theorem dX6_voted_47 : decode cX6_voted 47 = .ok (.iload 7, 2) := by decide +kernel
theorem dX6_voted_49 : decode cX6_voted 49 = .ok (.iadd, 1) := by decide +kernel
theorem dX6_voted_50 : decode cX6_voted 50 = .ok (.istore_n 2, 1) := by decide +kernel
theorem dX6_voted_51 : decode cX6_voted 51 = .ok (.iload_n 3, 1) := by decide +kernel
theorem dX6_voted_52 : decode cX6_voted 52 = .ok (.iload 7, 2) := by decide +kernel
theorem dX6_voted_54 : decode cX6_voted 54 = .ok (.invokestatic 113, 3) := by decide +kernel
theorem dX6_voted_57 : decode cX6_voted 57 = .ok (.istore_n 3, 1) := by decide +kernel
theorem dX6_voted_58 : decode cX6_voted 58 = .ok (.iload 4, 2) := by decide +kernel
end
section
theorem dX6_voted_60 : decode cX6_voted 60 = .ok (.iload 7, 2) := by decide +kernel
theorem dX6_voted_62 : decode cX6_voted 62 = .ok (.invokestatic 117, 3) := by decide +kernel
theorem dX6_voted_65 : decode cX6_voted 65 = .ok (.istore 4, 2) := by decide +kernel
theorem dX6_voted_67 : decode cX6_voted 67 = .ok (.iinc 5 1, 3) := by decide +kernel
theorem dX6_voted_70 : decode cX6_voted 70 = .ok (.iinc 6 1, 3) := by decide +kernel
theorem dX6_voted_73 : decode cX6_voted 73 = .ok (.goto (-56), 3) := by decide +kernel
theorem dX6_voted_76 : decode cX6_voted 76 = .ok (.iload 5, 2) := by decide +kernel
theorem dX6_voted_78 : decode cX6_voted 78 = .ok (.iconst 3, 1) := by decide +kernel
theorem dX6_voted_79 : decode cX6_voted 79 = .ok (.if_icmp .ne 12, 3) := by decide +kernel
theorem dX6_voted_82 : decode cX6_voted 82 = .ok (.iload_n 2, 1) := by decide +kernel
theorem dX6_voted_83 : decode cX6_voted 83 = .ok (.iload_n 3, 1) := by decide +kernel
theorem dX6_voted_84 : decode cX6_voted 84 = .ok (.isub, 1) := by decide +kernel
theorem dX6_voted_85 : decode cX6_voted 85 = .ok (.iload 4, 2) := by decide +kernel
theorem dX6_voted_87 : decode cX6_voted 87 = .ok (.isub, 1) := by decide +kernel
theorem dX6_voted_88 : decode cX6_voted 88 = .ok (.goto 13, 3) := by decide +kernel
theorem dX6_voted_91 : decode cX6_voted 91 = .ok (.iload_n 2, 1) := by decide +kernel
theorem dX6_voted_92 : decode cX6_voted 92 = .ok (.ldc 120, 2) := by decide +kernel
theorem dX6_voted_94 : decode cX6_voted 94 = .ok (.iadd, 1) := by decide +kernel
theorem dX6_voted_95 : decode cX6_voted 95 = .ok (.iconst 2, 1) := by decide +kernel
theorem dX6_voted_96 : decode cX6_voted 96 = .ok (.idiv, 1) := by decide +kernel
theorem dX6_voted_97 : decode cX6_voted 97 = .ok (.sipush 30000, 3) := by decide +kernel
theorem dX6_voted_100 : decode cX6_voted 100 = .ok (.isub, 1) := by decide +kernel
theorem dX6_voted_101 : decode cX6_voted 101 = .ok (.ireturn, 1) := by decide +kernel
theorem dX6_link_0 : decode cX6_link 0 = .ok (.aload_n 0, 1) := by decide +kernel
theorem dX6_link_1 : decode cX6_link 1 = .ok (.dup, 1) := by decide +kernel
theorem dX6_link_2 : decode cX6_link 2 = .ok (.getfield 99, 3) := by decide +kernel
theorem dX6_link_5 : decode cX6_link 5 = .ok (.iconst 1, 1) := by decide +kernel
theorem dX6_link_6 : decode cX6_link 6 = .ok (.iadd, 1) := by decide +kernel
theorem dX6_link_7 : decode cX6_link 7 = .ok (.putfield 99, 3) := by decide +kernel
theorem dX6_link_10 : decode cX6_link 10 = .ok (.aload_n 0, 1) := by decide +kernel
theorem dX6_link_11 : decode cX6_link 11 = .ok (.getfield 78, 3) := by decide +kernel
theorem dX6_link_14 : decode cX6_link 14 = .ok (.ifCond .le 57, 3) := by decide +kernel
theorem dX6_link_17 : decode cX6_link 17 = .ok (.aload_n 0, 1) := by decide +kernel
theorem dX6_link_18 : decode cX6_link 18 = .ok (.dup, 1) := by decide +kernel
theorem dX6_link_19 : decode cX6_link 19 = .ok (.getfield 84, 3) := by decide +kernel
theorem dX6_link_22 : decode cX6_link 22 = .ok (.iconst 1, 1) := by decide +kernel
theorem dX6_link_23 : decode cX6_link 23 = .ok (.iadd, 1) := by decide +kernel
theorem dX6_link_24 : decode cX6_link 24 = .ok (.putfield 84, 3) := by decide +kernel
theorem dX6_link_27 : decode cX6_link 27 = .ok (.aload_n 0, 1) := by decide +kernel
theorem dX6_link_28 : decode cX6_link 28 = .ok (.getfield 84, 3) := by decide +kernel
theorem dX6_link_31 : decode cX6_link 31 = .ok (.bipush 10, 2) := by decide +kernel
theorem dX6_link_33 : decode cX6_link 33 = .ok (.if_icmp .ne 38, 3) := by decide +kernel
theorem dX6_link_36 : decode cX6_link 36 = .ok (.aload_n 0, 1) := by decide +kernel
theorem dX6_link_37 : decode cX6_link 37 = .ok (.iconst 0, 1) := by decide +kernel
theorem dX6_link_38 : decode cX6_link 38 = .ok (.putfield 84, 3) := by decide +kernel
theorem dX6_link_41 : decode cX6_link 41 = .ok (.aload_n 0, 1) := by decide +kernel
theorem dX6_link_42 : decode cX6_link 42 = .ok (.dup, 1) := by decide +kernel
theorem dX6_link_43 : decode cX6_link 43 = .ok (.getfield 87, 3) := by decide +kernel
theorem dX6_link_46 : decode cX6_link 46 = .ok (.iconst 1, 1) := by decide +kernel
theorem dX6_link_47 : decode cX6_link 47 = .ok (.iadd, 1) := by decide +kernel
theorem dX6_link_48 : decode cX6_link 48 = .ok (.putfield 87, 3) := by decide +kernel
theorem dX6_link_51 : decode cX6_link 51 = .ok (.aload_n 0, 1) := by decide +kernel
theorem dX6_link_52 : decode cX6_link 52 = .ok (.aload_n 0, 1) := by decide +kernel
theorem dX6_link_53 : decode cX6_link 53 = .ok (.getfield 87, 3) := by decide +kernel
theorem dX6_link_56 : decode cX6_link 56 = .ok (.iconst 3, 1) := by decide +kernel
theorem dX6_link_57 : decode cX6_link 57 = .ok (.if_icmp .ne 7, 3) := by decide +kernel
theorem dX6_link_60 : decode cX6_link 60 = .ok (.iconst 0, 1) := by decide +kernel
theorem dX6_link_61 : decode cX6_link 61 = .ok (.goto 7, 3) := by decide +kernel
theorem dX6_link_64 : decode cX6_link 64 = .ok (.aload_n 0, 1) := by decide +kernel
theorem dX6_link_65 : decode cX6_link 65 = .ok (.getfield 78, 3) := by decide +kernel
theorem dX6_link_68 : decode cX6_link 68 = .ok (.putfield 78, 3) := by decide +kernel
theorem dX6_link_71 : decode cX6_link 71 = .ok (.return_, 1) := by decide +kernel
set_option maxRecDepth 20000 in
theorem ggX6_vote_X6_voted : GoodIn wsX6_vote wsX6_voted := goodIn_r _ [8, 1, 9, 10, 11, 12, 7, 13, 14, 15, 16, 17, 18, 19, 20, 21, 22, 23, 24, 25, 26, 27, 28, 29, 30, 31, 32, 33, 34, 35, 36, 37, 38, 39] (by decide +kernel) (by decide +kernel)
set_option maxRecDepth 20000 in
theorem gX6_vote_X6_voted : GoodIn wsX6_vote (wsV RX6 121 RX6 yX6_voted wsX6_voted) := goodIn_app (goodIn_of _ (by decide +kernel)) ggX6_vote_X6_voted
theorem dX6_vote_0 : decode cX6_vote 0 = .ok (.aload_n 0, 1) := by decide +kernel
theorem dX6_vote_1 : decode cX6_vote 1 = .ok (.getfield 19, 3) := by decide +kernel
theorem dX6_vote_4 : decode cX6_vote 4 = .ok (.iconst 0, 1) := by decide +kernel
theorem dX6_vote_5 : decode cX6_vote 5 = .ok (.baload, 1) := by decide +kernel
theorem dX6_vote_6 : decode cX6_vote 6 = .ok (.ifCond .eq 7, 3) := by decide +kernel
theorem dX6_vote_9 : decode cX6_vote 9 = .ok (.iconst 1, 1) := by decide +kernel
theorem dX6_vote_10 : decode cX6_vote 10 = .ok (.goto 4, 3) := by decide +kernel
theorem dX6_vote_13 : decode cX6_vote 13 = .ok (.iconst 0, 1) := by decide +kernel
theorem dX6_vote_14 : decode cX6_vote 14 = .ok (.aload_n 0, 1) := by decide +kernel
theorem dX6_vote_15 : decode cX6_vote 15 = .ok (.getfield 19, 3) := by decide +kernel
theorem dX6_vote_18 : decode cX6_vote 18 = .ok (.iconst 1, 1) := by decide +kernel
theorem dX6_vote_19 : decode cX6_vote 19 = .ok (.baload, 1) := by decide +kernel
theorem dX6_vote_20 : decode cX6_vote 20 = .ok (.ifCond .eq 7, 3) := by decide +kernel
theorem dX6_vote_23 : decode cX6_vote 23 = .ok (.iconst 1, 1) := by decide +kernel
theorem dX6_vote_24 : decode cX6_vote 24 = .ok (.goto 4, 3) := by decide +kernel
theorem dX6_vote_27 : decode cX6_vote 27 = .ok (.iconst 0, 1) := by decide +kernel
theorem dX6_vote_28 : decode cX6_vote 28 = .ok (.iadd, 1) := by decide +kernel
theorem dX6_vote_29 : decode cX6_vote 29 = .ok (.aload_n 0, 1) := by decide +kernel
theorem dX6_vote_30 : decode cX6_vote 30 = .ok (.getfield 19, 3) := by decide +kernel
theorem dX6_vote_33 : decode cX6_vote 33 = .ok (.iconst 2, 1) := by decide +kernel
theorem dX6_vote_34 : decode cX6_vote 34 = .ok (.baload, 1) := by decide +kernel
theorem dX6_vote_35 : decode cX6_vote 35 = .ok (.ifCond .eq 7, 3) := by decide +kernel
theorem dX6_vote_38 : decode cX6_vote 38 = .ok (.iconst 1, 1) := by decide +kernel
theorem dX6_vote_39 : decode cX6_vote 39 = .ok (.goto 4, 3) := by decide +kernel
theorem dX6_vote_42 : decode cX6_vote 42 = .ok (.iconst 0, 1) := by decide +kernel
theorem dX6_vote_43 : decode cX6_vote 43 = .ok (.iadd, 1) := by decide +kernel
theorem dX6_vote_44 : decode cX6_vote 44 = .ok (.istore_n 1, 1) := by decide +kernel
theorem dX6_vote_45 : decode cX6_vote 45 = .ok (.aload_n 0, 1) := by decide +kernel
theorem dX6_vote_46 : decode cX6_vote 46 = .ok (.iload_n 1, 1) := by decide +kernel
theorem dX6_vote_47 : decode cX6_vote 47 = .ok (.iconst 2, 1) := by decide +kernel
theorem dX6_vote_48 : decode cX6_vote 48 = .ok (.if_icmp .ge 12, 3) := by decide +kernel
theorem dX6_vote_51 : decode cX6_vote 51 = .ok (.aload_n 0, 1) := by decide +kernel
theorem dX6_vote_52 : decode cX6_vote 52 = .ok (.getfield 32, 3) := by decide +kernel
theorem dX6_vote_55 : decode cX6_vote 55 = .ok (.iconst 1, 1) := by decide +kernel
theorem dX6_vote_56 : decode cX6_vote 56 = .ok (.iadd, 1) := by decide +kernel
theorem dX6_vote_57 : decode cX6_vote 57 = .ok (.goto 4, 3) := by decide +kernel
theorem dX6_vote_60 : decode cX6_vote 60 = .ok (.iconst 0, 1) := by decide +kernel
theorem dX6_vote_61 : decode cX6_vote 61 = .ok (.putfield 32, 3) := by decide +kernel
theorem dX6_vote_64 : decode cX6_vote 64 = .ok (.iconst 0, 1) := by decide +kernel
theorem dX6_vote_65 : decode cX6_vote 65 = .ok (.istore_n 2, 1) := by decide +kernel
theorem dX6_vote_66 : decode cX6_vote 66 = .ok (.iload_n 2, 1) := by decide +kernel
theorem dX6_vote_67 : decode cX6_vote 67 = .ok (.iconst 3, 1) := by decide +kernel
theorem dX6_vote_68 : decode cX6_vote 68 = .ok (.if_icmp .ge 34, 3) := by decide +kernel
theorem dX6_vote_71 : decode cX6_vote 71 = .ok (.aload_n 0, 1) := by decide +kernel
theorem dX6_vote_72 : decode cX6_vote 72 = .ok (.getfield 26, 3) := by decide +kernel
theorem dX6_vote_75 : decode cX6_vote 75 = .ok (.iload_n 2, 1) := by decide +kernel
theorem dX6_vote_76 : decode cX6_vote 76 = .ok (.iload_n 1, 1) := by decide +kernel
theorem dX6_vote_77 : decode cX6_vote 77 = .ok (.iconst 2, 1) := by decide +kernel
theorem dX6_vote_78 : decode cX6_vote 78 = .ok (.if_icmp .ge 12, 3) := by decide +kernel
theorem dX6_vote_81 : decode cX6_vote 81 = .ok (.aload_n 0, 1) := by decide +kernel
theorem dX6_vote_82 : decode cX6_vote 82 = .ok (.getfield 26, 3) := by decide +kernel
theorem dX6_vote_85 : decode cX6_vote 85 = .ok (.iload_n 2, 1) := by decide +kernel
theorem dX6_vote_86 : decode cX6_vote 86 = .ok (.iaload, 1) := by decide +kernel
theorem dX6_vote_87 : decode cX6_vote 87 = .ok (.goto 8, 3) := by decide +kernel
theorem dX6_vote_90 : decode cX6_vote 90 = .ok (.aload_n 0, 1) := by decide +kernel
theorem dX6_vote_91 : decode cX6_vote 91 = .ok (.iload_n 2, 1) := by decide +kernel
theorem dX6_vote_92 : decode cX6_vote 92 = .ok (.invokevirtual 121, 3) := by decide +kernel
theorem dX6_vote_95 : decode cX6_vote 95 = .ok (.iastore, 1) := by decide +kernel
theorem dX6_vote_96 : decode cX6_vote 96 = .ok (.iinc 2 1, 3) := by decide +kernel
theorem dX6_vote_99 : decode cX6_vote 99 = .ok (.goto (-33), 3) := by decide +kernel
theorem dX6_vote_102 : decode cX6_vote 102 = .ok (.iconst 0, 1) := by decide +kernel
theorem dX6_vote_103 : decode cX6_vote 103 = .ok (.istore_n 2, 1) := by decide +kernel
theorem dX6_vote_104 : decode cX6_vote 104 = .ok (.iload_n 2, 1) := by decide +kernel
theorem dX6_vote_105 : decode cX6_vote 105 = .ok (.iconst 3, 1) := by decide +kernel
theorem dX6_vote_106 : decode cX6_vote 106 = .ok (.if_icmp .ge 16, 3) := by decide +kernel
theorem dX6_vote_109 : decode cX6_vote 109 = .ok (.aload_n 0, 1) := by decide +kernel
theorem dX6_vote_110 : decode cX6_vote 110 = .ok (.getfield 19, 3) := by decide +kernel
theorem dX6_vote_113 : decode cX6_vote 113 = .ok (.iload_n 2, 1) := by decide +kernel
theorem dX6_vote_114 : decode cX6_vote 114 = .ok (.iconst 0, 1) := by decide +kernel
theorem dX6_vote_115 : decode cX6_vote 115 = .ok (.bastore, 1) := by decide +kernel
theorem dX6_vote_116 : decode cX6_vote 116 = .ok (.iinc 2 1, 3) := by decide +kernel
theorem dX6_vote_119 : decode cX6_vote 119 = .ok (.goto (-15), 3) := by decide +kernel
theorem dX6_vote_122 : decode cX6_vote 122 = .ok (.return_, 1) := by decide +kernel
set_option maxRecDepth 20000 in
theorem ggX6_failsafe_X6_become : GoodIn wsX6_failsafe wsX6_become := goodIn_r _ [9, 4, 10, 11, 12, 2, 13, 14, 15, 16, 17, 18, 19, 20, 21, 22, 23, 24, 25, 26, 27, 28, 29, 30, 31, 32, 33, 34, 35] (by decide +kernel) (by decide +kernel)
set_option maxRecDepth 20000 in
theorem gX6_failsafe_X6_become : GoodIn wsX6_failsafe (wsV RX6 109 RX6 yX6_become wsX6_become) := goodIn_app (goodIn_of _ (by decide +kernel)) ggX6_failsafe_X6_become
theorem dX6_failsafe_0 : decode cX6_failsafe 0 = .ok (.iload_n 1, 1) := by decide +kernel
theorem dX6_failsafe_1 : decode cX6_failsafe 1 = .ok (.bipush 10, 2) := by decide +kernel
theorem dX6_failsafe_3 : decode cX6_failsafe 3 = .ok (.if_icmp .lt 11, 3) := by decide +kernel
theorem dX6_failsafe_6 : decode cX6_failsafe 6 = .ok (.aload_n 0, 1) := by decide +kernel
theorem dX6_failsafe_7 : decode cX6_failsafe 7 = .ok (.getfield 32, 3) := by decide +kernel
theorem dX6_failsafe_10 : decode cX6_failsafe 10 = .ok (.iconst 5, 1) := by decide +kernel
theorem dX6_failsafe_11 : decode cX6_failsafe 11 = .ok (.if_icmp .lt 16, 3) := by decide +kernel
theorem dX6_failsafe_14 : decode cX6_failsafe 14 = .ok (.aload_n 0, 1) := by decide +kernel
theorem dX6_failsafe_15 : decode cX6_failsafe 15 = .ok (.iconst 5, 1) := by decide +kernel
theorem dX6_failsafe_16 : decode cX6_failsafe 16 = .ok (.invokevirtual 109, 3) := by decide +kernel
theorem dX6_failsafe_19 : decode cX6_failsafe 19 = .ok (.aload_n 0, 1) := by decide +kernel
theorem dX6_failsafe_20 : decode cX6_failsafe 20 = .ok (.iconst 1, 1) := by decide +kernel
theorem dX6_failsafe_21 : decode cX6_failsafe 21 = .ok (.putfield 105, 3) := by decide +kernel
theorem dX6_failsafe_24 : decode cX6_failsafe 24 = .ok (.goto 39, 3) := by decide +kernel
theorem dX6_failsafe_27 : decode cX6_failsafe 27 = .ok (.iload_n 1, 1) := by decide +kernel
theorem dX6_failsafe_28 : decode cX6_failsafe 28 = .ok (.bipush 25, 2) := by decide +kernel
theorem dX6_failsafe_30 : decode cX6_failsafe 30 = .ok (.if_icmp .lt 12, 3) := by decide +kernel
theorem dX6_failsafe_33 : decode cX6_failsafe 33 = .ok (.aload_n 0, 1) := by decide +kernel
theorem dX6_failsafe_34 : decode cX6_failsafe 34 = .ok (.getfield 96, 3) := by decide +kernel
theorem dX6_failsafe_37 : decode cX6_failsafe 37 = .ok (.bipush 20, 2) := by decide +kernel
theorem dX6_failsafe_39 : decode cX6_failsafe 39 = .ok (.if_icmp .lt 24, 3) := by decide +kernel
theorem dX6_failsafe_42 : decode cX6_failsafe 42 = .ok (.aload_n 0, 1) := by decide +kernel
theorem dX6_failsafe_43 : decode cX6_failsafe 43 = .ok (.getfield 62, 3) := by decide +kernel
theorem dX6_failsafe_46 : decode cX6_failsafe 46 = .ok (.iconst 4, 1) := by decide +kernel
theorem dX6_failsafe_47 : decode cX6_failsafe 47 = .ok (.if_icmp .eq 16, 3) := by decide +kernel
theorem dX6_failsafe_50 : decode cX6_failsafe 50 = .ok (.aload_n 0, 1) := by decide +kernel
theorem dX6_failsafe_51 : decode cX6_failsafe 51 = .ok (.getfield 62, 3) := by decide +kernel
theorem dX6_failsafe_54 : decode cX6_failsafe 54 = .ok (.iconst 5, 1) := by decide +kernel
theorem dX6_failsafe_55 : decode cX6_failsafe 55 = .ok (.if_icmp .eq 8, 3) := by decide +kernel
theorem dX6_failsafe_58 : decode cX6_failsafe 58 = .ok (.aload_n 0, 1) := by decide +kernel
theorem dX6_failsafe_59 : decode cX6_failsafe 59 = .ok (.iconst 4, 1) := by decide +kernel
theorem dX6_failsafe_60 : decode cX6_failsafe 60 = .ok (.invokevirtual 109, 3) := by decide +kernel
theorem dX6_failsafe_63 : decode cX6_failsafe 63 = .ok (.return_, 1) := by decide +kernel
set_option maxRecDepth 20000 in
theorem ggX6_near_X6_within : GoodIn wsX6_near wsX6_within := goodIn_r _ [5] (by decide +kernel) (by decide +kernel)
set_option maxRecDepth 20000 in
theorem gX6_near_X6_within : GoodIn wsX6_near (va_wsS RX6 58 yX6_within wsX6_within) := goodIn_app (goodIn_of _ (by decide +kernel)) ggX6_near_X6_within
theorem dX6_near_0 : decode cX6_near 0 = .ok (.aload_n 0, 1) := by decide +kernel
theorem dX6_near_1 : decode cX6_near 1 = .ok (.getfield 26, 3) := by decide +kernel
theorem dX6_near_4 : decode cX6_near 4 = .ok (.iload_n 2, 1) := by decide +kernel
theorem dX6_near_5 : decode cX6_near 5 = .ok (.iaload, 1) := by decide +kernel
theorem dX6_near_6 : decode cX6_near 6 = .ok (.iload_n 1, 1) := by decide +kernel
theorem dX6_near_7 : decode cX6_near 7 = .ok (.isub, 1) := by decide +kernel
theorem dX6_near_8 : decode cX6_near 8 = .ok (.iload_n 3, 1) := by decide +kernel
theorem dX6_near_9 : decode cX6_near 9 = .ok (.ineg, 1) := by decide +kernel
theorem dX6_near_10 : decode cX6_near 10 = .ok (.iload_n 3, 1) := by decide +kernel
theorem dX6_near_11 : decode cX6_near 11 = .ok (.invokestatic 58, 3) := by decide +kernel
theorem dX6_near_14 : decode cX6_near 14 = .ok (.ireturn, 1) := by decide +kernel
set_option maxRecDepth 20000 in
theorem ggX6_advance_X6_become : GoodIn wsX6_advance wsX6_become := goodIn_r _ [10, 2, 11, 12, 13, 14, 22, 23, 24, 25, 26, 27, 28, 29, 30, 31, 32, 33, 34, 35, 36, 37, 38, 39, 40, 41, 42, 43, 44] (by decide +kernel) (by decide +kernel)
set_option maxRecDepth 20000 in
theorem gX6_advance_X6_become : GoodIn wsX6_advance (wsV RX6 109 RX6 yX6_become wsX6_become) := goodIn_app (goodIn_of _ (by decide +kernel)) ggX6_advance_X6_become
set_option maxRecDepth 20000 in
theorem ggX6_advance_X6_near : GoodIn wsX6_advance wsX6_near := goodIn_r _ [18, 3, 19, 20, 9, 21, 22, 23, 24, 25, 26, 27, 28, 29, 30, 31, 32, 33, 34, 35, 36, 37, 38, 39, 40, 41, 42, 43, 44] (by decide +kernel) (by decide +kernel)
set_option maxRecDepth 20000 in
theorem gX6_advance_X6_near : GoodIn wsX6_advance (wsV RX6 125 RX6 yX6_near wsX6_near) := goodIn_app (goodIn_of _ (by decide +kernel)) ggX6_advance_X6_near
theorem dX6_advance_0 : decode cX6_advance 0 = .ok (.iconst 3, 1) := by decide +kernel
theorem dX6_advance_1 : decode cX6_advance 1 = .ok (.aload_n 0, 1) := by decide +kernel
theorem dX6_advance_2 : decode cX6_advance 2 = .ok (.getfield 93, 3) := by decide +kernel
theorem dX6_advance_5 : decode cX6_advance 5 = .ok (.imul, 1) := by decide +kernel
theorem dX6_advance_6 : decode cX6_advance 6 = .ok (.istore_n 1, 1) := by decide +kernel
theorem dX6_advance_7 : decode cX6_advance 7 = .ok (.aload_n 0, 1) := by decide +kernel
theorem dX6_advance_8 : decode cX6_advance 8 = .ok (.getfield 62, 3) := by decide +kernel
theorem dX6_advance_11 : decode cX6_advance 11 = .ok (.iconst 1, 1) := by decide +kernel
theorem dX6_advance_12 : decode cX6_advance 12 = .ok (.if_icmp .ne 34, 3) := by decide +kernel
theorem dX6_advance_15 : decode cX6_advance 15 = .ok (.aload_n 0, 1) := by decide +kernel
theorem dX6_advance_16 : decode cX6_advance 16 = .ok (.getfield 26, 3) := by decide +kernel
theorem dX6_advance_19 : decode cX6_advance 19 = .ok (.iconst 2, 1) := by decide +kernel
theorem dX6_advance_20 : decode cX6_advance 20 = .ok (.iaload, 1) := by decide +kernel
theorem dX6_advance_21 : decode cX6_advance 21 = .ok (.sipush 1000, 3) := by decide +kernel
theorem dX6_advance_24 : decode cX6_advance 24 = .ok (.if_icmp .lt 22, 3) := by decide +kernel
theorem dX6_advance_27 : decode cX6_advance 27 = .ok (.aload_n 0, 1) := by decide +kernel
theorem dX6_advance_28 : decode cX6_advance 28 = .ok (.aload_n 0, 1) := by decide +kernel
theorem dX6_advance_29 : decode cX6_advance 29 = .ok (.getfield 90, 3) := by decide +kernel
theorem dX6_advance_32 : decode cX6_advance 32 = .ok (.ifCond .le 7, 3) := by decide +kernel
theorem dX6_advance_35 : decode cX6_advance 35 = .ok (.iconst 2, 1) := by decide +kernel
theorem dX6_advance_36 : decode cX6_advance 36 = .ok (.goto 4, 3) := by decide +kernel
theorem dX6_advance_39 : decode cX6_advance 39 = .ok (.iconst 3, 1) := by decide +kernel
theorem dX6_advance_40 : decode cX6_advance 40 = .ok (.invokevirtual 109, 3) := by decide +kernel
theorem dX6_advance_43 : decode cX6_advance 43 = .ok (.goto 159, 3) := by decide +kernel
theorem dX6_advance_46 : decode cX6_advance 46 = .ok (.aload_n 0, 1) := by decide +kernel
theorem dX6_advance_47 : decode cX6_advance 47 = .ok (.getfield 62, 3) := by decide +kernel
theorem dX6_advance_50 : decode cX6_advance 50 = .ok (.iconst 2, 1) := by decide +kernel
theorem dX6_advance_51 : decode cX6_advance 51 = .ok (.if_icmp .ne 89, 3) := by decide +kernel
theorem dX6_advance_54 : decode cX6_advance 54 = .ok (.aload_n 0, 1) := by decide +kernel
theorem dX6_advance_55 : decode cX6_advance 55 = .ok (.aload_n 0, 1) := by decide +kernel
theorem dX6_advance_56 : decode cX6_advance 56 = .ok (.getfield 16, 3) := by decide +kernel
theorem dX6_advance_59 : decode cX6_advance 59 = .ok (.iload_n 1, 1) := by decide +kernel
theorem dX6_advance_60 : decode cX6_advance 60 = .ok (.iaload, 1) := by decide +kernel
theorem dX6_advance_61 : decode cX6_advance 61 = .ok (.iconst 0, 1) := by decide +kernel
theorem dX6_advance_62 : decode cX6_advance 62 = .ok (.bipush 100, 2) := by decide +kernel
theorem dX6_advance_64 : decode cX6_advance 64 = .ok (.invokevirtual 125, 3) := by decide +kernel
theorem dX6_advance_67 : decode cX6_advance 67 = .ok (.ifCond .eq 73, 3) := by decide +kernel
theorem dX6_advance_70 : decode cX6_advance 70 = .ok (.aload_n 0, 1) := by decide +kernel
theorem dX6_advance_71 : decode cX6_advance 71 = .ok (.aload_n 0, 1) := by decide +kernel
theorem dX6_advance_72 : decode cX6_advance 72 = .ok (.getfield 16, 3) := by decide +kernel
theorem dX6_advance_75 : decode cX6_advance 75 = .ok (.iload_n 1, 1) := by decide +kernel
theorem dX6_advance_76 : decode cX6_advance 76 = .ok (.iconst 1, 1) := by decide +kernel
theorem dX6_advance_77 : decode cX6_advance 77 = .ok (.iadd, 1) := by decide +kernel
theorem dX6_advance_78 : decode cX6_advance 78 = .ok (.iaload, 1) := by decide +kernel
theorem dX6_advance_79 : decode cX6_advance 79 = .ok (.iconst 1, 1) := by decide +kernel
theorem dX6_advance_80 : decode cX6_advance 80 = .ok (.bipush 100, 2) := by decide +kernel
theorem dX6_advance_82 : decode cX6_advance 82 = .ok (.invokevirtual 125, 3) := by decide +kernel
theorem dX6_advance_85 : decode cX6_advance 85 = .ok (.ifCond .eq 55, 3) := by decide +kernel
theorem dX6_advance_88 : decode cX6_advance 88 = .ok (.aload_n 0, 1) := by decide +kernel
theorem dX6_advance_89 : decode cX6_advance 89 = .ok (.aload_n 0, 1) := by decide +kernel
theorem dX6_advance_90 : decode cX6_advance 90 = .ok (.getfield 16, 3) := by decide +kernel
theorem dX6_advance_93 : decode cX6_advance 93 = .ok (.iload_n 1, 1) := by decide +kernel
theorem dX6_advance_94 : decode cX6_advance 94 = .ok (.iconst 2, 1) := by decide +kernel
theorem dX6_advance_95 : decode cX6_advance 95 = .ok (.iadd, 1) := by decide +kernel
theorem dX6_advance_96 : decode cX6_advance 96 = .ok (.iaload, 1) := by decide +kernel
theorem dX6_advance_97 : decode cX6_advance 97 = .ok (.iconst 2, 1) := by decide +kernel
theorem dX6_advance_98 : decode cX6_advance 98 = .ok (.bipush 100, 2) := by decide +kernel
theorem dX6_advance_100 : decode cX6_advance 100 = .ok (.invokevirtual 125, 3) := by decide +kernel
theorem dX6_advance_103 : decode cX6_advance 103 = .ok (.ifCond .eq 37, 3) := by decide +kernel
theorem dX6_advance_106 : decode cX6_advance 106 = .ok (.aload_n 0, 1) := by decide +kernel
theorem dX6_advance_107 : decode cX6_advance 107 = .ok (.dup, 1) := by decide +kernel
theorem dX6_advance_108 : decode cX6_advance 108 = .ok (.getfield 93, 3) := by decide +kernel
theorem dX6_advance_111 : decode cX6_advance 111 = .ok (.iconst 1, 1) := by decide +kernel
theorem dX6_advance_112 : decode cX6_advance 112 = .ok (.iadd, 1) := by decide +kernel
theorem dX6_advance_113 : decode cX6_advance 113 = .ok (.putfield 93, 3) := by decide +kernel
theorem dX6_advance_116 : decode cX6_advance 116 = .ok (.aload_n 0, 1) := by decide +kernel
theorem dX6_advance_117 : decode cX6_advance 117 = .ok (.getfield 93, 3) := by decide +kernel
theorem dX6_advance_120 : decode cX6_advance 120 = .ok (.aload_n 0, 1) := by decide +kernel
theorem dX6_advance_121 : decode cX6_advance 121 = .ok (.getfield 90, 3) := by decide +kernel
theorem dX6_advance_124 : decode cX6_advance 124 = .ok (.if_icmp .ne 78, 3) := by decide +kernel
theorem dX6_advance_127 : decode cX6_advance 127 = .ok (.aload_n 0, 1) := by decide +kernel
theorem dX6_advance_128 : decode cX6_advance 128 = .ok (.iconst 0, 1) := by decide +kernel
theorem dX6_advance_129 : decode cX6_advance 129 = .ok (.putfield 93, 3) := by decide +kernel
theorem dX6_advance_132 : decode cX6_advance 132 = .ok (.aload_n 0, 1) := by decide +kernel
theorem dX6_advance_133 : decode cX6_advance 133 = .ok (.iconst 4, 1) := by decide +kernel
theorem dX6_advance_134 : decode cX6_advance 134 = .ok (.invokevirtual 109, 3) := by decide +kernel
theorem dX6_advance_137 : decode cX6_advance 137 = .ok (.goto 65, 3) := by decide +kernel
theorem dX6_advance_140 : decode cX6_advance 140 = .ok (.aload_n 0, 1) := by decide +kernel
theorem dX6_advance_141 : decode cX6_advance 141 = .ok (.getfield 62, 3) := by decide +kernel
theorem dX6_advance_144 : decode cX6_advance 144 = .ok (.iconst 4, 1) := by decide +kernel
theorem dX6_advance_145 : decode cX6_advance 145 = .ok (.if_icmp .ne 33, 3) := by decide +kernel
theorem dX6_advance_148 : decode cX6_advance 148 = .ok (.aload_n 0, 1) := by decide +kernel
theorem dX6_advance_149 : decode cX6_advance 149 = .ok (.iconst 0, 1) := by decide +kernel
theorem dX6_advance_150 : decode cX6_advance 150 = .ok (.iconst 0, 1) := by decide +kernel
theorem dX6_advance_151 : decode cX6_advance 151 = .ok (.bipush 100, 2) := by decide +kernel
theorem dX6_advance_153 : decode cX6_advance 153 = .ok (.invokevirtual 125, 3) := by decide +kernel
theorem dX6_advance_156 : decode cX6_advance 156 = .ok (.ifCond .eq 22, 3) := by decide +kernel
theorem dX6_advance_159 : decode cX6_advance 159 = .ok (.aload_n 0, 1) := by decide +kernel
theorem dX6_advance_160 : decode cX6_advance 160 = .ok (.iconst 0, 1) := by decide +kernel
theorem dX6_advance_161 : decode cX6_advance 161 = .ok (.iconst 1, 1) := by decide +kernel
theorem dX6_advance_162 : decode cX6_advance 162 = .ok (.bipush 100, 2) := by decide +kernel
theorem dX6_advance_164 : decode cX6_advance 164 = .ok (.invokevirtual 125, 3) := by decide +kernel
theorem dX6_advance_167 : decode cX6_advance 167 = .ok (.ifCond .eq 11, 3) := by decide +kernel
theorem dX6_advance_170 : decode cX6_advance 170 = .ok (.aload_n 0, 1) := by decide +kernel
theorem dX6_advance_171 : decode cX6_advance 171 = .ok (.iconst 5, 1) := by decide +kernel
theorem dX6_advance_172 : decode cX6_advance 172 = .ok (.invokevirtual 109, 3) := by decide +kernel
theorem dX6_advance_175 : decode cX6_advance 175 = .ok (.goto 27, 3) := by decide +kernel
theorem dX6_advance_178 : decode cX6_advance 178 = .ok (.aload_n 0, 1) := by decide +kernel
theorem dX6_advance_179 : decode cX6_advance 179 = .ok (.getfield 62, 3) := by decide +kernel
theorem dX6_advance_182 : decode cX6_advance 182 = .ok (.iconst 5, 1) := by decide +kernel
theorem dX6_advance_183 : decode cX6_advance 183 = .ok (.if_icmp .ne 19, 3) := by decide +kernel
theorem dX6_advance_186 : decode cX6_advance 186 = .ok (.aload_n 0, 1) := by decide +kernel
theorem dX6_advance_187 : decode cX6_advance 187 = .ok (.getfield 26, 3) := by decide +kernel
theorem dX6_advance_190 : decode cX6_advance 190 = .ok (.iconst 2, 1) := by decide +kernel
theorem dX6_advance_191 : decode cX6_advance 191 = .ok (.iaload, 1) := by decide +kernel
theorem dX6_advance_192 : decode cX6_advance 192 = .ok (.bipush 20, 2) := by decide +kernel
theorem dX6_advance_194 : decode cX6_advance 194 = .ok (.if_icmp .gt 8, 3) := by decide +kernel
theorem dX6_advance_197 : decode cX6_advance 197 = .ok (.aload_n 0, 1) := by decide +kernel
theorem dX6_advance_198 : decode cX6_advance 198 = .ok (.iconst 0, 1) := by decide +kernel
theorem dX6_advance_199 : decode cX6_advance 199 = .ok (.invokevirtual 109, 3) := by decide +kernel
theorem dX6_advance_202 : decode cX6_advance 202 = .ok (.return_, 1) := by decide +kernel
set_option maxRecDepth 20000 in
theorem ggX6_steer_X6_saturated : GoodIn wsX6_steer wsX6_saturated := goodIn_r _ [10] (by decide +kernel) (by decide +kernel)
set_option maxRecDepth 20000 in
theorem gX6_steer_X6_saturated : GoodIn wsX6_steer (va_wsS RX6 128 yX6_saturated wsX6_saturated) := goodIn_app (goodIn_of _ (by decide +kernel)) ggX6_steer_X6_saturated
theorem dX6_steer_0 : decode cX6_steer 0 = .ok (.aload_n 0, 1) := by decide +kernel
theorem dX6_steer_1 : decode cX6_steer 1 = .ok (.getfield 32, 3) := by decide +kernel
theorem dX6_steer_4 : decode cX6_steer 4 = .ok (.ifCond .le 7, 3) := by decide +kernel
theorem dX6_steer_7 : decode cX6_steer 7 = .ok (.iconst 0, 1) := by decide +kernel
theorem dX6_steer_8 : decode cX6_steer 8 = .ok (.goto 6, 3) := by decide +kernel
theorem dX6_steer_11 : decode cX6_steer 11 = .ok (.sipush 200, 3) := by decide +kernel
theorem dX6_steer_14 : decode cX6_steer 14 = .ok (.istore_n 1, 1) := by decide +kernel
theorem dX6_steer_15 : decode cX6_steer 15 = .ok (.iconst 0, 1) := by decide +kernel
theorem dX6_steer_16 : decode cX6_steer 16 = .ok (.istore_n 2, 1) := by decide +kernel
theorem dX6_steer_17 : decode cX6_steer 17 = .ok (.iload_n 2, 1) := by decide +kernel
theorem dX6_steer_18 : decode cX6_steer 18 = .ok (.iconst 3, 1) := by decide +kernel
theorem dX6_steer_19 : decode cX6_steer 19 = .ok (.if_icmp .ge 80, 3) := by decide +kernel
theorem dX6_steer_22 : decode cX6_steer 22 = .ok (.aload_n 0, 1) := by decide +kernel
theorem dX6_steer_23 : decode cX6_steer 23 = .ok (.getfield 62, 3) := by decide +kernel
theorem dX6_steer_26 : decode cX6_steer 26 = .ok (.iconst 2, 1) := by decide +kernel
theorem dX6_steer_27 : decode cX6_steer 27 = .ok (.if_icmp .ne 30, 3) := by decide +kernel
theorem dX6_steer_30 : decode cX6_steer 30 = .ok (.aload_n 0, 1) := by decide +kernel
theorem dX6_steer_31 : decode cX6_steer 31 = .ok (.getfield 16, 3) := by decide +kernel
theorem dX6_steer_34 : decode cX6_steer 34 = .ok (.iconst 3, 1) := by decide +kernel
theorem dX6_steer_35 : decode cX6_steer 35 = .ok (.aload_n 0, 1) := by decide +kernel
theorem dX6_steer_36 : decode cX6_steer 36 = .ok (.getfield 93, 3) := by decide +kernel
theorem dX6_steer_39 : decode cX6_steer 39 = .ok (.imul, 1) := by decide +kernel
theorem dX6_steer_40 : decode cX6_steer 40 = .ok (.iload_n 2, 1) := by decide +kernel
theorem dX6_steer_41 : decode cX6_steer 41 = .ok (.iadd, 1) := by decide +kernel
theorem dX6_steer_42 : decode cX6_steer 42 = .ok (.iaload, 1) := by decide +kernel
theorem dX6_steer_43 : decode cX6_steer 43 = .ok (.aload_n 0, 1) := by decide +kernel
theorem dX6_steer_44 : decode cX6_steer 44 = .ok (.getfield 26, 3) := by decide +kernel
theorem dX6_steer_47 : decode cX6_steer 47 = .ok (.iload_n 2, 1) := by decide +kernel
theorem dX6_steer_48 : decode cX6_steer 48 = .ok (.iaload, 1) := by decide +kernel
theorem dX6_steer_49 : decode cX6_steer 49 = .ok (.isub, 1) := by decide +kernel
theorem dX6_steer_50 : decode cX6_steer 50 = .ok (.iload_n 1, 1) := by decide +kernel
theorem dX6_steer_51 : decode cX6_steer 51 = .ok (.invokestatic 128, 3) := by decide +kernel
theorem dX6_steer_54 : decode cX6_steer 54 = .ok (.goto 31, 3) := by decide +kernel
theorem dX6_steer_57 : decode cX6_steer 57 = .ok (.aload_n 0, 1) := by decide +kernel
theorem dX6_steer_58 : decode cX6_steer 58 = .ok (.getfield 62, 3) := by decide +kernel
theorem dX6_steer_61 : decode cX6_steer 61 = .ok (.iconst 4, 1) := by decide +kernel
theorem dX6_steer_62 : decode cX6_steer 62 = .ok (.if_icmp .ne 22, 3) := by decide +kernel
theorem dX6_steer_65 : decode cX6_steer 65 = .ok (.iload_n 2, 1) := by decide +kernel
theorem dX6_steer_66 : decode cX6_steer 66 = .ok (.iconst 2, 1) := by decide +kernel
theorem dX6_steer_67 : decode cX6_steer 67 = .ok (.if_icmp .ge 17, 3) := by decide +kernel
theorem dX6_steer_70 : decode cX6_steer 70 = .ok (.aload_n 0, 1) := by decide +kernel
theorem dX6_steer_71 : decode cX6_steer 71 = .ok (.getfield 26, 3) := by decide +kernel
theorem dX6_steer_74 : decode cX6_steer 74 = .ok (.iload_n 2, 1) := by decide +kernel
theorem dX6_steer_75 : decode cX6_steer 75 = .ok (.iaload, 1) := by decide +kernel
theorem dX6_steer_76 : decode cX6_steer 76 = .ok (.ineg, 1) := by decide +kernel
theorem dX6_steer_77 : decode cX6_steer 77 = .ok (.iload_n 1, 1) := by decide +kernel
theorem dX6_steer_78 : decode cX6_steer 78 = .ok (.invokestatic 128, 3) := by decide +kernel
theorem dX6_steer_81 : decode cX6_steer 81 = .ok (.goto 4, 3) := by decide +kernel
theorem dX6_steer_84 : decode cX6_steer 84 = .ok (.iconst 0, 1) := by decide +kernel
theorem dX6_steer_85 : decode cX6_steer 85 = .ok (.istore_n 3, 1) := by decide +kernel
theorem dX6_steer_86 : decode cX6_steer 86 = .ok (.aload_n 0, 1) := by decide +kernel
theorem dX6_steer_87 : decode cX6_steer 87 = .ok (.getfield 29, 3) := by decide +kernel
theorem dX6_steer_90 : decode cX6_steer 90 = .ok (.iload_n 2, 1) := by decide +kernel
theorem dX6_steer_91 : decode cX6_steer 91 = .ok (.iload_n 3, 1) := by decide +kernel
theorem dX6_steer_92 : decode cX6_steer 92 = .ok (.iastore, 1) := by decide +kernel
theorem dX6_steer_93 : decode cX6_steer 93 = .ok (.iinc 2 1, 3) := by decide +kernel
theorem dX6_steer_96 : decode cX6_steer 96 = .ok (.goto (-79), 3) := by decide +kernel
theorem dX6_steer_99 : decode cX6_steer 99 = .ok (.aload_n 0, 1) := by decide +kernel
theorem dX6_steer_100 : decode cX6_steer 100 = .ok (.getfield 29, 3) := by decide +kernel
theorem dX6_steer_103 : decode cX6_steer 103 = .ok (.iconst 2, 1) := by decide +kernel
theorem dX6_steer_104 : decode cX6_steer 104 = .ok (.aload_n 0, 1) := by decide +kernel
theorem dX6_steer_105 : decode cX6_steer 105 = .ok (.getfield 62, 3) := by decide +kernel
theorem dX6_steer_108 : decode cX6_steer 108 = .ok (.iconst 5, 1) := by decide +kernel
theorem dX6_steer_109 : decode cX6_steer 109 = .ok (.if_icmp .ne 8, 3) := by decide +kernel
theorem dX6_steer_112 : decode cX6_steer 112 = .ok (.bipush (-50), 2) := by decide +kernel
theorem dX6_steer_114 : decode cX6_steer 114 = .ok (.goto 29, 3) := by decide +kernel
theorem dX6_steer_117 : decode cX6_steer 117 = .ok (.aload_n 0, 1) := by decide +kernel
theorem dX6_steer_118 : decode cX6_steer 118 = .ok (.getfield 62, 3) := by decide +kernel
theorem dX6_steer_121 : decode cX6_steer 121 = .ok (.iconst 1, 1) := by decide +kernel
theorem dX6_steer_122 : decode cX6_steer 122 = .ok (.if_icmp .ne 15, 3) := by decide +kernel
theorem dX6_steer_125 : decode cX6_steer 125 = .ok (.aload_n 0, 1) := by decide +kernel
theorem dX6_steer_126 : decode cX6_steer 126 = .ok (.getfield 32, 3) := by decide +kernel
theorem dX6_steer_129 : decode cX6_steer 129 = .ok (.ifCond .ne 8, 3) := by decide +kernel
theorem dX6_steer_132 : decode cX6_steer 132 = .ok (.bipush 100, 2) := by decide +kernel
theorem dX6_steer_134 : decode cX6_steer 134 = .ok (.goto 9, 3) := by decide +kernel
theorem dX6_steer_137 : decode cX6_steer 137 = .ok (.aload_n 0, 1) := by decide +kernel
theorem dX6_steer_138 : decode cX6_steer 138 = .ok (.getfield 29, 3) := by decide +kernel
theorem dX6_steer_141 : decode cX6_steer 141 = .ok (.iconst 2, 1) := by decide +kernel
theorem dX6_steer_142 : decode cX6_steer 142 = .ok (.iaload, 1) := by decide +kernel
theorem dX6_steer_143 : decode cX6_steer 143 = .ok (.iastore, 1) := by decide +kernel
theorem dX6_steer_144 : decode cX6_steer 144 = .ok (.return_, 1) := by decide +kernel
set_option maxRecDepth 20000 in
theorem ggX6_guard_X6_safeAt : GoodIn wsX6_guard wsX6_safeAt := goodIn_r _ [8, 9, 10, 11, 12, 13, 7, 14, 15, 16, 17, 18, 19, 20, 21, 22, 23, 24, 31, 32, 33, 34, 35, 36, 37, 38, 39, 40, 41, 42, 43, 44, 45, 46, 47, 48, 49, 50, 51, 52, 53] (by decide +kernel) (by decide +kernel)
set_option maxRecDepth 20000 in
theorem gX6_guard_X6_safeAt : GoodIn wsX6_guard (wsV RX6 74 RX6 yX6_safeAt wsX6_safeAt) := goodIn_app (goodIn_of _ (by decide +kernel)) ggX6_guard_X6_safeAt
set_option maxRecDepth 20000 in
theorem ggX6_guard_X6_saturated : GoodIn wsX6_guard wsX6_saturated := goodIn_r _ [27] (by decide +kernel) (by decide +kernel)
set_option maxRecDepth 20000 in
theorem gX6_guard_X6_saturated : GoodIn wsX6_guard (va_wsS RX6 128 yX6_saturated wsX6_saturated) := goodIn_app (goodIn_of _ (by decide +kernel)) ggX6_guard_X6_saturated
set_option maxRecDepth 20000 in
theorem ggX6_guard_X6_greater : GoodIn wsX6_guard wsX6_greater := goodIn_r _ [30] (by decide +kernel) (by decide +kernel)
set_option maxRecDepth 20000 in
theorem gX6_guard_X6_greater : GoodIn wsX6_guard (va_wsS RX6 117 yX6_greater wsX6_greater) := goodIn_app (goodIn_of _ (by decide +kernel)) ggX6_guard_X6_greater
theorem dX6_guard_0 : decode cX6_guard 0 = .ok (.aload_n 0, 1) := by decide +kernel
theorem dX6_guard_1 : decode cX6_guard 1 = .ok (.getfield 26, 3) := by decide +kernel
theorem dX6_guard_4 : decode cX6_guard 4 = .ok (.iconst 0, 1) := by decide +kernel
theorem dX6_guard_5 : decode cX6_guard 5 = .ok (.iaload, 1) := by decide +kernel
theorem dX6_guard_6 : decode cX6_guard 6 = .ok (.istore_n 1, 1) := by decide +kernel
theorem dX6_guard_7 : decode cX6_guard 7 = .ok (.aload_n 0, 1) := by decide +kernel
theorem dX6_guard_8 : decode cX6_guard 8 = .ok (.getfield 26, 3) := by decide +kernel
theorem dX6_guard_11 : decode cX6_guard 11 = .ok (.iconst 1, 1) := by decide +kernel
theorem dX6_guard_12 : decode cX6_guard 12 = .ok (.iaload, 1) := by decide +kernel
theorem dX6_guard_13 : decode cX6_guard 13 = .ok (.istore_n 2, 1) := by decide +kernel
theorem dX6_guard_14 : decode cX6_guard 14 = .ok (.aload_n 0, 1) := by decide +kernel
theorem dX6_guard_15 : decode cX6_guard 15 = .ok (.iload_n 1, 1) := by decide +kernel
theorem dX6_guard_16 : decode cX6_guard 16 = .ok (.iload_n 2, 1) := by decide +kernel
end
section
theorem dX6_guard_17 : decode cX6_guard 17 = .ok (.invokevirtual 74, 3) := by decide +kernel
theorem dX6_guard_20 : decode cX6_guard 20 = .ok (.ifCond .ne 34, 3) := by decide +kernel
theorem dX6_guard_23 : decode cX6_guard 23 = .ok (.aload_n 0, 1) := by decide +kernel
theorem dX6_guard_24 : decode cX6_guard 24 = .ok (.getfield 29, 3) := by decide +kernel
theorem dX6_guard_27 : decode cX6_guard 27 = .ok (.iconst 0, 1) := by decide +kernel
theorem dX6_guard_28 : decode cX6_guard 28 = .ok (.iload_n 1, 1) := by decide +kernel
theorem dX6_guard_29 : decode cX6_guard 29 = .ok (.ineg, 1) := by decide +kernel
theorem dX6_guard_30 : decode cX6_guard 30 = .ok (.sipush 200, 3) := by decide +kernel
theorem dX6_guard_33 : decode cX6_guard 33 = .ok (.invokestatic 128, 3) := by decide +kernel
theorem dX6_guard_36 : decode cX6_guard 36 = .ok (.iastore, 1) := by decide +kernel
theorem dX6_guard_37 : decode cX6_guard 37 = .ok (.aload_n 0, 1) := by decide +kernel
theorem dX6_guard_38 : decode cX6_guard 38 = .ok (.getfield 29, 3) := by decide +kernel
theorem dX6_guard_41 : decode cX6_guard 41 = .ok (.iconst 1, 1) := by decide +kernel
theorem dX6_guard_42 : decode cX6_guard 42 = .ok (.iload_n 2, 1) := by decide +kernel
theorem dX6_guard_43 : decode cX6_guard 43 = .ok (.ineg, 1) := by decide +kernel
theorem dX6_guard_44 : decode cX6_guard 44 = .ok (.sipush 200, 3) := by decide +kernel
theorem dX6_guard_47 : decode cX6_guard 47 = .ok (.invokestatic 128, 3) := by decide +kernel
theorem dX6_guard_50 : decode cX6_guard 50 = .ok (.iastore, 1) := by decide +kernel
theorem dX6_guard_51 : decode cX6_guard 51 = .ok (.goto 78, 3) := by decide +kernel
theorem dX6_guard_54 : decode cX6_guard 54 = .ok (.iconst 4, 1) := by decide +kernel
theorem dX6_guard_55 : decode cX6_guard 55 = .ok (.istore_n 3, 1) := by decide +kernel
theorem dX6_guard_56 : decode cX6_guard 56 = .ok (.iload_n 3, 1) := by decide +kernel
theorem dX6_guard_57 : decode cX6_guard 57 = .ok (.ifCond .le 40, 3) := by decide +kernel
theorem dX6_guard_60 : decode cX6_guard 60 = .ok (.aload_n 0, 1) := by decide +kernel
theorem dX6_guard_61 : decode cX6_guard 61 = .ok (.iload_n 1, 1) := by decide +kernel
theorem dX6_guard_62 : decode cX6_guard 62 = .ok (.aload_n 0, 1) := by decide +kernel
theorem dX6_guard_63 : decode cX6_guard 63 = .ok (.getfield 29, 3) := by decide +kernel
theorem dX6_guard_66 : decode cX6_guard 66 = .ok (.iconst 0, 1) := by decide +kernel
theorem dX6_guard_67 : decode cX6_guard 67 = .ok (.iaload, 1) := by decide +kernel
theorem dX6_guard_68 : decode cX6_guard 68 = .ok (.iload_n 3, 1) := by decide +kernel
theorem dX6_guard_69 : decode cX6_guard 69 = .ok (.imul, 1) := by decide +kernel
theorem dX6_guard_70 : decode cX6_guard 70 = .ok (.iconst 4, 1) := by decide +kernel
theorem dX6_guard_71 : decode cX6_guard 71 = .ok (.idiv, 1) := by decide +kernel
theorem dX6_guard_72 : decode cX6_guard 72 = .ok (.iadd, 1) := by decide +kernel
theorem dX6_guard_73 : decode cX6_guard 73 = .ok (.iload_n 2, 1) := by decide +kernel
theorem dX6_guard_74 : decode cX6_guard 74 = .ok (.aload_n 0, 1) := by decide +kernel
theorem dX6_guard_75 : decode cX6_guard 75 = .ok (.getfield 29, 3) := by decide +kernel
theorem dX6_guard_78 : decode cX6_guard 78 = .ok (.iconst 1, 1) := by decide +kernel
theorem dX6_guard_79 : decode cX6_guard 79 = .ok (.iaload, 1) := by decide +kernel
theorem dX6_guard_80 : decode cX6_guard 80 = .ok (.iload_n 3, 1) := by decide +kernel
theorem dX6_guard_81 : decode cX6_guard 81 = .ok (.imul, 1) := by decide +kernel
theorem dX6_guard_82 : decode cX6_guard 82 = .ok (.iconst 4, 1) := by decide +kernel
theorem dX6_guard_83 : decode cX6_guard 83 = .ok (.idiv, 1) := by decide +kernel
theorem dX6_guard_84 : decode cX6_guard 84 = .ok (.iadd, 1) := by decide +kernel
theorem dX6_guard_85 : decode cX6_guard 85 = .ok (.invokevirtual 74, 3) := by decide +kernel
theorem dX6_guard_88 : decode cX6_guard 88 = .ok (.ifCond .ne 9, 3) := by decide +kernel
theorem dX6_guard_91 : decode cX6_guard 91 = .ok (.iinc 3 (-1), 3) := by decide +kernel
theorem dX6_guard_94 : decode cX6_guard 94 = .ok (.goto (-38), 3) := by decide +kernel
theorem dX6_guard_97 : decode cX6_guard 97 = .ok (.aload_n 0, 1) := by decide +kernel
theorem dX6_guard_98 : decode cX6_guard 98 = .ok (.getfield 29, 3) := by decide +kernel
theorem dX6_guard_101 : decode cX6_guard 101 = .ok (.iconst 0, 1) := by decide +kernel
theorem dX6_guard_102 : decode cX6_guard 102 = .ok (.aload_n 0, 1) := by decide +kernel
theorem dX6_guard_103 : decode cX6_guard 103 = .ok (.getfield 29, 3) := by decide +kernel
theorem dX6_guard_106 : decode cX6_guard 106 = .ok (.iconst 0, 1) := by decide +kernel
theorem dX6_guard_107 : decode cX6_guard 107 = .ok (.iaload, 1) := by decide +kernel
theorem dX6_guard_108 : decode cX6_guard 108 = .ok (.iload_n 3, 1) := by decide +kernel
theorem dX6_guard_109 : decode cX6_guard 109 = .ok (.imul, 1) := by decide +kernel
theorem dX6_guard_110 : decode cX6_guard 110 = .ok (.iconst 4, 1) := by decide +kernel
theorem dX6_guard_111 : decode cX6_guard 111 = .ok (.idiv, 1) := by decide +kernel
theorem dX6_guard_112 : decode cX6_guard 112 = .ok (.iastore, 1) := by decide +kernel
theorem dX6_guard_113 : decode cX6_guard 113 = .ok (.aload_n 0, 1) := by decide +kernel
theorem dX6_guard_114 : decode cX6_guard 114 = .ok (.getfield 29, 3) := by decide +kernel
theorem dX6_guard_117 : decode cX6_guard 117 = .ok (.iconst 1, 1) := by decide +kernel
theorem dX6_guard_118 : decode cX6_guard 118 = .ok (.aload_n 0, 1) := by decide +kernel
theorem dX6_guard_119 : decode cX6_guard 119 = .ok (.getfield 29, 3) := by decide +kernel
theorem dX6_guard_122 : decode cX6_guard 122 = .ok (.iconst 1, 1) := by decide +kernel
theorem dX6_guard_123 : decode cX6_guard 123 = .ok (.iaload, 1) := by decide +kernel
theorem dX6_guard_124 : decode cX6_guard 124 = .ok (.iload_n 3, 1) := by decide +kernel
theorem dX6_guard_125 : decode cX6_guard 125 = .ok (.imul, 1) := by decide +kernel
theorem dX6_guard_126 : decode cX6_guard 126 = .ok (.iconst 4, 1) := by decide +kernel
theorem dX6_guard_127 : decode cX6_guard 127 = .ok (.idiv, 1) := by decide +kernel
theorem dX6_guard_128 : decode cX6_guard 128 = .ok (.iastore, 1) := by decide +kernel
theorem dX6_guard_129 : decode cX6_guard 129 = .ok (.aload_n 0, 1) := by decide +kernel
theorem dX6_guard_130 : decode cX6_guard 130 = .ok (.getfield 71, 3) := by decide +kernel
theorem dX6_guard_133 : decode cX6_guard 133 = .ok (.sipush 200, 3) := by decide +kernel
theorem dX6_guard_136 : decode cX6_guard 136 = .ok (.isub, 1) := by decide +kernel
theorem dX6_guard_137 : decode cX6_guard 137 = .ok (.aload_n 0, 1) := by decide +kernel
theorem dX6_guard_138 : decode cX6_guard 138 = .ok (.getfield 26, 3) := by decide +kernel
theorem dX6_guard_141 : decode cX6_guard 141 = .ok (.iconst 2, 1) := by decide +kernel
theorem dX6_guard_142 : decode cX6_guard 142 = .ok (.iaload, 1) := by decide +kernel
theorem dX6_guard_143 : decode cX6_guard 143 = .ok (.isub, 1) := by decide +kernel
theorem dX6_guard_144 : decode cX6_guard 144 = .ok (.istore_n 3, 1) := by decide +kernel
theorem dX6_guard_145 : decode cX6_guard 145 = .ok (.aload_n 0, 1) := by decide +kernel
theorem dX6_guard_146 : decode cX6_guard 146 = .ok (.getfield 29, 3) := by decide +kernel
theorem dX6_guard_149 : decode cX6_guard 149 = .ok (.iconst 2, 1) := by decide +kernel
theorem dX6_guard_150 : decode cX6_guard 150 = .ok (.aload_n 0, 1) := by decide +kernel
theorem dX6_guard_151 : decode cX6_guard 151 = .ok (.getfield 29, 3) := by decide +kernel
theorem dX6_guard_154 : decode cX6_guard 154 = .ok (.iconst 2, 1) := by decide +kernel
theorem dX6_guard_155 : decode cX6_guard 155 = .ok (.iaload, 1) := by decide +kernel
theorem dX6_guard_156 : decode cX6_guard 156 = .ok (.iload_n 3, 1) := by decide +kernel
theorem dX6_guard_157 : decode cX6_guard 157 = .ok (.if_icmp .le 13, 3) := by decide +kernel
theorem dX6_guard_160 : decode cX6_guard 160 = .ok (.iload_n 3, 1) := by decide +kernel
theorem dX6_guard_161 : decode cX6_guard 161 = .ok (.sipush (-200), 3) := by decide +kernel
theorem dX6_guard_164 : decode cX6_guard 164 = .ok (.invokestatic 117, 3) := by decide +kernel
theorem dX6_guard_167 : decode cX6_guard 167 = .ok (.goto 9, 3) := by decide +kernel
theorem dX6_guard_170 : decode cX6_guard 170 = .ok (.aload_n 0, 1) := by decide +kernel
theorem dX6_guard_171 : decode cX6_guard 171 = .ok (.getfield 29, 3) := by decide +kernel
theorem dX6_guard_174 : decode cX6_guard 174 = .ok (.iconst 2, 1) := by decide +kernel
theorem dX6_guard_175 : decode cX6_guard 175 = .ok (.iaload, 1) := by decide +kernel
theorem dX6_guard_176 : decode cX6_guard 176 = .ok (.iastore, 1) := by decide +kernel
theorem dX6_guard_177 : decode cX6_guard 177 = .ok (.return_, 1) := by decide +kernel
set_option maxRecDepth 20000 in
theorem ggX6_tick_X6_within : GoodIn wsX6_tick wsX6_within := goodIn_r _ [8] (by decide +kernel) (by decide +kernel)
set_option maxRecDepth 20000 in
theorem gX6_tick_X6_within : GoodIn wsX6_tick (va_wsS RX6 58 yX6_within wsX6_within) := goodIn_app (goodIn_of _ (by decide +kernel)) ggX6_tick_X6_within
set_option maxRecDepth 20000 in
theorem ggX6_tick_X6_link : GoodIn wsX6_tick wsX6_link := goodIn_r _ [12, 13, 14, 15, 16, 89, 90, 91, 92, 93, 94, 95, 96, 97, 98, 99, 100, 101, 102, 103, 104, 105, 106, 107, 108, 109, 110, 111] (by decide +kernel) (by decide +kernel)
set_option maxRecDepth 20000 in
theorem gX6_tick_X6_link : GoodIn wsX6_tick (wsV RX6 131 RX6 yX6_link wsX6_link) := goodIn_app (goodIn_of _ (by decide +kernel)) ggX6_tick_X6_link
set_option maxRecDepth 20000 in
theorem ggX6_tick_X6_vote : GoodIn wsX6_tick wsX6_vote := goodIn_r _ [20, 21, 4, 22, 23, 24, 25, 7, 26, 27, 28, 29, 30, 31, 32, 33, 34, 89, 90, 91, 92, 93, 94, 95, 96, 97, 98, 99, 100, 101, 102, 103, 104, 105, 106, 107, 108, 109, 110, 111] (by decide +kernel) (by decide +kernel)
set_option maxRecDepth 20000 in
theorem gX6_tick_X6_vote : GoodIn wsX6_tick (wsV RX6 134 RX6 yX6_vote wsX6_vote) := goodIn_app (goodIn_of _ (by decide +kernel)) ggX6_tick_X6_vote
set_option maxRecDepth 20000 in
theorem ggX6_tick_X6_failsafe : GoodIn wsX6_tick wsX6_failsafe := goodIn_r _ [38, 4, 39, 1, 2, 40, 41, 42, 7, 43, 44, 13, 45, 89, 90, 91, 92, 93, 94, 95, 96, 97, 98, 99, 100, 101, 102, 103, 104, 105, 106, 107, 108, 109, 110, 111] (by decide +kernel) (by decide +kernel)
set_option maxRecDepth 20000 in
theorem gX6_tick_X6_failsafe : GoodIn wsX6_tick (wsV RX6 137 RX6 yX6_failsafe wsX6_failsafe) := goodIn_app (goodIn_of _ (by decide +kernel)) ggX6_tick_X6_failsafe
set_option maxRecDepth 20000 in
theorem ggX6_tick_X6_advance : GoodIn wsX6_tick wsX6_advance := goodIn_r _ [49, 50, 2, 22, 51, 52, 40, 41, 42, 7, 43, 44, 13, 45, 39, 53, 54, 55, 56, 5, 6, 8, 89, 90, 91, 92, 93, 94, 95, 96, 97, 98, 99, 100, 101, 102, 103, 104, 105, 106, 107, 108, 109, 110, 111] (by decide +kernel) (by decide +kernel)
set_option maxRecDepth 20000 in
theorem gX6_tick_X6_advance : GoodIn wsX6_tick (wsV RX6 140 RX6 yX6_advance wsX6_advance) := goodIn_app (goodIn_of _ (by decide +kernel)) ggX6_tick_X6_advance
set_option maxRecDepth 20000 in
theorem ggX6_tick_X6_steer : GoodIn wsX6_tick wsX6_steer := goodIn_r _ [60, 4, 2, 52, 50, 22, 3, 61, 62, 7, 63, 89, 90, 91, 92, 93, 94, 95, 96, 97, 98, 99, 100, 101, 102, 103, 104, 105, 106, 107, 108, 109, 110, 111] (by decide +kernel) (by decide +kernel)
set_option maxRecDepth 20000 in
theorem gX6_tick_X6_steer : GoodIn wsX6_tick (wsV RX6 143 RX6 yX6_steer wsX6_steer) := goodIn_app (goodIn_of _ (by decide +kernel)) ggX6_tick_X6_steer
set_option maxRecDepth 20000 in
theorem ggX6_tick_X6_guard : GoodIn wsX6_tick wsX6_guard := goodIn_r _ [67, 22, 3, 68, 69, 70, 71, 7, 72, 73, 74, 75, 76, 77, 78, 79, 80, 81, 82, 83, 84, 85, 86, 87, 88, 61, 62, 63, 32, 33, 34, 89, 90, 91, 92, 93, 94, 95, 96, 97, 98, 99, 100, 101, 102, 103, 104, 105, 106, 107, 108, 109, 110, 111] (by decide +kernel) (by decide +kernel)
set_option maxRecDepth 20000 in
theorem gX6_tick_X6_guard : GoodIn wsX6_tick (wsV RX6 146 RX6 yX6_guard wsX6_guard) := goodIn_app (goodIn_of _ (by decide +kernel)) ggX6_tick_X6_guard
theorem dX6_tick_0 : decode cX6_tick 0 = .ok (.iload_n 1, 1) := by decide +kernel
theorem dX6_tick_1 : decode cX6_tick 1 = .ok (.iconst 0, 1) := by decide +kernel
theorem dX6_tick_2 : decode cX6_tick 2 = .ok (.bipush 100, 2) := by decide +kernel
theorem dX6_tick_4 : decode cX6_tick 4 = .ok (.invokestatic 58, 3) := by decide +kernel
theorem dX6_tick_7 : decode cX6_tick 7 = .ok (.ifCond .ne 6, 3) := by decide +kernel
theorem dX6_tick_10 : decode cX6_tick 10 = .ok (.bipush (-5), 2) := by decide +kernel
theorem dX6_tick_12 : decode cX6_tick 12 = .ok (.ireturn, 1) := by decide +kernel
theorem dX6_tick_13 : decode cX6_tick 13 = .ok (.aload_n 0, 1) := by decide +kernel
theorem dX6_tick_14 : decode cX6_tick 14 = .ok (.invokevirtual 131, 3) := by decide +kernel
theorem dX6_tick_17 : decode cX6_tick 17 = .ok (.aload_n 0, 1) := by decide +kernel
theorem dX6_tick_18 : decode cX6_tick 18 = .ok (.invokevirtual 134, 3) := by decide +kernel
theorem dX6_tick_21 : decode cX6_tick 21 = .ok (.aload_n 0, 1) := by decide +kernel
theorem dX6_tick_22 : decode cX6_tick 22 = .ok (.dup, 1) := by decide +kernel
theorem dX6_tick_23 : decode cX6_tick 23 = .ok (.getfield 96, 3) := by decide +kernel
theorem dX6_tick_26 : decode cX6_tick 26 = .ok (.iconst 1, 1) := by decide +kernel
theorem dX6_tick_27 : decode cX6_tick 27 = .ok (.iadd, 1) := by decide +kernel
theorem dX6_tick_28 : decode cX6_tick 28 = .ok (.putfield 96, 3) := by decide +kernel
theorem dX6_tick_31 : decode cX6_tick 31 = .ok (.aload_n 0, 1) := by decide +kernel
theorem dX6_tick_32 : decode cX6_tick 32 = .ok (.getfield 62, 3) := by decide +kernel
theorem dX6_tick_35 : decode cX6_tick 35 = .ok (.ifCond .ne 26, 3) := by decide +kernel
theorem dX6_tick_38 : decode cX6_tick 38 = .ok (.aload_n 0, 1) := by decide +kernel
theorem dX6_tick_39 : decode cX6_tick 39 = .ok (.getfield 29, 3) := by decide +kernel
theorem dX6_tick_42 : decode cX6_tick 42 = .ok (.iconst 0, 1) := by decide +kernel
theorem dX6_tick_43 : decode cX6_tick 43 = .ok (.iconst 0, 1) := by decide +kernel
theorem dX6_tick_44 : decode cX6_tick 44 = .ok (.iastore, 1) := by decide +kernel
theorem dX6_tick_45 : decode cX6_tick 45 = .ok (.aload_n 0, 1) := by decide +kernel
theorem dX6_tick_46 : decode cX6_tick 46 = .ok (.getfield 29, 3) := by decide +kernel
theorem dX6_tick_49 : decode cX6_tick 49 = .ok (.iconst 1, 1) := by decide +kernel
theorem dX6_tick_50 : decode cX6_tick 50 = .ok (.iconst 0, 1) := by decide +kernel
theorem dX6_tick_51 : decode cX6_tick 51 = .ok (.iastore, 1) := by decide +kernel
theorem dX6_tick_52 : decode cX6_tick 52 = .ok (.aload_n 0, 1) := by decide +kernel
theorem dX6_tick_53 : decode cX6_tick 53 = .ok (.getfield 29, 3) := by decide +kernel
theorem dX6_tick_56 : decode cX6_tick 56 = .ok (.iconst 2, 1) := by decide +kernel
theorem dX6_tick_57 : decode cX6_tick 57 = .ok (.iconst 0, 1) := by decide +kernel
theorem dX6_tick_58 : decode cX6_tick 58 = .ok (.iastore, 1) := by decide +kernel
theorem dX6_tick_59 : decode cX6_tick 59 = .ok (.iconst 0, 1) := by decide +kernel
theorem dX6_tick_60 : decode cX6_tick 60 = .ok (.ireturn, 1) := by decide +kernel
theorem dX6_tick_61 : decode cX6_tick 61 = .ok (.aload_n 0, 1) := by decide +kernel
theorem dX6_tick_62 : decode cX6_tick 62 = .ok (.iload_n 1, 1) := by decide +kernel
theorem dX6_tick_63 : decode cX6_tick 63 = .ok (.invokevirtual 137, 3) := by decide +kernel
theorem dX6_tick_66 : decode cX6_tick 66 = .ok (.aload_n 0, 1) := by decide +kernel
theorem dX6_tick_67 : decode cX6_tick 67 = .ok (.getfield 32, 3) := by decide +kernel
theorem dX6_tick_70 : decode cX6_tick 70 = .ok (.ifCond .ne 7, 3) := by decide +kernel
theorem dX6_tick_73 : decode cX6_tick 73 = .ok (.aload_n 0, 1) := by decide +kernel
theorem dX6_tick_74 : decode cX6_tick 74 = .ok (.invokevirtual 140, 3) := by decide +kernel
theorem dX6_tick_77 : decode cX6_tick 77 = .ok (.aload_n 0, 1) := by decide +kernel
theorem dX6_tick_78 : decode cX6_tick 78 = .ok (.invokevirtual 143, 3) := by decide +kernel
theorem dX6_tick_81 : decode cX6_tick 81 = .ok (.aload_n 0, 1) := by decide +kernel
theorem dX6_tick_82 : decode cX6_tick 82 = .ok (.getfield 32, 3) := by decide +kernel
theorem dX6_tick_85 : decode cX6_tick 85 = .ok (.ifCond .ne 14, 3) := by decide +kernel
theorem dX6_tick_88 : decode cX6_tick 88 = .ok (.aload_n 0, 1) := by decide +kernel
theorem dX6_tick_89 : decode cX6_tick 89 = .ok (.getfield 62, 3) := by decide +kernel
theorem dX6_tick_92 : decode cX6_tick 92 = .ok (.ifCond .eq 7, 3) := by decide +kernel
theorem dX6_tick_95 : decode cX6_tick 95 = .ok (.aload_n 0, 1) := by decide +kernel
theorem dX6_tick_96 : decode cX6_tick 96 = .ok (.invokevirtual 146, 3) := by decide +kernel
theorem dX6_tick_99 : decode cX6_tick 99 = .ok (.aload_n 0, 1) := by decide +kernel
theorem dX6_tick_100 : decode cX6_tick 100 = .ok (.getfield 62, 3) := by decide +kernel
theorem dX6_tick_103 : decode cX6_tick 103 = .ok (.ireturn, 1) := by decide +kernel
theorem dX6_mode_0 : decode cX6_mode 0 = .ok (.aload_n 0, 1) := by decide +kernel
theorem dX6_mode_1 : decode cX6_mode 1 = .ok (.getfield 62, 3) := by decide +kernel
theorem dX6_mode_4 : decode cX6_mode 4 = .ok (.ireturn, 1) := by decide +kernel
set_option maxRecDepth 20000 in
theorem ggX6_demand_X6_within : GoodIn wsX6_demand wsX6_within := goodIn_r _ [5] (by decide +kernel) (by decide +kernel)
set_option maxRecDepth 20000 in
theorem gX6_demand_X6_within : GoodIn wsX6_demand (va_wsS RX6 58 yX6_within wsX6_within) := goodIn_app (goodIn_of _ (by decide +kernel)) ggX6_demand_X6_within
theorem dX6_demand_0 : decode cX6_demand 0 = .ok (.iload_n 1, 1) := by decide +kernel
theorem dX6_demand_1 : decode cX6_demand 1 = .ok (.iconst 0, 1) := by decide +kernel
theorem dX6_demand_2 : decode cX6_demand 2 = .ok (.iconst 2, 1) := by decide +kernel
theorem dX6_demand_3 : decode cX6_demand 3 = .ok (.invokestatic 58, 3) := by decide +kernel
theorem dX6_demand_6 : decode cX6_demand 6 = .ok (.ifCond .eq 12, 3) := by decide +kernel
theorem dX6_demand_9 : decode cX6_demand 9 = .ok (.aload_n 0, 1) := by decide +kernel
theorem dX6_demand_10 : decode cX6_demand 10 = .ok (.getfield 29, 3) := by decide +kernel
theorem dX6_demand_13 : decode cX6_demand 13 = .ok (.iload_n 1, 1) := by decide +kernel
theorem dX6_demand_14 : decode cX6_demand 14 = .ok (.iaload, 1) := by decide +kernel
theorem dX6_demand_15 : decode cX6_demand 15 = .ok (.goto 4, 3) := by decide +kernel
theorem dX6_demand_18 : decode cX6_demand 18 = .ok (.iconst 0, 1) := by decide +kernel
theorem dX6_demand_19 : decode cX6_demand 19 = .ok (.ireturn, 1) := by decide +kernel
set_option maxRecDepth 20000 in
theorem ggX6_position_X6_within : GoodIn wsX6_position wsX6_within := goodIn_r _ [5] (by decide +kernel) (by decide +kernel)
set_option maxRecDepth 20000 in
theorem gX6_position_X6_within : GoodIn wsX6_position (va_wsS RX6 58 yX6_within wsX6_within) := goodIn_app (goodIn_of _ (by decide +kernel)) ggX6_position_X6_within
theorem dX6_position_0 : decode cX6_position 0 = .ok (.iload_n 1, 1) := by decide +kernel
theorem dX6_position_1 : decode cX6_position 1 = .ok (.iconst 0, 1) := by decide +kernel
theorem dX6_position_2 : decode cX6_position 2 = .ok (.iconst 2, 1) := by decide +kernel
theorem dX6_position_3 : decode cX6_position 3 = .ok (.invokestatic 58, 3) := by decide +kernel
theorem dX6_position_6 : decode cX6_position 6 = .ok (.ifCond .eq 12, 3) := by decide +kernel
theorem dX6_position_9 : decode cX6_position 9 = .ok (.aload_n 0, 1) := by decide +kernel
theorem dX6_position_10 : decode cX6_position 10 = .ok (.getfield 26, 3) := by decide +kernel
theorem dX6_position_13 : decode cX6_position 13 = .ok (.iload_n 1, 1) := by decide +kernel
theorem dX6_position_14 : decode cX6_position 14 = .ok (.iaload, 1) := by decide +kernel
theorem dX6_position_15 : decode cX6_position 15 = .ok (.goto 4, 3) := by decide +kernel
theorem dX6_position_18 : decode cX6_position 18 = .ok (.iconst 0, 1) := by decide +kernel
theorem dX6_position_19 : decode cX6_position 19 = .ok (.ireturn, 1) := by decide +kernel
theorem dX6_lost_0 : decode cX6_lost 0 = .ok (.aload_n 0, 1) := by decide +kernel
theorem dX6_lost_1 : decode cX6_lost 1 = .ok (.getfield 32, 3) := by decide +kernel
theorem dX6_lost_4 : decode cX6_lost 4 = .ok (.ireturn, 1) := by decide +kernel
theorem dX6_waypoint_0 : decode cX6_waypoint 0 = .ok (.aload_n 0, 1) := by decide +kernel
theorem dX6_waypoint_1 : decode cX6_waypoint 1 = .ok (.getfield 90, 3) := by decide +kernel
theorem dX6_waypoint_4 : decode cX6_waypoint 4 = .ok (.ifCond .ne 8, 3) := by decide +kernel
theorem dX6_waypoint_7 : decode cX6_waypoint 7 = .ok (.bipush (-11), 2) := by decide +kernel
theorem dX6_waypoint_9 : decode cX6_waypoint 9 = .ok (.goto 7, 3) := by decide +kernel
theorem dX6_waypoint_12 : decode cX6_waypoint 12 = .ok (.aload_n 0, 1) := by decide +kernel
theorem dX6_waypoint_13 : decode cX6_waypoint 13 = .ok (.getfield 93, 3) := by decide +kernel
theorem dX6_waypoint_16 : decode cX6_waypoint 16 = .ok (.ireturn, 1) := by decide +kernel
set_option maxRecDepth 20000 in
theorem ggX6_change_X6_within : GoodIn wsX6_change wsX6_within := goodIn_r _ [6] (by decide +kernel) (by decide +kernel)
set_option maxRecDepth 20000 in
theorem gX6_change_X6_within : GoodIn wsX6_change (va_wsS RX6 58 yX6_within wsX6_within) := goodIn_app (goodIn_of _ (by decide +kernel)) ggX6_change_X6_within
theorem dX6_change_0 : decode cX6_change 0 = .ok (.iload_n 1, 1) := by decide +kernel
theorem dX6_change_1 : decode cX6_change 1 = .ok (.iconst 0, 1) := by decide +kernel
theorem dX6_change_2 : decode cX6_change 2 = .ok (.aload_n 0, 1) := by decide +kernel
theorem dX6_change_3 : decode cX6_change 3 = .ok (.getfield 102, 3) := by decide +kernel
theorem dX6_change_6 : decode cX6_change 6 = .ok (.iconst 1, 1) := by decide +kernel
theorem dX6_change_7 : decode cX6_change 7 = .ok (.isub, 1) := by decide +kernel
theorem dX6_change_8 : decode cX6_change 8 = .ok (.invokestatic 58, 3) := by decide +kernel
theorem dX6_change_11 : decode cX6_change 11 = .ok (.ifCond .eq 12, 3) := by decide +kernel
theorem dX6_change_14 : decode cX6_change 14 = .ok (.aload_n 0, 1) := by decide +kernel
theorem dX6_change_15 : decode cX6_change 15 = .ok (.getfield 36, 3) := by decide +kernel
theorem dX6_change_18 : decode cX6_change 18 = .ok (.iload_n 1, 1) := by decide +kernel
theorem dX6_change_19 : decode cX6_change 19 = .ok (.iaload, 1) := by decide +kernel
theorem dX6_change_20 : decode cX6_change 20 = .ok (.goto 4, 3) := by decide +kernel
theorem dX6_change_23 : decode cX6_change 23 = .ok (.iconst (-1), 1) := by decide +kernel
theorem dX6_change_24 : decode cX6_change 24 = .ok (.ireturn, 1) := by decide +kernel
theorem dJ9_floorDiv_7cf53_0 : decode cJ9_floorDiv_7cf53 0 = .ok (.iload_n 0, 1) := by decide +kernel
theorem dJ9_floorDiv_7cf53_1 : decode cJ9_floorDiv_7cf53 1 = .ok (.iload_n 1, 1) := by decide +kernel
theorem dJ9_floorDiv_7cf53_2 : decode cJ9_floorDiv_7cf53 2 = .ok (.idiv, 1) := by decide +kernel
theorem dJ9_floorDiv_7cf53_3 : decode cJ9_floorDiv_7cf53 3 = .ok (.istore_n 2, 1) := by decide +kernel
theorem dJ9_floorDiv_7cf53_4 : decode cJ9_floorDiv_7cf53 4 = .ok (.iload_n 0, 1) := by decide +kernel
theorem dJ9_floorDiv_7cf53_5 : decode cJ9_floorDiv_7cf53 5 = .ok (.iload_n 1, 1) := by decide +kernel
theorem dJ9_floorDiv_7cf53_6 : decode cJ9_floorDiv_7cf53 6 = .ok (.ixor, 1) := by decide +kernel
theorem dJ9_floorDiv_7cf53_7 : decode cJ9_floorDiv_7cf53 7 = .ok (.ifCond .ge 14, 3) := by decide +kernel
theorem dJ9_floorDiv_7cf53_10 : decode cJ9_floorDiv_7cf53 10 = .ok (.iload_n 2, 1) := by decide +kernel
theorem dJ9_floorDiv_7cf53_11 : decode cJ9_floorDiv_7cf53 11 = .ok (.iload_n 1, 1) := by decide +kernel
theorem dJ9_floorDiv_7cf53_12 : decode cJ9_floorDiv_7cf53 12 = .ok (.imul, 1) := by decide +kernel
theorem dJ9_floorDiv_7cf53_13 : decode cJ9_floorDiv_7cf53 13 = .ok (.iload_n 0, 1) := by decide +kernel
theorem dJ9_floorDiv_7cf53_14 : decode cJ9_floorDiv_7cf53 14 = .ok (.if_icmp .eq 7, 3) := by decide +kernel
theorem dJ9_floorDiv_7cf53_17 : decode cJ9_floorDiv_7cf53 17 = .ok (.iload_n 2, 1) := by decide +kernel
theorem dJ9_floorDiv_7cf53_18 : decode cJ9_floorDiv_7cf53 18 = .ok (.iconst 1, 1) := by decide +kernel
theorem dJ9_floorDiv_7cf53_19 : decode cJ9_floorDiv_7cf53 19 = .ok (.isub, 1) := by decide +kernel
theorem dJ9_floorDiv_7cf53_20 : decode cJ9_floorDiv_7cf53 20 = .ok (.ireturn, 1) := by decide +kernel
theorem dJ9_floorDiv_7cf53_21 : decode cJ9_floorDiv_7cf53 21 = .ok (.iload_n 2, 1) := by decide +kernel
theorem dJ9_floorDiv_7cf53_22 : decode cJ9_floorDiv_7cf53 22 = .ok (.ireturn, 1) := by decide +kernel
theorem dJ9_max_7cf53_0 : decode cJ9_max_7cf53 0 = .ok (.iload_n 0, 1) := by decide +kernel
theorem dJ9_max_7cf53_1 : decode cJ9_max_7cf53 1 = .ok (.iload_n 1, 1) := by decide +kernel
theorem dJ9_max_7cf53_2 : decode cJ9_max_7cf53 2 = .ok (.if_icmp .lt 7, 3) := by decide +kernel
theorem dJ9_max_7cf53_5 : decode cJ9_max_7cf53 5 = .ok (.iload_n 0, 1) := by decide +kernel
theorem dJ9_max_7cf53_6 : decode cJ9_max_7cf53 6 = .ok (.goto 4, 3) := by decide +kernel
theorem dJ9_max_7cf53_9 : decode cJ9_max_7cf53 9 = .ok (.iload_n 1, 1) := by decide +kernel
theorem dJ9_max_7cf53_10 : decode cJ9_max_7cf53 10 = .ok (.ireturn, 1) := by decide +kernel
theorem dJ9_min_7cf53_0 : decode cJ9_min_7cf53 0 = .ok (.iload_n 0, 1) := by decide +kernel
theorem dJ9_min_7cf53_1 : decode cJ9_min_7cf53 1 = .ok (.iload_n 1, 1) := by decide +kernel
theorem dJ9_min_7cf53_2 : decode cJ9_min_7cf53 2 = .ok (.if_icmp .gt 7, 3) := by decide +kernel
theorem dJ9_min_7cf53_5 : decode cJ9_min_7cf53 5 = .ok (.iload_n 0, 1) := by decide +kernel
theorem dJ9_min_7cf53_6 : decode cJ9_min_7cf53 6 = .ok (.goto 4, 3) := by decide +kernel
theorem dJ9_min_7cf53_9 : decode cJ9_min_7cf53 9 = .ok (.iload_n 1, 1) := by decide +kernel
theorem dJ9_min_7cf53_10 : decode cJ9_min_7cf53 10 = .ok (.ireturn, 1) := by decide +kernel
abbrev vwCl : List vw_C := [(RX0, TX0, 3), (RX1, TX1, 2), (RX2, TX2, 3), (RX3, TX3, 2), (RX4, TX4, 5), (RX5, TX5, 13), (RX6, TX6, 23)]
end
section
/-! the words of nest mates, the classes and array classes, a method's start and end, calls: one row each -/
def kk_N (U : State) : Prop :=
  va_Nw (.fieldLinkNest RX5 109 "FencePilot$Upload" "underWay" "Z" "FencePilot") U ∧
  va_Nw (.fieldLinkNest RX5 127 "FencePilot$Upload" "brought" "LFencePilot$Items;" "FencePilot") U ∧
  va_Nw (.fieldLinkNest RX5 143 "FencePilot$ModeLog" "landForced" "Z" "FencePilot") U ∧
  va_Nw (.fieldLinkNest RX5 161 "FencePilot$ModeLog" "changes" "[I" "FencePilot") U ∧
  va_Nw (.fieldLinkNest RX5 208 "FencePilot$Items" "count" "I" "FencePilot") U ∧
  va_Nw (.fieldLinkNest RX5 85 "FencePilot$ModeLog" "current" "I" "FencePilot") U ∧
  va_Nw (.fieldLinkNest RX4 35 "FencePilot$Items" "count" "I" "FencePilot") U ∧
  va_Nw (.methodLinkNest RX1 19 yX5_isWithin "FencePilot") U
def kk_K (D : va_G) (cI cZ : ClassId) (U : State) : Prop := va_K D vwCl [(cI, .int), (cZ, .boolean)] U ∧ kk_N U
theorem kk_warm {D : va_G} {cI cZ : ClassId} {s U : State} (hW : s.WarmedH U.vm) (h : kk_K D cI cZ s) : kk_K D cI cZ U := by
  obtain ⟨h1, n1, n2, n3, n4, n5, n6, n7, n8⟩ := h
  exact ⟨va_K.moved hW.alike h1, va_Nw.warmF hW n1, va_Nw.warmF hW n2, va_Nw.warmF hW n3, va_Nw.warmF hW n4, va_Nw.warmF hW n5, va_Nw.warmF hW n6, va_Nw.warmF hW n7, va_Nw.warmM hW n8⟩
theorem kk_same {D : va_G} {cI cZ : ClassId} {s U : State} (hv : s.vm = U.vm) (h : kk_K D cI cZ s) : kk_K D cI cZ U := by
  obtain ⟨h1, n1, n2, n3, n4, n5, n6, n7, n8⟩ := h
  exact ⟨va_K.moved (by rw [hv]; exact Vm.Alike.refl _) h1, va_Nw.same rfl hv n1, va_Nw.same rfl hv n2, va_Nw.same rfl hv n3, va_Nw.same rfl hv n4, va_Nw.same rfl hv n5, va_Nw.same rfl hv n6, va_Nw.same rfl hv n7, va_Nw.same rfl hv n8⟩
/-- a method's start: its world and the tables -/
def kk_P (D : va_G) (cI cZ : ClassId) (sz : Nat) (ws : va_W) (U : State) : Prop := U.heap.size = sz ∧ va_P D vwCl ws U.heap ∧ kk_K D cI cZ U ∧ va_D (fun _ => True) ws
/-- its end -/
def kk_B (D : va_G) (A : Nat → Prop) (ws : va_W) (t : State) : Prop := va_P D vwCl ws t.heap ∧ va_D A ws
theorem kk_blind {D : va_G} {cI cZ : ClassId} {sz : Nat} {ws : va_W} {av : List Value} : FrameBlind (va_Pc av (kk_P D cI cZ sz ws)) := by
  intro a U g mk q
  obtain ⟨q0, q1, qP, qK, qD⟩ := q
  exact ⟨q0, q1, qP, kk_same rfl qK, qD⟩
theorem kk_start {D : va_G} {cI cZ : ClassId} {A : Nat → Prop} {ws : va_W} {av : List Value} {s : State} {H : Heap} (hK : kk_K D cI cZ s) (hP : va_P D vwCl ws H) (hD : va_D A ws) : ∀ U : State, U.heap = H → s.WarmedH U.vm → va_Pc av (kk_P D cI cZ H.size ws) av.toArray U := by
  intro U hU hW
  exact ⟨rfl, by rw [hU], by rw [hU]; exact hP, kk_warm hW hK, hD.weaken (fun _ _ _ _ => trivial)⟩
def kk_Mi (l : Launch) (D : va_G) (cI cZ : ClassId) (y : MethodName) (w : List Cond) (rm : Room) (av : List Value) (sz : Nat) (ws : va_W) {S : Type} (post : Int32 → S → Prop) (w1 : S → va_W) (mc ms : Nat) : Prop :=
  Met l y w rm (va_Pc av (kk_P D cI cZ sz ws)) (va_Qi post (fun u t => kk_B D (va_A ws sz) (w1 u) t) (va_A ws sz)) mc ms (va_A ws sz)
def kk_Ml (l : Launch) (D : va_G) (cI cZ : ClassId) (y : MethodName) (w : List Cond) (rm : Room) (av : List Value) (sz : Nat) (ws : va_W) {S : Type} (post : Int64 → S → Prop) (w1 : S → va_W) (mc ms : Nat) : Prop :=
  Met l y w rm (va_Pc av (kk_P D cI cZ sz ws)) (va_Ql post (fun u t => kk_B D (va_A ws sz) (w1 u) t) (va_A ws sz)) mc ms (va_A ws sz)
def kk_Mv (l : Launch) (D : va_G) (cI cZ : ClassId) (y : MethodName) (w : List Cond) (rm : Room) (av : List Value) (sz : Nat) (ws : va_W) {S : Type} (post : S → Prop) (w1 : S → va_W) (mc ms : Nat) : Prop :=
  Met l y w rm (va_Pc av (kk_P D cI cZ sz ws)) (va_Qv post (fun u t => kk_B D (va_A ws sz) (w1 u) t) (va_A ws sz)) mc ms (va_A ws sz)
/-- what stands in a method's body all the way -/
def kk_X (p : Program) (s : State) (m : MethodId) (args : Array Value) (meth : Method) (c : Code) (cc : ByteArray) (nL : Nat) (ret : Option FieldType) (y : MethodName) (w : List Cond) (A : Nat → Prop) (D : va_G) (cI cZ : ClassId) : Prop :=
  p.tables.exec = Jvm.exec ∧ c.code = cc ∧ c.maxLocals = nL ∧ s.vm.findClass y.cls = some m.cls ∧ (∀ q ∈ w, q.before args s = true) ∧ meth.sig.returnType = ret ∧ meth.locks = false ∧ meth.name = y.name ∧ kk_K D cI cZ s ∧ (∀ q : Nat, s.heap.size ≤ q → A q)
section KKE
variable {l : Launch} {D : va_G} {cI cZ : ClassId} {y : MethodName} {w ws' : List Cond} {rm : Room} {av : List Value} {sz : Nat} {ws : va_W} {S : Type} {w1 : S → va_W} {mc ms : Nat} {cc : ByteArray} {maxL : Nat} {ret : Option FieldType}
theorem kk_ent {Qc : (Nat → Prop) → Array Value → State → Outcome → State → Prop} (hy : plainFor y = true) (hw : w = Cond.code y cc maxL ret :: ws') (hlen : (lg_sl av).length ≤ maxL)
    (body : ∀ (p : Program) (e : Env) (s : State) (m : MethodId) (args : Array Value) (below : List Frame) (meth : Method) (c : Code) (A : Nat → Prop) (ls : Array Slot), kk_X p s m args meth c cc maxL ret y w A D cI cZ → va_P D vwCl ws s.heap → va_D A ws → va_S A s.heap s.heap [] → lv_has ls maxL (lv_args 0 av) → W p l e rm s m args below meth c s.heap [] 0 0 (MQ below (Qc A) args s mc ms A) (F0 m 0 ls [])) :
    Met l y w rm (va_Pc av (kk_P D cI cZ sz ws)) (Qc (va_A ws sz)) mc ms (va_A ws sz) := by
  refine va_MetF (cc := cc) (maxL := maxL) (ret := ret) hy hw ?_
  intro p e s m args below meth c s₁ B hml hv
  obtain ⟨rfl, hsz, hP, hK, hD0⟩ := hv
  subst hsz
  have hD := hD0.self (sz := s.heap.size)
  have hl := lv_entry av (n := maxL) hlen
  rw [lg_entry_eq]
  exact body p e s m _ below meth c (va_A ws s.heap.size) _ ⟨B.exec, B.bytes, hml, findClass_of_methodNamed B.named, atoms_spec (ws := w) B.pre, B.returns, B.notSynchronized, (name_of_methodNamed B.named B.method).1, hK, fun q h => Or.inr h⟩ hP hD va_S.rf hl
theorem kk_enti {post : Int32 → S → Prop} (hy : plainFor y = true) (hw : w = Cond.code y cc maxL ret :: ws') (hlen : (lg_sl av).length ≤ maxL)
    (body : ∀ (p : Program) (e : Env) (s : State) (m : MethodId) (args : Array Value) (below : List Frame) (meth : Method) (c : Code) (A : Nat → Prop) (ls : Array Slot), kk_X p s m args meth c cc maxL ret y w A D cI cZ → va_P D vwCl ws s.heap → va_D A ws → va_S A s.heap s.heap [] → lv_has ls maxL (lv_args 0 av) → W p l e rm s m args below meth c s.heap [] 0 0 (MQ below (va_Qi post (fun u t => kk_B D A (w1 u) t) A) args s mc ms A) (F0 m 0 ls [])) :
    kk_Mi l D cI cZ y w rm av sz ws post w1 mc ms := kk_ent (Qc := fun A => va_Qi post (fun u t => kk_B D A (w1 u) t) A) hy hw hlen body
theorem kk_entl {post : Int64 → S → Prop} (hy : plainFor y = true) (hw : w = Cond.code y cc maxL ret :: ws') (hlen : (lg_sl av).length ≤ maxL)
    (body : ∀ (p : Program) (e : Env) (s : State) (m : MethodId) (args : Array Value) (below : List Frame) (meth : Method) (c : Code) (A : Nat → Prop) (ls : Array Slot), kk_X p s m args meth c cc maxL ret y w A D cI cZ → va_P D vwCl ws s.heap → va_D A ws → va_S A s.heap s.heap [] → lv_has ls maxL (lv_args 0 av) → W p l e rm s m args below meth c s.heap [] 0 0 (MQ below (va_Ql post (fun u t => kk_B D A (w1 u) t) A) args s mc ms A) (F0 m 0 ls [])) :
    kk_Ml l D cI cZ y w rm av sz ws post w1 mc ms := kk_ent (Qc := fun A => va_Ql post (fun u t => kk_B D A (w1 u) t) A) hy hw hlen body
theorem kk_entv {post : S → Prop} (hy : plainFor y = true) (hw : w = Cond.code y cc maxL ret :: ws') (hlen : (lg_sl av).length ≤ maxL)
    (body : ∀ (p : Program) (e : Env) (s : State) (m : MethodId) (args : Array Value) (below : List Frame) (meth : Method) (c : Code) (A : Nat → Prop) (ls : Array Slot), kk_X p s m args meth c cc maxL ret y w A D cI cZ → va_P D vwCl ws s.heap → va_D A ws → va_S A s.heap s.heap [] → lv_has ls maxL (lv_args 0 av) → W p l e rm s m args below meth c s.heap [] 0 0 (MQ below (va_Qv post (fun u t => kk_B D A (w1 u) t) A) args s mc ms A) (F0 m 0 ls [])) :
    kk_Mv l D cI cZ y w rm av sz ws post w1 mc ms := kk_ent (Qc := fun A => va_Qv post (fun u t => kk_B D A (w1 u) t) A) hy hw hlen body
end KKE
section KKR
variable {p : Program} {l : Launch} {e : Env} {R : Room} {s : State} {m : MethodId} {args : Array Value} {below : List Frame} {meth : Method} {c : Code} {H : Heap} {locs : List Loc}
variable {D : va_G} {A : Nat → Prop} {S : Type} {w1 : S → va_W} {mc ms : Nat} {cc : ByteArray} {pc : Nat} {ls : Array Slot}
theorem kk_ri {post : Int32 → S → Prop} {v : Int32} (u : S) (hx : p.tables.exec = Jvm.exec) (hb : c.code = cc) (hr : meth.sig.returnType = some .int) (hlocks : meth.locks = false) (hdg : decode cc pc = .ok (.ireturn, 1)) (hS : va_S A s.heap H locs) (hP : va_P D vwCl (w1 u) H) (hD : va_D A (w1 u)) (hq : post v u) :
    W p l e R s m args below meth c H locs mc ms (MQ below (va_Qi post (fun u t => kk_B D A (w1 u) t) A) args s mc ms A) (F0 m pc ls [.int v]) :=
  W.iret hx hb hr (fun t ht _ => ⟨⟨v, u, rfl, hq, by rw [ht]; exact hP, hD⟩, hS.F ht⟩) hS.2.2 hdg hlocks
theorem kk_rz {post : Int32 → S → Prop} {v : Int32} (u : S) (hx : p.tables.exec = Jvm.exec) (hb : c.code = cc) (hr : meth.sig.returnType = some .boolean) (hlocks : meth.locks = false) (hdg : decode cc pc = .ok (.ireturn, 1)) (hS : va_S A s.heap H locs) (hP : va_P D vwCl (w1 u) H) (hD : va_D A (w1 u)) (hn : narrow .boolean (.int v) = .int v) (hq : post v u) :
    W p l e R s m args below meth c H locs mc ms (MQ below (va_Qi post (fun u t => kk_B D A (w1 u) t) A) args s mc ms A) (F0 m pc ls [.int v]) :=
  W.zret hx hb hr hn (fun t ht _ => ⟨⟨v, u, rfl, hq, by rw [ht]; exact hP, hD⟩, hS.F ht⟩) hS.2.2 hdg hlocks
theorem kk_rl {post : Int64 → S → Prop} {v : Int64} (u : S) (hx : p.tables.exec = Jvm.exec) (hb : c.code = cc) (hr : meth.sig.returnType = some .long) (hlocks : meth.locks = false) (hdg : decode cc pc = .ok (.lreturn, 1)) (hS : va_S A s.heap H locs) (hP : va_P D vwCl (w1 u) H) (hD : va_D A (w1 u)) (hq : post v u) :
    W p l e R s m args below meth c H locs mc ms (MQ below (va_Ql post (fun u t => kk_B D A (w1 u) t) A) args s mc ms A) (F0 m pc ls [.long v]) :=
  W.lret hx hb hr (fun t ht _ => ⟨⟨v, u, rfl, hq, by rw [ht]; exact hP, hD⟩, hS.F ht⟩) hS.2.2 hdg hlocks
theorem kk_rv {post : S → Prop} (u : S) (hx : p.tables.exec = Jvm.exec) (hb : c.code = cc) (hr : meth.sig.returnType = none) (hlocks : meth.locks = false) (hdg : decode cc pc = .ok (.return_, 1)) (hS : va_S A s.heap H locs) (hP : va_P D vwCl (w1 u) H) (hD : va_D A (w1 u)) (hq : post u) :
    W p l e R s m args below meth c H locs mc ms (MQ below (va_Qv post (fun u t => kk_B D A (w1 u) t) A) args s mc ms A) (F0 m pc ls []) :=
  W.vret hx hb hr (fun t ht _ => ⟨⟨u, rfl, hq, by rw [ht]; exact hP, hD⟩, hS.F ht⟩) hS.2.2 hdg hlocks
end KKR
theorem kk_fm {ws : va_W} : ∀ {is : List Nat} {wc : va_W}, is.map (fun i => ws[i]?) = wc.map some → is.filterMap (fun i => ws[i]?) = wc
  | [], [], _ => rfl
  | [], _ :: _, h => by simp at h
  | _ :: _, [], h => by simp at h
  | i :: is, a :: t, h => by
    simp only [List.map_cons, List.cons.injEq] at h
    rw [List.filterMap_cons, h.1]
    simp [kk_fm h.2]
section KKC
variable {p : Program} {l : Launch} {e : Env} {R : Room} {s : State} {m : MethodId} {args : Array Value} {below : List Frame} {meth : Method} {c : Code} {H H0 : Heap} {locs : List Loc} {cells slots : Nat} {Q : State → Prop}
variable {D : va_G} {cI cZ : ClassId} {A : Nat → Prop} {S : Type} {w1 : S → va_W} {mc ms : Nat} {cc bytes : ByteArray} {pc nL n index maxL : Nat} {ls : Array Slot} {rest st0 As : List Value} {ws wc wr : va_W} {Ts wy : List Cond} {own C host : String} {y : MethodName} {rm : Room} {ret : Option FieldType} {b : Nat} {fs : List Value} {av : Array Value}
theorem kk_goi {post : Int32 → S → Prop} (hr : va_Run p l e R s m args below meth c H locs cells slots mc ms (F0 m pc ls st0) rest (va_Qi post (fun u t => kk_B D (va_A wc H.size) (w1 u) t) (va_A wc H.size) av) (va_A wc H.size))
    (hP : va_P D vwCl ws H) (hD : va_D A ws) (hS : va_S A H0 H locs) (hA : ∀ q, H0.size ≤ q → A q) (isC isR : List Nat) (hC : isC.map (fun i => ws[i]?) = wc.map some) (hR : isR.map (fun i => ws[i]?) = wr.map some) (hn : va_nd isR = true) (hnC : va_nd isC = true) (hdis : ∀ i ∈ isR, i ∉ isC)
    (kk : ∀ (r : Int32) (u : S) (H1 : Heap) (locs1 : List Loc), post r u → va_P D vwCl (wr ++ w1 u) H1 → va_D A (wr ++ w1 u) → va_S A H0 H1 locs1 → W p l e R s m args below meth c H1 locs1 (cells + mc) (slots + ms) Q (F0 m (pc + 3) ls (.int r :: rest))) : W p l e R s m args below meth c H locs cells slots Q (F0 m pc ls st0) := by
  have hF := va_free hD hS hA isC hC
  refine va_calli hr hS (fun q _ h => hF q h) hF (fun r u t H1 locs1 ht hvm hw hB hz1 hk1 hS1 => ?_)
  obtain ⟨hP1, hD1⟩ := hB
  rw [ht] at hP1
  obtain ⟨hP2, hD2⟩ := va_join hP hD isC isR hC hR hn hdis hk1 hF hP1 hD1
  exact kk r u H1 locs1 hw hP2 hD2 hS1
theorem kk_cVi {post : Int32 → S → Prop} {q : vw_C} (X : CallFix p m c cc nL s args Ts own) (hK : kk_K D cI cZ s) (hP : va_P D vwCl ws H) (hD : va_D A ws) (hS : va_S A H0 H locs) (hA : ∀ q, H0.size ≤ q → A q) (isC isR : List Nat) (hM : kk_Mi l D cI cZ y wy rm (Value.ref b :: As) H.size wc post w1 mc ms) (cw : CallW R s args own C index y bytes maxL ret wy rm mc ms n)
    (hC : isC.map (fun i => ws[i]?) = wc.map some) (hR : isR.map (fun i => ws[i]?) = wr.map some) (hn : va_nd isR = true) (hnC : va_nd isC = true) (hdis : ∀ i ∈ isR, i ∉ isC) (q0 ci : Nat) (hc : vwCl[ci]? = some q) (hq : q.1 = C) (he : wc[q0]? = some (b, .inr (ci, fs))) (hlen : As.length = n) (hsz : ls.size = nL) (hst : st0 = As.reverse ++ .ref b :: rest) (hW : (rest.map fun v => v.category).sum ≤ 8) (hdg : decode cc pc = .ok (.invokevirtual index, 3)) (hf : cells + mc ≤ R.cells ∧ slots + ms ≤ R.slots)
    (kk : ∀ (r : Int32) (u : S) (H1 : Heap) (locs1 : List Loc), post r u → va_P D vwCl (wr ++ w1 u) H1 → va_D A (wr ++ w1 u) → va_S A H0 H1 locs1 → W p l e R s m args below meth c H1 locs1 (cells + mc) (slots + ms) Q (F0 m (pc + 3) ls (.int r :: rest))) : W p l e R s m args below meth c H locs cells slots Q (F0 m pc ls st0) := by
  subst hq
  have hPc := hP.sub (ws' := wc) isC (kk_fm hC)
  have hDc := hD.sub (ws' := wc) isC hnC hC
  exact kk_goi (va_runV X hM cw ⟨kk_blind, va_recv hK.1 hPc hc he, kk_start hK hPc hDc⟩ rfl hlen hsz hst (lv_room hW) hdg hf) hP hD hS hA isC isR hC hR hn hnC hdis kk
theorem kk_cSi {post : Int32 → S → Prop} (X : CallFix p m c cc nL s args Ts own) (hK : kk_K D cI cZ s) (hP : va_P D vwCl ws H) (hD : va_D A ws) (hS : va_S A H0 H locs) (hA : ∀ q, H0.size ≤ q → A q) (isC isR : List Nat) (hM : kk_Mi l D cI cZ y wy rm As H.size wc post w1 mc ms) (cw : CallB R s args own index y bytes maxL ret wy rm mc ms n ∧ (Cond.static y).before args s = true)
    (hC : isC.map (fun i => ws[i]?) = wc.map some) (hR : isR.map (fun i => ws[i]?) = wr.map some) (hn : va_nd isR = true) (hnC : va_nd isC = true) (hdis : ∀ i ∈ isR, i ∉ isC) (hlen : As.length = n) (hsz : ls.size = nL) (hst : st0 = As.reverse ++ rest) (hW : (rest.map fun v => v.category).sum ≤ 8) (hdg : decode cc pc = .ok (.invokestatic index, 3)) (hf : cells + mc ≤ R.cells ∧ slots + ms ≤ R.slots)
    (kk : ∀ (r : Int32) (u : S) (H1 : Heap) (locs1 : List Loc), post r u → va_P D vwCl (wr ++ w1 u) H1 → va_D A (wr ++ w1 u) → va_S A H0 H1 locs1 → W p l e R s m args below meth c H1 locs1 (cells + mc) (slots + ms) Q (F0 m (pc + 3) ls (.int r :: rest))) : W p l e R s m args below meth c H locs cells slots Q (F0 m pc ls st0) := by
  have hPc := hP.sub (ws' := wc) isC (kk_fm hC)
  have hDc := hD.sub (ws' := wc) isC hnC hC
  exact kk_goi (va_runS X hM cw ⟨kk_blind, kk_start hK hPc hDc⟩ rfl hlen hsz hst (lv_room hW) hdg hf) hP hD hS hA isC isR hC hR hn hnC hdis kk
theorem kk_cNi {post : Int32 → S → Prop} (X : CallFix p m c cc nL s args Ts own) (hK : kk_K D cI cZ s) (hP : va_P D vwCl ws H) (hD : va_D A ws) (hS : va_S A H0 H locs) (hA : ∀ q, H0.size ≤ q → A q) (isC isR : List Nat) (hM : kk_Mi l D cI cZ y wy rm As H.size wc post w1 mc ms) (cw : va_CN R s args own index y host bytes maxL ret wy rm mc ms n ∧ (Cond.static y).before args s = true ∧ True)
    (hC : isC.map (fun i => ws[i]?) = wc.map some) (hR : isR.map (fun i => ws[i]?) = wr.map some) (hn : va_nd isR = true) (hnC : va_nd isC = true) (hdis : ∀ i ∈ isR, i ∉ isC) (hlen : As.length = n) (hsz : ls.size = nL) (hst : st0 = As.reverse ++ rest) (hW : (rest.map fun v => v.category).sum ≤ 8) (hdg : decode cc pc = .ok (.invokestatic index, 3)) (hf : cells + mc ≤ R.cells ∧ slots + ms ≤ R.slots)
    (kk : ∀ (r : Int32) (u : S) (H1 : Heap) (locs1 : List Loc), post r u → va_P D vwCl (wr ++ w1 u) H1 → va_D A (wr ++ w1 u) → va_S A H0 H1 locs1 → W p l e R s m args below meth c H1 locs1 (cells + mc) (slots + ms) Q (F0 m (pc + 3) ls (.int r :: rest))) : W p l e R s m args below meth c H locs cells slots Q (F0 m pc ls st0) := by
  have hPc := hP.sub (ws' := wc) isC (kk_fm hC)
  have hDc := hD.sub (ws' := wc) isC hnC hC
  exact kk_goi (va_runSN X hM cw ⟨kk_blind, kk_start hK hPc hDc⟩ rfl hlen hsz hst (lv_room hW) hdg hf) hP hD hS hA isC isR hC hR hn hnC hdis kk
theorem kk_gol {post : Int64 → S → Prop} (hr : va_Run p l e R s m args below meth c H locs cells slots mc ms (F0 m pc ls st0) rest (va_Ql post (fun u t => kk_B D (va_A wc H.size) (w1 u) t) (va_A wc H.size) av) (va_A wc H.size))
    (hP : va_P D vwCl ws H) (hD : va_D A ws) (hS : va_S A H0 H locs) (hA : ∀ q, H0.size ≤ q → A q) (isC isR : List Nat) (hC : isC.map (fun i => ws[i]?) = wc.map some) (hR : isR.map (fun i => ws[i]?) = wr.map some) (hn : va_nd isR = true) (hnC : va_nd isC = true) (hdis : ∀ i ∈ isR, i ∉ isC)
    (kk : ∀ (r : Int64) (u : S) (H1 : Heap) (locs1 : List Loc), post r u → va_P D vwCl (wr ++ w1 u) H1 → va_D A (wr ++ w1 u) → va_S A H0 H1 locs1 → W p l e R s m args below meth c H1 locs1 (cells + mc) (slots + ms) Q (F0 m (pc + 3) ls (.long r :: rest))) : W p l e R s m args below meth c H locs cells slots Q (F0 m pc ls st0) := by
  have hF := va_free hD hS hA isC hC
  refine va_calll hr hS (fun q _ h => hF q h) hF (fun r u t H1 locs1 ht hvm hw hB hz1 hk1 hS1 => ?_)
  obtain ⟨hP1, hD1⟩ := hB
  rw [ht] at hP1
  obtain ⟨hP2, hD2⟩ := va_join hP hD isC isR hC hR hn hdis hk1 hF hP1 hD1
  exact kk r u H1 locs1 hw hP2 hD2 hS1
theorem kk_cVl {post : Int64 → S → Prop} {q : vw_C} (X : CallFix p m c cc nL s args Ts own) (hK : kk_K D cI cZ s) (hP : va_P D vwCl ws H) (hD : va_D A ws) (hS : va_S A H0 H locs) (hA : ∀ q, H0.size ≤ q → A q) (isC isR : List Nat) (hM : kk_Ml l D cI cZ y wy rm (Value.ref b :: As) H.size wc post w1 mc ms) (cw : CallW R s args own C index y bytes maxL ret wy rm mc ms n)
    (hC : isC.map (fun i => ws[i]?) = wc.map some) (hR : isR.map (fun i => ws[i]?) = wr.map some) (hn : va_nd isR = true) (hnC : va_nd isC = true) (hdis : ∀ i ∈ isR, i ∉ isC) (q0 ci : Nat) (hc : vwCl[ci]? = some q) (hq : q.1 = C) (he : wc[q0]? = some (b, .inr (ci, fs))) (hlen : As.length = n) (hsz : ls.size = nL) (hst : st0 = As.reverse ++ .ref b :: rest) (hW : (rest.map fun v => v.category).sum ≤ 8) (hdg : decode cc pc = .ok (.invokevirtual index, 3)) (hf : cells + mc ≤ R.cells ∧ slots + ms ≤ R.slots)
    (kk : ∀ (r : Int64) (u : S) (H1 : Heap) (locs1 : List Loc), post r u → va_P D vwCl (wr ++ w1 u) H1 → va_D A (wr ++ w1 u) → va_S A H0 H1 locs1 → W p l e R s m args below meth c H1 locs1 (cells + mc) (slots + ms) Q (F0 m (pc + 3) ls (.long r :: rest))) : W p l e R s m args below meth c H locs cells slots Q (F0 m pc ls st0) := by
  subst hq
  have hPc := hP.sub (ws' := wc) isC (kk_fm hC)
  have hDc := hD.sub (ws' := wc) isC hnC hC
  exact kk_gol (va_runV X hM cw ⟨kk_blind, va_recv hK.1 hPc hc he, kk_start hK hPc hDc⟩ rfl hlen hsz hst (lv_room hW) hdg hf) hP hD hS hA isC isR hC hR hn hnC hdis kk
theorem kk_cSl {post : Int64 → S → Prop} (X : CallFix p m c cc nL s args Ts own) (hK : kk_K D cI cZ s) (hP : va_P D vwCl ws H) (hD : va_D A ws) (hS : va_S A H0 H locs) (hA : ∀ q, H0.size ≤ q → A q) (isC isR : List Nat) (hM : kk_Ml l D cI cZ y wy rm As H.size wc post w1 mc ms) (cw : CallB R s args own index y bytes maxL ret wy rm mc ms n ∧ (Cond.static y).before args s = true)
    (hC : isC.map (fun i => ws[i]?) = wc.map some) (hR : isR.map (fun i => ws[i]?) = wr.map some) (hn : va_nd isR = true) (hnC : va_nd isC = true) (hdis : ∀ i ∈ isR, i ∉ isC) (hlen : As.length = n) (hsz : ls.size = nL) (hst : st0 = As.reverse ++ rest) (hW : (rest.map fun v => v.category).sum ≤ 8) (hdg : decode cc pc = .ok (.invokestatic index, 3)) (hf : cells + mc ≤ R.cells ∧ slots + ms ≤ R.slots)
    (kk : ∀ (r : Int64) (u : S) (H1 : Heap) (locs1 : List Loc), post r u → va_P D vwCl (wr ++ w1 u) H1 → va_D A (wr ++ w1 u) → va_S A H0 H1 locs1 → W p l e R s m args below meth c H1 locs1 (cells + mc) (slots + ms) Q (F0 m (pc + 3) ls (.long r :: rest))) : W p l e R s m args below meth c H locs cells slots Q (F0 m pc ls st0) := by
  have hPc := hP.sub (ws' := wc) isC (kk_fm hC)
  have hDc := hD.sub (ws' := wc) isC hnC hC
  exact kk_gol (va_runS X hM cw ⟨kk_blind, kk_start hK hPc hDc⟩ rfl hlen hsz hst (lv_room hW) hdg hf) hP hD hS hA isC isR hC hR hn hnC hdis kk
theorem kk_gov {post : S → Prop} (hr : va_Run p l e R s m args below meth c H locs cells slots mc ms (F0 m pc ls st0) rest (va_Qv post (fun u t => kk_B D (va_A wc H.size) (w1 u) t) (va_A wc H.size) av) (va_A wc H.size))
    (hP : va_P D vwCl ws H) (hD : va_D A ws) (hS : va_S A H0 H locs) (hA : ∀ q, H0.size ≤ q → A q) (isC isR : List Nat) (hC : isC.map (fun i => ws[i]?) = wc.map some) (hR : isR.map (fun i => ws[i]?) = wr.map some) (hn : va_nd isR = true) (hnC : va_nd isC = true) (hdis : ∀ i ∈ isR, i ∉ isC)
    (kk : ∀ (u : S) (H1 : Heap) (locs1 : List Loc), post u → va_P D vwCl (wr ++ w1 u) H1 → va_D A (wr ++ w1 u) → va_S A H0 H1 locs1 → W p l e R s m args below meth c H1 locs1 (cells + mc) (slots + ms) Q (F0 m (pc + 3) ls (rest))) : W p l e R s m args below meth c H locs cells slots Q (F0 m pc ls st0) := by
  have hF := va_free hD hS hA isC hC
  refine va_callv hr hS (fun q _ h => hF q h) hF (fun u t H1 locs1 ht hvm hw hB hz1 hk1 hS1 => ?_)
  obtain ⟨hP1, hD1⟩ := hB
  rw [ht] at hP1
  obtain ⟨hP2, hD2⟩ := va_join hP hD isC isR hC hR hn hdis hk1 hF hP1 hD1
  exact kk u H1 locs1 hw hP2 hD2 hS1
theorem kk_cVv {post : S → Prop} {q : vw_C} (X : CallFix p m c cc nL s args Ts own) (hK : kk_K D cI cZ s) (hP : va_P D vwCl ws H) (hD : va_D A ws) (hS : va_S A H0 H locs) (hA : ∀ q, H0.size ≤ q → A q) (isC isR : List Nat) (hM : kk_Mv l D cI cZ y wy rm (Value.ref b :: As) H.size wc post w1 mc ms) (cw : CallW R s args own C index y bytes maxL ret wy rm mc ms n)
    (hC : isC.map (fun i => ws[i]?) = wc.map some) (hR : isR.map (fun i => ws[i]?) = wr.map some) (hn : va_nd isR = true) (hnC : va_nd isC = true) (hdis : ∀ i ∈ isR, i ∉ isC) (q0 ci : Nat) (hc : vwCl[ci]? = some q) (hq : q.1 = C) (he : wc[q0]? = some (b, .inr (ci, fs))) (hlen : As.length = n) (hsz : ls.size = nL) (hst : st0 = As.reverse ++ .ref b :: rest) (hW : (rest.map fun v => v.category).sum ≤ 8) (hdg : decode cc pc = .ok (.invokevirtual index, 3)) (hf : cells + mc ≤ R.cells ∧ slots + ms ≤ R.slots)
    (kk : ∀ (u : S) (H1 : Heap) (locs1 : List Loc), post u → va_P D vwCl (wr ++ w1 u) H1 → va_D A (wr ++ w1 u) → va_S A H0 H1 locs1 → W p l e R s m args below meth c H1 locs1 (cells + mc) (slots + ms) Q (F0 m (pc + 3) ls (rest))) : W p l e R s m args below meth c H locs cells slots Q (F0 m pc ls st0) := by
  subst hq
  have hPc := hP.sub (ws' := wc) isC (kk_fm hC)
  have hDc := hD.sub (ws' := wc) isC hnC hC
  exact kk_gov (va_runV X hM cw ⟨kk_blind, va_recv hK.1 hPc hc he, kk_start hK hPc hDc⟩ rfl hlen hsz hst (lv_room hW) hdg hf) hP hD hS hA isC isR hC hR hn hnC hdis kk
theorem kk_cSv {post : S → Prop} (X : CallFix p m c cc nL s args Ts own) (hK : kk_K D cI cZ s) (hP : va_P D vwCl ws H) (hD : va_D A ws) (hS : va_S A H0 H locs) (hA : ∀ q, H0.size ≤ q → A q) (isC isR : List Nat) (hM : kk_Mv l D cI cZ y wy rm As H.size wc post w1 mc ms) (cw : CallB R s args own index y bytes maxL ret wy rm mc ms n ∧ (Cond.static y).before args s = true)
    (hC : isC.map (fun i => ws[i]?) = wc.map some) (hR : isR.map (fun i => ws[i]?) = wr.map some) (hn : va_nd isR = true) (hnC : va_nd isC = true) (hdis : ∀ i ∈ isR, i ∉ isC) (hlen : As.length = n) (hsz : ls.size = nL) (hst : st0 = As.reverse ++ rest) (hW : (rest.map fun v => v.category).sum ≤ 8) (hdg : decode cc pc = .ok (.invokestatic index, 3)) (hf : cells + mc ≤ R.cells ∧ slots + ms ≤ R.slots)
    (kk : ∀ (u : S) (H1 : Heap) (locs1 : List Loc), post u → va_P D vwCl (wr ++ w1 u) H1 → va_D A (wr ++ w1 u) → va_S A H0 H1 locs1 → W p l e R s m args below meth c H1 locs1 (cells + mc) (slots + ms) Q (F0 m (pc + 3) ls (rest))) : W p l e R s m args below meth c H locs cells slots Q (F0 m pc ls st0) := by
  have hPc := hP.sub (ws' := wc) isC (kk_fm hC)
  have hDc := hD.sub (ws' := wc) isC hnC hC
  exact kk_gov (va_runS X hM cw ⟨kk_blind, kk_start hK hPc hDc⟩ rfl hlen hsz hst (lv_room hW) hdg hf) hP hD hS hA isC isR hC hR hn hnC hdis kk
theorem kk_cIv {post : S → Prop} (X : CallFix p m c cc nL s args Ts own) (hK : kk_K D cI cZ s) (hP : va_P D vwCl ws H) (hD : va_D A ws) (hS : va_S A H0 H locs) (hA : ∀ q, H0.size ≤ q → A q) (isC isR : List Nat) (hM : kk_Mv l D cI cZ y wy rm (Value.ref b :: As) H.size wc post w1 mc ms) (cw : CallB R s args own index y bytes maxL none wy rm mc ms n ∧ y.name = "<init>" ∧ (Cond.instanceMethod y).before args s = true)
    (hC : isC.map (fun i => ws[i]?) = wc.map some) (hR : isR.map (fun i => ws[i]?) = wr.map some) (hn : va_nd isR = true) (hnC : va_nd isC = true) (hdis : ∀ i ∈ isR, i ∉ isC) (hlen : As.length = n) (hsz : ls.size = nL) (hst : st0 = As.reverse ++ .ref b :: rest) (hW : (rest.map fun v => v.category).sum ≤ 8) (hdg : decode cc pc = .ok (.invokespecial index, 3)) (hf : cells + mc ≤ R.cells ∧ slots + ms ≤ R.slots)
    (kk : ∀ (u : S) (H1 : Heap) (locs1 : List Loc), post u → va_P D vwCl (wr ++ w1 u) H1 → va_D A (wr ++ w1 u) → va_S A H0 H1 locs1 → W p l e R s m args below meth c H1 locs1 (cells + mc) (slots + ms) Q (F0 m (pc + 3) ls (rest))) : W p l e R s m args below meth c H locs cells slots Q (F0 m pc ls st0) := by
  have hPc := hP.sub (ws' := wc) isC (kk_fm hC)
  have hDc := hD.sub (ws' := wc) isC hnC hC
  exact kk_gov (va_runI X hM cw ⟨kk_blind, kk_start hK hPc hDc⟩ rfl hlen hsz hst (lv_room hW) hdg hf) hP hD hS hA isC isR hC hR hn hnC hdis kk
end KKC
end
section
section KKJ
variable {p : Program} {l : Launch} {e : Env} {R : Room} {s : State} {m : MethodId} {args : Array Value} {below : List Frame} {meth : Method} {c : Code} {H : Heap} {locs : List Loc} {cells slots : Nat} {Q : State → Prop}
/-- two ways that meet again with one number on the stack -/
theorem kk_jn {Cnd : Prop} (P : Nat) {pc : Nat} {ls : Array Slot} {rest st0 : List Value} [Decidable Cnd] {v1 v2 : Int32}
    (h : (Cnd → W p l e R s m args below meth c H locs cells slots Q (F0 m P ls (.int v1 :: rest))) → (¬ Cnd → W p l e R s m args below meth c H locs cells slots Q (F0 m P ls (.int v2 :: rest))) → W p l e R s m args below meth c H locs cells slots Q (F0 m pc ls st0))
    (k : W p l e R s m args below meth c H locs cells slots Q (F0 m P ls (.int (if Cnd then v1 else v2) :: rest))) : W p l e R s m args below meth c H locs cells slots Q (F0 m pc ls st0) :=
  h (fun z => by rw [if_pos z] at k; exact k) (fun z => by rw [if_neg z] at k; exact k)
end KKJ
theorem kk_oneI {D : va_G} {cI cZ cA : ClassId} {U : State} (h : va_K D vwCl ([(cI, .int), (cZ, .boolean)] ++ [(cA, .int)]) U) : cA = cI := by
  have h1 := (h.2 0 (cI, .int) rfl).2
  have h2 := (h.2 2 (cA, .int) rfl).2
  exact Option.some.inj (h2.symm.trans h1)
theorem kk_oneZ {D : va_G} {cI cZ cA : ClassId} {U : State} (h : va_K D vwCl ([(cI, .int), (cZ, .boolean)] ++ [(cA, .boolean)]) U) : cA = cZ := by
  have h1 := (h.2 1 (cZ, .boolean) rfl).2
  have h2 := (h.2 2 (cA, .boolean) rfl).2
  exact Option.some.inj (h2.symm.trans h1)
theorem kk_bm {x : Int} (h1 : -2147483648 ≤ x) (h2 : x < 2147483648) : x.bmod (2 ^ 32) = x := by
  rw [Int.bmod_def]
  split <;> omega
theorem kk_bl {x : Int} (h1 : -9223372036854775808 ≤ x) (h2 : x < 9223372036854775808) : x.bmod (2 ^ 64) = x := by
  rw [Int.bmod_def]
  split <;> omega
theorem kk_add {a b : Int32} (h1 : -2147483648 ≤ a.toInt + b.toInt) (h2 : a.toInt + b.toInt < 2147483648) : (a + b).toInt = a.toInt + b.toInt := by
  rw [Int32.toInt_add]; exact kk_bm h1 h2
theorem kk_sub {a b : Int32} (h1 : -2147483648 ≤ a.toInt - b.toInt) (h2 : a.toInt - b.toInt < 2147483648) : (a - b).toInt = a.toInt - b.toInt := by
  rw [Int32.toInt_sub]; exact kk_bm h1 h2
theorem kk_mul {a b : Int32} (h1 : -2147483648 ≤ a.toInt * b.toInt) (h2 : a.toInt * b.toInt < 2147483648) : (a * b).toInt = a.toInt * b.toInt := by
  rw [Int32.toInt_mul]; exact kk_bm h1 h2
theorem kk_lo (a : Int32) : -2147483648 ≤ a.toInt := by have := Int32.le_toInt a; omega
theorem kk_hi (a : Int32) : a.toInt < 2147483648 := by have := Int32.toInt_lt a; omega
theorem kk_inc {e n : Int32} (c : ¬ n ≤ e) : (e + 1).toInt = e.toInt + 1 := by
  rw [Int32.le_iff_toInt_le] at c
  have h2 := kk_hi n
  have h3 := kk_lo e
  exact kk_add (by rw [show (1 : Int32).toInt = 1 from rfl]; omega) (by rw [show (1 : Int32).toInt = 1 from rfl]; omega)
/-- a counter that goes up to n -/
def kk_I (fuel : Nat) (e n : Int32) : Prop := 0 ≤ e.toInt ∧ e.toInt ≤ n.toInt ∧ n.toInt < e.toInt + fuel
theorem kk_I0 {e n : Int32} : ¬ kk_I 0 e n := by
  intro h
  obtain ⟨h1, h2, h3⟩ := h
  omega
theorem kk_Iup {fuel : Nat} {e n : Int32} (h : kk_I (fuel + 1) e n) (c : ¬ n ≤ e) : kk_I fuel (e + 1) n := by
  have h4 := kk_inc c
  obtain ⟨h1, h2, h3⟩ := h
  rw [Int32.le_iff_toInt_le] at c
  unfold kk_I
  rw [h4]
  omega
theorem kk_Iix {fuel : Nat} {e n : Int32} {N : Nat} (h : kk_I fuel e n) (c : ¬ n ≤ e) (hn : n.toInt ≤ N) : vp_in e N := by
  obtain ⟨h1, h2, h3⟩ := h
  rw [Int32.le_iff_toInt_le] at c
  exact vp_in_iff.mpr ⟨h1, by omega⟩
theorem kk_Ist {n : Int32} (fuel : Nat) (h0 : 0 ≤ n.toInt) (h : n.toInt < fuel) : kk_I fuel 0 n := ⟨Int.le_refl _, h0, by rw [Int32.toInt_zero]; omega⟩
/-- a counter that goes down to 0 -/
def kk_J (fuel : Nat) (e : Int32) : Prop := 0 ≤ e.toInt ∧ e.toInt ≤ 15 ∧ e.toInt < fuel
theorem kk_J0 {e : Int32} : ¬ kk_J 0 e := by
  intro h
  obtain ⟨h1, h2, h3⟩ := h
  omega
theorem kk_Jdn {fuel : Nat} {e : Int32} (h : kk_J (fuel + 1) e) (c : ¬ e ≤ 0) : kk_J fuel (e + (-1)) := by
  obtain ⟨h1, h2, h3⟩ := h
  rw [Int32.le_iff_toInt_le, Int32.toInt_zero] at c
  have h4 : (e + (-1)).toInt = e.toInt + (-1) := kk_add (by rw [show (-1 : Int32).toInt = -1 from rfl]; omega) (by rw [show (-1 : Int32).toInt = -1 from rfl]; omega)
  unfold kk_J
  rw [h4]
  omega
theorem kk_Jix {fuel : Nat} {e : Int32} (h : kk_J fuel e) : vp_in e 16 := by
  obtain ⟨h1, h2, h3⟩ := h
  exact vp_in_iff.mpr ⟨h1, by omega⟩
theorem kk_Jix1 {fuel : Nat} {e : Int32} (h : kk_J fuel e) (c : ¬ e ≤ 0) : vp_in (e - 1) 16 := by
  obtain ⟨h1, h2, h3⟩ := h
  rw [Int32.le_iff_toInt_le, Int32.toInt_zero] at c
  have h4 : (e - 1).toInt = e.toInt - 1 := kk_sub (by rw [show (1 : Int32).toInt = 1 from rfl]; omega) (by rw [show (1 : Int32).toInt = 1 from rfl]; omega)
  exact vp_in_iff.mpr ⟨by omega, by omega⟩
/-- 0 ≤ a ≤ b -/
def kk_L (a : Int32) (b : Int) : Prop := 0 ≤ a.toInt ∧ a.toInt ≤ b
theorem kk_Lix {a : Int32} {N : Nat} (h : kk_L a ((N : Int) - 1)) : vp_in a N := vp_in_iff.mpr ⟨h.1, by have := h.2; omega⟩
theorem kk_Lix' {a : Int32} {b : Int} {N : Nat} (h : kk_L a b) (hb : b < N) : vp_in a N := vp_in_iff.mpr ⟨h.1, by have := h.2; omega⟩
theorem kk_L3 {a k : Int32} {b j : Int} (h : kk_L a b) (hb : b ≤ 1000) (hk : k.toInt = j) (hj : 0 ≤ j) (hj2 : j ≤ 1000) : kk_L (a * 3 + k) (3 * b + j) := by
  obtain ⟨h1, h2⟩ := h
  have e1 : (a * 3).toInt = a.toInt * 3 := kk_mul (by rw [show (3 : Int32).toInt = 3 from rfl]; omega) (by rw [show (3 : Int32).toInt = 3 from rfl]; omega)
  have e2 : (a * 3 + k).toInt = a.toInt * 3 + j := by rw [kk_add (by rw [e1]; omega) (by rw [e1]; omega), e1, hk]
  exact ⟨by omega, by omega⟩
theorem kk_M3 {a k : Int32} {b j : Int} (h : kk_L a b) (hb : b ≤ 1000) (hk : k.toInt = j) (hj : 0 ≤ j) (hj2 : j ≤ 1000) : kk_L (k + 3 * a) (3 * b + j) := by
  obtain ⟨h1, h2⟩ := h
  have e1 : (3 * a).toInt = 3 * a.toInt := kk_mul (by rw [show (3 : Int32).toInt = 3 from rfl]; omega) (by rw [show (3 : Int32).toInt = 3 from rfl]; omega)
  have e2 : (k + 3 * a).toInt = j + 3 * a.toInt := by rw [kk_add (by rw [e1]; omega) (by rw [e1]; omega), e1, hk]
  exact ⟨by omega, by omega⟩
theorem kk_M30 {a : Int32} {b : Int} (h : kk_L a b) (hb : b ≤ 1000) : kk_L (3 * a) (3 * b) := by
  obtain ⟨h1, h2⟩ := h
  have e1 : (3 * a).toInt = 3 * a.toInt := kk_mul (by rw [show (3 : Int32).toInt = 3 from rfl]; omega) (by rw [show (3 : Int32).toInt = 3 from rfl]; omega)
  exact ⟨by omega, by omega⟩
theorem kk_Lad {a k : Int32} {b j : Int} (h : kk_L a b) (hb : b ≤ 10000) (hk : k.toInt = j) (hj : 0 ≤ j) (hj2 : j ≤ 1000) : kk_L (a + k) (b + j) := by
  obtain ⟨h1, h2⟩ := h
  have e2 : (a + k).toInt = a.toInt + j := by rw [kk_add (by rw [hk]; omega) (by rw [hk]; omega), hk]
  exact ⟨by omega, by omega⟩
theorem kk_Lda {a k : Int32} {b j : Int} (h : kk_L a b) (hb : b ≤ 10000) (hk : k.toInt = j) (hj : 0 ≤ j) (hj2 : j ≤ 1000) : kk_L (k + a) (j + b) := by
  obtain ⟨h1, h2⟩ := h
  have e2 : (k + a).toInt = j + a.toInt := by rw [kk_add (by rw [hk]; omega) (by rw [hk]; omega), hk]
  exact ⟨by omega, by omega⟩
end
section
def f_J9_floorDiv_7cf53 (x : Int32) (y : Int32) : Int32 := (if (0 : Int32) ≤ (x ^^^ y) then (x / y) else (if ((x / y) * y) = x then (x / y) else ((x / y) - (1 : Int32))))
set_option maxHeartbeats 4000000 in
set_option maxRecDepth 100000 in
theorem k_J9_floorDiv_7cf53 (l : Launch) (D : va_G) (cI cZ : ClassId)  (sz : Nat)  (x : Int32) (y : Int32) (hy : ¬ y = 0) : kk_Mi l D cI cZ yJ9_floorDiv_7cf53 wsJ9_floorDiv_7cf53 ({ frames := 0, cells := 0, slots := 0, locals := 0 } : Room) [.int x, .int y] sz [] (fun (r : Int32) (_ : Unit) => r = f_J9_floorDiv_7cf53 x y) (fun _ => []) 0 0 := by
  refine kk_enti (cc := cJ9_floorDiv_7cf53) (maxL := 3) (ret := (some .int)) (by decide +kernel) rfl (Nat.le_of_ble_eq_true rfl) (fun p e s m args below meth c A ls hX hP hD hS hl => ?_)
  obtain ⟨hx, hb, hml, hown, hts, hr, hlk, hnm, hK, hA⟩ := hX
  have hown : s.vm.findClass RJ9 = some m.cls := hown
  have hl : lv_has ls 3 [(0, .int x), (1, .int y)] := hl
  refine lv_iload_n hx hb dJ9_floorDiv_7cf53_0 rfl (lv_at hl 0 rfl) ?_
  refine lv_iload_n hx hb dJ9_floorDiv_7cf53_1 rfl (lv_at hl 1 rfl) ?_
  refine lv_idiv hx hb dJ9_floorDiv_7cf53_2 hy ?_
  refine lv_istore_n (lv' := [(2, .int (x / y)), (0, .int x), (1, .int y)]) hx hb dJ9_floorDiv_7cf53_3 rfl hl (by decide) rfl (fun ls hl => ?_)
  refine lv_iload_n hx hb dJ9_floorDiv_7cf53_4 rfl (lv_at hl 1 rfl) ?_
  refine lv_iload_n hx hb dJ9_floorDiv_7cf53_5 rfl (lv_at hl 2 rfl) ?_
  refine lv_ixor hx hb dJ9_floorDiv_7cf53_6 ?_
  refine lv_if_ge (tgt := 21) hx hb dJ9_floorDiv_7cf53_7 (by decide) (fun c_1 => ?_) (fun c_1 => ?_)
  · refine lv_iload_n hx hb dJ9_floorDiv_7cf53_21 rfl (lv_at hl 0 rfl) ?_
    exact kk_ri () hx hb hr hlk dJ9_floorDiv_7cf53_22 hS (hP.sub [] rfl) (hD.sub [] (by decide) rfl) (by show (x / y) = f_J9_floorDiv_7cf53 x y; unfold f_J9_floorDiv_7cf53; rw [if_pos c_1]; try rfl)
  · refine lv_iload_n hx hb dJ9_floorDiv_7cf53_10 rfl (lv_at hl 0 rfl) ?_
    refine lv_iload_n hx hb dJ9_floorDiv_7cf53_11 rfl (lv_at hl 2 rfl) ?_
    refine lv_imul hx hb dJ9_floorDiv_7cf53_12 ?_
    refine lv_iload_n hx hb dJ9_floorDiv_7cf53_13 rfl (lv_at hl 1 rfl) ?_
    refine lv_icmp_eq (tgt := 21) hx hb dJ9_floorDiv_7cf53_14 (by decide) (fun c_2 => ?_) (fun c_2 => ?_)
    · refine lv_iload_n hx hb dJ9_floorDiv_7cf53_21 rfl (lv_at hl 0 rfl) ?_
      exact kk_ri () hx hb hr hlk dJ9_floorDiv_7cf53_22 hS (hP.sub [] rfl) (hD.sub [] (by decide) rfl) (by show (x / y) = f_J9_floorDiv_7cf53 x y; unfold f_J9_floorDiv_7cf53; rw [if_neg c_1]; rw [if_pos c_2]; try rfl)
    · refine lv_iload_n hx hb dJ9_floorDiv_7cf53_17 rfl (lv_at hl 0 rfl) ?_
      refine lv_iconst (v := 1) hx hb dJ9_floorDiv_7cf53_18 (by decide) ?_
      refine lv_isub hx hb dJ9_floorDiv_7cf53_19 ?_
      exact kk_ri () hx hb hr hlk dJ9_floorDiv_7cf53_20 hS (hP.sub [] rfl) (hD.sub [] (by decide) rfl) (by show ((x / y) - (1 : Int32)) = f_J9_floorDiv_7cf53 x y; unfold f_J9_floorDiv_7cf53; rw [if_neg c_1]; rw [if_neg c_2]; try rfl)
def f_X5_isWithin (v : Int32) (lo : Int32) (hi : Int32) : Int32 := (if v < lo then (0 : Int32) else (if hi < v then (0 : Int32) else (1 : Int32)))
set_option maxHeartbeats 4000000 in
set_option maxRecDepth 100000 in
theorem k_X5_isWithin (l : Launch) (D : va_G) (cI cZ : ClassId)  (sz : Nat)  (v : Int32) (lo : Int32) (hi : Int32)  : kk_Mi l D cI cZ yX5_isWithin wsX5_isWithin ({ frames := 0, cells := 0, slots := 0, locals := 0 } : Room) [.int v, .int lo, .int hi] sz [] (fun (r : Int32) (_ : Unit) => r = f_X5_isWithin v lo hi) (fun _ => []) 0 0 := by
  refine kk_enti (cc := cX5_isWithin) (maxL := 3) (ret := (some .boolean)) (by decide +kernel) rfl (Nat.le_of_ble_eq_true rfl) (fun p e s m args below meth c A ls hX hP hD hS hl => ?_)
  obtain ⟨hx, hb, hml, hown, hts, hr, hlk, hnm, hK, hA⟩ := hX
  have hown : s.vm.findClass RX5 = some m.cls := hown
  have hl : lv_has ls 3 [(0, .int v), (1, .int lo), (2, .int hi)] := hl
  refine lv_iload_n hx hb dX5_isWithin_0 rfl (lv_at hl 0 rfl) ?_
  refine lv_iload_n hx hb dX5_isWithin_1 rfl (lv_at hl 1 rfl) ?_
  refine lv_icmp_lt (tgt := 14) hx hb dX5_isWithin_2 (by decide) (fun c_1 => ?_) (fun c_1 => ?_)
  · refine lv_iconst (v := 0) hx hb dX5_isWithin_14 (by decide) ?_
    exact kk_rz () hx hb hr hlk dX5_isWithin_15 hS (hP.sub [] rfl) (hD.sub [] (by decide) rfl) rfl (by show (0 : Int32) = f_X5_isWithin v lo hi; unfold f_X5_isWithin; rw [if_pos c_1]; try rfl)
  · refine lv_iload_n hx hb dX5_isWithin_5 rfl (lv_at hl 0 rfl) ?_
    refine lv_iload_n hx hb dX5_isWithin_6 rfl (lv_at hl 2 rfl) ?_
    refine lv_icmp_gt (tgt := 14) hx hb dX5_isWithin_7 (by decide) (fun c_2 => ?_) (fun c_2 => ?_)
    · refine lv_iconst (v := 0) hx hb dX5_isWithin_14 (by decide) ?_
      exact kk_rz () hx hb hr hlk dX5_isWithin_15 hS (hP.sub [] rfl) (hD.sub [] (by decide) rfl) rfl (by show (0 : Int32) = f_X5_isWithin v lo hi; unfold f_X5_isWithin; rw [if_neg c_1]; rw [if_pos c_2]; try rfl)
    · refine lv_iconst (v := 1) hx hb dX5_isWithin_10 (by decide) ?_
      refine lv_goto (tgt := 15) hx hb dX5_isWithin_11 (by decide) ?_
      exact kk_rz () hx hb hr hlk dX5_isWithin_15 hS (hP.sub [] rfl) (hD.sub [] (by decide) rfl) rfl (by show (1 : Int32) = f_X5_isWithin v lo hi; unfold f_X5_isWithin; rw [if_neg c_1]; rw [if_neg c_2]; try rfl)
theorem kk_within {v lo hi : Int32} (h : ¬ f_X5_isWithin v lo hi = 0) : lo ≤ v ∧ v ≤ hi := by
  unfold f_X5_isWithin at h
  split at h
  · exact absurd rfl h
  · split at h
    · exact absurd rfl h
    · rename_i h1 h2
      exact ⟨Int32.not_lt.mp h1, Int32.not_lt.mp h2⟩
theorem kk_withinL {v lo hi : Int32} {b : Int} (h : ¬ f_X5_isWithin v lo hi = 0) (hlo : lo.toInt = 0) (hhi : hi.toInt ≤ b) : kk_L v b := by
  obtain ⟨h1, h2⟩ := kk_within h
  rw [Int32.le_iff_toInt_le] at h1 h2
  exact ⟨by omega, by omega⟩
theorem kk_IL {fuel : Nat} {e n : Int32} {b : Int} (h : kk_I fuel e n) (c : ¬ n ≤ e) (hn : n.toInt ≤ b + 1) : kk_L e b := by
  obtain ⟨h1, h2, h3⟩ := h
  rw [Int32.le_iff_toInt_le] at c
  exact ⟨h1, by omega⟩
theorem kk_lt8 {a : Int32} (h : kk_L a 8) (c : ¬ (8 : Int32) ≤ a) : kk_L a 7 := by
  obtain ⟨h1, h2⟩ := h
  rw [Int32.le_iff_toInt_le, show (8 : Int32).toInt = 8 from rfl] at c
  exact ⟨h1, by omega⟩
theorem kk_L3v {a k : Int32} {b j : Int} (h : kk_L a b) (hb : b ≤ 1000) (hk : kk_L k j) (hj2 : j ≤ 1000) : kk_L (a * 3 + k) (3 * b + j) := by
  obtain ⟨h1, h2⟩ := h
  obtain ⟨k1, k2⟩ := hk
  have e1 : (a * 3).toInt = a.toInt * 3 := kk_mul (by rw [show (3 : Int32).toInt = 3 from rfl]; omega) (by rw [show (3 : Int32).toInt = 3 from rfl]; omega)
  have e2 : (a * 3 + k).toInt = a.toInt * 3 + k.toInt := by rw [kk_add (by rw [e1]; omega) (by rw [e1]; omega), e1]
  exact ⟨by omega, by omega⟩
theorem kk_dec {a : Int32} {b : Int} (h : kk_L a b) : (a - 1).toInt = a.toInt - 1 := by
  have h2 := kk_hi a
  exact kk_sub (by rw [show (1 : Int32).toInt = 1 from rfl]; have := h.1; omega) (by rw [show (1 : Int32).toInt = 1 from rfl]; omega)
end
section
def f_X0_isFull (cn : Int32) : Int32 := (if cn < (8 : Int32) then (0 : Int32) else (1 : Int32))
set_option maxHeartbeats 4000000 in
set_option maxRecDepth 100000 in
theorem k_X0_isFull (l : Launch) (D : va_G) (cI cZ : ClassId) (q0 : Nat) (q1 : Nat) (q2 : Nat) (sz : Nat) (cn : Int32)   : kk_Mi l D cI cZ yX0_isFull wsX0_isFull ({ frames := 0, cells := 0, slots := 0, locals := 0 } : Room) [.ref q0] sz [(q0, .inr (0, [.ref q1, .ref q2, .int cn]))] (fun (r : Int32) (_ : Unit) => r = f_X0_isFull cn) (fun _ => [(q0, .inr (0, [.ref q1, .ref q2, .int cn]))]) 0 0 := by
  refine kk_enti (cc := cX0_isFull) (maxL := 1) (ret := (some .boolean)) (by decide +kernel) rfl (Nat.le_of_ble_eq_true rfl) (fun p e s m args below meth c A ls hX hP hD hS hl => ?_)
  obtain ⟨hx, hb, hml, hown, hts, hr, hlk, hnm, hK, hA⟩ := hX
  have hown : s.vm.findClass RX0 = some m.cls := hown
  have hiX0 : ∀ w ∈ wsX00, w ∈ wsX0_isFull := by decide +kernel
  have hl : lv_has ls 1 [(0, .ref q0)] := hl
  refine lv_aload_n hx hb dX0_isFull_0 rfl (lv_at hl 0 rfl) ?_
  refine va_get (D := D) hx hb hts hiX0 hown hK.1 hP 0 rfl rfl 2 (by decide) (hts (.fieldLink RX0 18 "FencePilot$Corners" "count" "I") (by decide +kernel)) (fun _ h9 => h9) rfl dX0_isFull_1 ?_
  refine lv_bipush (v := 8) hx hb dX0_isFull_4 (by decide) ?_
  refine lv_icmp_lt (tgt := 13) hx hb dX0_isFull_6 (by decide) (fun c_1 => ?_) (fun c_1 => ?_)
  · refine lv_iconst (v := 0) hx hb dX0_isFull_13 (by decide) ?_
    exact kk_rz () hx hb hr hlk dX0_isFull_14 hS (hP.sub [0] rfl) (hD.sub [0] (by decide) rfl) rfl (by show (0 : Int32) = f_X0_isFull cn; unfold f_X0_isFull; rw [if_pos c_1]; try rfl)
  · refine lv_iconst (v := 1) hx hb dX0_isFull_9 (by decide) ?_
    refine lv_goto (tgt := 14) hx hb dX0_isFull_10 (by decide) ?_
    exact kk_rz () hx hb hr hlk dX0_isFull_14 hS (hP.sub [0] rfl) (hD.sub [0] (by decide) rfl) rfl (by show (1 : Int32) = f_X0_isFull cn; unfold f_X0_isFull; rw [if_neg c_1]; try rfl)
theorem kk_notFull {cn : Int32} (h : f_X0_isFull cn = 0) (hc : kk_L cn 8) : kk_L cn 7 := by
  unfold f_X0_isFull at h
  split at h
  · rename_i h1
    obtain ⟨a, b⟩ := hc
    rw [Int32.lt_iff_toInt_lt, show (8 : Int32).toInt = 8 from rfl] at h1
    exact ⟨a, by omega⟩
  · exact absurd h (by decide)
def f_X0_areEnough (cn : Int32) : Int32 := (if cn < (3 : Int32) then (0 : Int32) else (1 : Int32))
set_option maxHeartbeats 4000000 in
set_option maxRecDepth 100000 in
theorem k_X0_areEnough (l : Launch) (D : va_G) (cI cZ : ClassId) (q0 : Nat) (q1 : Nat) (q2 : Nat) (sz : Nat) (cn : Int32)   : kk_Mi l D cI cZ yX0_areEnough wsX0_areEnough ({ frames := 0, cells := 0, slots := 0, locals := 0 } : Room) [.ref q0] sz [(q0, .inr (0, [.ref q1, .ref q2, .int cn]))] (fun (r : Int32) (_ : Unit) => r = f_X0_areEnough cn) (fun _ => [(q0, .inr (0, [.ref q1, .ref q2, .int cn]))]) 0 0 := by
  refine kk_enti (cc := cX0_areEnough) (maxL := 1) (ret := (some .boolean)) (by decide +kernel) rfl (Nat.le_of_ble_eq_true rfl) (fun p e s m args below meth c A ls hX hP hD hS hl => ?_)
  obtain ⟨hx, hb, hml, hown, hts, hr, hlk, hnm, hK, hA⟩ := hX
  have hown : s.vm.findClass RX0 = some m.cls := hown
  have hiX0 : ∀ w ∈ wsX00, w ∈ wsX0_areEnough := by decide +kernel
  have hl : lv_has ls 1 [(0, .ref q0)] := hl
  refine lv_aload_n hx hb dX0_areEnough_0 rfl (lv_at hl 0 rfl) ?_
  refine va_get (D := D) hx hb hts hiX0 hown hK.1 hP 0 rfl rfl 2 (by decide) (hts (.fieldLink RX0 18 "FencePilot$Corners" "count" "I") (by decide +kernel)) (fun _ h9 => h9) rfl dX0_areEnough_1 ?_
  refine lv_iconst (v := 3) hx hb dX0_areEnough_4 (by decide) ?_
  refine lv_icmp_lt (tgt := 12) hx hb dX0_areEnough_5 (by decide) (fun c_1 => ?_) (fun c_1 => ?_)
  · refine lv_iconst (v := 0) hx hb dX0_areEnough_12 (by decide) ?_
    exact kk_rz () hx hb hr hlk dX0_areEnough_13 hS (hP.sub [0] rfl) (hD.sub [0] (by decide) rfl) rfl (by show (0 : Int32) = f_X0_areEnough cn; unfold f_X0_areEnough; rw [if_pos c_1]; try rfl)
  · refine lv_iconst (v := 1) hx hb dX0_areEnough_8 (by decide) ?_
    refine lv_goto (tgt := 13) hx hb dX0_areEnough_9 (by decide) ?_
    exact kk_rz () hx hb hr hlk dX0_areEnough_13 hS (hP.sub [0] rfl) (hD.sub [0] (by decide) rfl) rfl (by show (1 : Int32) = f_X0_areEnough cn; unfold f_X0_areEnough; rw [if_neg c_1]; try rfl)
def f_X0_add (cn : Int32) (fx : Nat → Int32) (fy : Nat → Int32) (x : Int32) (y : Int32) : (Nat → Int32) × (Nat → Int32) × Int32 := (if (f_X0_isFull cn) = (0 : Int32) then ((upd fx cn.toNatClampNeg x), (upd fy cn.toNatClampNeg y), (cn + (1 : Int32))) else (fx, fy, cn))
set_option maxHeartbeats 4000000 in
set_option maxRecDepth 100000 in
theorem k_X0_add (l : Launch) (D : va_G) (cI cZ : ClassId) (q0 : Nat) (q1 : Nat) (q2 : Nat) (sz : Nat) (cn : Int32) (fx : Nat → Int32) (fy : Nat → Int32) (x : Int32) (y : Int32) (hcn : kk_L cn 8) : kk_Mv l D cI cZ yX0_add wsX0_add ({ frames := 1, cells := 0, slots := 0, locals := 20 } : Room) [.ref q0, .int x, .int y] sz [(q0, .inr (0, [.ref q1, .ref q2, .int cn])), (q1, .inl (cI, 8, .inl fx)), (q2, .inl (cI, 8, .inl fy))] (fun (u : (Nat → Int32) × (Nat → Int32) × Int32) => u = f_X0_add cn fx fy x y) (fun u => [(q0, .inr (0, [.ref q1, .ref q2, .int u.2.2])), (q1, .inl (cI, 8, .inl u.1)), (q2, .inl (cI, 8, .inl u.2.1))]) 0 0 := by
  refine kk_entv (cc := cX0_add) (maxL := 3) (ret := none) (by decide +kernel) rfl (Nat.le_of_ble_eq_true rfl) (fun p e s m args below meth c A ls hX hP hD hS hl => ?_)
  obtain ⟨hx, hb, hml, hown, hts, hr, hlk, hnm, hK, hA⟩ := hX
  have hown : s.vm.findClass RX0 = some m.cls := hown
  have hiX0 : ∀ w ∈ wsX00, w ∈ wsX0_add := by decide +kernel
  have hl : lv_has ls 3 [(0, .ref q0), (1, .int x), (2, .int y)] := hl
  refine lv_aload_n hx hb dX0_add_0 rfl (lv_at hl 0 rfl) ?_
  refine kk_cVi (wc := [(q0, .inr (0, [.ref q1, .ref q2, .int cn]))]) (wr := [(q1, .inl (cI, 8, .inl fx)), (q2, .inl (cI, 8, .inl fy))]) ⟨hx, hb, hml, hown, hts⟩ hK hP hD hS hA [0] [1, 2] (k_X0_isFull l D cI cZ q0 q1 q2 s.heap.size cn) (cwV 0 hts gX0_add_X0_isFull rfl rfl rfl (by decide +kernel) ⟨(Nat.le_of_ble_eq_true rfl), (Nat.le_of_ble_eq_true rfl)⟩) rfl rfl (by decide) (by decide) (by decide) 0 0 rfl rfl rfl rfl hl.1 rfl (Nat.le_of_ble_eq_true rfl) dX0_add_1 ⟨(Nat.le_of_ble_eq_true rfl), (Nat.le_of_ble_eq_true rfl)⟩ (fun r_1 u H locs hw_2 hP hD hS => ?_)
  have hw_2 : r_1 = (f_X0_isFull cn) := hw_2
  subst hw_2
  have hP : va_P D vwCl [(q1, .inl (cI, 8, .inl fx)), (q2, .inl (cI, 8, .inl fy)), (q0, .inr (0, [.ref q1, .ref q2, .int cn]))] H := hP
  have hD : va_D A [(q1, .inl (cI, 8, .inl fx)), (q2, .inl (cI, 8, .inl fy)), (q0, .inr (0, [.ref q1, .ref q2, .int cn]))] := hD
  refine lv_if_ne (tgt := 37) hx hb dX0_add_4 (by decide) (fun c_3 => ?_) (fun c_3 => ?_)
  · exact kk_rv (fx, fy, cn) hx hb hr hlk dX0_add_37 hS (hP.sub [2, 0, 1] rfl) (hD.sub [2, 0, 1] (by decide) rfl) (by show (fx, fy, cn) = f_X0_add cn fx fy x y; unfold f_X0_add; rw [if_neg c_3]; try rfl)
  · refine lv_aload_n hx hb dX0_add_7 rfl (lv_at hl 0 rfl) ?_
    refine va_get (D := D) hx hb hts hiX0 hown hK.1 hP 2 rfl rfl 0 (by decide) (hts (.fieldLink RX0 9 "FencePilot$Corners" "xs" "[I") (by decide +kernel)) (fun _ h9 => h9) rfl dX0_add_8 ?_
    refine lv_aload_n hx hb dX0_add_11 rfl (lv_at hl 0 rfl) ?_
    refine va_get (D := D) hx hb hts hiX0 hown hK.1 hP 2 rfl rfl 2 (by decide) (hts (.fieldLink RX0 18 "FencePilot$Corners" "count" "I") (by decide +kernel)) (fun _ h9 => h9) rfl dX0_add_12 ?_
    refine lv_iload_n hx hb dX0_add_15 rfl (lv_at hl 1 rfl) ?_
    refine va_iast hx hb hK.1 hP hD hS 0 0 rfl rfl (kk_Lix (kk_notFull c_3 hcn)) dX0_add_16 (fun H locs hP hD hS => ?_)
    have hP : va_P D vwCl [(q1, .inl (cI, 8, .inl (upd fx cn.toNatClampNeg x))), (q2, .inl (cI, 8, .inl fy)), (q0, .inr (0, [.ref q1, .ref q2, .int cn]))] H := hP
    have hD : va_D A [(q1, .inl (cI, 8, .inl (upd fx cn.toNatClampNeg x))), (q2, .inl (cI, 8, .inl fy)), (q0, .inr (0, [.ref q1, .ref q2, .int cn]))] := hD
    refine lv_aload_n hx hb dX0_add_17 rfl (lv_at hl 0 rfl) ?_
    refine va_get (D := D) hx hb hts hiX0 hown hK.1 hP 2 rfl rfl 1 (by decide) (hts (.fieldLink RX0 15 "FencePilot$Corners" "ys" "[I") (by decide +kernel)) (fun _ h9 => h9) rfl dX0_add_18 ?_
    refine lv_aload_n hx hb dX0_add_21 rfl (lv_at hl 0 rfl) ?_
    refine va_get (D := D) hx hb hts hiX0 hown hK.1 hP 2 rfl rfl 2 (by decide) (hts (.fieldLink RX0 18 "FencePilot$Corners" "count" "I") (by decide +kernel)) (fun _ h9 => h9) rfl dX0_add_22 ?_
    refine lv_iload_n hx hb dX0_add_25 rfl (lv_at hl 2 rfl) ?_
    refine va_iast hx hb hK.1 hP hD hS 1 0 rfl rfl (kk_Lix (kk_notFull c_3 hcn)) dX0_add_26 (fun H locs hP hD hS => ?_)
    have hP : va_P D vwCl [(q1, .inl (cI, 8, .inl (upd fx cn.toNatClampNeg x))), (q2, .inl (cI, 8, .inl (upd fy cn.toNatClampNeg y))), (q0, .inr (0, [.ref q1, .ref q2, .int cn]))] H := hP
    have hD : va_D A [(q1, .inl (cI, 8, .inl (upd fx cn.toNatClampNeg x))), (q2, .inl (cI, 8, .inl (upd fy cn.toNatClampNeg y))), (q0, .inr (0, [.ref q1, .ref q2, .int cn]))] := hD
    refine lv_aload_n hx hb dX0_add_27 rfl (lv_at hl 0 rfl) ?_
    refine lv_dup hx hb dX0_add_28 rfl ?_
    refine va_get (D := D) hx hb hts hiX0 hown hK.1 hP 2 rfl rfl 2 (by decide) (hts (.fieldLink RX0 18 "FencePilot$Corners" "count" "I") (by decide +kernel)) (fun _ h9 => h9) rfl dX0_add_29 ?_
    refine lv_iconst (v := 1) hx hb dX0_add_32 (by decide) ?_
    refine lv_iadd hx hb dX0_add_33 ?_
    refine va_put (D := D) (ci := 0) (v := .int (cn + (1 : Int32))) (ty := .int) (C := RX0) (T := TX0) (N := 3) hx hb hts hiX0 tyX0 tyX0_ok nmX0 hown hK.1 hP hD hS 2 rfl rfl 2 (by decide) (hts (.fieldLink RX0 18 "FencePilot$Corners" "count" "I") (by decide +kernel)) (fun _ h9 => h9) rfl (by decide +kernel) rfl rfl (Nat.le_of_ble_eq_true rfl) dX0_add_34 (fun H locs hP hD hS => ?_)
    have hP : va_P D vwCl [(q1, .inl (cI, 8, .inl (upd fx cn.toNatClampNeg x))), (q2, .inl (cI, 8, .inl (upd fy cn.toNatClampNeg y))), (q0, .inr (0, [.ref q1, .ref q2, .int (cn + (1 : Int32))]))] H := hP
    have hD : va_D A [(q1, .inl (cI, 8, .inl (upd fx cn.toNatClampNeg x))), (q2, .inl (cI, 8, .inl (upd fy cn.toNatClampNeg y))), (q0, .inr (0, [.ref q1, .ref q2, .int (cn + (1 : Int32))]))] := hD
    exact kk_rv ((upd fx cn.toNatClampNeg x), (upd fy cn.toNatClampNeg y), (cn + (1 : Int32))) hx hb hr hlk dX0_add_37 hS (hP.sub [2, 0, 1] rfl) (hD.sub [2, 0, 1] (by decide) rfl) (by show ((upd fx cn.toNatClampNeg x), (upd fy cn.toNatClampNeg y), (cn + (1 : Int32))) = f_X0_add cn fx fy x y; unfold f_X0_add; rw [if_pos c_3]; try rfl)
def f_X0_clear (cn : Int32) : Int32 := (0 : Int32)
set_option maxHeartbeats 4000000 in
set_option maxRecDepth 100000 in
theorem k_X0_clear (l : Launch) (D : va_G) (cI cZ : ClassId) (q0 : Nat) (q1 : Nat) (q2 : Nat) (sz : Nat) (cn : Int32)   : kk_Mv l D cI cZ yX0_clear wsX0_clear ({ frames := 0, cells := 0, slots := 0, locals := 0 } : Room) [.ref q0] sz [(q0, .inr (0, [.ref q1, .ref q2, .int cn]))] (fun (u : Int32) => u = f_X0_clear cn) (fun u => [(q0, .inr (0, [.ref q1, .ref q2, .int u]))]) 0 0 := by
  refine kk_entv (cc := cX0_clear) (maxL := 1) (ret := none) (by decide +kernel) rfl (Nat.le_of_ble_eq_true rfl) (fun p e s m args below meth c A ls hX hP hD hS hl => ?_)
  obtain ⟨hx, hb, hml, hown, hts, hr, hlk, hnm, hK, hA⟩ := hX
  have hown : s.vm.findClass RX0 = some m.cls := hown
  have hiX0 : ∀ w ∈ wsX00, w ∈ wsX0_clear := by decide +kernel
  have hl : lv_has ls 1 [(0, .ref q0)] := hl
  refine lv_aload_n hx hb dX0_clear_0 rfl (lv_at hl 0 rfl) ?_
  refine lv_iconst (v := 0) hx hb dX0_clear_1 (by decide) ?_
  refine va_put (D := D) (ci := 0) (v := .int (0 : Int32)) (ty := .int) (C := RX0) (T := TX0) (N := 3) hx hb hts hiX0 tyX0 tyX0_ok nmX0 hown hK.1 hP hD hS 0 rfl rfl 2 (by decide) (hts (.fieldLink RX0 18 "FencePilot$Corners" "count" "I") (by decide +kernel)) (fun _ h9 => h9) rfl (by decide +kernel) rfl rfl (Nat.le_of_ble_eq_true rfl) dX0_clear_2 (fun H locs hP hD hS => ?_)
  have hP : va_P D vwCl [(q0, .inr (0, [.ref q1, .ref q2, .int (0 : Int32)]))] H := hP
  have hD : va_D A [(q0, .inr (0, [.ref q1, .ref q2, .int (0 : Int32)]))] := hD
  exact kk_rv (0 : Int32) hx hb hr hlk dX0_clear_5 hS (hP.sub [0] rfl) (hD.sub [0] (by decide) rfl) (by show (0 : Int32) = f_X0_clear cn; unfold f_X0_clear; rfl)
def g_X0_copyFrom_lp (cn : Int32) (fx : Nat → Int32) (fy : Nat → Int32) (gn : Int32) (gx : Nat → Int32) (gy : Nat → Int32) : Nat → Int32 → (Nat → Int32) → (Nat → Int32) → (Nat → Int32) × (Nat → Int32) × Int32
  | 0, _, _, _ => ((fun _ => 0), (fun _ => 0), 0)
  | fuel + 1, ix, hx2, hy2 => (if gn ≤ ix then (hx2, hy2, gn) else (g_X0_copyFrom_lp cn fx fy gn gx gy fuel (ix + 1) (upd hx2 ix.toNatClampNeg (gx ix.toNatClampNeg)) (upd hy2 ix.toNatClampNeg (gy ix.toNatClampNeg))))
def f_X0_copyFrom (cn : Int32) (fx : Nat → Int32) (fy : Nat → Int32) (gn : Int32) (gx : Nat → Int32) (gy : Nat → Int32) : (Nat → Int32) × (Nat → Int32) × Int32 := (g_X0_copyFrom_lp cn fx fy gn gx gy 9 (0 : Int32) fx fy)
set_option maxHeartbeats 4000000 in
set_option maxRecDepth 100000 in
theorem lp_X0_copyFrom_lp (l : Launch) (D : va_G) (cI cZ : ClassId) (q0 : Nat) (q1 : Nat) (q2 : Nat) (r0 : Nat) (r1 : Nat) (r2 : Nat) (cn : Int32) (fx : Nat → Int32) (fy : Nat → Int32) (gn : Int32) (gx : Nat → Int32) (gy : Nat → Int32) (hgn : kk_L gn 8)  {p : Program} {e : Env} {s : State} {m : MethodId} {args : Array Value} {below : List Frame} {meth : Method} {c : Code} {A : Nat → Prop} (hX : kk_X p s m args meth c cX0_copyFrom 3 none yX0_copyFrom wsX0_copyFrom A D cI cZ) (FIN : (Nat → Int32) × (Nat → Int32) × Int32)  :
    ∀ (fuel : Nat) (ix : Int32) (hx2 : Nat → Int32) (hy2 : Nat → Int32) (H : Heap) (locs : List Loc) (ls : Array Slot), kk_I fuel ix gn → FIN = g_X0_copyFrom_lp cn fx fy gn gx gy fuel ix hx2 hy2 → va_P D vwCl [(q0, .inr (0, [.ref q1, .ref q2, .int cn])), (q1, .inl (cI, 8, .inl hx2)), (q2, .inl (cI, 8, .inl hy2)), (r0, .inr (0, [.ref r1, .ref r2, .int gn])), (r1, .inl (cI, 8, .inl gx)), (r2, .inl (cI, 8, .inl gy))] H → va_D A [(q0, .inr (0, [.ref q1, .ref q2, .int cn])), (q1, .inl (cI, 8, .inl hx2)), (q2, .inl (cI, 8, .inl hy2)), (r0, .inr (0, [.ref r1, .ref r2, .int gn])), (r1, .inl (cI, 8, .inl gx)), (r2, .inl (cI, 8, .inl gy))] → va_S A s.heap H locs → lv_has ls 3 [(0, .ref q0), (1, .ref r0), (2, .int ix)] → W p l e ({ frames := 0, cells := 0, slots := 0, locals := 0 } : Room) s m args below meth c H locs 0 0 (MQ below (va_Qv (fun (u : (Nat → Int32) × (Nat → Int32) × Int32) => u = FIN) (fun u t => kk_B D A [(q0, .inr (0, [.ref q1, .ref q2, .int u.2.2])), (q1, .inl (cI, 8, .inl u.1)), (q2, .inl (cI, 8, .inl u.2.1)), (r0, .inr (0, [.ref r1, .ref r2, .int gn])), (r1, .inl (cI, 8, .inl gx)), (r2, .inl (cI, 8, .inl gy))] t) A) args s 0 0 A) (F0 m 2 ls []) := by
  have hX0 := hX
  obtain ⟨hx, hb, hml, hown, hts, hr, hlk, hnm, hK, hA⟩ := hX
  have hown : s.vm.findClass RX0 = some m.cls := hown
  have hiX0 : ∀ w ∈ wsX00, w ∈ wsX0_copyFrom := by decide +kernel
  intro fuel
  induction fuel with
  | zero =>
    intro ix hx2 hy2 H locs ls hI
    exact absurd hI kk_I0
  | succ fuel ih =>
    intro ix hx2 hy2 H locs ls hI hF hP hD hS hl
    refine lv_iload_n hx hb dX0_copyFrom_2 rfl (lv_at hl 2 rfl) ?_
    refine lv_aload_n hx hb dX0_copyFrom_3 rfl (lv_at hl 1 rfl) ?_
    refine va_get (D := D) hx hb hts hiX0 hown hK.1 hP 3 rfl rfl 2 (by decide) (hts (.fieldLink RX0 18 "FencePilot$Corners" "count" "I") (by decide +kernel)) (fun _ h9 => h9) rfl dX0_copyFrom_4 ?_
    refine lv_icmp_ge (tgt := 40) hx hb dX0_copyFrom_7 (by decide) (fun c_1001 => ?_) (fun c_1001 => ?_)
    · refine lv_aload_n hx hb dX0_copyFrom_40 rfl (lv_at hl 0 rfl) ?_
      refine lv_aload_n hx hb dX0_copyFrom_41 rfl (lv_at hl 1 rfl) ?_
      refine va_get (D := D) hx hb hts hiX0 hown hK.1 hP 3 rfl rfl 2 (by decide) (hts (.fieldLink RX0 18 "FencePilot$Corners" "count" "I") (by decide +kernel)) (fun _ h9 => h9) rfl dX0_copyFrom_42 ?_
      refine va_put (D := D) (ci := 0) (v := .int gn) (ty := .int) (C := RX0) (T := TX0) (N := 3) hx hb hts hiX0 tyX0 tyX0_ok nmX0 hown hK.1 hP hD hS 0 rfl rfl 2 (by decide) (hts (.fieldLink RX0 18 "FencePilot$Corners" "count" "I") (by decide +kernel)) (fun _ h9 => h9) rfl (by decide +kernel) rfl rfl (Nat.le_of_ble_eq_true rfl) dX0_copyFrom_45 (fun H locs hP hD hS => ?_)
      have hP : va_P D vwCl [(q0, .inr (0, [.ref q1, .ref q2, .int gn])), (q1, .inl (cI, 8, .inl hx2)), (q2, .inl (cI, 8, .inl hy2)), (r0, .inr (0, [.ref r1, .ref r2, .int gn])), (r1, .inl (cI, 8, .inl gx)), (r2, .inl (cI, 8, .inl gy))] H := hP
      have hD : va_D A [(q0, .inr (0, [.ref q1, .ref q2, .int gn])), (q1, .inl (cI, 8, .inl hx2)), (q2, .inl (cI, 8, .inl hy2)), (r0, .inr (0, [.ref r1, .ref r2, .int gn])), (r1, .inl (cI, 8, .inl gx)), (r2, .inl (cI, 8, .inl gy))] := hD
      exact kk_rv (hx2, hy2, gn) hx hb hr hlk dX0_copyFrom_48 hS (hP.sub [0, 1, 2, 3, 4, 5] rfl) (hD.sub [0, 1, 2, 3, 4, 5] (by decide) rfl) (by show (hx2, hy2, gn) = FIN; rw [hF, g_X0_copyFrom_lp]; rw [if_pos c_1001]; try rfl)
    · refine lv_aload_n hx hb dX0_copyFrom_10 rfl (lv_at hl 0 rfl) ?_
      refine va_get (D := D) hx hb hts hiX0 hown hK.1 hP 0 rfl rfl 0 (by decide) (hts (.fieldLink RX0 9 "FencePilot$Corners" "xs" "[I") (by decide +kernel)) (fun _ h9 => h9) rfl dX0_copyFrom_11 ?_
      refine lv_iload_n hx hb dX0_copyFrom_14 rfl (lv_at hl 2 rfl) ?_
      refine lv_aload_n hx hb dX0_copyFrom_15 rfl (lv_at hl 1 rfl) ?_
      refine va_get (D := D) hx hb hts hiX0 hown hK.1 hP 3 rfl rfl 0 (by decide) (hts (.fieldLink RX0 9 "FencePilot$Corners" "xs" "[I") (by decide +kernel)) (fun _ h9 => h9) rfl dX0_copyFrom_16 ?_
      refine lv_iload_n hx hb dX0_copyFrom_19 rfl (lv_at hl 2 rfl) ?_
      refine va_iald hx hb hK.1 hP 4 0 rfl rfl (kk_Iix hI c_1001 hgn.2) dX0_copyFrom_20 ?_
      refine va_iast hx hb hK.1 hP hD hS 1 0 rfl rfl (kk_Iix hI c_1001 hgn.2) dX0_copyFrom_21 (fun H locs hP hD hS => ?_)
      have hP : va_P D vwCl [(q0, .inr (0, [.ref q1, .ref q2, .int cn])), (q1, .inl (cI, 8, .inl (upd hx2 ix.toNatClampNeg (gx ix.toNatClampNeg)))), (q2, .inl (cI, 8, .inl hy2)), (r0, .inr (0, [.ref r1, .ref r2, .int gn])), (r1, .inl (cI, 8, .inl gx)), (r2, .inl (cI, 8, .inl gy))] H := hP
      have hD : va_D A [(q0, .inr (0, [.ref q1, .ref q2, .int cn])), (q1, .inl (cI, 8, .inl (upd hx2 ix.toNatClampNeg (gx ix.toNatClampNeg)))), (q2, .inl (cI, 8, .inl hy2)), (r0, .inr (0, [.ref r1, .ref r2, .int gn])), (r1, .inl (cI, 8, .inl gx)), (r2, .inl (cI, 8, .inl gy))] := hD
      refine lv_aload_n hx hb dX0_copyFrom_22 rfl (lv_at hl 0 rfl) ?_
      refine va_get (D := D) hx hb hts hiX0 hown hK.1 hP 0 rfl rfl 1 (by decide) (hts (.fieldLink RX0 15 "FencePilot$Corners" "ys" "[I") (by decide +kernel)) (fun _ h9 => h9) rfl dX0_copyFrom_23 ?_
      refine lv_iload_n hx hb dX0_copyFrom_26 rfl (lv_at hl 2 rfl) ?_
      refine lv_aload_n hx hb dX0_copyFrom_27 rfl (lv_at hl 1 rfl) ?_
      refine va_get (D := D) hx hb hts hiX0 hown hK.1 hP 3 rfl rfl 1 (by decide) (hts (.fieldLink RX0 15 "FencePilot$Corners" "ys" "[I") (by decide +kernel)) (fun _ h9 => h9) rfl dX0_copyFrom_28 ?_
      refine lv_iload_n hx hb dX0_copyFrom_31 rfl (lv_at hl 2 rfl) ?_
      refine va_iald hx hb hK.1 hP 5 0 rfl rfl (kk_Iix hI c_1001 hgn.2) dX0_copyFrom_32 ?_
      refine va_iast hx hb hK.1 hP hD hS 2 0 rfl rfl (kk_Iix hI c_1001 hgn.2) dX0_copyFrom_33 (fun H locs hP hD hS => ?_)
      have hP : va_P D vwCl [(q0, .inr (0, [.ref q1, .ref q2, .int cn])), (q1, .inl (cI, 8, .inl (upd hx2 ix.toNatClampNeg (gx ix.toNatClampNeg)))), (q2, .inl (cI, 8, .inl (upd hy2 ix.toNatClampNeg (gy ix.toNatClampNeg)))), (r0, .inr (0, [.ref r1, .ref r2, .int gn])), (r1, .inl (cI, 8, .inl gx)), (r2, .inl (cI, 8, .inl gy))] H := hP
      have hD : va_D A [(q0, .inr (0, [.ref q1, .ref q2, .int cn])), (q1, .inl (cI, 8, .inl (upd hx2 ix.toNatClampNeg (gx ix.toNatClampNeg)))), (q2, .inl (cI, 8, .inl (upd hy2 ix.toNatClampNeg (gy ix.toNatClampNeg)))), (r0, .inr (0, [.ref r1, .ref r2, .int gn])), (r1, .inl (cI, 8, .inl gx)), (r2, .inl (cI, 8, .inl gy))] := hD
      refine lv_iinc (v := (ix + 1)) (lv' := [(2, .int (ix + 1)), (0, .ref q0), (1, .ref r0)]) hx hb dX0_copyFrom_34 hl (k := 2) rfl (by first | rfl | decide) (by decide) rfl (fun ls hl => ?_)
      refine lv_goto (tgt := 2) hx hb dX0_copyFrom_37 (by decide) ?_
      exact ih (ix + 1) (upd hx2 ix.toNatClampNeg (gx ix.toNatClampNeg)) (upd hy2 ix.toNatClampNeg (gy ix.toNatClampNeg)) _ _ _ (kk_Iup hI c_1001) (by show FIN = (g_X0_copyFrom_lp cn fx fy gn gx gy fuel (ix + 1) (upd hx2 ix.toNatClampNeg (gx ix.toNatClampNeg)) (upd hy2 ix.toNatClampNeg (gy ix.toNatClampNeg))); rw [hF, g_X0_copyFrom_lp]; rw [if_neg c_1001]; try rfl) (hP.sub [0, 1, 2, 3, 4, 5] rfl) (hD.sub [0, 1, 2, 3, 4, 5] (by decide) rfl) hS (lv_sub hl [1, 2, 0] rfl)
set_option maxHeartbeats 4000000 in
set_option maxRecDepth 100000 in
theorem k_X0_copyFrom (l : Launch) (D : va_G) (cI cZ : ClassId) (q0 : Nat) (q1 : Nat) (q2 : Nat) (r0 : Nat) (r1 : Nat) (r2 : Nat) (sz : Nat) (cn : Int32) (fx : Nat → Int32) (fy : Nat → Int32) (gn : Int32) (gx : Nat → Int32) (gy : Nat → Int32)  (hgn : kk_L gn 8) : kk_Mv l D cI cZ yX0_copyFrom wsX0_copyFrom ({ frames := 0, cells := 0, slots := 0, locals := 0 } : Room) [.ref q0, .ref r0] sz [(q0, .inr (0, [.ref q1, .ref q2, .int cn])), (q1, .inl (cI, 8, .inl fx)), (q2, .inl (cI, 8, .inl fy)), (r0, .inr (0, [.ref r1, .ref r2, .int gn])), (r1, .inl (cI, 8, .inl gx)), (r2, .inl (cI, 8, .inl gy))] (fun (u : (Nat → Int32) × (Nat → Int32) × Int32) => u = f_X0_copyFrom cn fx fy gn gx gy) (fun u => [(q0, .inr (0, [.ref q1, .ref q2, .int u.2.2])), (q1, .inl (cI, 8, .inl u.1)), (q2, .inl (cI, 8, .inl u.2.1)), (r0, .inr (0, [.ref r1, .ref r2, .int gn])), (r1, .inl (cI, 8, .inl gx)), (r2, .inl (cI, 8, .inl gy))]) 0 0 := by
  refine kk_entv (cc := cX0_copyFrom) (maxL := 3) (ret := none) (by decide +kernel) rfl (Nat.le_of_ble_eq_true rfl) (fun p e s m args below meth c A ls hX hP hD hS hl => ?_)
  have hX0 := hX
  obtain ⟨hx, hb, hml, hown, hts, hr, hlk, hnm, hK, hA⟩ := hX
  have hown : s.vm.findClass RX0 = some m.cls := hown
  have hiX0 : ∀ w ∈ wsX00, w ∈ wsX0_copyFrom := by decide +kernel
  have hl : lv_has ls 3 [(0, .ref q0), (1, .ref r0)] := hl
  refine lv_iconst (v := 0) hx hb dX0_copyFrom_0 (by decide) ?_
  refine lv_istore_n (lv' := [(2, .int (0 : Int32)), (0, .ref q0), (1, .ref r0)]) hx hb dX0_copyFrom_1 rfl hl (by decide) rfl (fun ls hl => ?_)
  exact lp_X0_copyFrom_lp l D cI cZ q0 q1 q2 r0 r1 r2 cn fx fy gn gx gy hgn hX0 (f_X0_copyFrom cn fx fy gn gx gy) 9 (0 : Int32) fx fy _ _ _ (kk_Ist 9 hgn.1 (Int.lt_of_le_of_lt hgn.2 (by decide))) (by show f_X0_copyFrom cn fx fy gn gx gy = (g_X0_copyFrom_lp cn fx fy gn gx gy 9 (0 : Int32) fx fy); unfold f_X0_copyFrom; rfl) (hP.sub [0, 1, 2, 3, 4, 5] rfl) (hD.sub [0, 1, 2, 3, 4, 5] (by decide) rfl) hS (lv_sub hl [1, 2, 0] rfl)
def f_X0_after (cn : Int32) (edge : Int32) : Int32 := (if cn ≤ (edge + (1 : Int32)) then (0 : Int32) else (edge + (1 : Int32)))
set_option maxHeartbeats 4000000 in
set_option maxRecDepth 100000 in
theorem k_X0_after (l : Launch) (D : va_G) (cI cZ : ClassId) (q0 : Nat) (q1 : Nat) (q2 : Nat) (sz : Nat) (cn : Int32) (edge : Int32)  : kk_Mi l D cI cZ yX0_after wsX0_after ({ frames := 0, cells := 0, slots := 0, locals := 0 } : Room) [.ref q0, .int edge] sz [(q0, .inr (0, [.ref q1, .ref q2, .int cn]))] (fun (r : Int32) (_ : Unit) => r = f_X0_after cn edge) (fun _ => [(q0, .inr (0, [.ref q1, .ref q2, .int cn]))]) 0 0 := by
  refine kk_enti (cc := cX0_after) (maxL := 2) (ret := (some .int)) (by decide +kernel) rfl (Nat.le_of_ble_eq_true rfl) (fun p e s m args below meth c A ls hX hP hD hS hl => ?_)
  obtain ⟨hx, hb, hml, hown, hts, hr, hlk, hnm, hK, hA⟩ := hX
  have hown : s.vm.findClass RX0 = some m.cls := hown
  have hiX0 : ∀ w ∈ wsX00, w ∈ wsX0_after := by decide +kernel
  have hl : lv_has ls 2 [(0, .ref q0), (1, .int edge)] := hl
  refine lv_iload_n hx hb dX0_after_0 rfl (lv_at hl 1 rfl) ?_
  refine lv_iconst (v := 1) hx hb dX0_after_1 (by decide) ?_
  refine lv_iadd hx hb dX0_after_2 ?_
  refine lv_aload_n hx hb dX0_after_3 rfl (lv_at hl 0 rfl) ?_
  refine va_get (D := D) hx hb hts hiX0 hown hK.1 hP 0 rfl rfl 2 (by decide) (hts (.fieldLink RX0 18 "FencePilot$Corners" "count" "I") (by decide +kernel)) (fun _ h9 => h9) rfl dX0_after_4 ?_
  refine lv_icmp_ge (tgt := 16) hx hb dX0_after_7 (by decide) (fun c_1 => ?_) (fun c_1 => ?_)
  · refine lv_iconst (v := 0) hx hb dX0_after_16 (by decide) ?_
    exact kk_ri () hx hb hr hlk dX0_after_17 hS (hP.sub [0] rfl) (hD.sub [0] (by decide) rfl) (by show (0 : Int32) = f_X0_after cn edge; unfold f_X0_after; rw [if_pos c_1]; try rfl)
  · refine lv_iload_n hx hb dX0_after_10 rfl (lv_at hl 1 rfl) ?_
    refine lv_iconst (v := 1) hx hb dX0_after_11 (by decide) ?_
    refine lv_iadd hx hb dX0_after_12 ?_
    refine lv_goto (tgt := 17) hx hb dX0_after_13 (by decide) ?_
    exact kk_ri () hx hb hr hlk dX0_after_17 hS (hP.sub [0] rfl) (hD.sub [0] (by decide) rfl) (by show (edge + (1 : Int32)) = f_X0_after cn edge; unfold f_X0_after; rw [if_neg c_1]; try rfl)
theorem kk_after {cn edge : Int32} (hc : kk_L cn 8) (he : kk_L edge 7) : kk_L (f_X0_after cn edge) 7 := by
  unfold f_X0_after
  have h4 : (edge + 1).toInt = edge.toInt + 1 := kk_add (by rw [show (1 : Int32).toInt = 1 from rfl]; have := he.1; omega) (by rw [show (1 : Int32).toInt = 1 from rfl]; have := he.2; omega)
  obtain ⟨a, b⟩ := hc
  obtain ⟨a2, b2⟩ := he
  split
  · exact ⟨by decide, by decide⟩
  · rename_i h1
    rw [Int32.le_iff_toInt_le, h4] at h1
    exact ⟨by omega, by omega⟩
def f_X0_side (cn : Int32) (fx : Nat → Int32) (fy : Nat → Int32) (edge : Int32) (x : Int32) (y : Int32) : Int64 := (((((fx (f_X0_after cn edge).toNatClampNeg) - (fx edge.toNatClampNeg)).toInt64) * ((y - (fy edge.toNatClampNeg)).toInt64)) - ((((fy (f_X0_after cn edge).toNatClampNeg) - (fy edge.toNatClampNeg)).toInt64) * ((x - (fx edge.toNatClampNeg)).toInt64)))
set_option maxHeartbeats 4000000 in
set_option maxRecDepth 100000 in
theorem k_X0_side (l : Launch) (D : va_G) (cI cZ : ClassId) (q0 : Nat) (q1 : Nat) (q2 : Nat) (sz : Nat) (cn : Int32) (fx : Nat → Int32) (fy : Nat → Int32) (edge : Int32) (x : Int32) (y : Int32) (hcn : kk_L cn 8) (hed : kk_L edge 7) : kk_Ml l D cI cZ yX0_side wsX0_side ({ frames := 1, cells := 0, slots := 0, locals := 21 } : Room) [.ref q0, .int edge, .int x, .int y] sz [(q0, .inr (0, [.ref q1, .ref q2, .int cn])), (q1, .inl (cI, 8, .inl fx)), (q2, .inl (cI, 8, .inl fy))] (fun (r : Int64) (_ : Unit) => r = f_X0_side cn fx fy edge x y) (fun _ => [(q0, .inr (0, [.ref q1, .ref q2, .int cn])), (q1, .inl (cI, 8, .inl fx)), (q2, .inl (cI, 8, .inl fy))]) 0 0 := by
  refine kk_entl (cc := cX0_side) (maxL := 9) (ret := (some .long)) (by decide +kernel) rfl (Nat.le_of_ble_eq_true rfl) (fun p e s m args below meth c A ls hX hP hD hS hl => ?_)
  obtain ⟨hx, hb, hml, hown, hts, hr, hlk, hnm, hK, hA⟩ := hX
  have hown : s.vm.findClass RX0 = some m.cls := hown
  have hiX0 : ∀ w ∈ wsX00, w ∈ wsX0_side := by decide +kernel
  have hl : lv_has ls 9 [(0, .ref q0), (1, .int edge), (2, .int x), (3, .int y)] := hl
  refine lv_aload_n hx hb dX0_side_0 rfl (lv_at hl 0 rfl) ?_
  refine lv_iload_n hx hb dX0_side_1 rfl (lv_at hl 1 rfl) ?_
  refine kk_cVi (wc := [(q0, .inr (0, [.ref q1, .ref q2, .int cn]))]) (wr := [(q1, .inl (cI, 8, .inl fx)), (q2, .inl (cI, 8, .inl fy))]) ⟨hx, hb, hml, hown, hts⟩ hK hP hD hS hA [0] [1, 2] (k_X0_after l D cI cZ q0 q1 q2 s.heap.size cn edge) (cwV 1 hts gX0_side_X0_after rfl rfl rfl (by decide +kernel) ⟨(Nat.le_of_ble_eq_true rfl), (Nat.le_of_ble_eq_true rfl)⟩) rfl rfl (by decide) (by decide) (by decide) 0 0 rfl rfl rfl rfl hl.1 rfl (Nat.le_of_ble_eq_true rfl) dX0_side_2 ⟨(Nat.le_of_ble_eq_true rfl), (Nat.le_of_ble_eq_true rfl)⟩ (fun r_1 u H locs hw_2 hP hD hS => ?_)
  have hw_2 : r_1 = (f_X0_after cn edge) := hw_2
  subst hw_2
  have hP : va_P D vwCl [(q1, .inl (cI, 8, .inl fx)), (q2, .inl (cI, 8, .inl fy)), (q0, .inr (0, [.ref q1, .ref q2, .int cn]))] H := hP
  have hD : va_D A [(q1, .inl (cI, 8, .inl fx)), (q2, .inl (cI, 8, .inl fy)), (q0, .inr (0, [.ref q1, .ref q2, .int cn]))] := hD
  refine lv_istore (lv' := [(4, .int (f_X0_after cn edge)), (0, .ref q0), (1, .int edge), (2, .int x), (3, .int y)]) hx hb dX0_side_5 hl (by decide) rfl (fun ls hl => ?_)
  refine lv_aload_n hx hb dX0_side_7 rfl (lv_at hl 1 rfl) ?_
  refine va_get (D := D) hx hb hts hiX0 hown hK.1 hP 2 rfl rfl 0 (by decide) (hts (.fieldLink RX0 9 "FencePilot$Corners" "xs" "[I") (by decide +kernel)) (fun _ h9 => h9) rfl dX0_side_8 ?_
  refine lv_iload hx hb dX0_side_11 (lv_at hl 0 rfl) ?_
  refine va_iald hx hb hK.1 hP 0 0 rfl rfl (kk_Lix (kk_after hcn hed)) dX0_side_13 ?_
  refine lv_aload_n hx hb dX0_side_14 rfl (lv_at hl 1 rfl) ?_
  refine va_get (D := D) hx hb hts hiX0 hown hK.1 hP 2 rfl rfl 0 (by decide) (hts (.fieldLink RX0 9 "FencePilot$Corners" "xs" "[I") (by decide +kernel)) (fun _ h9 => h9) rfl dX0_side_15 ?_
  refine lv_iload_n hx hb dX0_side_18 rfl (lv_at hl 2 rfl) ?_
  refine va_iald hx hb hK.1 hP 0 0 rfl rfl (kk_Lix hed) dX0_side_19 ?_
  refine lv_isub hx hb dX0_side_20 ?_
  refine lv_i2l hx hb dX0_side_21 rfl ?_
  refine lv_lstore (lv' := [(5, .long (((fx (f_X0_after cn edge).toNatClampNeg) - (fx edge.toNatClampNeg)).toInt64)), (4, .int (f_X0_after cn edge)), (0, .ref q0), (1, .int edge), (2, .int x), (3, .int y)]) hx hb dX0_side_22 hl (by decide) rfl (fun ls hl => ?_)
  refine lv_aload_n hx hb dX0_side_24 rfl (lv_at hl 2 rfl) ?_
  refine va_get (D := D) hx hb hts hiX0 hown hK.1 hP 2 rfl rfl 1 (by decide) (hts (.fieldLink RX0 15 "FencePilot$Corners" "ys" "[I") (by decide +kernel)) (fun _ h9 => h9) rfl dX0_side_25 ?_
  refine lv_iload hx hb dX0_side_28 (lv_at hl 1 rfl) ?_
  refine va_iald hx hb hK.1 hP 1 0 rfl rfl (kk_Lix (kk_after hcn hed)) dX0_side_30 ?_
  refine lv_aload_n hx hb dX0_side_31 rfl (lv_at hl 2 rfl) ?_
  refine va_get (D := D) hx hb hts hiX0 hown hK.1 hP 2 rfl rfl 1 (by decide) (hts (.fieldLink RX0 15 "FencePilot$Corners" "ys" "[I") (by decide +kernel)) (fun _ h9 => h9) rfl dX0_side_32 ?_
  refine lv_iload_n hx hb dX0_side_35 rfl (lv_at hl 3 rfl) ?_
  refine va_iald hx hb hK.1 hP 1 0 rfl rfl (kk_Lix hed) dX0_side_36 ?_
  refine lv_isub hx hb dX0_side_37 ?_
  refine lv_i2l hx hb dX0_side_38 rfl ?_
  refine lv_lstore (lv' := [(7, .long (((fy (f_X0_after cn edge).toNatClampNeg) - (fy edge.toNatClampNeg)).toInt64)), (5, .long (((fx (f_X0_after cn edge).toNatClampNeg) - (fx edge.toNatClampNeg)).toInt64)), (4, .int (f_X0_after cn edge)), (0, .ref q0), (1, .int edge), (2, .int x), (3, .int y)]) hx hb dX0_side_39 hl (by decide) rfl (fun ls hl => ?_)
  refine lv_lload hx hb dX0_side_41 (lv_at hl 1 rfl) ?_
  refine lv_iload_n hx hb dX0_side_43 rfl (lv_at hl 6 rfl) ?_
  refine lv_aload_n hx hb dX0_side_44 rfl (lv_at hl 3 rfl) ?_
  refine va_get (D := D) hx hb hts hiX0 hown hK.1 hP 2 rfl rfl 1 (by decide) (hts (.fieldLink RX0 15 "FencePilot$Corners" "ys" "[I") (by decide +kernel)) (fun _ h9 => h9) rfl dX0_side_45 ?_
  refine lv_iload_n hx hb dX0_side_48 rfl (lv_at hl 4 rfl) ?_
  refine va_iald hx hb hK.1 hP 1 0 rfl rfl (kk_Lix hed) dX0_side_49 ?_
  refine lv_isub hx hb dX0_side_50 ?_
  refine lv_i2l hx hb dX0_side_51 rfl ?_
  refine lv_lmul hx hb dX0_side_52 ?_
  refine lv_lload hx hb dX0_side_53 (lv_at hl 0 rfl) ?_
  refine lv_iload_n hx hb dX0_side_55 rfl (lv_at hl 5 rfl) ?_
  refine lv_aload_n hx hb dX0_side_56 rfl (lv_at hl 3 rfl) ?_
  refine va_get (D := D) hx hb hts hiX0 hown hK.1 hP 2 rfl rfl 0 (by decide) (hts (.fieldLink RX0 9 "FencePilot$Corners" "xs" "[I") (by decide +kernel)) (fun _ h9 => h9) rfl dX0_side_57 ?_
  refine lv_iload_n hx hb dX0_side_60 rfl (lv_at hl 4 rfl) ?_
  refine va_iald hx hb hK.1 hP 0 0 rfl rfl (kk_Lix hed) dX0_side_61 ?_
  refine lv_isub hx hb dX0_side_62 ?_
  refine lv_i2l hx hb dX0_side_63 rfl ?_
  refine lv_lmul hx hb dX0_side_64 ?_
  refine lv_lsub hx hb dX0_side_65 ?_
  exact kk_rl () hx hb hr hlk dX0_side_66 hS (hP.sub [2, 0, 1] rfl) (hD.sub [2, 0, 1] (by decide) rfl) (by show (((((fx (f_X0_after cn edge).toNatClampNeg) - (fx edge.toNatClampNeg)).toInt64) * ((y - (fy edge.toNatClampNeg)).toInt64)) - ((((fy (f_X0_after cn edge).toNatClampNeg) - (fy edge.toNatClampNeg)).toInt64) * ((x - (fx edge.toNatClampNeg)).toInt64))) = f_X0_side cn fx fy edge x y; unfold f_X0_side; rfl)
def f_X0_squaredLength (cn : Int32) (fx : Nat → Int32) (fy : Nat → Int32) (edge : Int32) : Int64 := (((((fx (f_X0_after cn edge).toNatClampNeg) - (fx edge.toNatClampNeg)).toInt64) * (((fx (f_X0_after cn edge).toNatClampNeg) - (fx edge.toNatClampNeg)).toInt64)) + ((((fy (f_X0_after cn edge).toNatClampNeg) - (fy edge.toNatClampNeg)).toInt64) * (((fy (f_X0_after cn edge).toNatClampNeg) - (fy edge.toNatClampNeg)).toInt64)))
set_option maxHeartbeats 4000000 in
set_option maxRecDepth 100000 in
theorem k_X0_squaredLength (l : Launch) (D : va_G) (cI cZ : ClassId) (q0 : Nat) (q1 : Nat) (q2 : Nat) (sz : Nat) (cn : Int32) (fx : Nat → Int32) (fy : Nat → Int32) (edge : Int32) (hcn : kk_L cn 8) (hed : kk_L edge 7) : kk_Ml l D cI cZ yX0_squaredLength wsX0_squaredLength ({ frames := 1, cells := 0, slots := 0, locals := 21 } : Room) [.ref q0, .int edge] sz [(q0, .inr (0, [.ref q1, .ref q2, .int cn])), (q1, .inl (cI, 8, .inl fx)), (q2, .inl (cI, 8, .inl fy))] (fun (r : Int64) (_ : Unit) => r = f_X0_squaredLength cn fx fy edge) (fun _ => [(q0, .inr (0, [.ref q1, .ref q2, .int cn])), (q1, .inl (cI, 8, .inl fx)), (q2, .inl (cI, 8, .inl fy))]) 0 0 := by
  refine kk_entl (cc := cX0_squaredLength) (maxL := 7) (ret := (some .long)) (by decide +kernel) rfl (Nat.le_of_ble_eq_true rfl) (fun p e s m args below meth c A ls hX hP hD hS hl => ?_)
  obtain ⟨hx, hb, hml, hown, hts, hr, hlk, hnm, hK, hA⟩ := hX
  have hown : s.vm.findClass RX0 = some m.cls := hown
  have hiX0 : ∀ w ∈ wsX00, w ∈ wsX0_squaredLength := by decide +kernel
  have hl : lv_has ls 7 [(0, .ref q0), (1, .int edge)] := hl
  refine lv_aload_n hx hb dX0_squaredLength_0 rfl (lv_at hl 0 rfl) ?_
  refine lv_iload_n hx hb dX0_squaredLength_1 rfl (lv_at hl 1 rfl) ?_
  refine kk_cVi (wc := [(q0, .inr (0, [.ref q1, .ref q2, .int cn]))]) (wr := [(q1, .inl (cI, 8, .inl fx)), (q2, .inl (cI, 8, .inl fy))]) ⟨hx, hb, hml, hown, hts⟩ hK hP hD hS hA [0] [1, 2] (k_X0_after l D cI cZ q0 q1 q2 s.heap.size cn edge) (cwV 1 hts gX0_squaredLength_X0_after rfl rfl rfl (by decide +kernel) ⟨(Nat.le_of_ble_eq_true rfl), (Nat.le_of_ble_eq_true rfl)⟩) rfl rfl (by decide) (by decide) (by decide) 0 0 rfl rfl rfl rfl hl.1 rfl (Nat.le_of_ble_eq_true rfl) dX0_squaredLength_2 ⟨(Nat.le_of_ble_eq_true rfl), (Nat.le_of_ble_eq_true rfl)⟩ (fun r_1 u H locs hw_2 hP hD hS => ?_)
  have hw_2 : r_1 = (f_X0_after cn edge) := hw_2
  subst hw_2
  have hP : va_P D vwCl [(q1, .inl (cI, 8, .inl fx)), (q2, .inl (cI, 8, .inl fy)), (q0, .inr (0, [.ref q1, .ref q2, .int cn]))] H := hP
  have hD : va_D A [(q1, .inl (cI, 8, .inl fx)), (q2, .inl (cI, 8, .inl fy)), (q0, .inr (0, [.ref q1, .ref q2, .int cn]))] := hD
  refine lv_istore_n (lv' := [(2, .int (f_X0_after cn edge)), (0, .ref q0), (1, .int edge)]) hx hb dX0_squaredLength_5 rfl hl (by decide) rfl (fun ls hl => ?_)
  refine lv_aload_n hx hb dX0_squaredLength_6 rfl (lv_at hl 1 rfl) ?_
  refine va_get (D := D) hx hb hts hiX0 hown hK.1 hP 2 rfl rfl 0 (by decide) (hts (.fieldLink RX0 9 "FencePilot$Corners" "xs" "[I") (by decide +kernel)) (fun _ h9 => h9) rfl dX0_squaredLength_7 ?_
  refine lv_iload_n hx hb dX0_squaredLength_10 rfl (lv_at hl 0 rfl) ?_
  refine va_iald hx hb hK.1 hP 0 0 rfl rfl (kk_Lix (kk_after hcn hed)) dX0_squaredLength_11 ?_
  refine lv_aload_n hx hb dX0_squaredLength_12 rfl (lv_at hl 1 rfl) ?_
  refine va_get (D := D) hx hb hts hiX0 hown hK.1 hP 2 rfl rfl 0 (by decide) (hts (.fieldLink RX0 9 "FencePilot$Corners" "xs" "[I") (by decide +kernel)) (fun _ h9 => h9) rfl dX0_squaredLength_13 ?_
  refine lv_iload_n hx hb dX0_squaredLength_16 rfl (lv_at hl 2 rfl) ?_
  refine va_iald hx hb hK.1 hP 0 0 rfl rfl (kk_Lix hed) dX0_squaredLength_17 ?_
  refine lv_isub hx hb dX0_squaredLength_18 ?_
  refine lv_i2l hx hb dX0_squaredLength_19 rfl ?_
  refine lv_lstore_n (lv' := [(3, .long (((fx (f_X0_after cn edge).toNatClampNeg) - (fx edge.toNatClampNeg)).toInt64)), (2, .int (f_X0_after cn edge)), (0, .ref q0), (1, .int edge)]) hx hb dX0_squaredLength_20 rfl hl (by decide) rfl (fun ls hl => ?_)
  refine lv_aload_n hx hb dX0_squaredLength_21 rfl (lv_at hl 2 rfl) ?_
  refine va_get (D := D) hx hb hts hiX0 hown hK.1 hP 2 rfl rfl 1 (by decide) (hts (.fieldLink RX0 15 "FencePilot$Corners" "ys" "[I") (by decide +kernel)) (fun _ h9 => h9) rfl dX0_squaredLength_22 ?_
  refine lv_iload_n hx hb dX0_squaredLength_25 rfl (lv_at hl 1 rfl) ?_
  refine va_iald hx hb hK.1 hP 1 0 rfl rfl (kk_Lix (kk_after hcn hed)) dX0_squaredLength_26 ?_
  refine lv_aload_n hx hb dX0_squaredLength_27 rfl (lv_at hl 2 rfl) ?_
  refine va_get (D := D) hx hb hts hiX0 hown hK.1 hP 2 rfl rfl 1 (by decide) (hts (.fieldLink RX0 15 "FencePilot$Corners" "ys" "[I") (by decide +kernel)) (fun _ h9 => h9) rfl dX0_squaredLength_28 ?_
  refine lv_iload_n hx hb dX0_squaredLength_31 rfl (lv_at hl 3 rfl) ?_
  refine va_iald hx hb hK.1 hP 1 0 rfl rfl (kk_Lix hed) dX0_squaredLength_32 ?_
  refine lv_isub hx hb dX0_squaredLength_33 ?_
  refine lv_i2l hx hb dX0_squaredLength_34 rfl ?_
  refine lv_lstore (lv' := [(5, .long (((fy (f_X0_after cn edge).toNatClampNeg) - (fy edge.toNatClampNeg)).toInt64)), (3, .long (((fx (f_X0_after cn edge).toNatClampNeg) - (fx edge.toNatClampNeg)).toInt64)), (2, .int (f_X0_after cn edge)), (0, .ref q0), (1, .int edge)]) hx hb dX0_squaredLength_35 hl (by decide) rfl (fun ls hl => ?_)
  refine lv_lload_n hx hb dX0_squaredLength_37 rfl (lv_at hl 1 rfl) ?_
  refine lv_lload_n hx hb dX0_squaredLength_38 rfl (lv_at hl 1 rfl) ?_
  refine lv_lmul hx hb dX0_squaredLength_39 ?_
  refine lv_lload hx hb dX0_squaredLength_40 (lv_at hl 0 rfl) ?_
  refine lv_lload hx hb dX0_squaredLength_42 (lv_at hl 0 rfl) ?_
  refine lv_lmul hx hb dX0_squaredLength_44 ?_
  refine lv_ladd hx hb dX0_squaredLength_45 ?_
  exact kk_rl () hx hb hr hlk dX0_squaredLength_46 hS (hP.sub [2, 0, 1] rfl) (hD.sub [2, 0, 1] (by decide) rfl) (by show (((((fx (f_X0_after cn edge).toNatClampNeg) - (fx edge.toNatClampNeg)).toInt64) * (((fx (f_X0_after cn edge).toNatClampNeg) - (fx edge.toNatClampNeg)).toInt64)) + ((((fy (f_X0_after cn edge).toNatClampNeg) - (fy edge.toNatClampNeg)).toInt64) * (((fy (f_X0_after cn edge).toNatClampNeg) - (fy edge.toNatClampNeg)).toInt64))) = f_X0_squaredLength cn fx fy edge; unfold f_X0_squaredLength; rfl)
def f_X0_isClear (cn : Int32) (fx : Nat → Int32) (fy : Nat → Int32) (edge : Int32) (x : Int32) (y : Int32) (mg : Int32) : Int32 := (if (lg_cmp (f_X0_side cn fx fy edge x y) (0 : Int64)) < (0 : Int32) then (0 : Int32) else (if (lg_cmp ((f_X0_side cn fx fy edge x y) * (f_X0_side cn fx fy edge x y)) (((mg.toInt64) * (mg.toInt64)) * (f_X0_squaredLength cn fx fy edge))) < (0 : Int32) then (0 : Int32) else (1 : Int32)))
set_option maxHeartbeats 4000000 in
set_option maxRecDepth 100000 in
theorem k_X0_isClear (l : Launch) (D : va_G) (cI cZ : ClassId) (q0 : Nat) (q1 : Nat) (q2 : Nat) (sz : Nat) (cn : Int32) (fx : Nat → Int32) (fy : Nat → Int32) (edge : Int32) (x : Int32) (y : Int32) (mg : Int32) (hcn : kk_L cn 8) (hed : kk_L edge 7) : kk_Mi l D cI cZ yX0_isClear wsX0_isClear ({ frames := 2, cells := 0, slots := 0, locals := 49 } : Room) [.ref q0, .int edge, .int x, .int y, .int mg] sz [(q0, .inr (0, [.ref q1, .ref q2, .int cn])), (q1, .inl (cI, 8, .inl fx)), (q2, .inl (cI, 8, .inl fy))] (fun (r : Int32) (_ : Unit) => r = f_X0_isClear cn fx fy edge x y mg) (fun _ => [(q0, .inr (0, [.ref q1, .ref q2, .int cn])), (q1, .inl (cI, 8, .inl fx)), (q2, .inl (cI, 8, .inl fy))]) 0 0 := by
  refine kk_enti (cc := cX0_isClear) (maxL := 7) (ret := (some .boolean)) (by decide +kernel) rfl (Nat.le_of_ble_eq_true rfl) (fun p e s m args below meth c A ls hX hP hD hS hl => ?_)
  obtain ⟨hx, hb, hml, hown, hts, hr, hlk, hnm, hK, hA⟩ := hX
  have hown : s.vm.findClass RX0 = some m.cls := hown
  have hiX0 : ∀ w ∈ wsX00, w ∈ wsX0_isClear := by decide +kernel
  have hl : lv_has ls 7 [(0, .ref q0), (1, .int edge), (2, .int x), (3, .int y), (4, .int mg)] := hl
  refine lv_aload_n hx hb dX0_isClear_0 rfl (lv_at hl 0 rfl) ?_
  refine lv_iload_n hx hb dX0_isClear_1 rfl (lv_at hl 1 rfl) ?_
  refine lv_iload_n hx hb dX0_isClear_2 rfl (lv_at hl 2 rfl) ?_
  refine lv_iload_n hx hb dX0_isClear_3 rfl (lv_at hl 3 rfl) ?_
  refine kk_cVl (wc := [(q0, .inr (0, [.ref q1, .ref q2, .int cn])), (q1, .inl (cI, 8, .inl fx)), (q2, .inl (cI, 8, .inl fy))]) (wr := []) ⟨hx, hb, hml, hown, hts⟩ hK hP hD hS hA [0, 1, 2] [] (k_X0_side l D cI cZ q0 q1 q2 s.heap.size cn fx fy edge x y (by assumption) (by assumption)) (cwV 3 hts gX0_isClear_X0_side rfl rfl rfl (by decide +kernel) ⟨(Nat.le_of_ble_eq_true rfl), (Nat.le_of_ble_eq_true rfl)⟩) rfl rfl (by decide) (by decide) (by decide) 0 0 rfl rfl rfl rfl hl.1 rfl (Nat.le_of_ble_eq_true rfl) dX0_isClear_4 ⟨(Nat.le_of_ble_eq_true rfl), (Nat.le_of_ble_eq_true rfl)⟩ (fun r_1 u H locs hw_2 hP hD hS => ?_)
  have hw_2 : r_1 = (f_X0_side cn fx fy edge x y) := hw_2
  subst hw_2
  have hP : va_P D vwCl [(q0, .inr (0, [.ref q1, .ref q2, .int cn])), (q1, .inl (cI, 8, .inl fx)), (q2, .inl (cI, 8, .inl fy))] H := hP
  have hD : va_D A [(q0, .inr (0, [.ref q1, .ref q2, .int cn])), (q1, .inl (cI, 8, .inl fx)), (q2, .inl (cI, 8, .inl fy))] := hD
  refine lv_lstore (lv' := [(5, .long (f_X0_side cn fx fy edge x y)), (0, .ref q0), (1, .int edge), (2, .int x), (3, .int y), (4, .int mg)]) hx hb dX0_isClear_7 hl (by decide) rfl (fun ls hl => ?_)
  refine lv_lload hx hb dX0_isClear_9 (lv_at hl 0 rfl) ?_
  refine lv_lconst (v := 0) hx hb dX0_isClear_11 (by decide) ?_
  refine W.lcmp hx hb dX0_isClear_12 ?_
  refine lv_if_lt (tgt := 42) hx hb dX0_isClear_13 (by decide) (fun c_3 => ?_) (fun c_3 => ?_)
  · refine lv_iconst (v := 0) hx hb dX0_isClear_42 (by decide) ?_
    exact kk_rz () hx hb hr hlk dX0_isClear_43 hS (hP.sub [0, 1, 2] rfl) (hD.sub [0, 1, 2] (by decide) rfl) rfl (by show (0 : Int32) = f_X0_isClear cn fx fy edge x y mg; unfold f_X0_isClear; rw [if_pos c_3]; try rfl)
  · refine lv_lload hx hb dX0_isClear_16 (lv_at hl 0 rfl) ?_
    refine lv_lload hx hb dX0_isClear_18 (lv_at hl 0 rfl) ?_
    refine lv_lmul hx hb dX0_isClear_20 ?_
    refine lv_iload hx hb dX0_isClear_21 (lv_at hl 5 rfl) ?_
    refine lv_i2l hx hb dX0_isClear_23 rfl ?_
    refine lv_iload hx hb dX0_isClear_24 (lv_at hl 5 rfl) ?_
    refine lv_i2l hx hb dX0_isClear_26 rfl ?_
    refine lv_lmul hx hb dX0_isClear_27 ?_
    refine lv_aload_n hx hb dX0_isClear_28 rfl (lv_at hl 1 rfl) ?_
    refine lv_iload_n hx hb dX0_isClear_29 rfl (lv_at hl 2 rfl) ?_
    refine kk_cVl (wc := [(q0, .inr (0, [.ref q1, .ref q2, .int cn])), (q1, .inl (cI, 8, .inl fx)), (q2, .inl (cI, 8, .inl fy))]) (wr := []) ⟨hx, hb, hml, hown, hts⟩ hK hP hD hS hA [0, 1, 2] [] (k_X0_squaredLength l D cI cZ q0 q1 q2 H.size cn fx fy edge (by assumption) (by assumption)) (cwV 1 hts gX0_isClear_X0_squaredLength rfl rfl rfl (by decide +kernel) ⟨(Nat.le_of_ble_eq_true rfl), (Nat.le_of_ble_eq_true rfl)⟩) rfl rfl (by decide) (by decide) (by decide) 0 0 rfl rfl rfl rfl hl.1 rfl (Nat.le_of_ble_eq_true rfl) dX0_isClear_30 ⟨(Nat.le_of_ble_eq_true rfl), (Nat.le_of_ble_eq_true rfl)⟩ (fun r_4 u H locs hw_5 hP hD hS => ?_)
    have hw_5 : r_4 = (f_X0_squaredLength cn fx fy edge) := hw_5
    subst hw_5
    have hP : va_P D vwCl [(q0, .inr (0, [.ref q1, .ref q2, .int cn])), (q1, .inl (cI, 8, .inl fx)), (q2, .inl (cI, 8, .inl fy))] H := hP
    have hD : va_D A [(q0, .inr (0, [.ref q1, .ref q2, .int cn])), (q1, .inl (cI, 8, .inl fx)), (q2, .inl (cI, 8, .inl fy))] := hD
    refine lv_lmul hx hb dX0_isClear_33 ?_
    refine W.lcmp hx hb dX0_isClear_34 ?_
    refine lv_if_lt (tgt := 42) hx hb dX0_isClear_35 (by decide) (fun c_6 => ?_) (fun c_6 => ?_)
    · refine lv_iconst (v := 0) hx hb dX0_isClear_42 (by decide) ?_
      exact kk_rz () hx hb hr hlk dX0_isClear_43 hS (hP.sub [0, 1, 2] rfl) (hD.sub [0, 1, 2] (by decide) rfl) rfl (by show (0 : Int32) = f_X0_isClear cn fx fy edge x y mg; unfold f_X0_isClear; rw [if_neg c_3]; rw [if_pos c_6]; try rfl)
    · refine lv_iconst (v := 1) hx hb dX0_isClear_38 (by decide) ?_
      refine lv_goto (tgt := 43) hx hb dX0_isClear_39 (by decide) ?_
      exact kk_rz () hx hb hr hlk dX0_isClear_43 hS (hP.sub [0, 1, 2] rfl) (hD.sub [0, 1, 2] (by decide) rfl) rfl (by show (1 : Int32) = f_X0_isClear cn fx fy edge x y mg; unfold f_X0_isClear; rw [if_neg c_3]; rw [if_neg c_6]; try rfl)
def g_X0_hasOthersInside_lp (cn : Int32) (fx : Nat → Int32) (fy : Nat → Int32) (edge : Int32) : Nat → Int32 → Int32
  | 0, _ => 0
  | fuel + 1, ix => (if cn ≤ ix then (1 : Int32) else (if ix = edge then (g_X0_hasOthersInside_lp cn fx fy edge fuel (ix + 1)) else (if ix = (f_X0_after cn edge) then (g_X0_hasOthersInside_lp cn fx fy edge fuel (ix + 1)) else (if (0 : Int32) < (lg_cmp (f_X0_side cn fx fy edge (fx ix.toNatClampNeg) (fy ix.toNatClampNeg)) (0 : Int64)) then (g_X0_hasOthersInside_lp cn fx fy edge fuel (ix + 1)) else (0 : Int32)))))
def f_X0_hasOthersInside (cn : Int32) (fx : Nat → Int32) (fy : Nat → Int32) (edge : Int32) : Int32 := (g_X0_hasOthersInside_lp cn fx fy edge 9 (0 : Int32))
set_option maxHeartbeats 4000000 in
set_option maxRecDepth 100000 in
theorem lp_X0_hasOthersInside_lp (l : Launch) (D : va_G) (cI cZ : ClassId) (q0 : Nat) (q1 : Nat) (q2 : Nat) (cn : Int32) (fx : Nat → Int32) (fy : Nat → Int32) (edge : Int32) (hcn : kk_L cn 8) (hed : kk_L edge 7)  {p : Program} {e : Env} {s : State} {m : MethodId} {args : Array Value} {below : List Frame} {meth : Method} {c : Code} {A : Nat → Prop} (hX : kk_X p s m args meth c cX0_hasOthersInside 3 (some .boolean) yX0_hasOthersInside wsX0_hasOthersInside A D cI cZ) (FIN : Int32)  :
    ∀ (fuel : Nat) (ix : Int32) (H : Heap) (locs : List Loc) (ls : Array Slot), kk_I fuel ix cn → FIN = g_X0_hasOthersInside_lp cn fx fy edge fuel ix → va_P D vwCl [(q0, .inr (0, [.ref q1, .ref q2, .int cn])), (q1, .inl (cI, 8, .inl fx)), (q2, .inl (cI, 8, .inl fy))] H → va_D A [(q0, .inr (0, [.ref q1, .ref q2, .int cn])), (q1, .inl (cI, 8, .inl fx)), (q2, .inl (cI, 8, .inl fy))] → va_S A s.heap H locs → lv_has ls 3 [(0, .ref q0), (1, .int edge), (2, .int ix)] → W p l e ({ frames := 2, cells := 0, slots := 0, locals := 49 } : Room) s m args below meth c H locs 0 0 (MQ below (va_Qi (fun (r : Int32) (_ : Unit) => r = FIN) (fun _ t => kk_B D A [(q0, .inr (0, [.ref q1, .ref q2, .int cn])), (q1, .inl (cI, 8, .inl fx)), (q2, .inl (cI, 8, .inl fy))] t) A) args s 0 0 A) (F0 m 2 ls []) := by
  have hX0 := hX
  obtain ⟨hx, hb, hml, hown, hts, hr, hlk, hnm, hK, hA⟩ := hX
  have hown : s.vm.findClass RX0 = some m.cls := hown
  have hiX0 : ∀ w ∈ wsX00, w ∈ wsX0_hasOthersInside := by decide +kernel
  intro fuel
  induction fuel with
  | zero =>
    intro ix H locs ls hI
    exact absurd hI kk_I0
  | succ fuel ih =>
    intro ix H locs ls hI hF hP hD hS hl
    refine lv_iload_n hx hb dX0_hasOthersInside_2 rfl (lv_at hl 2 rfl) ?_
    refine lv_aload_n hx hb dX0_hasOthersInside_3 rfl (lv_at hl 0 rfl) ?_
    refine va_get (D := D) hx hb hts hiX0 hown hK.1 hP 0 rfl rfl 2 (by decide) (hts (.fieldLink RX0 18 "FencePilot$Corners" "count" "I") (by decide +kernel)) (fun _ h9 => h9) rfl dX0_hasOthersInside_4 ?_
    refine lv_icmp_ge (tgt := 54) hx hb dX0_hasOthersInside_7 (by decide) (fun c_1001 => ?_) (fun c_1001 => ?_)
    · refine lv_iconst (v := 1) hx hb dX0_hasOthersInside_54 (by decide) ?_
      exact kk_rz () hx hb hr hlk dX0_hasOthersInside_55 hS (hP.sub [0, 1, 2] rfl) (hD.sub [0, 1, 2] (by decide) rfl) rfl (by show (1 : Int32) = FIN; rw [hF, g_X0_hasOthersInside_lp]; rw [if_pos c_1001]; try rfl)
    · refine lv_iload_n hx hb dX0_hasOthersInside_10 rfl (lv_at hl 2 rfl) ?_
      refine lv_iload_n hx hb dX0_hasOthersInside_11 rfl (lv_at hl 1 rfl) ?_
      refine lv_icmp_eq (tgt := 48) hx hb dX0_hasOthersInside_12 (by decide) (fun c_1002 => ?_) (fun c_1002 => ?_)
      · refine lv_iinc (v := (ix + 1)) (lv' := [(2, .int (ix + 1)), (0, .ref q0), (1, .int edge)]) hx hb dX0_hasOthersInside_48 hl (k := 2) rfl (by first | rfl | decide) (by decide) rfl (fun ls hl => ?_)
        refine lv_goto (tgt := 2) hx hb dX0_hasOthersInside_51 (by decide) ?_
        exact ih (ix + 1) _ _ _ (kk_Iup hI c_1001) (by show FIN = (g_X0_hasOthersInside_lp cn fx fy edge fuel (ix + 1)); rw [hF, g_X0_hasOthersInside_lp]; rw [if_neg c_1001]; rw [if_pos c_1002]; try rfl) (hP.sub [0, 1, 2] rfl) (hD.sub [0, 1, 2] (by decide) rfl) hS (lv_sub hl [1, 2, 0] rfl)
      · refine lv_iload_n hx hb dX0_hasOthersInside_15 rfl (lv_at hl 2 rfl) ?_
        refine lv_aload_n hx hb dX0_hasOthersInside_16 rfl (lv_at hl 0 rfl) ?_
        refine lv_iload_n hx hb dX0_hasOthersInside_17 rfl (lv_at hl 1 rfl) ?_
        refine kk_cVi (wc := [(q0, .inr (0, [.ref q1, .ref q2, .int cn]))]) (wr := [(q1, .inl (cI, 8, .inl fx)), (q2, .inl (cI, 8, .inl fy))]) ⟨hx, hb, hml, hown, hts⟩ hK hP hD hS hA [0] [1, 2] (k_X0_after l D cI cZ q0 q1 q2 H.size cn edge) (cwV 1 hts gX0_hasOthersInside_X0_after rfl rfl rfl (by decide +kernel) ⟨(Nat.le_of_ble_eq_true rfl), (Nat.le_of_ble_eq_true rfl)⟩) rfl rfl (by decide) (by decide) (by decide) 0 0 rfl rfl rfl rfl hl.1 rfl (Nat.le_of_ble_eq_true rfl) dX0_hasOthersInside_18 ⟨(Nat.le_of_ble_eq_true rfl), (Nat.le_of_ble_eq_true rfl)⟩ (fun r_1003 u H locs hw_1004 hP hD hS => ?_)
        have hw_1004 : r_1003 = (f_X0_after cn edge) := hw_1004
        subst hw_1004
        have hP : va_P D vwCl [(q1, .inl (cI, 8, .inl fx)), (q2, .inl (cI, 8, .inl fy)), (q0, .inr (0, [.ref q1, .ref q2, .int cn]))] H := hP
        have hD : va_D A [(q1, .inl (cI, 8, .inl fx)), (q2, .inl (cI, 8, .inl fy)), (q0, .inr (0, [.ref q1, .ref q2, .int cn]))] := hD
        refine lv_icmp_eq (tgt := 48) hx hb dX0_hasOthersInside_21 (by decide) (fun c_1005 => ?_) (fun c_1005 => ?_)
        · refine lv_iinc (v := (ix + 1)) (lv' := [(2, .int (ix + 1)), (0, .ref q0), (1, .int edge)]) hx hb dX0_hasOthersInside_48 hl (k := 2) rfl (by first | rfl | decide) (by decide) rfl (fun ls hl => ?_)
          refine lv_goto (tgt := 2) hx hb dX0_hasOthersInside_51 (by decide) ?_
          exact ih (ix + 1) _ _ _ (kk_Iup hI c_1001) (by show FIN = (g_X0_hasOthersInside_lp cn fx fy edge fuel (ix + 1)); rw [hF, g_X0_hasOthersInside_lp]; rw [if_neg c_1001]; rw [if_neg c_1002]; rw [if_pos c_1005]; try rfl) (hP.sub [2, 0, 1] rfl) (hD.sub [2, 0, 1] (by decide) rfl) hS (lv_sub hl [1, 2, 0] rfl)
        · refine lv_aload_n hx hb dX0_hasOthersInside_24 rfl (lv_at hl 0 rfl) ?_
          refine lv_iload_n hx hb dX0_hasOthersInside_25 rfl (lv_at hl 1 rfl) ?_
          refine lv_aload_n hx hb dX0_hasOthersInside_26 rfl (lv_at hl 0 rfl) ?_
          refine va_get (D := D) hx hb hts hiX0 hown hK.1 hP 2 rfl rfl 0 (by decide) (hts (.fieldLink RX0 9 "FencePilot$Corners" "xs" "[I") (by decide +kernel)) (fun _ h9 => h9) rfl dX0_hasOthersInside_27 ?_
          refine lv_iload_n hx hb dX0_hasOthersInside_30 rfl (lv_at hl 2 rfl) ?_
          refine va_iald hx hb hK.1 hP 0 0 rfl rfl (kk_Iix hI c_1001 hcn.2) dX0_hasOthersInside_31 ?_
          refine lv_aload_n hx hb dX0_hasOthersInside_32 rfl (lv_at hl 0 rfl) ?_
          refine va_get (D := D) hx hb hts hiX0 hown hK.1 hP 2 rfl rfl 1 (by decide) (hts (.fieldLink RX0 15 "FencePilot$Corners" "ys" "[I") (by decide +kernel)) (fun _ h9 => h9) rfl dX0_hasOthersInside_33 ?_
          refine lv_iload_n hx hb dX0_hasOthersInside_36 rfl (lv_at hl 2 rfl) ?_
          refine va_iald hx hb hK.1 hP 1 0 rfl rfl (kk_Iix hI c_1001 hcn.2) dX0_hasOthersInside_37 ?_
          refine kk_cVl (wc := [(q0, .inr (0, [.ref q1, .ref q2, .int cn])), (q1, .inl (cI, 8, .inl fx)), (q2, .inl (cI, 8, .inl fy))]) (wr := []) ⟨hx, hb, hml, hown, hts⟩ hK hP hD hS hA [2, 0, 1] [] (k_X0_side l D cI cZ q0 q1 q2 H.size cn fx fy edge (fx ix.toNatClampNeg) (fy ix.toNatClampNeg) (by assumption) (by assumption)) (cwV 3 hts gX0_hasOthersInside_X0_side rfl rfl rfl (by decide +kernel) ⟨(Nat.le_of_ble_eq_true rfl), (Nat.le_of_ble_eq_true rfl)⟩) rfl rfl (by decide) (by decide) (by decide) 0 0 rfl rfl rfl rfl hl.1 rfl (Nat.le_of_ble_eq_true rfl) dX0_hasOthersInside_38 ⟨(Nat.le_of_ble_eq_true rfl), (Nat.le_of_ble_eq_true rfl)⟩ (fun r_1006 u H locs hw_1007 hP hD hS => ?_)
          have hw_1007 : r_1006 = (f_X0_side cn fx fy edge (fx ix.toNatClampNeg) (fy ix.toNatClampNeg)) := hw_1007
          subst hw_1007
          have hP : va_P D vwCl [(q0, .inr (0, [.ref q1, .ref q2, .int cn])), (q1, .inl (cI, 8, .inl fx)), (q2, .inl (cI, 8, .inl fy))] H := hP
          have hD : va_D A [(q0, .inr (0, [.ref q1, .ref q2, .int cn])), (q1, .inl (cI, 8, .inl fx)), (q2, .inl (cI, 8, .inl fy))] := hD
          refine lv_lconst (v := 0) hx hb dX0_hasOthersInside_41 (by decide) ?_
          refine W.lcmp hx hb dX0_hasOthersInside_42 ?_
          refine lv_if_gt (tgt := 48) hx hb dX0_hasOthersInside_43 (by decide) (fun c_1008 => ?_) (fun c_1008 => ?_)
          · refine lv_iinc (v := (ix + 1)) (lv' := [(2, .int (ix + 1)), (0, .ref q0), (1, .int edge)]) hx hb dX0_hasOthersInside_48 hl (k := 2) rfl (by first | rfl | decide) (by decide) rfl (fun ls hl => ?_)
            refine lv_goto (tgt := 2) hx hb dX0_hasOthersInside_51 (by decide) ?_
            exact ih (ix + 1) _ _ _ (kk_Iup hI c_1001) (by show FIN = (g_X0_hasOthersInside_lp cn fx fy edge fuel (ix + 1)); rw [hF, g_X0_hasOthersInside_lp]; rw [if_neg c_1001]; rw [if_neg c_1002]; rw [if_neg c_1005]; rw [if_pos c_1008]; try rfl) (hP.sub [0, 1, 2] rfl) (hD.sub [0, 1, 2] (by decide) rfl) hS (lv_sub hl [1, 2, 0] rfl)
          · refine lv_iconst (v := 0) hx hb dX0_hasOthersInside_46 (by decide) ?_
            exact kk_rz () hx hb hr hlk dX0_hasOthersInside_47 hS (hP.sub [0, 1, 2] rfl) (hD.sub [0, 1, 2] (by decide) rfl) rfl (by show (0 : Int32) = FIN; rw [hF, g_X0_hasOthersInside_lp]; rw [if_neg c_1001]; rw [if_neg c_1002]; rw [if_neg c_1005]; rw [if_neg c_1008]; try rfl)
set_option maxHeartbeats 4000000 in
set_option maxRecDepth 100000 in
theorem k_X0_hasOthersInside (l : Launch) (D : va_G) (cI cZ : ClassId) (q0 : Nat) (q1 : Nat) (q2 : Nat) (sz : Nat) (cn : Int32) (fx : Nat → Int32) (fy : Nat → Int32) (edge : Int32) (hcn : kk_L cn 8) (hed : kk_L edge 7) : kk_Mi l D cI cZ yX0_hasOthersInside wsX0_hasOthersInside ({ frames := 2, cells := 0, slots := 0, locals := 49 } : Room) [.ref q0, .int edge] sz [(q0, .inr (0, [.ref q1, .ref q2, .int cn])), (q1, .inl (cI, 8, .inl fx)), (q2, .inl (cI, 8, .inl fy))] (fun (r : Int32) (_ : Unit) => r = f_X0_hasOthersInside cn fx fy edge) (fun _ => [(q0, .inr (0, [.ref q1, .ref q2, .int cn])), (q1, .inl (cI, 8, .inl fx)), (q2, .inl (cI, 8, .inl fy))]) 0 0 := by
  refine kk_enti (cc := cX0_hasOthersInside) (maxL := 3) (ret := (some .boolean)) (by decide +kernel) rfl (Nat.le_of_ble_eq_true rfl) (fun p e s m args below meth c A ls hX hP hD hS hl => ?_)
  have hX0 := hX
  obtain ⟨hx, hb, hml, hown, hts, hr, hlk, hnm, hK, hA⟩ := hX
  have hown : s.vm.findClass RX0 = some m.cls := hown
  have hiX0 : ∀ w ∈ wsX00, w ∈ wsX0_hasOthersInside := by decide +kernel
  have hl : lv_has ls 3 [(0, .ref q0), (1, .int edge)] := hl
  refine lv_iconst (v := 0) hx hb dX0_hasOthersInside_0 (by decide) ?_
  refine lv_istore_n (lv' := [(2, .int (0 : Int32)), (0, .ref q0), (1, .int edge)]) hx hb dX0_hasOthersInside_1 rfl hl (by decide) rfl (fun ls hl => ?_)
  exact lp_X0_hasOthersInside_lp l D cI cZ q0 q1 q2 cn fx fy edge hcn hed hX0 (f_X0_hasOthersInside cn fx fy edge) 9 (0 : Int32) _ _ _ (kk_Ist 9 hcn.1 (Int.lt_of_le_of_lt hcn.2 (by decide))) (by show f_X0_hasOthersInside cn fx fy edge = (g_X0_hasOthersInside_lp cn fx fy edge 9 (0 : Int32)); unfold f_X0_hasOthersInside; rfl) (hP.sub [0, 1, 2] rfl) (hD.sub [0, 1, 2] (by decide) rfl) hS (lv_sub hl [1, 2, 0] rfl)
def g_X0_areConvex_lp (cn : Int32) (fx : Nat → Int32) (fy : Nat → Int32) : Nat → Int32 → Int32
  | 0, _ => 0
  | fuel + 1, ix => (if cn ≤ ix then (1 : Int32) else (if (lg_cmp (f_X0_squaredLength cn fx fy ix) (0 : Int64)) = (0 : Int32) then (0 : Int32) else (if (f_X0_hasOthersInside cn fx fy ix) = (0 : Int32) then (0 : Int32) else (g_X0_areConvex_lp cn fx fy fuel (ix + 1)))))
def f_X0_areConvex (cn : Int32) (fx : Nat → Int32) (fy : Nat → Int32) : Int32 := (g_X0_areConvex_lp cn fx fy 9 (0 : Int32))
set_option maxHeartbeats 4000000 in
set_option maxRecDepth 100000 in
theorem lp_X0_areConvex_lp (l : Launch) (D : va_G) (cI cZ : ClassId) (q0 : Nat) (q1 : Nat) (q2 : Nat) (cn : Int32) (fx : Nat → Int32) (fy : Nat → Int32) (hcn : kk_L cn 8)  {p : Program} {e : Env} {s : State} {m : MethodId} {args : Array Value} {below : List Frame} {meth : Method} {c : Code} {A : Nat → Prop} (hX : kk_X p s m args meth c cX0_areConvex 2 (some .boolean) yX0_areConvex wsX0_areConvex A D cI cZ) (FIN : Int32)  :
    ∀ (fuel : Nat) (ix : Int32) (H : Heap) (locs : List Loc) (ls : Array Slot), kk_I fuel ix cn → FIN = g_X0_areConvex_lp cn fx fy fuel ix → va_P D vwCl [(q0, .inr (0, [.ref q1, .ref q2, .int cn])), (q1, .inl (cI, 8, .inl fx)), (q2, .inl (cI, 8, .inl fy))] H → va_D A [(q0, .inr (0, [.ref q1, .ref q2, .int cn])), (q1, .inl (cI, 8, .inl fx)), (q2, .inl (cI, 8, .inl fy))] → va_S A s.heap H locs → lv_has ls 2 [(0, .ref q0), (1, .int ix)] → W p l e ({ frames := 3, cells := 0, slots := 0, locals := 71 } : Room) s m args below meth c H locs 0 0 (MQ below (va_Qi (fun (r : Int32) (_ : Unit) => r = FIN) (fun _ t => kk_B D A [(q0, .inr (0, [.ref q1, .ref q2, .int cn])), (q1, .inl (cI, 8, .inl fx)), (q2, .inl (cI, 8, .inl fy))] t) A) args s 0 0 A) (F0 m 2 ls []) := by
  have hX0 := hX
  obtain ⟨hx, hb, hml, hown, hts, hr, hlk, hnm, hK, hA⟩ := hX
  have hown : s.vm.findClass RX0 = some m.cls := hown
  have hiX0 : ∀ w ∈ wsX00, w ∈ wsX0_areConvex := by decide +kernel
  intro fuel
  induction fuel with
  | zero =>
    intro ix H locs ls hI
    exact absurd hI kk_I0
  | succ fuel ih =>
    intro ix H locs ls hI hF hP hD hS hl
    refine lv_iload_n hx hb dX0_areConvex_2 rfl (lv_at hl 1 rfl) ?_
    refine lv_aload_n hx hb dX0_areConvex_3 rfl (lv_at hl 0 rfl) ?_
    refine va_get (D := D) hx hb hts hiX0 hown hK.1 hP 0 rfl rfl 2 (by decide) (hts (.fieldLink RX0 18 "FencePilot$Corners" "count" "I") (by decide +kernel)) (fun _ h9 => h9) rfl dX0_areConvex_4 ?_
    refine lv_icmp_ge (tgt := 36) hx hb dX0_areConvex_7 (by decide) (fun c_1001 => ?_) (fun c_1001 => ?_)
    · refine lv_iconst (v := 1) hx hb dX0_areConvex_36 (by decide) ?_
      exact kk_rz () hx hb hr hlk dX0_areConvex_37 hS (hP.sub [0, 1, 2] rfl) (hD.sub [0, 1, 2] (by decide) rfl) rfl (by show (1 : Int32) = FIN; rw [hF, g_X0_areConvex_lp]; rw [if_pos c_1001]; try rfl)
    · refine lv_aload_n hx hb dX0_areConvex_10 rfl (lv_at hl 0 rfl) ?_
      refine lv_iload_n hx hb dX0_areConvex_11 rfl (lv_at hl 1 rfl) ?_
      refine kk_cVl (wc := [(q0, .inr (0, [.ref q1, .ref q2, .int cn])), (q1, .inl (cI, 8, .inl fx)), (q2, .inl (cI, 8, .inl fy))]) (wr := []) ⟨hx, hb, hml, hown, hts⟩ hK hP hD hS hA [0, 1, 2] [] (k_X0_squaredLength l D cI cZ q0 q1 q2 H.size cn fx fy ix (by assumption) (kk_IL hI c_1001 hcn.2)) (cwV 1 hts gX0_areConvex_X0_squaredLength rfl rfl rfl (by decide +kernel) ⟨(Nat.le_of_ble_eq_true rfl), (Nat.le_of_ble_eq_true rfl)⟩) rfl rfl (by decide) (by decide) (by decide) 0 0 rfl rfl rfl rfl hl.1 rfl (Nat.le_of_ble_eq_true rfl) dX0_areConvex_12 ⟨(Nat.le_of_ble_eq_true rfl), (Nat.le_of_ble_eq_true rfl)⟩ (fun r_1002 u H locs hw_1003 hP hD hS => ?_)
      have hw_1003 : r_1002 = (f_X0_squaredLength cn fx fy ix) := hw_1003
      subst hw_1003
      have hP : va_P D vwCl [(q0, .inr (0, [.ref q1, .ref q2, .int cn])), (q1, .inl (cI, 8, .inl fx)), (q2, .inl (cI, 8, .inl fy))] H := hP
      have hD : va_D A [(q0, .inr (0, [.ref q1, .ref q2, .int cn])), (q1, .inl (cI, 8, .inl fx)), (q2, .inl (cI, 8, .inl fy))] := hD
      refine lv_lconst (v := 0) hx hb dX0_areConvex_15 (by decide) ?_
      refine W.lcmp hx hb dX0_areConvex_16 ?_
      refine lv_if_eq (tgt := 28) hx hb dX0_areConvex_17 (by decide) (fun c_1004 => ?_) (fun c_1004 => ?_)
      · refine lv_iconst (v := 0) hx hb dX0_areConvex_28 (by decide) ?_
        exact kk_rz () hx hb hr hlk dX0_areConvex_29 hS (hP.sub [0, 1, 2] rfl) (hD.sub [0, 1, 2] (by decide) rfl) rfl (by show (0 : Int32) = FIN; rw [hF, g_X0_areConvex_lp]; rw [if_neg c_1001]; rw [if_pos c_1004]; try rfl)
      · refine lv_aload_n hx hb dX0_areConvex_20 rfl (lv_at hl 0 rfl) ?_
        refine lv_iload_n hx hb dX0_areConvex_21 rfl (lv_at hl 1 rfl) ?_
        refine kk_cVi (wc := [(q0, .inr (0, [.ref q1, .ref q2, .int cn])), (q1, .inl (cI, 8, .inl fx)), (q2, .inl (cI, 8, .inl fy))]) (wr := []) ⟨hx, hb, hml, hown, hts⟩ hK hP hD hS hA [0, 1, 2] [] (k_X0_hasOthersInside l D cI cZ q0 q1 q2 H.size cn fx fy ix (by assumption) (kk_IL hI c_1001 hcn.2)) (cwV 1 hts gX0_areConvex_X0_hasOthersInside rfl rfl rfl (by decide +kernel) ⟨(Nat.le_of_ble_eq_true rfl), (Nat.le_of_ble_eq_true rfl)⟩) rfl rfl (by decide) (by decide) (by decide) 0 0 rfl rfl rfl rfl hl.1 rfl (Nat.le_of_ble_eq_true rfl) dX0_areConvex_22 ⟨(Nat.le_of_ble_eq_true rfl), (Nat.le_of_ble_eq_true rfl)⟩ (fun r_1005 u H locs hw_1006 hP hD hS => ?_)
        have hw_1006 : r_1005 = (f_X0_hasOthersInside cn fx fy ix) := hw_1006
        subst hw_1006
        have hP : va_P D vwCl [(q0, .inr (0, [.ref q1, .ref q2, .int cn])), (q1, .inl (cI, 8, .inl fx)), (q2, .inl (cI, 8, .inl fy))] H := hP
        have hD : va_D A [(q0, .inr (0, [.ref q1, .ref q2, .int cn])), (q1, .inl (cI, 8, .inl fx)), (q2, .inl (cI, 8, .inl fy))] := hD
        refine lv_if_ne (tgt := 30) hx hb dX0_areConvex_25 (by decide) (fun c_1007 => ?_) (fun c_1007 => ?_)
        · refine lv_iinc (v := (ix + 1)) (lv' := [(1, .int (ix + 1)), (0, .ref q0)]) hx hb dX0_areConvex_30 hl (k := 1) rfl (by first | rfl | decide) (by decide) rfl (fun ls hl => ?_)
          refine lv_goto (tgt := 2) hx hb dX0_areConvex_33 (by decide) ?_
          exact ih (ix + 1) _ _ _ (kk_Iup hI c_1001) (by show FIN = (g_X0_areConvex_lp cn fx fy fuel (ix + 1)); rw [hF, g_X0_areConvex_lp]; rw [if_neg c_1001]; rw [if_neg c_1004]; rw [if_neg c_1007]; try rfl) (hP.sub [0, 1, 2] rfl) (hD.sub [0, 1, 2] (by decide) rfl) hS (lv_sub hl [1, 0] rfl)
        · refine lv_iconst (v := 0) hx hb dX0_areConvex_28 (by decide) ?_
          exact kk_rz () hx hb hr hlk dX0_areConvex_29 hS (hP.sub [0, 1, 2] rfl) (hD.sub [0, 1, 2] (by decide) rfl) rfl (by show (0 : Int32) = FIN; rw [hF, g_X0_areConvex_lp]; rw [if_neg c_1001]; rw [if_neg c_1004]; rw [if_pos c_1007]; try rfl)
set_option maxHeartbeats 4000000 in
set_option maxRecDepth 100000 in
theorem k_X0_areConvex (l : Launch) (D : va_G) (cI cZ : ClassId) (q0 : Nat) (q1 : Nat) (q2 : Nat) (sz : Nat) (cn : Int32) (fx : Nat → Int32) (fy : Nat → Int32)  (hcn : kk_L cn 8) : kk_Mi l D cI cZ yX0_areConvex wsX0_areConvex ({ frames := 3, cells := 0, slots := 0, locals := 71 } : Room) [.ref q0] sz [(q0, .inr (0, [.ref q1, .ref q2, .int cn])), (q1, .inl (cI, 8, .inl fx)), (q2, .inl (cI, 8, .inl fy))] (fun (r : Int32) (_ : Unit) => r = f_X0_areConvex cn fx fy) (fun _ => [(q0, .inr (0, [.ref q1, .ref q2, .int cn])), (q1, .inl (cI, 8, .inl fx)), (q2, .inl (cI, 8, .inl fy))]) 0 0 := by
  refine kk_enti (cc := cX0_areConvex) (maxL := 2) (ret := (some .boolean)) (by decide +kernel) rfl (Nat.le_of_ble_eq_true rfl) (fun p e s m args below meth c A ls hX hP hD hS hl => ?_)
  have hX0 := hX
  obtain ⟨hx, hb, hml, hown, hts, hr, hlk, hnm, hK, hA⟩ := hX
  have hown : s.vm.findClass RX0 = some m.cls := hown
  have hiX0 : ∀ w ∈ wsX00, w ∈ wsX0_areConvex := by decide +kernel
  have hl : lv_has ls 2 [(0, .ref q0)] := hl
  refine lv_iconst (v := 0) hx hb dX0_areConvex_0 (by decide) ?_
  refine lv_istore_n (lv' := [(1, .int (0 : Int32)), (0, .ref q0)]) hx hb dX0_areConvex_1 rfl hl (by decide) rfl (fun ls hl => ?_)
  exact lp_X0_areConvex_lp l D cI cZ q0 q1 q2 cn fx fy hcn hX0 (f_X0_areConvex cn fx fy) 9 (0 : Int32) _ _ _ (kk_Ist 9 hcn.1 (Int.lt_of_le_of_lt hcn.2 (by decide))) (by show f_X0_areConvex cn fx fy = (g_X0_areConvex_lp cn fx fy 9 (0 : Int32)); unfold f_X0_areConvex; rfl) (hP.sub [0, 1, 2] rfl) (hD.sub [0, 1, 2] (by decide) rfl) hS (lv_sub hl [1, 0] rfl)
def g_X0_leaveClear_lp (cn : Int32) (fx : Nat → Int32) (fy : Nat → Int32) (x : Int32) (y : Int32) (mg : Int32) : Nat → Int32 → Int32
  | 0, _ => 0
  | fuel + 1, ix => (if cn ≤ ix then (1 : Int32) else (if (f_X0_isClear cn fx fy ix x y mg) = (0 : Int32) then (0 : Int32) else (g_X0_leaveClear_lp cn fx fy x y mg fuel (ix + 1))))
def f_X0_leaveClear (cn : Int32) (fx : Nat → Int32) (fy : Nat → Int32) (x : Int32) (y : Int32) (mg : Int32) : Int32 := (if (f_X0_areEnough cn) = (0 : Int32) then (0 : Int32) else (g_X0_leaveClear_lp cn fx fy x y mg 9 (0 : Int32)))
set_option maxHeartbeats 4000000 in
set_option maxRecDepth 100000 in
theorem lp_X0_leaveClear_lp (l : Launch) (D : va_G) (cI cZ : ClassId) (q0 : Nat) (q1 : Nat) (q2 : Nat) (cn : Int32) (fx : Nat → Int32) (fy : Nat → Int32) (x : Int32) (y : Int32) (mg : Int32) (hcn : kk_L cn 8)  {p : Program} {e : Env} {s : State} {m : MethodId} {args : Array Value} {below : List Frame} {meth : Method} {c : Code} {A : Nat → Prop} (hX : kk_X p s m args meth c cX0_leaveClear 5 (some .boolean) yX0_leaveClear wsX0_leaveClear A D cI cZ) (FIN : Int32)  :
    ∀ (fuel : Nat) (ix : Int32) (H : Heap) (locs : List Loc) (ls : Array Slot), kk_I fuel ix cn → FIN = g_X0_leaveClear_lp cn fx fy x y mg fuel ix → va_P D vwCl [(q0, .inr (0, [.ref q1, .ref q2, .int cn])), (q1, .inl (cI, 8, .inl fx)), (q2, .inl (cI, 8, .inl fy))] H → va_D A [(q0, .inr (0, [.ref q1, .ref q2, .int cn])), (q1, .inl (cI, 8, .inl fx)), (q2, .inl (cI, 8, .inl fy))] → va_S A s.heap H locs → lv_has ls 5 [(0, .ref q0), (1, .int x), (2, .int y), (3, .int mg), (4, .int ix)] → W p l e ({ frames := 3, cells := 0, slots := 0, locals := 75 } : Room) s m args below meth c H locs 0 0 (MQ below (va_Qi (fun (r : Int32) (_ : Unit) => r = FIN) (fun _ t => kk_B D A [(q0, .inr (0, [.ref q1, .ref q2, .int cn])), (q1, .inl (cI, 8, .inl fx)), (q2, .inl (cI, 8, .inl fy))] t) A) args s 0 0 A) (F0 m 12 ls []) := by
  have hX0 := hX
  obtain ⟨hx, hb, hml, hown, hts, hr, hlk, hnm, hK, hA⟩ := hX
  have hown : s.vm.findClass RX0 = some m.cls := hown
  have hiX0 : ∀ w ∈ wsX00, w ∈ wsX0_leaveClear := by decide +kernel
  intro fuel
  induction fuel with
  | zero =>
    intro ix H locs ls hI
    exact absurd hI kk_I0
  | succ fuel ih =>
    intro ix H locs ls hI hF hP hD hS hl
    refine lv_iload hx hb dX0_leaveClear_12 (lv_at hl 4 rfl) ?_
    refine lv_aload_n hx hb dX0_leaveClear_14 rfl (lv_at hl 0 rfl) ?_
    refine va_get (D := D) hx hb hts hiX0 hown hK.1 hP 0 rfl rfl 2 (by decide) (hts (.fieldLink RX0 18 "FencePilot$Corners" "count" "I") (by decide +kernel)) (fun _ h9 => h9) rfl dX0_leaveClear_15 ?_
    refine lv_icmp_ge (tgt := 41) hx hb dX0_leaveClear_18 (by decide) (fun c_1001 => ?_) (fun c_1001 => ?_)
    · refine lv_iconst (v := 1) hx hb dX0_leaveClear_41 (by decide) ?_
      exact kk_rz () hx hb hr hlk dX0_leaveClear_42 hS (hP.sub [0, 1, 2] rfl) (hD.sub [0, 1, 2] (by decide) rfl) rfl (by show (1 : Int32) = FIN; rw [hF, g_X0_leaveClear_lp]; rw [if_pos c_1001]; try rfl)
    · refine lv_aload_n hx hb dX0_leaveClear_21 rfl (lv_at hl 0 rfl) ?_
      refine lv_iload hx hb dX0_leaveClear_22 (lv_at hl 4 rfl) ?_
      refine lv_iload_n hx hb dX0_leaveClear_24 rfl (lv_at hl 1 rfl) ?_
      refine lv_iload_n hx hb dX0_leaveClear_25 rfl (lv_at hl 2 rfl) ?_
      refine lv_iload_n hx hb dX0_leaveClear_26 rfl (lv_at hl 3 rfl) ?_
      refine kk_cVi (wc := [(q0, .inr (0, [.ref q1, .ref q2, .int cn])), (q1, .inl (cI, 8, .inl fx)), (q2, .inl (cI, 8, .inl fy))]) (wr := []) ⟨hx, hb, hml, hown, hts⟩ hK hP hD hS hA [0, 1, 2] [] (k_X0_isClear l D cI cZ q0 q1 q2 H.size cn fx fy ix x y mg (by assumption) (kk_IL hI c_1001 hcn.2)) (cwV 4 hts gX0_leaveClear_X0_isClear rfl rfl rfl (by decide +kernel) ⟨(Nat.le_of_ble_eq_true rfl), (Nat.le_of_ble_eq_true rfl)⟩) rfl rfl (by decide) (by decide) (by decide) 0 0 rfl rfl rfl rfl hl.1 rfl (Nat.le_of_ble_eq_true rfl) dX0_leaveClear_27 ⟨(Nat.le_of_ble_eq_true rfl), (Nat.le_of_ble_eq_true rfl)⟩ (fun r_1002 u H locs hw_1003 hP hD hS => ?_)
      have hw_1003 : r_1002 = (f_X0_isClear cn fx fy ix x y mg) := hw_1003
      subst hw_1003
      have hP : va_P D vwCl [(q0, .inr (0, [.ref q1, .ref q2, .int cn])), (q1, .inl (cI, 8, .inl fx)), (q2, .inl (cI, 8, .inl fy))] H := hP
      have hD : va_D A [(q0, .inr (0, [.ref q1, .ref q2, .int cn])), (q1, .inl (cI, 8, .inl fx)), (q2, .inl (cI, 8, .inl fy))] := hD
      refine lv_if_ne (tgt := 35) hx hb dX0_leaveClear_30 (by decide) (fun c_1004 => ?_) (fun c_1004 => ?_)
      · refine lv_iinc (v := (ix + 1)) (lv' := [(4, .int (ix + 1)), (0, .ref q0), (1, .int x), (2, .int y), (3, .int mg)]) hx hb dX0_leaveClear_35 hl (k := 4) rfl (by first | rfl | decide) (by decide) rfl (fun ls hl => ?_)
        refine lv_goto (tgt := 12) hx hb dX0_leaveClear_38 (by decide) ?_
        exact ih (ix + 1) _ _ _ (kk_Iup hI c_1001) (by show FIN = (g_X0_leaveClear_lp cn fx fy x y mg fuel (ix + 1)); rw [hF, g_X0_leaveClear_lp]; rw [if_neg c_1001]; rw [if_neg c_1004]; try rfl) (hP.sub [0, 1, 2] rfl) (hD.sub [0, 1, 2] (by decide) rfl) hS (lv_sub hl [1, 2, 3, 4, 0] rfl)
      · refine lv_iconst (v := 0) hx hb dX0_leaveClear_33 (by decide) ?_
        exact kk_rz () hx hb hr hlk dX0_leaveClear_34 hS (hP.sub [0, 1, 2] rfl) (hD.sub [0, 1, 2] (by decide) rfl) rfl (by show (0 : Int32) = FIN; rw [hF, g_X0_leaveClear_lp]; rw [if_neg c_1001]; rw [if_pos c_1004]; try rfl)
set_option maxHeartbeats 4000000 in
set_option maxRecDepth 100000 in
theorem k_X0_leaveClear (l : Launch) (D : va_G) (cI cZ : ClassId) (q0 : Nat) (q1 : Nat) (q2 : Nat) (sz : Nat) (cn : Int32) (fx : Nat → Int32) (fy : Nat → Int32) (x : Int32) (y : Int32) (mg : Int32) (hcn : kk_L cn 8) : kk_Mi l D cI cZ yX0_leaveClear wsX0_leaveClear ({ frames := 3, cells := 0, slots := 0, locals := 75 } : Room) [.ref q0, .int x, .int y, .int mg] sz [(q0, .inr (0, [.ref q1, .ref q2, .int cn])), (q1, .inl (cI, 8, .inl fx)), (q2, .inl (cI, 8, .inl fy))] (fun (r : Int32) (_ : Unit) => r = f_X0_leaveClear cn fx fy x y mg) (fun _ => [(q0, .inr (0, [.ref q1, .ref q2, .int cn])), (q1, .inl (cI, 8, .inl fx)), (q2, .inl (cI, 8, .inl fy))]) 0 0 := by
  refine kk_enti (cc := cX0_leaveClear) (maxL := 5) (ret := (some .boolean)) (by decide +kernel) rfl (Nat.le_of_ble_eq_true rfl) (fun p e s m args below meth c A ls hX hP hD hS hl => ?_)
  have hX0 := hX
  obtain ⟨hx, hb, hml, hown, hts, hr, hlk, hnm, hK, hA⟩ := hX
  have hown : s.vm.findClass RX0 = some m.cls := hown
  have hiX0 : ∀ w ∈ wsX00, w ∈ wsX0_leaveClear := by decide +kernel
  have hl : lv_has ls 5 [(0, .ref q0), (1, .int x), (2, .int y), (3, .int mg)] := hl
  refine lv_aload_n hx hb dX0_leaveClear_0 rfl (lv_at hl 0 rfl) ?_
  refine kk_cVi (wc := [(q0, .inr (0, [.ref q1, .ref q2, .int cn]))]) (wr := [(q1, .inl (cI, 8, .inl fx)), (q2, .inl (cI, 8, .inl fy))]) ⟨hx, hb, hml, hown, hts⟩ hK hP hD hS hA [0] [1, 2] (k_X0_areEnough l D cI cZ q0 q1 q2 s.heap.size cn) (cwV 0 hts gX0_leaveClear_X0_areEnough rfl rfl rfl (by decide +kernel) ⟨(Nat.le_of_ble_eq_true rfl), (Nat.le_of_ble_eq_true rfl)⟩) rfl rfl (by decide) (by decide) (by decide) 0 0 rfl rfl rfl rfl hl.1 rfl (Nat.le_of_ble_eq_true rfl) dX0_leaveClear_1 ⟨(Nat.le_of_ble_eq_true rfl), (Nat.le_of_ble_eq_true rfl)⟩ (fun r_1 u H locs hw_2 hP hD hS => ?_)
  have hw_2 : r_1 = (f_X0_areEnough cn) := hw_2
  subst hw_2
  have hP : va_P D vwCl [(q1, .inl (cI, 8, .inl fx)), (q2, .inl (cI, 8, .inl fy)), (q0, .inr (0, [.ref q1, .ref q2, .int cn]))] H := hP
  have hD : va_D A [(q1, .inl (cI, 8, .inl fx)), (q2, .inl (cI, 8, .inl fy)), (q0, .inr (0, [.ref q1, .ref q2, .int cn]))] := hD
  refine lv_if_ne (tgt := 9) hx hb dX0_leaveClear_4 (by decide) (fun c_3 => ?_) (fun c_3 => ?_)
  · refine lv_iconst (v := 0) hx hb dX0_leaveClear_9 (by decide) ?_
    refine lv_istore (lv' := [(4, .int (0 : Int32)), (0, .ref q0), (1, .int x), (2, .int y), (3, .int mg)]) hx hb dX0_leaveClear_10 hl (by decide) rfl (fun ls hl => ?_)
    exact lp_X0_leaveClear_lp l D cI cZ q0 q1 q2 cn fx fy x y mg hcn hX0 (f_X0_leaveClear cn fx fy x y mg) 9 (0 : Int32) _ _ _ (kk_Ist 9 hcn.1 (Int.lt_of_le_of_lt hcn.2 (by decide))) (by show f_X0_leaveClear cn fx fy x y mg = (g_X0_leaveClear_lp cn fx fy x y mg 9 (0 : Int32)); unfold f_X0_leaveClear; rw [if_neg c_3]; try rfl) (hP.sub [2, 0, 1] rfl) (hD.sub [2, 0, 1] (by decide) rfl) hS (lv_sub hl [1, 2, 3, 4, 0] rfl)
  · refine lv_iconst (v := 0) hx hb dX0_leaveClear_7 (by decide) ?_
    exact kk_rz () hx hb hr hlk dX0_leaveClear_8 hS (hP.sub [2, 0, 1] rfl) (hD.sub [2, 0, 1] (by decide) rfl) rfl (by show (0 : Int32) = f_X0_leaveClear cn fx fy x y mg; unfold f_X0_leaveClear; rw [if_pos c_3]; try rfl)
end
section
def f_X1_isEmpty (cn : Int32) : Int32 := (if cn = (0 : Int32) then (1 : Int32) else (0 : Int32))
set_option maxHeartbeats 4000000 in
set_option maxRecDepth 100000 in
theorem k_X1_isEmpty (l : Launch) (D : va_G) (cI cZ : ClassId) (q0 : Nat) (q1 : Nat) (sz : Nat) (cn : Int32)   : kk_Mi l D cI cZ yX1_isEmpty wsX1_isEmpty ({ frames := 0, cells := 0, slots := 0, locals := 0 } : Room) [.ref q0] sz [(q0, .inr (1, [.ref q1, .int cn]))] (fun (r : Int32) (_ : Unit) => r = f_X1_isEmpty cn) (fun _ => [(q0, .inr (1, [.ref q1, .int cn]))]) 0 0 := by
  refine kk_enti (cc := cX1_isEmpty) (maxL := 1) (ret := (some .boolean)) (by decide +kernel) rfl (Nat.le_of_ble_eq_true rfl) (fun p e s m args below meth c A ls hX hP hD hS hl => ?_)
  obtain ⟨hx, hb, hml, hown, hts, hr, hlk, hnm, hK, hA⟩ := hX
  have hown : s.vm.findClass RX1 = some m.cls := hown
  have hiX1 : ∀ w ∈ wsX10, w ∈ wsX1_isEmpty := by decide +kernel
  have hl : lv_has ls 1 [(0, .ref q0)] := hl
  refine lv_aload_n hx hb dX1_isEmpty_0 rfl (lv_at hl 0 rfl) ?_
  refine va_get (D := D) hx hb hts hiX1 hown hK.1 hP 0 rfl rfl 1 (by decide) (hts (.fieldLink RX1 15 "FencePilot$Items" "count" "I") (by decide +kernel)) (fun _ h9 => h9) rfl dX1_isEmpty_1 ?_
  refine lv_if_ne (tgt := 11) hx hb dX1_isEmpty_4 (by decide) (fun c_1 => ?_) (fun c_1 => ?_)
  · refine lv_iconst (v := 0) hx hb dX1_isEmpty_11 (by decide) ?_
    exact kk_rz () hx hb hr hlk dX1_isEmpty_12 hS (hP.sub [0] rfl) (hD.sub [0] (by decide) rfl) rfl (by show (0 : Int32) = f_X1_isEmpty cn; unfold f_X1_isEmpty; rw [if_neg c_1]; try rfl)
  · refine lv_iconst (v := 1) hx hb dX1_isEmpty_7 (by decide) ?_
    refine lv_goto (tgt := 12) hx hb dX1_isEmpty_8 (by decide) ?_
    exact kk_rz () hx hb hr hlk dX1_isEmpty_12 hS (hP.sub [0] rfl) (hD.sub [0] (by decide) rfl) rfl (by show (1 : Int32) = f_X1_isEmpty cn; unfold f_X1_isEmpty; rw [if_pos c_1]; try rfl)
def f_X1_clear (cn : Int32) : Int32 := (0 : Int32)
set_option maxHeartbeats 4000000 in
set_option maxRecDepth 100000 in
theorem k_X1_clear (l : Launch) (D : va_G) (cI cZ : ClassId) (q0 : Nat) (q1 : Nat) (sz : Nat) (cn : Int32)   : kk_Mv l D cI cZ yX1_clear wsX1_clear ({ frames := 0, cells := 0, slots := 0, locals := 0 } : Room) [.ref q0] sz [(q0, .inr (1, [.ref q1, .int cn]))] (fun (u : Int32) => u = f_X1_clear cn) (fun u => [(q0, .inr (1, [.ref q1, .int u]))]) 0 0 := by
  refine kk_entv (cc := cX1_clear) (maxL := 1) (ret := none) (by decide +kernel) rfl (Nat.le_of_ble_eq_true rfl) (fun p e s m args below meth c A ls hX hP hD hS hl => ?_)
  obtain ⟨hx, hb, hml, hown, hts, hr, hlk, hnm, hK, hA⟩ := hX
  have hown : s.vm.findClass RX1 = some m.cls := hown
  have hiX1 : ∀ w ∈ wsX10, w ∈ wsX1_clear := by decide +kernel
  have hl : lv_has ls 1 [(0, .ref q0)] := hl
  refine lv_aload_n hx hb dX1_clear_0 rfl (lv_at hl 0 rfl) ?_
  refine lv_iconst (v := 0) hx hb dX1_clear_1 (by decide) ?_
  refine va_put (D := D) (ci := 1) (v := .int (0 : Int32)) (ty := .int) (C := RX1) (T := TX1) (N := 2) hx hb hts hiX1 tyX1 tyX1_ok nmX1 hown hK.1 hP hD hS 0 rfl rfl 1 (by decide) (hts (.fieldLink RX1 15 "FencePilot$Items" "count" "I") (by decide +kernel)) (fun _ h9 => h9) rfl (by decide +kernel) rfl rfl (Nat.le_of_ble_eq_true rfl) dX1_clear_2 (fun H locs hP hD hS => ?_)
  have hP : va_P D vwCl [(q0, .inr (1, [.ref q1, .int (0 : Int32)]))] H := hP
  have hD : va_D A [(q0, .inr (1, [.ref q1, .int (0 : Int32)]))] := hD
  exact kk_rv (0 : Int32) hx hb hr hlk dX1_clear_5 hS (hP.sub [0] rfl) (hD.sub [0] (by decide) rfl) (by show (0 : Int32) = f_X1_clear cn; unfold f_X1_clear; rfl)
def f_X1_add (cn : Int32) (fr : Nat → Int32) (x : Int32) (y : Int32) (z : Int32) : (Nat → Int32) × Int32 := (if (8 : Int32) ≤ cn then (fr, cn) else ((upd (upd (upd fr ((cn * (3 : Int32)) + (0 : Int32)).toNatClampNeg x) ((cn * (3 : Int32)) + (1 : Int32)).toNatClampNeg y) ((cn * (3 : Int32)) + (2 : Int32)).toNatClampNeg z), (cn + (1 : Int32))))
set_option maxHeartbeats 4000000 in
set_option maxRecDepth 100000 in
theorem k_X1_add (l : Launch) (D : va_G) (cI cZ : ClassId) (q0 : Nat) (q1 : Nat) (sz : Nat) (cn : Int32) (fr : Nat → Int32) (x : Int32) (y : Int32) (z : Int32) (hcn : kk_L cn 8) : kk_Mv l D cI cZ yX1_add wsX1_add ({ frames := 0, cells := 0, slots := 0, locals := 0 } : Room) [.ref q0, .int x, .int y, .int z] sz [(q0, .inr (1, [.ref q1, .int cn])), (q1, .inl (cI, 24, .inl fr))] (fun (u : (Nat → Int32) × Int32) => u = f_X1_add cn fr x y z) (fun u => [(q0, .inr (1, [.ref q1, .int u.2])), (q1, .inl (cI, 24, .inl u.1))]) 0 0 := by
  refine kk_entv (cc := cX1_add) (maxL := 4) (ret := none) (by decide +kernel) rfl (Nat.le_of_ble_eq_true rfl) (fun p e s m args below meth c A ls hX hP hD hS hl => ?_)
  obtain ⟨hx, hb, hml, hown, hts, hr, hlk, hnm, hK, hA⟩ := hX
  have hown : s.vm.findClass RX1 = some m.cls := hown
  have hiX1 : ∀ w ∈ wsX10, w ∈ wsX1_add := by decide +kernel
  have hl : lv_has ls 4 [(0, .ref q0), (1, .int x), (2, .int y), (3, .int z)] := hl
  refine lv_aload_n hx hb dX1_add_0 rfl (lv_at hl 0 rfl) ?_
  refine va_get (D := D) hx hb hts hiX1 hown hK.1 hP 0 rfl rfl 1 (by decide) (hts (.fieldLink RX1 15 "FencePilot$Items" "count" "I") (by decide +kernel)) (fun _ h9 => h9) rfl dX1_add_1 ?_
  refine lv_bipush (v := 8) hx hb dX1_add_4 (by decide) ?_
  refine lv_icmp_ge (tgt := 61) hx hb dX1_add_6 (by decide) (fun c_1 => ?_) (fun c_1 => ?_)
  · exact kk_rv (fr, cn) hx hb hr hlk dX1_add_61 hS (hP.sub [0, 1] rfl) (hD.sub [0, 1] (by decide) rfl) (by show (fr, cn) = f_X1_add cn fr x y z; unfold f_X1_add; rw [if_pos c_1]; try rfl)
  · refine lv_aload_n hx hb dX1_add_9 rfl (lv_at hl 0 rfl) ?_
    refine va_get (D := D) hx hb hts hiX1 hown hK.1 hP 0 rfl rfl 0 (by decide) (hts (.fieldLink RX1 9 "FencePilot$Items" "row" "[I") (by decide +kernel)) (fun _ h9 => h9) rfl dX1_add_10 ?_
    refine lv_aload_n hx hb dX1_add_13 rfl (lv_at hl 0 rfl) ?_
    refine va_get (D := D) hx hb hts hiX1 hown hK.1 hP 0 rfl rfl 1 (by decide) (hts (.fieldLink RX1 15 "FencePilot$Items" "count" "I") (by decide +kernel)) (fun _ h9 => h9) rfl dX1_add_14 ?_
    refine lv_iconst (v := 3) hx hb dX1_add_17 (by decide) ?_
    refine lv_imul hx hb dX1_add_18 ?_
    refine lv_iconst (v := 0) hx hb dX1_add_19 (by decide) ?_
    refine lv_iadd hx hb dX1_add_20 ?_
    refine lv_iload_n hx hb dX1_add_21 rfl (lv_at hl 1 rfl) ?_
    refine va_iast hx hb hK.1 hP hD hS 1 0 rfl rfl (kk_Lix' (kk_L3 (kk_lt8 hcn c_1) (by decide) (j := 0) rfl (by decide) (by decide)) (by decide)) dX1_add_22 (fun H locs hP hD hS => ?_)
    have hP : va_P D vwCl [(q0, .inr (1, [.ref q1, .int cn])), (q1, .inl (cI, 24, .inl (upd fr ((cn * (3 : Int32)) + (0 : Int32)).toNatClampNeg x)))] H := hP
    have hD : va_D A [(q0, .inr (1, [.ref q1, .int cn])), (q1, .inl (cI, 24, .inl (upd fr ((cn * (3 : Int32)) + (0 : Int32)).toNatClampNeg x)))] := hD
    refine lv_aload_n hx hb dX1_add_23 rfl (lv_at hl 0 rfl) ?_
    refine va_get (D := D) hx hb hts hiX1 hown hK.1 hP 0 rfl rfl 0 (by decide) (hts (.fieldLink RX1 9 "FencePilot$Items" "row" "[I") (by decide +kernel)) (fun _ h9 => h9) rfl dX1_add_24 ?_
    refine lv_aload_n hx hb dX1_add_27 rfl (lv_at hl 0 rfl) ?_
    refine va_get (D := D) hx hb hts hiX1 hown hK.1 hP 0 rfl rfl 1 (by decide) (hts (.fieldLink RX1 15 "FencePilot$Items" "count" "I") (by decide +kernel)) (fun _ h9 => h9) rfl dX1_add_28 ?_
    refine lv_iconst (v := 3) hx hb dX1_add_31 (by decide) ?_
    refine lv_imul hx hb dX1_add_32 ?_
    refine lv_iconst (v := 1) hx hb dX1_add_33 (by decide) ?_
    refine lv_iadd hx hb dX1_add_34 ?_
    refine lv_iload_n hx hb dX1_add_35 rfl (lv_at hl 2 rfl) ?_
    refine va_iast hx hb hK.1 hP hD hS 1 0 rfl rfl (kk_Lix' (kk_L3 (kk_lt8 hcn c_1) (by decide) (j := 1) rfl (by decide) (by decide)) (by decide)) dX1_add_36 (fun H locs hP hD hS => ?_)
    have hP : va_P D vwCl [(q0, .inr (1, [.ref q1, .int cn])), (q1, .inl (cI, 24, .inl (upd (upd fr ((cn * (3 : Int32)) + (0 : Int32)).toNatClampNeg x) ((cn * (3 : Int32)) + (1 : Int32)).toNatClampNeg y)))] H := hP
    have hD : va_D A [(q0, .inr (1, [.ref q1, .int cn])), (q1, .inl (cI, 24, .inl (upd (upd fr ((cn * (3 : Int32)) + (0 : Int32)).toNatClampNeg x) ((cn * (3 : Int32)) + (1 : Int32)).toNatClampNeg y)))] := hD
    refine lv_aload_n hx hb dX1_add_37 rfl (lv_at hl 0 rfl) ?_
    refine va_get (D := D) hx hb hts hiX1 hown hK.1 hP 0 rfl rfl 0 (by decide) (hts (.fieldLink RX1 9 "FencePilot$Items" "row" "[I") (by decide +kernel)) (fun _ h9 => h9) rfl dX1_add_38 ?_
    refine lv_aload_n hx hb dX1_add_41 rfl (lv_at hl 0 rfl) ?_
    refine va_get (D := D) hx hb hts hiX1 hown hK.1 hP 0 rfl rfl 1 (by decide) (hts (.fieldLink RX1 15 "FencePilot$Items" "count" "I") (by decide +kernel)) (fun _ h9 => h9) rfl dX1_add_42 ?_
    refine lv_iconst (v := 3) hx hb dX1_add_45 (by decide) ?_
    refine lv_imul hx hb dX1_add_46 ?_
    refine lv_iconst (v := 2) hx hb dX1_add_47 (by decide) ?_
    refine lv_iadd hx hb dX1_add_48 ?_
    refine lv_iload_n hx hb dX1_add_49 rfl (lv_at hl 3 rfl) ?_
    refine va_iast hx hb hK.1 hP hD hS 1 0 rfl rfl (kk_Lix' (kk_L3 (kk_lt8 hcn c_1) (by decide) (j := 2) rfl (by decide) (by decide)) (by decide)) dX1_add_50 (fun H locs hP hD hS => ?_)
    have hP : va_P D vwCl [(q0, .inr (1, [.ref q1, .int cn])), (q1, .inl (cI, 24, .inl (upd (upd (upd fr ((cn * (3 : Int32)) + (0 : Int32)).toNatClampNeg x) ((cn * (3 : Int32)) + (1 : Int32)).toNatClampNeg y) ((cn * (3 : Int32)) + (2 : Int32)).toNatClampNeg z)))] H := hP
    have hD : va_D A [(q0, .inr (1, [.ref q1, .int cn])), (q1, .inl (cI, 24, .inl (upd (upd (upd fr ((cn * (3 : Int32)) + (0 : Int32)).toNatClampNeg x) ((cn * (3 : Int32)) + (1 : Int32)).toNatClampNeg y) ((cn * (3 : Int32)) + (2 : Int32)).toNatClampNeg z)))] := hD
    refine lv_aload_n hx hb dX1_add_51 rfl (lv_at hl 0 rfl) ?_
    refine lv_dup hx hb dX1_add_52 rfl ?_
    refine va_get (D := D) hx hb hts hiX1 hown hK.1 hP 0 rfl rfl 1 (by decide) (hts (.fieldLink RX1 15 "FencePilot$Items" "count" "I") (by decide +kernel)) (fun _ h9 => h9) rfl dX1_add_53 ?_
    refine lv_iconst (v := 1) hx hb dX1_add_56 (by decide) ?_
    refine lv_iadd hx hb dX1_add_57 ?_
    refine va_put (D := D) (ci := 1) (v := .int (cn + (1 : Int32))) (ty := .int) (C := RX1) (T := TX1) (N := 2) hx hb hts hiX1 tyX1 tyX1_ok nmX1 hown hK.1 hP hD hS 0 rfl rfl 1 (by decide) (hts (.fieldLink RX1 15 "FencePilot$Items" "count" "I") (by decide +kernel)) (fun _ h9 => h9) rfl (by decide +kernel) rfl rfl (Nat.le_of_ble_eq_true rfl) dX1_add_58 (fun H locs hP hD hS => ?_)
    have hP : va_P D vwCl [(q0, .inr (1, [.ref q1, .int (cn + (1 : Int32))])), (q1, .inl (cI, 24, .inl (upd (upd (upd fr ((cn * (3 : Int32)) + (0 : Int32)).toNatClampNeg x) ((cn * (3 : Int32)) + (1 : Int32)).toNatClampNeg y) ((cn * (3 : Int32)) + (2 : Int32)).toNatClampNeg z)))] H := hP
    have hD : va_D A [(q0, .inr (1, [.ref q1, .int (cn + (1 : Int32))])), (q1, .inl (cI, 24, .inl (upd (upd (upd fr ((cn * (3 : Int32)) + (0 : Int32)).toNatClampNeg x) ((cn * (3 : Int32)) + (1 : Int32)).toNatClampNeg y) ((cn * (3 : Int32)) + (2 : Int32)).toNatClampNeg z)))] := hD
    exact kk_rv ((upd (upd (upd fr ((cn * (3 : Int32)) + (0 : Int32)).toNatClampNeg x) ((cn * (3 : Int32)) + (1 : Int32)).toNatClampNeg y) ((cn * (3 : Int32)) + (2 : Int32)).toNatClampNeg z), (cn + (1 : Int32))) hx hb hr hlk dX1_add_61 hS (hP.sub [0, 1] rfl) (hD.sub [0, 1] (by decide) rfl) (by show ((upd (upd (upd fr ((cn * (3 : Int32)) + (0 : Int32)).toNatClampNeg x) ((cn * (3 : Int32)) + (1 : Int32)).toNatClampNeg y) ((cn * (3 : Int32)) + (2 : Int32)).toNatClampNeg z), (cn + (1 : Int32))) = f_X1_add cn fr x y z; unfold f_X1_add; rw [if_neg c_1]; try rfl)
def f_X1_read (cn : Int32) (fr : Nat → Int32) (k : Int32) (axis : Int32) : Int32 := (if (f_X5_isWithin k (0 : Int32) (cn - (1 : Int32))) = (0 : Int32) then (0 : Int32) else (fr ((k * (3 : Int32)) + axis).toNatClampNeg))
set_option maxHeartbeats 4000000 in
set_option maxRecDepth 100000 in
theorem k_X1_read (l : Launch) (D : va_G) (cI cZ : ClassId) (q0 : Nat) (q1 : Nat) (sz : Nat) (cn : Int32) (fr : Nat → Int32) (k : Int32) (axis : Int32) (hcn : kk_L cn 8) (hax : kk_L axis 2) : kk_Mi l D cI cZ yX1_read wsX1_read ({ frames := 1, cells := 0, slots := 0, locals := 22 } : Room) [.ref q0, .int k, .int axis] sz [(q0, .inr (1, [.ref q1, .int cn])), (q1, .inl (cI, 24, .inl fr))] (fun (r : Int32) (_ : Unit) => r = f_X1_read cn fr k axis) (fun _ => [(q0, .inr (1, [.ref q1, .int cn])), (q1, .inl (cI, 24, .inl fr))]) 0 0 := by
  refine kk_enti (cc := cX1_read) (maxL := 3) (ret := (some .int)) (by decide +kernel) rfl (Nat.le_of_ble_eq_true rfl) (fun p e s m args below meth c A ls hX hP hD hS hl => ?_)
  obtain ⟨hx, hb, hml, hown, hts, hr, hlk, hnm, hK, hA⟩ := hX
  have hown : s.vm.findClass RX1 = some m.cls := hown
  have hiX1 : ∀ w ∈ wsX10, w ∈ wsX1_read := by decide +kernel
  have hl : lv_has ls 3 [(0, .ref q0), (1, .int k), (2, .int axis)] := hl
  refine lv_iload_n hx hb dX1_read_0 rfl (lv_at hl 1 rfl) ?_
  refine lv_iconst (v := 0) hx hb dX1_read_1 (by decide) ?_
  refine lv_aload_n hx hb dX1_read_2 rfl (lv_at hl 0 rfl) ?_
  refine va_get (D := D) hx hb hts hiX1 hown hK.1 hP 0 rfl rfl 1 (by decide) (hts (.fieldLink RX1 15 "FencePilot$Items" "count" "I") (by decide +kernel)) (fun _ h9 => h9) rfl dX1_read_3 ?_
  refine lv_iconst (v := 1) hx hb dX1_read_6 (by decide) ?_
  refine lv_isub hx hb dX1_read_7 ?_
  refine kk_cNi (wc := []) (wr := [(q0, .inr (1, [.ref q1, .int cn])), (q1, .inl (cI, 24, .inl fr))]) ⟨hx, hb, hml, hown, hts⟩ hK hP hD hS hA [] [0, 1] (k_X5_isWithin l D cI cZ  s.heap.size k (0 : Int32) (cn - (1 : Int32))) ⟨va_cnB (host := "FencePilot") 3 hts ggX1_read_X5_isWithin rfl rfl rfl hK.2.2.2.2.2.2.2.2 (hts (.initialized RX5) (by decide +kernel)) (by decide +kernel) ⟨(Nat.le_of_ble_eq_true rfl), (Nat.le_of_ble_eq_true rfl)⟩, hts (.static yX5_isWithin) (by decide +kernel), trivial⟩ rfl rfl (by decide) (by decide) (by decide) rfl hl.1 rfl (Nat.le_of_ble_eq_true rfl) dX1_read_8 ⟨(Nat.le_of_ble_eq_true rfl), (Nat.le_of_ble_eq_true rfl)⟩ (fun r_1 u H locs hw_2 hP hD hS => ?_)
  have hw_2 : r_1 = (f_X5_isWithin k (0 : Int32) (cn - (1 : Int32))) := hw_2
  subst hw_2
  have hP : va_P D vwCl [(q0, .inr (1, [.ref q1, .int cn])), (q1, .inl (cI, 24, .inl fr))] H := hP
  have hD : va_D A [(q0, .inr (1, [.ref q1, .int cn])), (q1, .inl (cI, 24, .inl fr))] := hD
  refine lv_if_eq (tgt := 27) hx hb dX1_read_11 (by decide) (fun c_3 => ?_) (fun c_3 => ?_)
  · refine lv_iconst (v := 0) hx hb dX1_read_27 (by decide) ?_
    exact kk_ri () hx hb hr hlk dX1_read_28 hS (hP.sub [0, 1] rfl) (hD.sub [0, 1] (by decide) rfl) (by show (0 : Int32) = f_X1_read cn fr k axis; unfold f_X1_read; rw [if_pos c_3]; try rfl)
  · refine lv_aload_n hx hb dX1_read_14 rfl (lv_at hl 0 rfl) ?_
    refine va_get (D := D) hx hb hts hiX1 hown hK.1 hP 0 rfl rfl 0 (by decide) (hts (.fieldLink RX1 9 "FencePilot$Items" "row" "[I") (by decide +kernel)) (fun _ h9 => h9) rfl dX1_read_15 ?_
    refine lv_iload_n hx hb dX1_read_18 rfl (lv_at hl 1 rfl) ?_
    refine lv_iconst (v := 3) hx hb dX1_read_19 (by decide) ?_
    refine lv_imul hx hb dX1_read_20 ?_
    refine lv_iload_n hx hb dX1_read_21 rfl (lv_at hl 2 rfl) ?_
    refine lv_iadd hx hb dX1_read_22 ?_
    refine va_iald hx hb hK.1 hP 1 0 rfl rfl (kk_Lix' (kk_L3v (kk_withinL (b := 7) c_3 rfl (by rw [kk_dec hcn]; have := hcn.2; omega)) (by decide) hax (by decide)) (by decide)) dX1_read_23 ?_
    refine lv_goto (tgt := 28) hx hb dX1_read_24 (by decide) ?_
    exact kk_ri () hx hb hr hlk dX1_read_28 hS (hP.sub [0, 1] rfl) (hD.sub [0, 1] (by decide) rfl) (by show (fr ((k * (3 : Int32)) + axis).toNatClampNeg) = f_X1_read cn fr k axis; unfold f_X1_read; rw [if_neg c_3]; try rfl)
def f_X1_copyFrom (cn : Int32) (fr : Nat → Int32) (gn : Int32) (gr : Nat → Int32) : (Nat → Int32) × Int32 := ((va_cpy gr fr (0 : Int32).toNatClampNeg (0 : Int32).toNatClampNeg (24 : Int32).toNatClampNeg), gn)
set_option maxHeartbeats 4000000 in
set_option maxRecDepth 100000 in
theorem k_X1_copyFrom (l : Launch) (D : va_G) (cI cZ : ClassId) (q0 : Nat) (q1 : Nat) (r0 : Nat) (r1 : Nat) (sz : Nat) (cn : Int32) (fr : Nat → Int32) (gn : Int32) (gr : Nat → Int32)   : kk_Mv l D cI cZ yX1_copyFrom wsX1_copyFrom ({ frames := 1, cells := 0, slots := 0, locals := 18 } : Room) [.ref q0, .ref r0] sz [(q0, .inr (1, [.ref q1, .int cn])), (q1, .inl (cI, 24, .inl fr)), (r0, .inr (1, [.ref r1, .int gn])), (r1, .inl (cI, 24, .inl gr))] (fun (u : (Nat → Int32) × Int32) => u = f_X1_copyFrom cn fr gn gr) (fun u => [(q0, .inr (1, [.ref q1, .int u.2])), (q1, .inl (cI, 24, .inl u.1)), (r0, .inr (1, [.ref r1, .int gn])), (r1, .inl (cI, 24, .inl gr))]) 0 0 := by
  refine kk_entv (cc := cX1_copyFrom) (maxL := 2) (ret := none) (by decide +kernel) rfl (Nat.le_of_ble_eq_true rfl) (fun p e s m args below meth c A ls hX hP hD hS hl => ?_)
  obtain ⟨hx, hb, hml, hown, hts, hr, hlk, hnm, hK, hA⟩ := hX
  have hown : s.vm.findClass RX1 = some m.cls := hown
  have hiX1 : ∀ w ∈ wsX10, w ∈ wsX1_copyFrom := by decide +kernel
  have hl : lv_has ls 2 [(0, .ref q0), (1, .ref r0)] := hl
  refine lv_aload_n hx hb dX1_copyFrom_0 rfl (lv_at hl 1 rfl) ?_
  refine va_get (D := D) hx hb hts hiX1 hown hK.1 hP 2 rfl rfl 0 (by decide) (hts (.fieldLink RX1 9 "FencePilot$Items" "row" "[I") (by decide +kernel)) (fun _ h9 => h9) rfl dX1_copyFrom_1 ?_
  refine lv_iconst (v := 0) hx hb dX1_copyFrom_4 (by decide) ?_
  refine lv_aload_n hx hb dX1_copyFrom_5 rfl (lv_at hl 0 rfl) ?_
  refine va_get (D := D) hx hb hts hiX1 hown hK.1 hP 0 rfl rfl 0 (by decide) (hts (.fieldLink RX1 9 "FencePilot$Items" "row" "[I") (by decide +kernel)) (fun _ h9 => h9) rfl dX1_copyFrom_6 ?_
  refine lv_iconst (v := 0) hx hb dX1_copyFrom_9 (by decide) ?_
  refine lv_aload_n hx hb dX1_copyFrom_10 rfl (lv_at hl 0 rfl) ?_
  refine va_get (D := D) hx hb hts hiX1 hown hK.1 hP 0 rfl rfl 0 (by decide) (hts (.fieldLink RX1 9 "FencePilot$Items" "row" "[I") (by decide +kernel)) (fun _ h9 => h9) rfl dX1_copyFrom_11 ?_
  refine va_alen (v := 24) hx hb hK.1 hP 1 0 rfl rfl rfl dX1_copyFrom_14 ?_
  refine va_copyi hx hb (hml.trans hl.1.symm) hown (hts (.methodLink RX1 23 arraycopyName) (by decide +kernel)) (hts (.native arraycopyName) (by decide +kernel)) (hts (.static arraycopyName) (by decide +kernel)) (hts (.initialized "java/lang/System") (by decide +kernel)) hK.1 hP hD hS 3 1 0 0 rfl rfl rfl rfl rfl (by decide) (by decide) (by decide) (by decide) (by decide) (fun _ _ => rfl) (Nat.le_of_ble_eq_true rfl) (Nat.le_of_ble_eq_true rfl) dX1_copyFrom_15 (fun H locs hP hD hS => ?_)
  have hP : va_P D vwCl [(q0, .inr (1, [.ref q1, .int cn])), (q1, .inl (cI, 24, .inl (va_cpy gr fr (0 : Int32).toNatClampNeg (0 : Int32).toNatClampNeg (24 : Int32).toNatClampNeg))), (r0, .inr (1, [.ref r1, .int gn])), (r1, .inl (cI, 24, .inl gr))] H := hP
  have hD : va_D A [(q0, .inr (1, [.ref q1, .int cn])), (q1, .inl (cI, 24, .inl (va_cpy gr fr (0 : Int32).toNatClampNeg (0 : Int32).toNatClampNeg (24 : Int32).toNatClampNeg))), (r0, .inr (1, [.ref r1, .int gn])), (r1, .inl (cI, 24, .inl gr))] := hD
  refine lv_aload_n hx hb dX1_copyFrom_18 rfl (lv_at hl 0 rfl) ?_
  refine lv_aload_n hx hb dX1_copyFrom_19 rfl (lv_at hl 1 rfl) ?_
  refine va_get (D := D) hx hb hts hiX1 hown hK.1 hP 2 rfl rfl 1 (by decide) (hts (.fieldLink RX1 15 "FencePilot$Items" "count" "I") (by decide +kernel)) (fun _ h9 => h9) rfl dX1_copyFrom_20 ?_
  refine va_put (D := D) (ci := 1) (v := .int gn) (ty := .int) (C := RX1) (T := TX1) (N := 2) hx hb hts hiX1 tyX1 tyX1_ok nmX1 hown hK.1 hP hD hS 0 rfl rfl 1 (by decide) (hts (.fieldLink RX1 15 "FencePilot$Items" "count" "I") (by decide +kernel)) (fun _ h9 => h9) rfl (by decide +kernel) rfl rfl (Nat.le_of_ble_eq_true rfl) dX1_copyFrom_23 (fun H locs hP hD hS => ?_)
  have hP : va_P D vwCl [(q0, .inr (1, [.ref q1, .int gn])), (q1, .inl (cI, 24, .inl (va_cpy gr fr (0 : Int32).toNatClampNeg (0 : Int32).toNatClampNeg (24 : Int32).toNatClampNeg))), (r0, .inr (1, [.ref r1, .int gn])), (r1, .inl (cI, 24, .inl gr))] H := hP
  have hD : va_D A [(q0, .inr (1, [.ref q1, .int gn])), (q1, .inl (cI, 24, .inl (va_cpy gr fr (0 : Int32).toNatClampNeg (0 : Int32).toNatClampNeg (24 : Int32).toNatClampNeg))), (r0, .inr (1, [.ref r1, .int gn])), (r1, .inl (cI, 24, .inl gr))] := hD
  exact kk_rv ((va_cpy gr fr (0 : Int32).toNatClampNeg (0 : Int32).toNatClampNeg (24 : Int32).toNatClampNeg), gn) hx hb hr hlk dX1_copyFrom_26 hS (hP.sub [0, 1, 2, 3] rfl) (hD.sub [0, 1, 2, 3] (by decide) rfl) (by show ((va_cpy gr fr (0 : Int32).toNatClampNeg (0 : Int32).toNatClampNeg (24 : Int32).toNatClampNeg), gn) = f_X1_copyFrom cn fr gn gr; unfold f_X1_copyFrom; rfl)
def f_X4_begin (uw : Int32) (us : Int32) (ua : Int32) (up : Int32) (cn : Int32) (n : Int32) : Int32 × Int32 × Int32 × Int32 × Int32 := ((1 : Int32), n, (0 : Int32), (0 : Int32), (f_X1_clear cn))
set_option maxHeartbeats 4000000 in
set_option maxRecDepth 100000 in
theorem k_X4_begin (l : Launch) (D : va_G) (cI cZ : ClassId) (q0 : Nat) (q1 : Nat) (q2 : Nat) (sz : Nat) (uw : Int32) (us : Int32) (ua : Int32) (up : Int32) (cn : Int32) (n : Int32)  : kk_Mv l D cI cZ yX4_begin wsX4_begin ({ frames := 1, cells := 0, slots := 0, locals := 20 } : Room) [.ref q0, .int n] sz [(q0, .inr (4, [.ref q1, .int uw, .int us, .int ua, .int up])), (q1, .inr (1, [.ref q2, .int cn]))] (fun (u : Int32 × Int32 × Int32 × Int32 × Int32) => u = f_X4_begin uw us ua up cn n) (fun u => [(q0, .inr (4, [.ref q1, .int u.1, .int u.2.1, .int u.2.2.1, .int u.2.2.2.1])), (q1, .inr (1, [.ref q2, .int u.2.2.2.2]))]) 0 0 := by
  refine kk_entv (cc := cX4_begin) (maxL := 2) (ret := none) (by decide +kernel) rfl (Nat.le_of_ble_eq_true rfl) (fun p e s m args below meth c A ls hX hP hD hS hl => ?_)
  obtain ⟨hx, hb, hml, hown, hts, hr, hlk, hnm, hK, hA⟩ := hX
  have hown : s.vm.findClass RX4 = some m.cls := hown
  have hiX1 : ∀ w ∈ wsX10, w ∈ wsX4_begin := by decide +kernel
  have hiX4 : ∀ w ∈ wsX40, w ∈ wsX4_begin := by decide +kernel
  have hl : lv_has ls 2 [(0, .ref q0), (1, .int n)] := hl
  refine lv_aload_n hx hb dX4_begin_0 rfl (lv_at hl 0 rfl) ?_
  refine va_get (D := D) hx hb hts hiX4 hown hK.1 hP 0 rfl rfl 0 (by decide) (hts (.fieldLink RX4 12 "FencePilot$Upload" "brought" "LFencePilot$Items;") (by decide +kernel)) (fun _ h9 => h9) rfl dX4_begin_1 ?_
  refine kk_cVv (wc := [(q1, .inr (1, [.ref q2, .int cn]))]) (wr := [(q0, .inr (4, [.ref q1, .int uw, .int us, .int ua, .int up]))]) ⟨hx, hb, hml, hown, hts⟩ hK hP hD hS hA [1] [0] (k_X1_clear l D cI cZ q1 q2 s.heap.size cn) (cwV 0 hts gX4_begin_X1_clear rfl rfl rfl (by decide +kernel) ⟨(Nat.le_of_ble_eq_true rfl), (Nat.le_of_ble_eq_true rfl)⟩) rfl rfl (by decide) (by decide) (by decide) 0 1 rfl rfl rfl rfl hl.1 rfl (Nat.le_of_ble_eq_true rfl) dX4_begin_4 ⟨(Nat.le_of_ble_eq_true rfl), (Nat.le_of_ble_eq_true rfl)⟩ (fun u_1 H locs hw_3 hP hD hS => ?_)
  have hw_3 : u_1 = (f_X1_clear cn) := hw_3
  subst hw_3
  have hP : va_P D vwCl [(q0, .inr (4, [.ref q1, .int uw, .int us, .int ua, .int up])), (q1, .inr (1, [.ref q2, .int (f_X1_clear cn)]))] H := hP
  have hD : va_D A [(q0, .inr (4, [.ref q1, .int uw, .int us, .int ua, .int up])), (q1, .inr (1, [.ref q2, .int (f_X1_clear cn)]))] := hD
  refine lv_aload_n hx hb dX4_begin_7 rfl (lv_at hl 0 rfl) ?_
  refine lv_iconst (v := 1) hx hb dX4_begin_8 (by decide) ?_
  refine va_put (D := D) (ci := 4) (v := .int (1 : Int32)) (ty := .boolean) (C := RX4) (T := TX4) (N := 5) hx hb hts hiX4 tyX4 tyX4_ok nmX4 hown hK.1 hP hD hS 0 rfl rfl 1 (by decide) (hts (.fieldLink RX4 18 "FencePilot$Upload" "underWay" "Z") (by decide +kernel)) (fun _ h9 => h9) rfl (by decide +kernel) rfl rfl (Nat.le_of_ble_eq_true rfl) dX4_begin_9 (fun H locs hP hD hS => ?_)
  have hP : va_P D vwCl [(q0, .inr (4, [.ref q1, .int (1 : Int32), .int us, .int ua, .int up])), (q1, .inr (1, [.ref q2, .int (f_X1_clear cn)]))] H := hP
  have hD : va_D A [(q0, .inr (4, [.ref q1, .int (1 : Int32), .int us, .int ua, .int up])), (q1, .inr (1, [.ref q2, .int (f_X1_clear cn)]))] := hD
  refine lv_aload_n hx hb dX4_begin_12 rfl (lv_at hl 0 rfl) ?_
  refine lv_iload_n hx hb dX4_begin_13 rfl (lv_at hl 1 rfl) ?_
  refine va_put (D := D) (ci := 4) (v := .int n) (ty := .int) (C := RX4) (T := TX4) (N := 5) hx hb hts hiX4 tyX4 tyX4_ok nmX4 hown hK.1 hP hD hS 0 rfl rfl 2 (by decide) (hts (.fieldLink RX4 22 "FencePilot$Upload" "size" "I") (by decide +kernel)) (fun _ h9 => h9) rfl (by decide +kernel) rfl rfl (Nat.le_of_ble_eq_true rfl) dX4_begin_14 (fun H locs hP hD hS => ?_)
  have hP : va_P D vwCl [(q0, .inr (4, [.ref q1, .int (1 : Int32), .int n, .int ua, .int up])), (q1, .inr (1, [.ref q2, .int (f_X1_clear cn)]))] H := hP
  have hD : va_D A [(q0, .inr (4, [.ref q1, .int (1 : Int32), .int n, .int ua, .int up])), (q1, .inr (1, [.ref q2, .int (f_X1_clear cn)]))] := hD
  refine lv_aload_n hx hb dX4_begin_17 rfl (lv_at hl 0 rfl) ?_
  refine lv_iconst (v := 0) hx hb dX4_begin_18 (by decide) ?_
  refine va_put (D := D) (ci := 4) (v := .int (0 : Int32)) (ty := .int) (C := RX4) (T := TX4) (N := 5) hx hb hts hiX4 tyX4 tyX4_ok nmX4 hown hK.1 hP hD hS 0 rfl rfl 3 (by decide) (hts (.fieldLink RX4 26 "FencePilot$Upload" "age" "I") (by decide +kernel)) (fun _ h9 => h9) rfl (by decide +kernel) rfl rfl (Nat.le_of_ble_eq_true rfl) dX4_begin_19 (fun H locs hP hD hS => ?_)
  have hP : va_P D vwCl [(q0, .inr (4, [.ref q1, .int (1 : Int32), .int n, .int (0 : Int32), .int up])), (q1, .inr (1, [.ref q2, .int (f_X1_clear cn)]))] H := hP
  have hD : va_D A [(q0, .inr (4, [.ref q1, .int (1 : Int32), .int n, .int (0 : Int32), .int up])), (q1, .inr (1, [.ref q2, .int (f_X1_clear cn)]))] := hD
  refine lv_aload_n hx hb dX4_begin_22 rfl (lv_at hl 0 rfl) ?_
  refine lv_iconst (v := 0) hx hb dX4_begin_23 (by decide) ?_
  refine va_put (D := D) (ci := 4) (v := .int (0 : Int32)) (ty := .int) (C := RX4) (T := TX4) (N := 5) hx hb hts hiX4 tyX4 tyX4_ok nmX4 hown hK.1 hP hD hS 0 rfl rfl 4 (by decide) (hts (.fieldLink RX4 29 "FencePilot$Upload" "repeats" "I") (by decide +kernel)) (fun _ h9 => h9) rfl (by decide +kernel) rfl rfl (Nat.le_of_ble_eq_true rfl) dX4_begin_24 (fun H locs hP hD hS => ?_)
  have hP : va_P D vwCl [(q0, .inr (4, [.ref q1, .int (1 : Int32), .int n, .int (0 : Int32), .int (0 : Int32)])), (q1, .inr (1, [.ref q2, .int (f_X1_clear cn)]))] H := hP
  have hD : va_D A [(q0, .inr (4, [.ref q1, .int (1 : Int32), .int n, .int (0 : Int32), .int (0 : Int32)])), (q1, .inr (1, [.ref q2, .int (f_X1_clear cn)]))] := hD
  exact kk_rv ((1 : Int32), n, (0 : Int32), (0 : Int32), (f_X1_clear cn)) hx hb hr hlk dX4_begin_27 hS (hP.sub [0, 1] rfl) (hD.sub [0, 1] (by decide) rfl) (by show ((1 : Int32), n, (0 : Int32), (0 : Int32), (f_X1_clear cn)) = f_X4_begin uw us ua up cn n; unfold f_X4_begin; rfl)
def f_X4_end (uw : Int32) (us : Int32) (ua : Int32) (up : Int32) : Int32 := (0 : Int32)
set_option maxHeartbeats 4000000 in
set_option maxRecDepth 100000 in
theorem k_X4_end (l : Launch) (D : va_G) (cI cZ : ClassId) (q0 : Nat) (q1 : Nat) (sz : Nat) (uw : Int32) (us : Int32) (ua : Int32) (up : Int32)   : kk_Mv l D cI cZ yX4_end wsX4_end ({ frames := 0, cells := 0, slots := 0, locals := 0 } : Room) [.ref q0] sz [(q0, .inr (4, [.ref q1, .int uw, .int us, .int ua, .int up]))] (fun (u : Int32) => u = f_X4_end uw us ua up) (fun u => [(q0, .inr (4, [.ref q1, .int u, .int us, .int ua, .int up]))]) 0 0 := by
  refine kk_entv (cc := cX4_end) (maxL := 1) (ret := none) (by decide +kernel) rfl (Nat.le_of_ble_eq_true rfl) (fun p e s m args below meth c A ls hX hP hD hS hl => ?_)
  obtain ⟨hx, hb, hml, hown, hts, hr, hlk, hnm, hK, hA⟩ := hX
  have hown : s.vm.findClass RX4 = some m.cls := hown
  have hiX4 : ∀ w ∈ wsX40, w ∈ wsX4_end := by decide +kernel
  have hl : lv_has ls 1 [(0, .ref q0)] := hl
  refine lv_aload_n hx hb dX4_end_0 rfl (lv_at hl 0 rfl) ?_
  refine lv_iconst (v := 0) hx hb dX4_end_1 (by decide) ?_
  refine va_put (D := D) (ci := 4) (v := .int (0 : Int32)) (ty := .boolean) (C := RX4) (T := TX4) (N := 5) hx hb hts hiX4 tyX4 tyX4_ok nmX4 hown hK.1 hP hD hS 0 rfl rfl 1 (by decide) (hts (.fieldLink RX4 18 "FencePilot$Upload" "underWay" "Z") (by decide +kernel)) (fun _ h9 => h9) rfl (by decide +kernel) rfl rfl (Nat.le_of_ble_eq_true rfl) dX4_end_2 (fun H locs hP hD hS => ?_)
  have hP : va_P D vwCl [(q0, .inr (4, [.ref q1, .int (0 : Int32), .int us, .int ua, .int up]))] H := hP
  have hD : va_D A [(q0, .inr (4, [.ref q1, .int (0 : Int32), .int us, .int ua, .int up]))] := hD
  exact kk_rv (0 : Int32) hx hb hr hlk dX4_end_5 hS (hP.sub [0] rfl) (hD.sub [0] (by decide) rfl) (by show (0 : Int32) = f_X4_end uw us ua up; unfold f_X4_end; rfl)
def f_X4_next (uw : Int32) (us : Int32) (ua : Int32) (up : Int32) (cn : Int32) : Int32 := cn
set_option maxHeartbeats 4000000 in
set_option maxRecDepth 100000 in
theorem k_X4_next (l : Launch) (D : va_G) (cI cZ : ClassId) (q0 : Nat) (q1 : Nat) (q2 : Nat) (sz : Nat) (uw : Int32) (us : Int32) (ua : Int32) (up : Int32) (cn : Int32)   : kk_Mi l D cI cZ yX4_next wsX4_next ({ frames := 0, cells := 0, slots := 0, locals := 0 } : Room) [.ref q0] sz [(q0, .inr (4, [.ref q1, .int uw, .int us, .int ua, .int up])), (q1, .inr (1, [.ref q2, .int cn]))] (fun (r : Int32) (_ : Unit) => r = f_X4_next uw us ua up cn) (fun _ => [(q0, .inr (4, [.ref q1, .int uw, .int us, .int ua, .int up])), (q1, .inr (1, [.ref q2, .int cn]))]) 0 0 := by
  refine kk_enti (cc := cX4_next) (maxL := 1) (ret := (some .int)) (by decide +kernel) rfl (Nat.le_of_ble_eq_true rfl) (fun p e s m args below meth c A ls hX hP hD hS hl => ?_)
  obtain ⟨hx, hb, hml, hown, hts, hr, hlk, hnm, hK, hA⟩ := hX
  have hown : s.vm.findClass RX4 = some m.cls := hown
  have hiX1 : ∀ w ∈ wsX10, w ∈ wsX4_next := by decide +kernel
  have hiX4 : ∀ w ∈ wsX40, w ∈ wsX4_next := by decide +kernel
  have hl : lv_has ls 1 [(0, .ref q0)] := hl
  refine lv_aload_n hx hb dX4_next_0 rfl (lv_at hl 0 rfl) ?_
  refine va_get (D := D) hx hb hts hiX4 hown hK.1 hP 0 rfl rfl 0 (by decide) (hts (.fieldLink RX4 12 "FencePilot$Upload" "brought" "LFencePilot$Items;") (by decide +kernel)) (fun _ h9 => h9) rfl dX4_next_1 ?_
  refine va_getN (D := D) hx hb hts hiX1 hown hK.1 hP 1 rfl rfl 1 (by decide) (va_Nw.use rfl hK.2.2.2.2.2.2.2.1) (fun _ h9 => h9) rfl dX4_next_4 ?_
  exact kk_ri () hx hb hr hlk dX4_next_7 hS (hP.sub [0, 1] rfl) (hD.sub [0, 1] (by decide) rfl) (by show cn = f_X4_next uw us ua up cn; unfold f_X4_next; rfl)
def f_X4_isComplete (uw : Int32) (us : Int32) (ua : Int32) (up : Int32) (cn : Int32) : Int32 := (if cn < us then (0 : Int32) else (1 : Int32))
set_option maxHeartbeats 4000000 in
set_option maxRecDepth 100000 in
theorem k_X4_isComplete (l : Launch) (D : va_G) (cI cZ : ClassId) (q0 : Nat) (q1 : Nat) (q2 : Nat) (sz : Nat) (uw : Int32) (us : Int32) (ua : Int32) (up : Int32) (cn : Int32)   : kk_Mi l D cI cZ yX4_isComplete wsX4_isComplete ({ frames := 0, cells := 0, slots := 0, locals := 0 } : Room) [.ref q0] sz [(q0, .inr (4, [.ref q1, .int uw, .int us, .int ua, .int up])), (q1, .inr (1, [.ref q2, .int cn]))] (fun (r : Int32) (_ : Unit) => r = f_X4_isComplete uw us ua up cn) (fun _ => [(q0, .inr (4, [.ref q1, .int uw, .int us, .int ua, .int up])), (q1, .inr (1, [.ref q2, .int cn]))]) 0 0 := by
  refine kk_enti (cc := cX4_isComplete) (maxL := 1) (ret := (some .boolean)) (by decide +kernel) rfl (Nat.le_of_ble_eq_true rfl) (fun p e s m args below meth c A ls hX hP hD hS hl => ?_)
  obtain ⟨hx, hb, hml, hown, hts, hr, hlk, hnm, hK, hA⟩ := hX
  have hown : s.vm.findClass RX4 = some m.cls := hown
  have hiX1 : ∀ w ∈ wsX10, w ∈ wsX4_isComplete := by decide +kernel
  have hiX4 : ∀ w ∈ wsX40, w ∈ wsX4_isComplete := by decide +kernel
  have hl : lv_has ls 1 [(0, .ref q0)] := hl
  refine lv_aload_n hx hb dX4_isComplete_0 rfl (lv_at hl 0 rfl) ?_
  refine va_get (D := D) hx hb hts hiX4 hown hK.1 hP 0 rfl rfl 0 (by decide) (hts (.fieldLink RX4 12 "FencePilot$Upload" "brought" "LFencePilot$Items;") (by decide +kernel)) (fun _ h9 => h9) rfl dX4_isComplete_1 ?_
  refine va_getN (D := D) hx hb hts hiX1 hown hK.1 hP 1 rfl rfl 1 (by decide) (va_Nw.use rfl hK.2.2.2.2.2.2.2.1) (fun _ h9 => h9) rfl dX4_isComplete_4 ?_
  refine lv_aload_n hx hb dX4_isComplete_7 rfl (lv_at hl 0 rfl) ?_
  refine va_get (D := D) hx hb hts hiX4 hown hK.1 hP 0 rfl rfl 2 (by decide) (hts (.fieldLink RX4 22 "FencePilot$Upload" "size" "I") (by decide +kernel)) (fun _ h9 => h9) rfl dX4_isComplete_8 ?_
  refine lv_icmp_lt (tgt := 18) hx hb dX4_isComplete_11 (by decide) (fun c_1 => ?_) (fun c_1 => ?_)
  · refine lv_iconst (v := 0) hx hb dX4_isComplete_18 (by decide) ?_
    exact kk_rz () hx hb hr hlk dX4_isComplete_19 hS (hP.sub [0, 1] rfl) (hD.sub [0, 1] (by decide) rfl) rfl (by show (0 : Int32) = f_X4_isComplete uw us ua up cn; unfold f_X4_isComplete; rw [if_pos c_1]; try rfl)
  · refine lv_iconst (v := 1) hx hb dX4_isComplete_14 (by decide) ?_
    refine lv_goto (tgt := 19) hx hb dX4_isComplete_15 (by decide) ?_
    exact kk_rz () hx hb hr hlk dX4_isComplete_19 hS (hP.sub [0, 1] rfl) (hD.sub [0, 1] (by decide) rfl) rfl (by show (1 : Int32) = f_X4_isComplete uw us ua up cn; unfold f_X4_isComplete; rw [if_neg c_1]; try rfl)
def f_X4_keep (uw : Int32) (us : Int32) (ua : Int32) (up : Int32) (cn : Int32) (fr : Nat → Int32) (x : Int32) (y : Int32) (z : Int32) : (Nat → Int32) × Int32 × Int32 × Int32 := (match (f_X1_add cn fr x y z) with | (u_1, u_2) => (u_1, u_2, (0 : Int32), (0 : Int32)))
set_option maxHeartbeats 4000000 in
set_option maxRecDepth 100000 in
theorem k_X4_keep (l : Launch) (D : va_G) (cI cZ : ClassId) (q0 : Nat) (q1 : Nat) (q2 : Nat) (sz : Nat) (uw : Int32) (us : Int32) (ua : Int32) (up : Int32) (cn : Int32) (fr : Nat → Int32) (x : Int32) (y : Int32) (z : Int32) (hcn : kk_L cn 8) : kk_Mv l D cI cZ yX4_keep wsX4_keep ({ frames := 1, cells := 0, slots := 0, locals := 23 } : Room) [.ref q0, .int x, .int y, .int z] sz [(q0, .inr (4, [.ref q1, .int uw, .int us, .int ua, .int up])), (q1, .inr (1, [.ref q2, .int cn])), (q2, .inl (cI, 24, .inl fr))] (fun (u : (Nat → Int32) × Int32 × Int32 × Int32) => u = f_X4_keep uw us ua up cn fr x y z) (fun u => [(q0, .inr (4, [.ref q1, .int uw, .int us, .int u.2.2.1, .int u.2.2.2])), (q1, .inr (1, [.ref q2, .int u.2.1])), (q2, .inl (cI, 24, .inl u.1))]) 0 0 := by
  refine kk_entv (cc := cX4_keep) (maxL := 4) (ret := none) (by decide +kernel) rfl (Nat.le_of_ble_eq_true rfl) (fun p e s m args below meth c A ls hX hP hD hS hl => ?_)
  obtain ⟨hx, hb, hml, hown, hts, hr, hlk, hnm, hK, hA⟩ := hX
  have hown : s.vm.findClass RX4 = some m.cls := hown
  have hiX1 : ∀ w ∈ wsX10, w ∈ wsX4_keep := by decide +kernel
  have hiX4 : ∀ w ∈ wsX40, w ∈ wsX4_keep := by decide +kernel
  have hl : lv_has ls 4 [(0, .ref q0), (1, .int x), (2, .int y), (3, .int z)] := hl
  refine lv_aload_n hx hb dX4_keep_0 rfl (lv_at hl 0 rfl) ?_
  refine va_get (D := D) hx hb hts hiX4 hown hK.1 hP 0 rfl rfl 0 (by decide) (hts (.fieldLink RX4 12 "FencePilot$Upload" "brought" "LFencePilot$Items;") (by decide +kernel)) (fun _ h9 => h9) rfl dX4_keep_1 ?_
  refine lv_iload_n hx hb dX4_keep_4 rfl (lv_at hl 1 rfl) ?_
  refine lv_iload_n hx hb dX4_keep_5 rfl (lv_at hl 2 rfl) ?_
  refine lv_iload_n hx hb dX4_keep_6 rfl (lv_at hl 3 rfl) ?_
  refine kk_cVv (wc := [(q1, .inr (1, [.ref q2, .int cn])), (q2, .inl (cI, 24, .inl fr))]) (wr := [(q0, .inr (4, [.ref q1, .int uw, .int us, .int ua, .int up]))]) ⟨hx, hb, hml, hown, hts⟩ hK hP hD hS hA [1, 2] [0] (k_X1_add l D cI cZ q1 q2 s.heap.size cn fr x y z (by assumption)) (cwV 3 hts gX4_keep_X1_add rfl rfl rfl (by decide +kernel) ⟨(Nat.le_of_ble_eq_true rfl), (Nat.le_of_ble_eq_true rfl)⟩) rfl rfl (by decide) (by decide) (by decide) 0 1 rfl rfl rfl rfl hl.1 rfl (Nat.le_of_ble_eq_true rfl) dX4_keep_7 ⟨(Nat.le_of_ble_eq_true rfl), (Nat.le_of_ble_eq_true rfl)⟩ (fun u H locs hw_4 hP hD hS => ?_)
  obtain ⟨u_1, u_2⟩ := u
  have hw_4 : (u_1, u_2) = (f_X1_add cn fr x y z) := hw_4
  have hP : va_P D vwCl [(q0, .inr (4, [.ref q1, .int uw, .int us, .int ua, .int up])), (q1, .inr (1, [.ref q2, .int u_2])), (q2, .inl (cI, 24, .inl u_1))] H := hP
  have hD : va_D A [(q0, .inr (4, [.ref q1, .int uw, .int us, .int ua, .int up])), (q1, .inr (1, [.ref q2, .int u_2])), (q2, .inl (cI, 24, .inl u_1))] := hD
  refine lv_aload_n hx hb dX4_keep_10 rfl (lv_at hl 0 rfl) ?_
  refine lv_iconst (v := 0) hx hb dX4_keep_11 (by decide) ?_
  refine va_put (D := D) (ci := 4) (v := .int (0 : Int32)) (ty := .int) (C := RX4) (T := TX4) (N := 5) hx hb hts hiX4 tyX4 tyX4_ok nmX4 hown hK.1 hP hD hS 0 rfl rfl 3 (by decide) (hts (.fieldLink RX4 26 "FencePilot$Upload" "age" "I") (by decide +kernel)) (fun _ h9 => h9) rfl (by decide +kernel) rfl rfl (Nat.le_of_ble_eq_true rfl) dX4_keep_12 (fun H locs hP hD hS => ?_)
  have hP : va_P D vwCl [(q0, .inr (4, [.ref q1, .int uw, .int us, .int (0 : Int32), .int up])), (q1, .inr (1, [.ref q2, .int u_2])), (q2, .inl (cI, 24, .inl u_1))] H := hP
  have hD : va_D A [(q0, .inr (4, [.ref q1, .int uw, .int us, .int (0 : Int32), .int up])), (q1, .inr (1, [.ref q2, .int u_2])), (q2, .inl (cI, 24, .inl u_1))] := hD
  refine lv_aload_n hx hb dX4_keep_15 rfl (lv_at hl 0 rfl) ?_
  refine lv_iconst (v := 0) hx hb dX4_keep_16 (by decide) ?_
  refine va_put (D := D) (ci := 4) (v := .int (0 : Int32)) (ty := .int) (C := RX4) (T := TX4) (N := 5) hx hb hts hiX4 tyX4 tyX4_ok nmX4 hown hK.1 hP hD hS 0 rfl rfl 4 (by decide) (hts (.fieldLink RX4 29 "FencePilot$Upload" "repeats" "I") (by decide +kernel)) (fun _ h9 => h9) rfl (by decide +kernel) rfl rfl (Nat.le_of_ble_eq_true rfl) dX4_keep_17 (fun H locs hP hD hS => ?_)
  have hP : va_P D vwCl [(q0, .inr (4, [.ref q1, .int uw, .int us, .int (0 : Int32), .int (0 : Int32)])), (q1, .inr (1, [.ref q2, .int u_2])), (q2, .inl (cI, 24, .inl u_1))] H := hP
  have hD : va_D A [(q0, .inr (4, [.ref q1, .int uw, .int us, .int (0 : Int32), .int (0 : Int32)])), (q1, .inr (1, [.ref q2, .int u_2])), (q2, .inl (cI, 24, .inl u_1))] := hD
  exact kk_rv (u_1, u_2, (0 : Int32), (0 : Int32)) hx hb hr hlk dX4_keep_20 hS (hP.sub [0, 1, 2] rfl) (hD.sub [0, 1, 2] (by decide) rfl) (by show (u_1, u_2, (0 : Int32), (0 : Int32)) = f_X4_keep uw us ua up cn fr x y z; unfold f_X4_keep; rw [← hw_4]; try dsimp only; try rfl)
def f_X4_growOlder (uw : Int32) (us : Int32) (ua : Int32) (up : Int32) : Int32 × Int32 × Int32 := (if uw = (0 : Int32) then (uw, ua, up) else (if (ua + (1 : Int32)) < (10 : Int32) then (uw, (ua + (1 : Int32)), up) else (if (3 : Int32) ≤ (up + (1 : Int32)) then ((0 : Int32), (0 : Int32), (up + (1 : Int32))) else ((1 : Int32), (0 : Int32), (up + (1 : Int32))))))
set_option maxHeartbeats 4000000 in
set_option maxRecDepth 100000 in
theorem k_X4_growOlder (l : Launch) (D : va_G) (cI cZ : ClassId) (q0 : Nat) (q1 : Nat) (sz : Nat) (uw : Int32) (us : Int32) (ua : Int32) (up : Int32)   : kk_Mv l D cI cZ yX4_growOlder wsX4_growOlder ({ frames := 0, cells := 0, slots := 0, locals := 0 } : Room) [.ref q0] sz [(q0, .inr (4, [.ref q1, .int uw, .int us, .int ua, .int up]))] (fun (u : Int32 × Int32 × Int32) => u = f_X4_growOlder uw us ua up) (fun u => [(q0, .inr (4, [.ref q1, .int u.1, .int us, .int u.2.1, .int u.2.2]))]) 0 0 := by
  refine kk_entv (cc := cX4_growOlder) (maxL := 1) (ret := none) (by decide +kernel) rfl (Nat.le_of_ble_eq_true rfl) (fun p e s m args below meth c A ls hX hP hD hS hl => ?_)
  obtain ⟨hx, hb, hml, hown, hts, hr, hlk, hnm, hK, hA⟩ := hX
  have hown : s.vm.findClass RX4 = some m.cls := hown
  have hiX4 : ∀ w ∈ wsX40, w ∈ wsX4_growOlder := by decide +kernel
  have hl : lv_has ls 1 [(0, .ref q0)] := hl
  refine lv_aload_n hx hb dX4_growOlder_0 rfl (lv_at hl 0 rfl) ?_
  refine va_get (D := D) hx hb hts hiX4 hown hK.1 hP 0 rfl rfl 1 (by decide) (hts (.fieldLink RX4 18 "FencePilot$Upload" "underWay" "Z") (by decide +kernel)) (fun _ h9 => h9) rfl dX4_growOlder_1 ?_
  refine lv_if_ne (tgt := 8) hx hb dX4_growOlder_4 (by decide) (fun c_1 => ?_) (fun c_1 => ?_)
  · refine lv_aload_n hx hb dX4_growOlder_8 rfl (lv_at hl 0 rfl) ?_
    refine lv_dup hx hb dX4_growOlder_9 rfl ?_
    refine va_get (D := D) hx hb hts hiX4 hown hK.1 hP 0 rfl rfl 3 (by decide) (hts (.fieldLink RX4 26 "FencePilot$Upload" "age" "I") (by decide +kernel)) (fun _ h9 => h9) rfl dX4_growOlder_10 ?_
    refine lv_iconst (v := 1) hx hb dX4_growOlder_13 (by decide) ?_
    refine lv_iadd hx hb dX4_growOlder_14 ?_
    refine va_put (D := D) (ci := 4) (v := .int (ua + (1 : Int32))) (ty := .int) (C := RX4) (T := TX4) (N := 5) hx hb hts hiX4 tyX4 tyX4_ok nmX4 hown hK.1 hP hD hS 0 rfl rfl 3 (by decide) (hts (.fieldLink RX4 26 "FencePilot$Upload" "age" "I") (by decide +kernel)) (fun _ h9 => h9) rfl (by decide +kernel) rfl rfl (Nat.le_of_ble_eq_true rfl) dX4_growOlder_15 (fun H locs hP hD hS => ?_)
    have hP : va_P D vwCl [(q0, .inr (4, [.ref q1, .int uw, .int us, .int (ua + (1 : Int32)), .int up]))] H := hP
    have hD : va_D A [(q0, .inr (4, [.ref q1, .int uw, .int us, .int (ua + (1 : Int32)), .int up]))] := hD
    refine lv_aload_n hx hb dX4_growOlder_18 rfl (lv_at hl 0 rfl) ?_
    refine va_get (D := D) hx hb hts hiX4 hown hK.1 hP 0 rfl rfl 3 (by decide) (hts (.fieldLink RX4 26 "FencePilot$Upload" "age" "I") (by decide +kernel)) (fun _ h9 => h9) rfl dX4_growOlder_19 ?_
    refine lv_bipush (v := 10) hx hb dX4_growOlder_22 (by decide) ?_
    refine lv_icmp_lt (tgt := 59) hx hb dX4_growOlder_24 (by decide) (fun c_2 => ?_) (fun c_2 => ?_)
    · exact kk_rv (uw, (ua + (1 : Int32)), up) hx hb hr hlk dX4_growOlder_59 hS (hP.sub [0] rfl) (hD.sub [0] (by decide) rfl) (by show (uw, (ua + (1 : Int32)), up) = f_X4_growOlder uw us ua up; unfold f_X4_growOlder; rw [if_neg c_1]; rw [if_pos c_2]; try rfl)
    · refine lv_aload_n hx hb dX4_growOlder_27 rfl (lv_at hl 0 rfl) ?_
      refine lv_iconst (v := 0) hx hb dX4_growOlder_28 (by decide) ?_
      refine va_put (D := D) (ci := 4) (v := .int (0 : Int32)) (ty := .int) (C := RX4) (T := TX4) (N := 5) hx hb hts hiX4 tyX4 tyX4_ok nmX4 hown hK.1 hP hD hS 0 rfl rfl 3 (by decide) (hts (.fieldLink RX4 26 "FencePilot$Upload" "age" "I") (by decide +kernel)) (fun _ h9 => h9) rfl (by decide +kernel) rfl rfl (Nat.le_of_ble_eq_true rfl) dX4_growOlder_29 (fun H locs hP hD hS => ?_)
      have hP : va_P D vwCl [(q0, .inr (4, [.ref q1, .int uw, .int us, .int (0 : Int32), .int up]))] H := hP
      have hD : va_D A [(q0, .inr (4, [.ref q1, .int uw, .int us, .int (0 : Int32), .int up]))] := hD
      refine lv_aload_n hx hb dX4_growOlder_32 rfl (lv_at hl 0 rfl) ?_
      refine lv_dup hx hb dX4_growOlder_33 rfl ?_
      refine va_get (D := D) hx hb hts hiX4 hown hK.1 hP 0 rfl rfl 4 (by decide) (hts (.fieldLink RX4 29 "FencePilot$Upload" "repeats" "I") (by decide +kernel)) (fun _ h9 => h9) rfl dX4_growOlder_34 ?_
      refine lv_iconst (v := 1) hx hb dX4_growOlder_37 (by decide) ?_
      refine lv_iadd hx hb dX4_growOlder_38 ?_
      refine va_put (D := D) (ci := 4) (v := .int (up + (1 : Int32))) (ty := .int) (C := RX4) (T := TX4) (N := 5) hx hb hts hiX4 tyX4 tyX4_ok nmX4 hown hK.1 hP hD hS 0 rfl rfl 4 (by decide) (hts (.fieldLink RX4 29 "FencePilot$Upload" "repeats" "I") (by decide +kernel)) (fun _ h9 => h9) rfl (by decide +kernel) rfl rfl (Nat.le_of_ble_eq_true rfl) dX4_growOlder_39 (fun H locs hP hD hS => ?_)
      have hP : va_P D vwCl [(q0, .inr (4, [.ref q1, .int uw, .int us, .int (0 : Int32), .int (up + (1 : Int32))]))] H := hP
      have hD : va_D A [(q0, .inr (4, [.ref q1, .int uw, .int us, .int (0 : Int32), .int (up + (1 : Int32))]))] := hD
      refine lv_aload_n hx hb dX4_growOlder_42 rfl (lv_at hl 0 rfl) ?_
      refine lv_aload_n hx hb dX4_growOlder_43 rfl (lv_at hl 0 rfl) ?_
      refine va_get (D := D) hx hb hts hiX4 hown hK.1 hP 0 rfl rfl 4 (by decide) (hts (.fieldLink RX4 29 "FencePilot$Upload" "repeats" "I") (by decide +kernel)) (fun _ h9 => h9) rfl dX4_growOlder_44 ?_
      refine lv_iconst (v := 3) hx hb dX4_growOlder_47 (by decide) ?_
      refine lv_icmp_ge (tgt := 55) hx hb dX4_growOlder_48 (by decide) (fun c_3 => ?_) (fun c_3 => ?_)
      · refine lv_iconst (v := 0) hx hb dX4_growOlder_55 (by decide) ?_
        refine va_put (D := D) (ci := 4) (v := .int (0 : Int32)) (ty := .boolean) (C := RX4) (T := TX4) (N := 5) hx hb hts hiX4 tyX4 tyX4_ok nmX4 hown hK.1 hP hD hS 0 rfl rfl 1 (by decide) (hts (.fieldLink RX4 18 "FencePilot$Upload" "underWay" "Z") (by decide +kernel)) (fun _ h9 => h9) rfl (by decide +kernel) rfl rfl (Nat.le_of_ble_eq_true rfl) dX4_growOlder_56 (fun H locs hP hD hS => ?_)
        have hP : va_P D vwCl [(q0, .inr (4, [.ref q1, .int (0 : Int32), .int us, .int (0 : Int32), .int (up + (1 : Int32))]))] H := hP
        have hD : va_D A [(q0, .inr (4, [.ref q1, .int (0 : Int32), .int us, .int (0 : Int32), .int (up + (1 : Int32))]))] := hD
        exact kk_rv ((0 : Int32), (0 : Int32), (up + (1 : Int32))) hx hb hr hlk dX4_growOlder_59 hS (hP.sub [0] rfl) (hD.sub [0] (by decide) rfl) (by show ((0 : Int32), (0 : Int32), (up + (1 : Int32))) = f_X4_growOlder uw us ua up; unfold f_X4_growOlder; rw [if_neg c_1]; rw [if_neg c_2]; rw [if_pos c_3]; try rfl)
      · refine lv_iconst (v := 1) hx hb dX4_growOlder_51 (by decide) ?_
        refine lv_goto (tgt := 56) hx hb dX4_growOlder_52 (by decide) ?_
        refine va_put (D := D) (ci := 4) (v := .int (1 : Int32)) (ty := .boolean) (C := RX4) (T := TX4) (N := 5) hx hb hts hiX4 tyX4 tyX4_ok nmX4 hown hK.1 hP hD hS 0 rfl rfl 1 (by decide) (hts (.fieldLink RX4 18 "FencePilot$Upload" "underWay" "Z") (by decide +kernel)) (fun _ h9 => h9) rfl (by decide +kernel) rfl rfl (Nat.le_of_ble_eq_true rfl) dX4_growOlder_56 (fun H locs hP hD hS => ?_)
        have hP : va_P D vwCl [(q0, .inr (4, [.ref q1, .int (1 : Int32), .int us, .int (0 : Int32), .int (up + (1 : Int32))]))] H := hP
        have hD : va_D A [(q0, .inr (4, [.ref q1, .int (1 : Int32), .int us, .int (0 : Int32), .int (up + (1 : Int32))]))] := hD
        exact kk_rv ((1 : Int32), (0 : Int32), (up + (1 : Int32))) hx hb hr hlk dX4_growOlder_59 hS (hP.sub [0] rfl) (hD.sub [0] (by decide) rfl) (by show ((1 : Int32), (0 : Int32), (up + (1 : Int32))) = f_X4_growOlder uw us ua up; unfold f_X4_growOlder; rw [if_neg c_1]; rw [if_neg c_2]; rw [if_neg c_3]; try rfl)
  · exact kk_rv (uw, ua, up) hx hb hr hlk dX4_growOlder_7 hS (hP.sub [0] rfl) (hD.sub [0] (by decide) rfl) (by show (uw, ua, up) = f_X4_growOlder uw us ua up; unfold f_X4_growOlder; rw [if_pos c_1]; try rfl)
end
section
def g_X2_enter_lp (cu : Int32) (lf : Int32) (fc : Nat → Int32) (md : Int32) (tk : Int32) : Nat → Int32 → (Nat → Int32) → (Nat → Int32) × Int32 × Int32
  | 0, _, _ => ((fun _ => 0), 0, 0)
  | fuel + 1, ix, fc2 => (if ix ≤ (0 : Int32) then ((upd fc2 (0 : Int32).toNatClampNeg (((8 : Int32) * tk) + md)), md, (0 : Int32)) else (g_X2_enter_lp cu lf fc md tk fuel (ix + (-1)) (upd fc2 ix.toNatClampNeg (fc2 (ix - (1 : Int32)).toNatClampNeg))))
def f_X2_enter (cu : Int32) (lf : Int32) (fc : Nat → Int32) (md : Int32) (tk : Int32) : (Nat → Int32) × Int32 × Int32 := (if md = cu then (fc, cu, lf) else (g_X2_enter_lp cu lf fc md tk 16 (15 : Int32) fc))
set_option maxHeartbeats 4000000 in
set_option maxRecDepth 100000 in
theorem lp_X2_enter_lp (l : Launch) (D : va_G) (cI cZ : ClassId) (q0 : Nat) (q1 : Nat) (cu : Int32) (lf : Int32) (fc : Nat → Int32) (md : Int32) (tk : Int32)   {p : Program} {e : Env} {s : State} {m : MethodId} {args : Array Value} {below : List Frame} {meth : Method} {c : Code} {A : Nat → Prop} (hX : kk_X p s m args meth c cX2_enter 4 none yX2_enter wsX2_enter A D cI cZ) (FIN : (Nat → Int32) × Int32 × Int32)  :
    ∀ (fuel : Nat) (ix : Int32) (fc2 : Nat → Int32) (H : Heap) (locs : List Loc) (ls : Array Slot), kk_J fuel ix → FIN = g_X2_enter_lp cu lf fc md tk fuel ix fc2 → va_P D vwCl [(q0, .inr (2, [.ref q1, .int md, .int (0 : Int32)])), (q1, .inl (cI, 16, .inl fc2))] H → va_D A [(q0, .inr (2, [.ref q1, .int md, .int (0 : Int32)])), (q1, .inl (cI, 16, .inl fc2))] → va_S A s.heap H locs → lv_has ls 4 [(0, .ref q0), (1, .int md), (2, .int tk), (3, .int ix)] → W p l e ({ frames := 0, cells := 0, slots := 0, locals := 0 } : Room) s m args below meth c H locs 0 0 (MQ below (va_Qv (fun (u : (Nat → Int32) × Int32 × Int32) => u = FIN) (fun u t => kk_B D A [(q0, .inr (2, [.ref q1, .int u.2.1, .int u.2.2])), (q1, .inl (cI, 16, .inl u.1))] t) A) args s 0 0 A) (F0 m 22 ls []) := by
  have hX0 := hX
  obtain ⟨hx, hb, hml, hown, hts, hr, hlk, hnm, hK, hA⟩ := hX
  have hown : s.vm.findClass RX2 = some m.cls := hown
  have hiX2 : ∀ w ∈ wsX20, w ∈ wsX2_enter := by decide +kernel
  intro fuel
  induction fuel with
  | zero =>
    intro ix fc2 H locs ls hI
    exact absurd hI kk_J0
  | succ fuel ih =>
    intro ix fc2 H locs ls hI hF hP hD hS hl
    refine lv_iload_n hx hb dX2_enter_22 rfl (lv_at hl 3 rfl) ?_
    refine lv_if_le (tgt := 46) hx hb dX2_enter_23 (by decide) (fun c_1001 => ?_) (fun c_1001 => ?_)
    · refine lv_aload_n hx hb dX2_enter_46 rfl (lv_at hl 0 rfl) ?_
      refine va_get (D := D) hx hb hts hiX2 hown hK.1 hP 0 rfl rfl 0 (by decide) (hts (.fieldLink RX2 9 "FencePilot$ModeLog" "changes" "[I") (by decide +kernel)) (fun _ h9 => h9) rfl dX2_enter_47 ?_
      refine lv_iconst (v := 0) hx hb dX2_enter_50 (by decide) ?_
      refine lv_bipush (v := 8) hx hb dX2_enter_51 (by decide) ?_
      refine lv_iload_n hx hb dX2_enter_53 rfl (lv_at hl 2 rfl) ?_
      refine lv_imul hx hb dX2_enter_54 ?_
      refine lv_iload_n hx hb dX2_enter_55 rfl (lv_at hl 1 rfl) ?_
      refine lv_iadd hx hb dX2_enter_56 ?_
      refine va_iast hx hb hK.1 hP hD hS 1 0 rfl rfl (by unfold vp_in; decide) dX2_enter_57 (fun H locs hP hD hS => ?_)
      have hP : va_P D vwCl [(q0, .inr (2, [.ref q1, .int md, .int (0 : Int32)])), (q1, .inl (cI, 16, .inl (upd fc2 (0 : Int32).toNatClampNeg (((8 : Int32) * tk) + md))))] H := hP
      have hD : va_D A [(q0, .inr (2, [.ref q1, .int md, .int (0 : Int32)])), (q1, .inl (cI, 16, .inl (upd fc2 (0 : Int32).toNatClampNeg (((8 : Int32) * tk) + md))))] := hD
      exact kk_rv ((upd fc2 (0 : Int32).toNatClampNeg (((8 : Int32) * tk) + md)), md, (0 : Int32)) hx hb hr hlk dX2_enter_58 hS (hP.sub [0, 1] rfl) (hD.sub [0, 1] (by decide) rfl) (by show ((upd fc2 (0 : Int32).toNatClampNeg (((8 : Int32) * tk) + md)), md, (0 : Int32)) = FIN; rw [hF, g_X2_enter_lp]; rw [if_pos c_1001]; try rfl)
    · refine lv_aload_n hx hb dX2_enter_26 rfl (lv_at hl 0 rfl) ?_
      refine va_get (D := D) hx hb hts hiX2 hown hK.1 hP 0 rfl rfl 0 (by decide) (hts (.fieldLink RX2 9 "FencePilot$ModeLog" "changes" "[I") (by decide +kernel)) (fun _ h9 => h9) rfl dX2_enter_27 ?_
      refine lv_iload_n hx hb dX2_enter_30 rfl (lv_at hl 3 rfl) ?_
      refine lv_aload_n hx hb dX2_enter_31 rfl (lv_at hl 0 rfl) ?_
      refine va_get (D := D) hx hb hts hiX2 hown hK.1 hP 0 rfl rfl 0 (by decide) (hts (.fieldLink RX2 9 "FencePilot$ModeLog" "changes" "[I") (by decide +kernel)) (fun _ h9 => h9) rfl dX2_enter_32 ?_
      refine lv_iload_n hx hb dX2_enter_35 rfl (lv_at hl 3 rfl) ?_
      refine lv_iconst (v := 1) hx hb dX2_enter_36 (by decide) ?_
      refine lv_isub hx hb dX2_enter_37 ?_
      refine va_iald hx hb hK.1 hP 1 0 rfl rfl (kk_Jix1 hI c_1001) dX2_enter_38 ?_
      refine va_iast hx hb hK.1 hP hD hS 1 0 rfl rfl (kk_Jix hI) dX2_enter_39 (fun H locs hP hD hS => ?_)
      have hP : va_P D vwCl [(q0, .inr (2, [.ref q1, .int md, .int (0 : Int32)])), (q1, .inl (cI, 16, .inl (upd fc2 ix.toNatClampNeg (fc2 (ix - (1 : Int32)).toNatClampNeg))))] H := hP
      have hD : va_D A [(q0, .inr (2, [.ref q1, .int md, .int (0 : Int32)])), (q1, .inl (cI, 16, .inl (upd fc2 ix.toNatClampNeg (fc2 (ix - (1 : Int32)).toNatClampNeg))))] := hD
      refine lv_iinc (v := (ix + (-1))) (lv' := [(3, .int (ix + (-1))), (0, .ref q0), (1, .int md), (2, .int tk)]) hx hb dX2_enter_40 hl (k := 3) rfl (by first | rfl | decide) (by decide) rfl (fun ls hl => ?_)
      refine lv_goto (tgt := 22) hx hb dX2_enter_43 (by decide) ?_
      exact ih (ix + (-1)) (upd fc2 ix.toNatClampNeg (fc2 (ix - (1 : Int32)).toNatClampNeg)) _ _ _ (kk_Jdn hI c_1001) (by show FIN = (g_X2_enter_lp cu lf fc md tk fuel (ix + (-1)) (upd fc2 ix.toNatClampNeg (fc2 (ix - (1 : Int32)).toNatClampNeg))); rw [hF, g_X2_enter_lp]; rw [if_neg c_1001]; try rfl) (hP.sub [0, 1] rfl) (hD.sub [0, 1] (by decide) rfl) hS (lv_sub hl [1, 2, 3, 0] rfl)
set_option maxHeartbeats 4000000 in
set_option maxRecDepth 100000 in
theorem k_X2_enter (l : Launch) (D : va_G) (cI cZ : ClassId) (q0 : Nat) (q1 : Nat) (sz : Nat) (cu : Int32) (lf : Int32) (fc : Nat → Int32) (md : Int32) (tk : Int32)  : kk_Mv l D cI cZ yX2_enter wsX2_enter ({ frames := 0, cells := 0, slots := 0, locals := 0 } : Room) [.ref q0, .int md, .int tk] sz [(q0, .inr (2, [.ref q1, .int cu, .int lf])), (q1, .inl (cI, 16, .inl fc))] (fun (u : (Nat → Int32) × Int32 × Int32) => u = f_X2_enter cu lf fc md tk) (fun u => [(q0, .inr (2, [.ref q1, .int u.2.1, .int u.2.2])), (q1, .inl (cI, 16, .inl u.1))]) 0 0 := by
  refine kk_entv (cc := cX2_enter) (maxL := 4) (ret := none) (by decide +kernel) rfl (Nat.le_of_ble_eq_true rfl) (fun p e s m args below meth c A ls hX hP hD hS hl => ?_)
  have hX0 := hX
  obtain ⟨hx, hb, hml, hown, hts, hr, hlk, hnm, hK, hA⟩ := hX
  have hown : s.vm.findClass RX2 = some m.cls := hown
  have hiX2 : ∀ w ∈ wsX20, w ∈ wsX2_enter := by decide +kernel
  have hl : lv_has ls 4 [(0, .ref q0), (1, .int md), (2, .int tk)] := hl
  refine lv_iload_n hx hb dX2_enter_0 rfl (lv_at hl 1 rfl) ?_
  refine lv_aload_n hx hb dX2_enter_1 rfl (lv_at hl 0 rfl) ?_
  refine va_get (D := D) hx hb hts hiX2 hown hK.1 hP 0 rfl rfl 1 (by decide) (hts (.fieldLink RX2 15 "FencePilot$ModeLog" "current" "I") (by decide +kernel)) (fun _ h9 => h9) rfl dX2_enter_2 ?_
  refine lv_icmp_ne (tgt := 9) hx hb dX2_enter_5 (by decide) (fun c_1 => ?_) (fun c_1 => ?_)
  · refine lv_aload_n hx hb dX2_enter_9 rfl (lv_at hl 0 rfl) ?_
    refine lv_iload_n hx hb dX2_enter_10 rfl (lv_at hl 1 rfl) ?_
    refine va_put (D := D) (ci := 2) (v := .int md) (ty := .int) (C := RX2) (T := TX2) (N := 3) hx hb hts hiX2 tyX2 tyX2_ok nmX2 hown hK.1 hP hD hS 0 rfl rfl 1 (by decide) (hts (.fieldLink RX2 15 "FencePilot$ModeLog" "current" "I") (by decide +kernel)) (fun _ h9 => h9) rfl (by decide +kernel) rfl rfl (Nat.le_of_ble_eq_true rfl) dX2_enter_11 (fun H locs hP hD hS => ?_)
    have hP : va_P D vwCl [(q0, .inr (2, [.ref q1, .int md, .int lf])), (q1, .inl (cI, 16, .inl fc))] H := hP
    have hD : va_D A [(q0, .inr (2, [.ref q1, .int md, .int lf])), (q1, .inl (cI, 16, .inl fc))] := hD
    refine lv_aload_n hx hb dX2_enter_14 rfl (lv_at hl 0 rfl) ?_
    refine lv_iconst (v := 0) hx hb dX2_enter_15 (by decide) ?_
    refine va_put (D := D) (ci := 2) (v := .int (0 : Int32)) (ty := .boolean) (C := RX2) (T := TX2) (N := 3) hx hb hts hiX2 tyX2 tyX2_ok nmX2 hown hK.1 hP hD hS 0 rfl rfl 2 (by decide) (hts (.fieldLink RX2 19 "FencePilot$ModeLog" "landForced" "Z") (by decide +kernel)) (fun _ h9 => h9) rfl (by decide +kernel) rfl rfl (Nat.le_of_ble_eq_true rfl) dX2_enter_16 (fun H locs hP hD hS => ?_)
    have hP : va_P D vwCl [(q0, .inr (2, [.ref q1, .int md, .int (0 : Int32)])), (q1, .inl (cI, 16, .inl fc))] H := hP
    have hD : va_D A [(q0, .inr (2, [.ref q1, .int md, .int (0 : Int32)])), (q1, .inl (cI, 16, .inl fc))] := hD
    refine lv_bipush (v := 15) hx hb dX2_enter_19 (by decide) ?_
    refine lv_istore_n (lv' := [(3, .int (15 : Int32)), (0, .ref q0), (1, .int md), (2, .int tk)]) hx hb dX2_enter_21 rfl hl (by decide) rfl (fun ls hl => ?_)
    exact lp_X2_enter_lp l D cI cZ q0 q1 cu lf fc md tk hX0 (f_X2_enter cu lf fc md tk) 16 (15 : Int32) fc _ _ _ ⟨by decide, by decide, by decide⟩ (by show f_X2_enter cu lf fc md tk = (g_X2_enter_lp cu lf fc md tk 16 (15 : Int32) fc); unfold f_X2_enter; rw [if_neg c_1]; try rfl) (hP.sub [0, 1] rfl) (hD.sub [0, 1] (by decide) rfl) hS (lv_sub hl [1, 2, 3, 0] rfl)
  · exact kk_rv (fc, cu, lf) hx hb hr hlk dX2_enter_8 hS (hP.sub [0, 1] rfl) (hD.sub [0, 1] (by decide) rfl) (by show (fc, cu, lf) = f_X2_enter cu lf fc md tk; unfold f_X2_enter; rw [if_pos c_1]; try rfl)
def f_X2_forceLand (cu : Int32) (lf : Int32) (fc : Nat → Int32) (tk : Int32) : (Nat → Int32) × Int32 × Int32 := (match (f_X2_enter cu lf fc (5 : Int32) tk) with | (u_1, u_2, u_3) => (u_1, u_2, (1 : Int32)))
set_option maxHeartbeats 4000000 in
set_option maxRecDepth 100000 in
theorem k_X2_forceLand (l : Launch) (D : va_G) (cI cZ : ClassId) (q0 : Nat) (q1 : Nat) (sz : Nat) (cu : Int32) (lf : Int32) (fc : Nat → Int32) (tk : Int32)  : kk_Mv l D cI cZ yX2_forceLand wsX2_forceLand ({ frames := 1, cells := 0, slots := 0, locals := 23 } : Room) [.ref q0, .int tk] sz [(q0, .inr (2, [.ref q1, .int cu, .int lf])), (q1, .inl (cI, 16, .inl fc))] (fun (u : (Nat → Int32) × Int32 × Int32) => u = f_X2_forceLand cu lf fc tk) (fun u => [(q0, .inr (2, [.ref q1, .int u.2.1, .int u.2.2])), (q1, .inl (cI, 16, .inl u.1))]) 0 0 := by
  refine kk_entv (cc := cX2_forceLand) (maxL := 2) (ret := none) (by decide +kernel) rfl (Nat.le_of_ble_eq_true rfl) (fun p e s m args below meth c A ls hX hP hD hS hl => ?_)
  obtain ⟨hx, hb, hml, hown, hts, hr, hlk, hnm, hK, hA⟩ := hX
  have hown : s.vm.findClass RX2 = some m.cls := hown
  have hiX2 : ∀ w ∈ wsX20, w ∈ wsX2_forceLand := by decide +kernel
  have hl : lv_has ls 2 [(0, .ref q0), (1, .int tk)] := hl
  refine lv_aload_n hx hb dX2_forceLand_0 rfl (lv_at hl 0 rfl) ?_
  refine lv_iconst (v := 5) hx hb dX2_forceLand_1 (by decide) ?_
  refine lv_iload_n hx hb dX2_forceLand_2 rfl (lv_at hl 1 rfl) ?_
  refine kk_cVv (wc := [(q0, .inr (2, [.ref q1, .int cu, .int lf])), (q1, .inl (cI, 16, .inl fc))]) (wr := []) ⟨hx, hb, hml, hown, hts⟩ hK hP hD hS hA [0, 1] [] (k_X2_enter l D cI cZ q0 q1 s.heap.size cu lf fc (5 : Int32) tk) (cwV 2 hts gX2_forceLand_X2_enter rfl rfl rfl (by decide +kernel) ⟨(Nat.le_of_ble_eq_true rfl), (Nat.le_of_ble_eq_true rfl)⟩) rfl rfl (by decide) (by decide) (by decide) 0 2 rfl rfl rfl rfl hl.1 rfl (Nat.le_of_ble_eq_true rfl) dX2_forceLand_3 ⟨(Nat.le_of_ble_eq_true rfl), (Nat.le_of_ble_eq_true rfl)⟩ (fun u H locs hw_5 hP hD hS => ?_)
  obtain ⟨u_1, u_2, u_3⟩ := u
  have hw_5 : (u_1, u_2, u_3) = (f_X2_enter cu lf fc (5 : Int32) tk) := hw_5
  have hP : va_P D vwCl [(q0, .inr (2, [.ref q1, .int u_2, .int u_3])), (q1, .inl (cI, 16, .inl u_1))] H := hP
  have hD : va_D A [(q0, .inr (2, [.ref q1, .int u_2, .int u_3])), (q1, .inl (cI, 16, .inl u_1))] := hD
  refine lv_aload_n hx hb dX2_forceLand_6 rfl (lv_at hl 0 rfl) ?_
  refine lv_iconst (v := 1) hx hb dX2_forceLand_7 (by decide) ?_
  refine va_put (D := D) (ci := 2) (v := .int (1 : Int32)) (ty := .boolean) (C := RX2) (T := TX2) (N := 3) hx hb hts hiX2 tyX2 tyX2_ok nmX2 hown hK.1 hP hD hS 0 rfl rfl 2 (by decide) (hts (.fieldLink RX2 19 "FencePilot$ModeLog" "landForced" "Z") (by decide +kernel)) (fun _ h9 => h9) rfl (by decide +kernel) rfl rfl (Nat.le_of_ble_eq_true rfl) dX2_forceLand_8 (fun H locs hP hD hS => ?_)
  have hP : va_P D vwCl [(q0, .inr (2, [.ref q1, .int u_2, .int (1 : Int32)])), (q1, .inl (cI, 16, .inl u_1))] H := hP
  have hD : va_D A [(q0, .inr (2, [.ref q1, .int u_2, .int (1 : Int32)])), (q1, .inl (cI, 16, .inl u_1))] := hD
  exact kk_rv (u_1, u_2, (1 : Int32)) hx hb hr hlk dX2_forceLand_11 hS (hP.sub [0, 1] rfl) (hD.sub [0, 1] (by decide) rfl) (by show (u_1, u_2, (1 : Int32)) = f_X2_forceLand cu lf fc tk; unfold f_X2_forceLand; rw [← hw_5]; try dsimp only; try rfl)
def f_X3_take (fr : Nat → Int32) (ff : Nat → Int32) (k : Int32) (x : Int32) (y : Int32) (z : Int32) : (Nat → Int32) × (Nat → Int32) := ((upd (upd (upd fr ((k * (3 : Int32)) + (0 : Int32)).toNatClampNeg x) ((k * (3 : Int32)) + (1 : Int32)).toNatClampNeg y) ((k * (3 : Int32)) + (2 : Int32)).toNatClampNeg z), (upd ff k.toNatClampNeg (vp_nar .boolean (1 : Int32))))
set_option maxHeartbeats 4000000 in
set_option maxRecDepth 100000 in
theorem k_X3_take (l : Launch) (D : va_G) (cI cZ : ClassId) (q0 : Nat) (q1 : Nat) (q2 : Nat) (sz : Nat) (fr : Nat → Int32) (ff : Nat → Int32) (k : Int32) (x : Int32) (y : Int32) (z : Int32) (hk : kk_L k 2) : kk_Mv l D cI cZ yX3_take wsX3_take ({ frames := 0, cells := 0, slots := 0, locals := 0 } : Room) [.ref q0, .int k, .int x, .int y, .int z] sz [(q0, .inr (3, [.ref q1, .ref q2])), (q1, .inl (cI, 9, .inl fr)), (q2, .inl (cZ, 3, .inl ff))] (fun (u : (Nat → Int32) × (Nat → Int32)) => u = f_X3_take fr ff k x y z) (fun u => [(q0, .inr (3, [.ref q1, .ref q2])), (q1, .inl (cI, 9, .inl u.1)), (q2, .inl (cZ, 3, .inl u.2))]) 0 0 := by
  refine kk_entv (cc := cX3_take) (maxL := 5) (ret := none) (by decide +kernel) rfl (Nat.le_of_ble_eq_true rfl) (fun p e s m args below meth c A ls hX hP hD hS hl => ?_)
  obtain ⟨hx, hb, hml, hown, hts, hr, hlk, hnm, hK, hA⟩ := hX
  have hown : s.vm.findClass RX3 = some m.cls := hown
  have hiX3 : ∀ w ∈ wsX30, w ∈ wsX3_take := by decide +kernel
  have hl : lv_has ls 5 [(0, .ref q0), (1, .int k), (2, .int x), (3, .int y), (4, .int z)] := hl
  refine lv_aload_n hx hb dX3_take_0 rfl (lv_at hl 0 rfl) ?_
  refine va_get (D := D) hx hb hts hiX3 hown hK.1 hP 0 rfl rfl 0 (by decide) (hts (.fieldLink RX3 9 "FencePilot$Sensors" "row" "[I") (by decide +kernel)) (fun _ h9 => h9) rfl dX3_take_1 ?_
  refine lv_iload_n hx hb dX3_take_4 rfl (lv_at hl 1 rfl) ?_
  refine lv_iconst (v := 3) hx hb dX3_take_5 (by decide) ?_
  refine lv_imul hx hb dX3_take_6 ?_
  refine lv_iconst (v := 0) hx hb dX3_take_7 (by decide) ?_
  refine lv_iadd hx hb dX3_take_8 ?_
  refine lv_iload_n hx hb dX3_take_9 rfl (lv_at hl 2 rfl) ?_
  refine va_iast hx hb hK.1 hP hD hS 1 0 rfl rfl (kk_Lix' (kk_L3 hk (by decide) (j := 0) rfl (by decide) (by decide)) (by decide)) dX3_take_10 (fun H locs hP hD hS => ?_)
  have hP : va_P D vwCl [(q0, .inr (3, [.ref q1, .ref q2])), (q1, .inl (cI, 9, .inl (upd fr ((k * (3 : Int32)) + (0 : Int32)).toNatClampNeg x))), (q2, .inl (cZ, 3, .inl ff))] H := hP
  have hD : va_D A [(q0, .inr (3, [.ref q1, .ref q2])), (q1, .inl (cI, 9, .inl (upd fr ((k * (3 : Int32)) + (0 : Int32)).toNatClampNeg x))), (q2, .inl (cZ, 3, .inl ff))] := hD
  refine lv_aload_n hx hb dX3_take_11 rfl (lv_at hl 0 rfl) ?_
  refine va_get (D := D) hx hb hts hiX3 hown hK.1 hP 0 rfl rfl 0 (by decide) (hts (.fieldLink RX3 9 "FencePilot$Sensors" "row" "[I") (by decide +kernel)) (fun _ h9 => h9) rfl dX3_take_12 ?_
  refine lv_iload_n hx hb dX3_take_15 rfl (lv_at hl 1 rfl) ?_
  refine lv_iconst (v := 3) hx hb dX3_take_16 (by decide) ?_
  refine lv_imul hx hb dX3_take_17 ?_
  refine lv_iconst (v := 1) hx hb dX3_take_18 (by decide) ?_
  refine lv_iadd hx hb dX3_take_19 ?_
  refine lv_iload_n hx hb dX3_take_20 rfl (lv_at hl 3 rfl) ?_
  refine va_iast hx hb hK.1 hP hD hS 1 0 rfl rfl (kk_Lix' (kk_L3 hk (by decide) (j := 1) rfl (by decide) (by decide)) (by decide)) dX3_take_21 (fun H locs hP hD hS => ?_)
  have hP : va_P D vwCl [(q0, .inr (3, [.ref q1, .ref q2])), (q1, .inl (cI, 9, .inl (upd (upd fr ((k * (3 : Int32)) + (0 : Int32)).toNatClampNeg x) ((k * (3 : Int32)) + (1 : Int32)).toNatClampNeg y))), (q2, .inl (cZ, 3, .inl ff))] H := hP
  have hD : va_D A [(q0, .inr (3, [.ref q1, .ref q2])), (q1, .inl (cI, 9, .inl (upd (upd fr ((k * (3 : Int32)) + (0 : Int32)).toNatClampNeg x) ((k * (3 : Int32)) + (1 : Int32)).toNatClampNeg y))), (q2, .inl (cZ, 3, .inl ff))] := hD
  refine lv_aload_n hx hb dX3_take_22 rfl (lv_at hl 0 rfl) ?_
  refine va_get (D := D) hx hb hts hiX3 hown hK.1 hP 0 rfl rfl 0 (by decide) (hts (.fieldLink RX3 9 "FencePilot$Sensors" "row" "[I") (by decide +kernel)) (fun _ h9 => h9) rfl dX3_take_23 ?_
  refine lv_iload_n hx hb dX3_take_26 rfl (lv_at hl 1 rfl) ?_
  refine lv_iconst (v := 3) hx hb dX3_take_27 (by decide) ?_
  refine lv_imul hx hb dX3_take_28 ?_
  refine lv_iconst (v := 2) hx hb dX3_take_29 (by decide) ?_
  refine lv_iadd hx hb dX3_take_30 ?_
  refine lv_iload hx hb dX3_take_31 (lv_at hl 4 rfl) ?_
  refine va_iast hx hb hK.1 hP hD hS 1 0 rfl rfl (kk_Lix' (kk_L3 hk (by decide) (j := 2) rfl (by decide) (by decide)) (by decide)) dX3_take_33 (fun H locs hP hD hS => ?_)
  have hP : va_P D vwCl [(q0, .inr (3, [.ref q1, .ref q2])), (q1, .inl (cI, 9, .inl (upd (upd (upd fr ((k * (3 : Int32)) + (0 : Int32)).toNatClampNeg x) ((k * (3 : Int32)) + (1 : Int32)).toNatClampNeg y) ((k * (3 : Int32)) + (2 : Int32)).toNatClampNeg z))), (q2, .inl (cZ, 3, .inl ff))] H := hP
  have hD : va_D A [(q0, .inr (3, [.ref q1, .ref q2])), (q1, .inl (cI, 9, .inl (upd (upd (upd fr ((k * (3 : Int32)) + (0 : Int32)).toNatClampNeg x) ((k * (3 : Int32)) + (1 : Int32)).toNatClampNeg y) ((k * (3 : Int32)) + (2 : Int32)).toNatClampNeg z))), (q2, .inl (cZ, 3, .inl ff))] := hD
  refine lv_aload_n hx hb dX3_take_34 rfl (lv_at hl 0 rfl) ?_
  refine va_get (D := D) hx hb hts hiX3 hown hK.1 hP 0 rfl rfl 1 (by decide) (hts (.fieldLink RX3 15 "FencePilot$Sensors" "fresh" "[Z") (by decide +kernel)) (fun _ h9 => h9) rfl dX3_take_35 ?_
  refine lv_iload_n hx hb dX3_take_38 rfl (lv_at hl 1 rfl) ?_
  refine lv_iconst (v := 1) hx hb dX3_take_39 (by decide) ?_
  refine va_zast hx hb hK.1 hP hD hS 2 1 rfl rfl (kk_Lix' hk (by decide)) dX3_take_40 (fun H locs hP hD hS => ?_)
  have hP : va_P D vwCl [(q0, .inr (3, [.ref q1, .ref q2])), (q1, .inl (cI, 9, .inl (upd (upd (upd fr ((k * (3 : Int32)) + (0 : Int32)).toNatClampNeg x) ((k * (3 : Int32)) + (1 : Int32)).toNatClampNeg y) ((k * (3 : Int32)) + (2 : Int32)).toNatClampNeg z))), (q2, .inl (cZ, 3, .inl (upd ff k.toNatClampNeg (vp_nar .boolean (1 : Int32)))))] H := hP
  have hD : va_D A [(q0, .inr (3, [.ref q1, .ref q2])), (q1, .inl (cI, 9, .inl (upd (upd (upd fr ((k * (3 : Int32)) + (0 : Int32)).toNatClampNeg x) ((k * (3 : Int32)) + (1 : Int32)).toNatClampNeg y) ((k * (3 : Int32)) + (2 : Int32)).toNatClampNeg z))), (q2, .inl (cZ, 3, .inl (upd ff k.toNatClampNeg (vp_nar .boolean (1 : Int32)))))] := hD
  exact kk_rv ((upd (upd (upd fr ((k * (3 : Int32)) + (0 : Int32)).toNatClampNeg x) ((k * (3 : Int32)) + (1 : Int32)).toNatClampNeg y) ((k * (3 : Int32)) + (2 : Int32)).toNatClampNeg z), (upd ff k.toNatClampNeg (vp_nar .boolean (1 : Int32)))) hx hb hr hlk dX3_take_41 hS (hP.sub [0, 1, 2] rfl) (hD.sub [0, 1, 2] (by decide) rfl) (by show ((upd (upd (upd fr ((k * (3 : Int32)) + (0 : Int32)).toNatClampNeg x) ((k * (3 : Int32)) + (1 : Int32)).toNatClampNeg y) ((k * (3 : Int32)) + (2 : Int32)).toNatClampNeg z), (upd ff k.toNatClampNeg (vp_nar .boolean (1 : Int32)))) = f_X3_take fr ff k x y z; unfold f_X3_take; rfl)
def f_X3_countFresh (ff : Nat → Int32) : Int32 := (if (ff (0 : Int32).toNatClampNeg) = (0 : Int32) then (if (ff (1 : Int32).toNatClampNeg) = (0 : Int32) then (if (ff (2 : Int32).toNatClampNeg) = (0 : Int32) then (0 : Int32) else (1 : Int32)) else (if (ff (2 : Int32).toNatClampNeg) = (0 : Int32) then (1 : Int32) else (2 : Int32))) else (if (ff (1 : Int32).toNatClampNeg) = (0 : Int32) then (if (ff (2 : Int32).toNatClampNeg) = (0 : Int32) then (1 : Int32) else (2 : Int32)) else (if (ff (2 : Int32).toNatClampNeg) = (0 : Int32) then (2 : Int32) else (3 : Int32))))
set_option maxHeartbeats 4000000 in
set_option maxRecDepth 100000 in
theorem k_X3_countFresh (l : Launch) (D : va_G) (cI cZ : ClassId) (q0 : Nat) (q1 : Nat) (q2 : Nat) (sz : Nat) (ff : Nat → Int32)   : kk_Mi l D cI cZ yX3_countFresh wsX3_countFresh ({ frames := 0, cells := 0, slots := 0, locals := 0 } : Room) [.ref q0] sz [(q0, .inr (3, [.ref q1, .ref q2])), (q2, .inl (cZ, 3, .inl ff))] (fun (r : Int32) (_ : Unit) => r = f_X3_countFresh ff) (fun _ => [(q0, .inr (3, [.ref q1, .ref q2])), (q2, .inl (cZ, 3, .inl ff))]) 0 0 := by
  refine kk_enti (cc := cX3_countFresh) (maxL := 3) (ret := (some .int)) (by decide +kernel) rfl (Nat.le_of_ble_eq_true rfl) (fun p e s m args below meth c A ls hX hP hD hS hl => ?_)
  obtain ⟨hx, hb, hml, hown, hts, hr, hlk, hnm, hK, hA⟩ := hX
  have hown : s.vm.findClass RX3 = some m.cls := hown
  have hiX3 : ∀ w ∈ wsX30, w ∈ wsX3_countFresh := by decide +kernel
  have hl : lv_has ls 3 [(0, .ref q0)] := hl
  refine lv_iconst (v := 0) hx hb dX3_countFresh_0 (by decide) ?_
  refine lv_istore_n (lv' := [(1, .int (0 : Int32)), (0, .ref q0)]) hx hb dX3_countFresh_1 rfl hl (by decide) rfl (fun ls hl => ?_)
  refine lv_iconst (v := 0) hx hb dX3_countFresh_2 (by decide) ?_
  refine lv_istore_n (lv' := [(2, .int (0 : Int32)), (1, .int (0 : Int32)), (0, .ref q0)]) hx hb dX3_countFresh_3 rfl hl (by decide) rfl (fun ls hl => ?_)
  refine lv_iload_n hx hb dX3_countFresh_4 rfl (lv_at hl 0 rfl) ?_
  refine lv_iconst (v := 3) hx hb dX3_countFresh_5 (by decide) ?_
  refine lv_icmp_ge (tgt := 27) hx hb dX3_countFresh_6 (by decide) (fun z => absurd z (by decide)) (fun _ => ?_)
  refine lv_aload_n hx hb dX3_countFresh_9 rfl (lv_at hl 2 rfl) ?_
  refine va_get (D := D) hx hb hts hiX3 hown hK.1 hP 0 rfl rfl 1 (by decide) (hts (.fieldLink RX3 15 "FencePilot$Sensors" "fresh" "[Z") (by decide +kernel)) (fun _ h9 => h9) rfl dX3_countFresh_10 ?_
  refine lv_iload_n hx hb dX3_countFresh_13 rfl (lv_at hl 0 rfl) ?_
  refine va_zald hx hb hK.1 hP 1 1 rfl rfl (by unfold vp_in; decide) dX3_countFresh_14 ?_
  refine lv_if_eq (tgt := 21) hx hb dX3_countFresh_15 (by decide) (fun c_1 => ?_) (fun c_1 => ?_)
  · refine lv_iinc (v := (1 : Int32)) (lv' := [(2, .int (1 : Int32)), (1, .int (0 : Int32)), (0, .ref q0)]) hx hb dX3_countFresh_21 hl (k := 0) rfl (by first | rfl | decide) (by decide) rfl (fun ls hl => ?_)
    refine lv_goto (tgt := 4) hx hb dX3_countFresh_24 (by decide) ?_
    refine lv_iload_n hx hb dX3_countFresh_4 rfl (lv_at hl 0 rfl) ?_
    refine lv_iconst (v := 3) hx hb dX3_countFresh_5 (by decide) ?_
    refine lv_icmp_ge (tgt := 27) hx hb dX3_countFresh_6 (by decide) (fun z => absurd z (by decide)) (fun _ => ?_)
    refine lv_aload_n hx hb dX3_countFresh_9 rfl (lv_at hl 2 rfl) ?_
    refine va_get (D := D) hx hb hts hiX3 hown hK.1 hP 0 rfl rfl 1 (by decide) (hts (.fieldLink RX3 15 "FencePilot$Sensors" "fresh" "[Z") (by decide +kernel)) (fun _ h9 => h9) rfl dX3_countFresh_10 ?_
    refine lv_iload_n hx hb dX3_countFresh_13 rfl (lv_at hl 0 rfl) ?_
    refine va_zald hx hb hK.1 hP 1 1 rfl rfl (by unfold vp_in; decide) dX3_countFresh_14 ?_
    refine lv_if_eq (tgt := 21) hx hb dX3_countFresh_15 (by decide) (fun c_2 => ?_) (fun c_2 => ?_)
    · refine lv_iinc (v := (2 : Int32)) (lv' := [(2, .int (2 : Int32)), (1, .int (0 : Int32)), (0, .ref q0)]) hx hb dX3_countFresh_21 hl (k := 0) rfl (by first | rfl | decide) (by decide) rfl (fun ls hl => ?_)
      refine lv_goto (tgt := 4) hx hb dX3_countFresh_24 (by decide) ?_
      refine lv_iload_n hx hb dX3_countFresh_4 rfl (lv_at hl 0 rfl) ?_
      refine lv_iconst (v := 3) hx hb dX3_countFresh_5 (by decide) ?_
      refine lv_icmp_ge (tgt := 27) hx hb dX3_countFresh_6 (by decide) (fun z => absurd z (by decide)) (fun _ => ?_)
      refine lv_aload_n hx hb dX3_countFresh_9 rfl (lv_at hl 2 rfl) ?_
      refine va_get (D := D) hx hb hts hiX3 hown hK.1 hP 0 rfl rfl 1 (by decide) (hts (.fieldLink RX3 15 "FencePilot$Sensors" "fresh" "[Z") (by decide +kernel)) (fun _ h9 => h9) rfl dX3_countFresh_10 ?_
      refine lv_iload_n hx hb dX3_countFresh_13 rfl (lv_at hl 0 rfl) ?_
      refine va_zald hx hb hK.1 hP 1 1 rfl rfl (by unfold vp_in; decide) dX3_countFresh_14 ?_
      refine lv_if_eq (tgt := 21) hx hb dX3_countFresh_15 (by decide) (fun c_3 => ?_) (fun c_3 => ?_)
      · refine lv_iinc (v := (3 : Int32)) (lv' := [(2, .int (3 : Int32)), (1, .int (0 : Int32)), (0, .ref q0)]) hx hb dX3_countFresh_21 hl (k := 0) rfl (by first | rfl | decide) (by decide) rfl (fun ls hl => ?_)
        refine lv_goto (tgt := 4) hx hb dX3_countFresh_24 (by decide) ?_
        refine lv_iload_n hx hb dX3_countFresh_4 rfl (lv_at hl 0 rfl) ?_
        refine lv_iconst (v := 3) hx hb dX3_countFresh_5 (by decide) ?_
        refine lv_icmp_ge (tgt := 27) hx hb dX3_countFresh_6 (by decide) (fun _ => ?_) (fun z => absurd (by decide) z)
        refine lv_iload_n hx hb dX3_countFresh_27 rfl (lv_at hl 1 rfl) ?_
        exact kk_ri () hx hb hr hlk dX3_countFresh_28 hS (hP.sub [0, 1] rfl) (hD.sub [0, 1] (by decide) rfl) (by show (0 : Int32) = f_X3_countFresh ff; unfold f_X3_countFresh; rw [if_pos c_1]; rw [if_pos c_2]; rw [if_pos c_3]; try rfl)
      · refine lv_iinc (v := (1 : Int32)) (lv' := [(1, .int (1 : Int32)), (2, .int (2 : Int32)), (0, .ref q0)]) hx hb dX3_countFresh_18 hl (k := 1) rfl (by first | rfl | decide) (by decide) rfl (fun ls hl => ?_)
        refine lv_iinc (v := (3 : Int32)) (lv' := [(2, .int (3 : Int32)), (1, .int (1 : Int32)), (0, .ref q0)]) hx hb dX3_countFresh_21 hl (k := 1) rfl (by first | rfl | decide) (by decide) rfl (fun ls hl => ?_)
        refine lv_goto (tgt := 4) hx hb dX3_countFresh_24 (by decide) ?_
        refine lv_iload_n hx hb dX3_countFresh_4 rfl (lv_at hl 0 rfl) ?_
        refine lv_iconst (v := 3) hx hb dX3_countFresh_5 (by decide) ?_
        refine lv_icmp_ge (tgt := 27) hx hb dX3_countFresh_6 (by decide) (fun _ => ?_) (fun z => absurd (by decide) z)
        refine lv_iload_n hx hb dX3_countFresh_27 rfl (lv_at hl 1 rfl) ?_
        exact kk_ri () hx hb hr hlk dX3_countFresh_28 hS (hP.sub [0, 1] rfl) (hD.sub [0, 1] (by decide) rfl) (by show (1 : Int32) = f_X3_countFresh ff; unfold f_X3_countFresh; rw [if_pos c_1]; rw [if_pos c_2]; rw [if_neg c_3]; try rfl)
    · refine lv_iinc (v := (1 : Int32)) (lv' := [(1, .int (1 : Int32)), (2, .int (1 : Int32)), (0, .ref q0)]) hx hb dX3_countFresh_18 hl (k := 1) rfl (by first | rfl | decide) (by decide) rfl (fun ls hl => ?_)
      refine lv_iinc (v := (2 : Int32)) (lv' := [(2, .int (2 : Int32)), (1, .int (1 : Int32)), (0, .ref q0)]) hx hb dX3_countFresh_21 hl (k := 1) rfl (by first | rfl | decide) (by decide) rfl (fun ls hl => ?_)
      refine lv_goto (tgt := 4) hx hb dX3_countFresh_24 (by decide) ?_
      refine lv_iload_n hx hb dX3_countFresh_4 rfl (lv_at hl 0 rfl) ?_
      refine lv_iconst (v := 3) hx hb dX3_countFresh_5 (by decide) ?_
      refine lv_icmp_ge (tgt := 27) hx hb dX3_countFresh_6 (by decide) (fun z => absurd z (by decide)) (fun _ => ?_)
      refine lv_aload_n hx hb dX3_countFresh_9 rfl (lv_at hl 2 rfl) ?_
      refine va_get (D := D) hx hb hts hiX3 hown hK.1 hP 0 rfl rfl 1 (by decide) (hts (.fieldLink RX3 15 "FencePilot$Sensors" "fresh" "[Z") (by decide +kernel)) (fun _ h9 => h9) rfl dX3_countFresh_10 ?_
      refine lv_iload_n hx hb dX3_countFresh_13 rfl (lv_at hl 0 rfl) ?_
      refine va_zald hx hb hK.1 hP 1 1 rfl rfl (by unfold vp_in; decide) dX3_countFresh_14 ?_
      refine lv_if_eq (tgt := 21) hx hb dX3_countFresh_15 (by decide) (fun c_4 => ?_) (fun c_4 => ?_)
      · refine lv_iinc (v := (3 : Int32)) (lv' := [(2, .int (3 : Int32)), (1, .int (1 : Int32)), (0, .ref q0)]) hx hb dX3_countFresh_21 hl (k := 0) rfl (by first | rfl | decide) (by decide) rfl (fun ls hl => ?_)
        refine lv_goto (tgt := 4) hx hb dX3_countFresh_24 (by decide) ?_
        refine lv_iload_n hx hb dX3_countFresh_4 rfl (lv_at hl 0 rfl) ?_
        refine lv_iconst (v := 3) hx hb dX3_countFresh_5 (by decide) ?_
        refine lv_icmp_ge (tgt := 27) hx hb dX3_countFresh_6 (by decide) (fun _ => ?_) (fun z => absurd (by decide) z)
        refine lv_iload_n hx hb dX3_countFresh_27 rfl (lv_at hl 1 rfl) ?_
        exact kk_ri () hx hb hr hlk dX3_countFresh_28 hS (hP.sub [0, 1] rfl) (hD.sub [0, 1] (by decide) rfl) (by show (1 : Int32) = f_X3_countFresh ff; unfold f_X3_countFresh; rw [if_pos c_1]; rw [if_neg c_2]; rw [if_pos c_4]; try rfl)
      · refine lv_iinc (v := (2 : Int32)) (lv' := [(1, .int (2 : Int32)), (2, .int (2 : Int32)), (0, .ref q0)]) hx hb dX3_countFresh_18 hl (k := 1) rfl (by first | rfl | decide) (by decide) rfl (fun ls hl => ?_)
        refine lv_iinc (v := (3 : Int32)) (lv' := [(2, .int (3 : Int32)), (1, .int (2 : Int32)), (0, .ref q0)]) hx hb dX3_countFresh_21 hl (k := 1) rfl (by first | rfl | decide) (by decide) rfl (fun ls hl => ?_)
        refine lv_goto (tgt := 4) hx hb dX3_countFresh_24 (by decide) ?_
        refine lv_iload_n hx hb dX3_countFresh_4 rfl (lv_at hl 0 rfl) ?_
        refine lv_iconst (v := 3) hx hb dX3_countFresh_5 (by decide) ?_
        refine lv_icmp_ge (tgt := 27) hx hb dX3_countFresh_6 (by decide) (fun _ => ?_) (fun z => absurd (by decide) z)
        refine lv_iload_n hx hb dX3_countFresh_27 rfl (lv_at hl 1 rfl) ?_
        exact kk_ri () hx hb hr hlk dX3_countFresh_28 hS (hP.sub [0, 1] rfl) (hD.sub [0, 1] (by decide) rfl) (by show (2 : Int32) = f_X3_countFresh ff; unfold f_X3_countFresh; rw [if_pos c_1]; rw [if_neg c_2]; rw [if_neg c_4]; try rfl)
  · refine lv_iinc (v := (1 : Int32)) (lv' := [(1, .int (1 : Int32)), (2, .int (0 : Int32)), (0, .ref q0)]) hx hb dX3_countFresh_18 hl (k := 1) rfl (by first | rfl | decide) (by decide) rfl (fun ls hl => ?_)
    refine lv_iinc (v := (1 : Int32)) (lv' := [(2, .int (1 : Int32)), (1, .int (1 : Int32)), (0, .ref q0)]) hx hb dX3_countFresh_21 hl (k := 1) rfl (by first | rfl | decide) (by decide) rfl (fun ls hl => ?_)
    refine lv_goto (tgt := 4) hx hb dX3_countFresh_24 (by decide) ?_
    refine lv_iload_n hx hb dX3_countFresh_4 rfl (lv_at hl 0 rfl) ?_
    refine lv_iconst (v := 3) hx hb dX3_countFresh_5 (by decide) ?_
    refine lv_icmp_ge (tgt := 27) hx hb dX3_countFresh_6 (by decide) (fun z => absurd z (by decide)) (fun _ => ?_)
    refine lv_aload_n hx hb dX3_countFresh_9 rfl (lv_at hl 2 rfl) ?_
    refine va_get (D := D) hx hb hts hiX3 hown hK.1 hP 0 rfl rfl 1 (by decide) (hts (.fieldLink RX3 15 "FencePilot$Sensors" "fresh" "[Z") (by decide +kernel)) (fun _ h9 => h9) rfl dX3_countFresh_10 ?_
    refine lv_iload_n hx hb dX3_countFresh_13 rfl (lv_at hl 0 rfl) ?_
    refine va_zald hx hb hK.1 hP 1 1 rfl rfl (by unfold vp_in; decide) dX3_countFresh_14 ?_
    refine lv_if_eq (tgt := 21) hx hb dX3_countFresh_15 (by decide) (fun c_5 => ?_) (fun c_5 => ?_)
    · refine lv_iinc (v := (2 : Int32)) (lv' := [(2, .int (2 : Int32)), (1, .int (1 : Int32)), (0, .ref q0)]) hx hb dX3_countFresh_21 hl (k := 0) rfl (by first | rfl | decide) (by decide) rfl (fun ls hl => ?_)
      refine lv_goto (tgt := 4) hx hb dX3_countFresh_24 (by decide) ?_
      refine lv_iload_n hx hb dX3_countFresh_4 rfl (lv_at hl 0 rfl) ?_
      refine lv_iconst (v := 3) hx hb dX3_countFresh_5 (by decide) ?_
      refine lv_icmp_ge (tgt := 27) hx hb dX3_countFresh_6 (by decide) (fun z => absurd z (by decide)) (fun _ => ?_)
      refine lv_aload_n hx hb dX3_countFresh_9 rfl (lv_at hl 2 rfl) ?_
      refine va_get (D := D) hx hb hts hiX3 hown hK.1 hP 0 rfl rfl 1 (by decide) (hts (.fieldLink RX3 15 "FencePilot$Sensors" "fresh" "[Z") (by decide +kernel)) (fun _ h9 => h9) rfl dX3_countFresh_10 ?_
      refine lv_iload_n hx hb dX3_countFresh_13 rfl (lv_at hl 0 rfl) ?_
      refine va_zald hx hb hK.1 hP 1 1 rfl rfl (by unfold vp_in; decide) dX3_countFresh_14 ?_
      refine lv_if_eq (tgt := 21) hx hb dX3_countFresh_15 (by decide) (fun c_6 => ?_) (fun c_6 => ?_)
      · refine lv_iinc (v := (3 : Int32)) (lv' := [(2, .int (3 : Int32)), (1, .int (1 : Int32)), (0, .ref q0)]) hx hb dX3_countFresh_21 hl (k := 0) rfl (by first | rfl | decide) (by decide) rfl (fun ls hl => ?_)
        refine lv_goto (tgt := 4) hx hb dX3_countFresh_24 (by decide) ?_
        refine lv_iload_n hx hb dX3_countFresh_4 rfl (lv_at hl 0 rfl) ?_
        refine lv_iconst (v := 3) hx hb dX3_countFresh_5 (by decide) ?_
        refine lv_icmp_ge (tgt := 27) hx hb dX3_countFresh_6 (by decide) (fun _ => ?_) (fun z => absurd (by decide) z)
        refine lv_iload_n hx hb dX3_countFresh_27 rfl (lv_at hl 1 rfl) ?_
        exact kk_ri () hx hb hr hlk dX3_countFresh_28 hS (hP.sub [0, 1] rfl) (hD.sub [0, 1] (by decide) rfl) (by show (1 : Int32) = f_X3_countFresh ff; unfold f_X3_countFresh; rw [if_neg c_1]; rw [if_pos c_5]; rw [if_pos c_6]; try rfl)
      · refine lv_iinc (v := (2 : Int32)) (lv' := [(1, .int (2 : Int32)), (2, .int (2 : Int32)), (0, .ref q0)]) hx hb dX3_countFresh_18 hl (k := 1) rfl (by first | rfl | decide) (by decide) rfl (fun ls hl => ?_)
        refine lv_iinc (v := (3 : Int32)) (lv' := [(2, .int (3 : Int32)), (1, .int (2 : Int32)), (0, .ref q0)]) hx hb dX3_countFresh_21 hl (k := 1) rfl (by first | rfl | decide) (by decide) rfl (fun ls hl => ?_)
        refine lv_goto (tgt := 4) hx hb dX3_countFresh_24 (by decide) ?_
        refine lv_iload_n hx hb dX3_countFresh_4 rfl (lv_at hl 0 rfl) ?_
        refine lv_iconst (v := 3) hx hb dX3_countFresh_5 (by decide) ?_
        refine lv_icmp_ge (tgt := 27) hx hb dX3_countFresh_6 (by decide) (fun _ => ?_) (fun z => absurd (by decide) z)
        refine lv_iload_n hx hb dX3_countFresh_27 rfl (lv_at hl 1 rfl) ?_
        exact kk_ri () hx hb hr hlk dX3_countFresh_28 hS (hP.sub [0, 1] rfl) (hD.sub [0, 1] (by decide) rfl) (by show (2 : Int32) = f_X3_countFresh ff; unfold f_X3_countFresh; rw [if_neg c_1]; rw [if_pos c_5]; rw [if_neg c_6]; try rfl)
    · refine lv_iinc (v := (2 : Int32)) (lv' := [(1, .int (2 : Int32)), (2, .int (1 : Int32)), (0, .ref q0)]) hx hb dX3_countFresh_18 hl (k := 1) rfl (by first | rfl | decide) (by decide) rfl (fun ls hl => ?_)
      refine lv_iinc (v := (2 : Int32)) (lv' := [(2, .int (2 : Int32)), (1, .int (2 : Int32)), (0, .ref q0)]) hx hb dX3_countFresh_21 hl (k := 1) rfl (by first | rfl | decide) (by decide) rfl (fun ls hl => ?_)
      refine lv_goto (tgt := 4) hx hb dX3_countFresh_24 (by decide) ?_
      refine lv_iload_n hx hb dX3_countFresh_4 rfl (lv_at hl 0 rfl) ?_
      refine lv_iconst (v := 3) hx hb dX3_countFresh_5 (by decide) ?_
      refine lv_icmp_ge (tgt := 27) hx hb dX3_countFresh_6 (by decide) (fun z => absurd z (by decide)) (fun _ => ?_)
      refine lv_aload_n hx hb dX3_countFresh_9 rfl (lv_at hl 2 rfl) ?_
      refine va_get (D := D) hx hb hts hiX3 hown hK.1 hP 0 rfl rfl 1 (by decide) (hts (.fieldLink RX3 15 "FencePilot$Sensors" "fresh" "[Z") (by decide +kernel)) (fun _ h9 => h9) rfl dX3_countFresh_10 ?_
      refine lv_iload_n hx hb dX3_countFresh_13 rfl (lv_at hl 0 rfl) ?_
      refine va_zald hx hb hK.1 hP 1 1 rfl rfl (by unfold vp_in; decide) dX3_countFresh_14 ?_
      refine lv_if_eq (tgt := 21) hx hb dX3_countFresh_15 (by decide) (fun c_7 => ?_) (fun c_7 => ?_)
      · refine lv_iinc (v := (3 : Int32)) (lv' := [(2, .int (3 : Int32)), (1, .int (2 : Int32)), (0, .ref q0)]) hx hb dX3_countFresh_21 hl (k := 0) rfl (by first | rfl | decide) (by decide) rfl (fun ls hl => ?_)
        refine lv_goto (tgt := 4) hx hb dX3_countFresh_24 (by decide) ?_
        refine lv_iload_n hx hb dX3_countFresh_4 rfl (lv_at hl 0 rfl) ?_
        refine lv_iconst (v := 3) hx hb dX3_countFresh_5 (by decide) ?_
        refine lv_icmp_ge (tgt := 27) hx hb dX3_countFresh_6 (by decide) (fun _ => ?_) (fun z => absurd (by decide) z)
        refine lv_iload_n hx hb dX3_countFresh_27 rfl (lv_at hl 1 rfl) ?_
        exact kk_ri () hx hb hr hlk dX3_countFresh_28 hS (hP.sub [0, 1] rfl) (hD.sub [0, 1] (by decide) rfl) (by show (2 : Int32) = f_X3_countFresh ff; unfold f_X3_countFresh; rw [if_neg c_1]; rw [if_neg c_5]; rw [if_pos c_7]; try rfl)
      · refine lv_iinc (v := (3 : Int32)) (lv' := [(1, .int (3 : Int32)), (2, .int (2 : Int32)), (0, .ref q0)]) hx hb dX3_countFresh_18 hl (k := 1) rfl (by first | rfl | decide) (by decide) rfl (fun ls hl => ?_)
        refine lv_iinc (v := (3 : Int32)) (lv' := [(2, .int (3 : Int32)), (1, .int (3 : Int32)), (0, .ref q0)]) hx hb dX3_countFresh_21 hl (k := 1) rfl (by first | rfl | decide) (by decide) rfl (fun ls hl => ?_)
        refine lv_goto (tgt := 4) hx hb dX3_countFresh_24 (by decide) ?_
        refine lv_iload_n hx hb dX3_countFresh_4 rfl (lv_at hl 0 rfl) ?_
        refine lv_iconst (v := 3) hx hb dX3_countFresh_5 (by decide) ?_
        refine lv_icmp_ge (tgt := 27) hx hb dX3_countFresh_6 (by decide) (fun _ => ?_) (fun z => absurd (by decide) z)
        refine lv_iload_n hx hb dX3_countFresh_27 rfl (lv_at hl 1 rfl) ?_
        exact kk_ri () hx hb hr hlk dX3_countFresh_28 hS (hP.sub [0, 1] rfl) (hD.sub [0, 1] (by decide) rfl) (by show (3 : Int32) = f_X3_countFresh ff; unfold f_X3_countFresh; rw [if_neg c_1]; rw [if_neg c_5]; rw [if_neg c_7]; try rfl)
def f_X3_forget (ff : Nat → Int32) : (Nat → Int32) := (upd (upd (upd ff (0 : Int32).toNatClampNeg (vp_nar .boolean (0 : Int32))) (1 : Int32).toNatClampNeg (vp_nar .boolean (0 : Int32))) (2 : Int32).toNatClampNeg (vp_nar .boolean (0 : Int32)))
set_option maxHeartbeats 4000000 in
set_option maxRecDepth 100000 in
theorem k_X3_forget (l : Launch) (D : va_G) (cI cZ : ClassId) (q0 : Nat) (q1 : Nat) (q2 : Nat) (sz : Nat) (ff : Nat → Int32)   : kk_Mv l D cI cZ yX3_forget wsX3_forget ({ frames := 0, cells := 0, slots := 0, locals := 0 } : Room) [.ref q0] sz [(q0, .inr (3, [.ref q1, .ref q2])), (q2, .inl (cZ, 3, .inl ff))] (fun (u : (Nat → Int32)) => u = f_X3_forget ff) (fun u => [(q0, .inr (3, [.ref q1, .ref q2])), (q2, .inl (cZ, 3, .inl u))]) 0 0 := by
  refine kk_entv (cc := cX3_forget) (maxL := 2) (ret := none) (by decide +kernel) rfl (Nat.le_of_ble_eq_true rfl) (fun p e s m args below meth c A ls hX hP hD hS hl => ?_)
  obtain ⟨hx, hb, hml, hown, hts, hr, hlk, hnm, hK, hA⟩ := hX
  have hown : s.vm.findClass RX3 = some m.cls := hown
  have hiX3 : ∀ w ∈ wsX30, w ∈ wsX3_forget := by decide +kernel
  have hl : lv_has ls 2 [(0, .ref q0)] := hl
  refine lv_iconst (v := 0) hx hb dX3_forget_0 (by decide) ?_
  refine lv_istore_n (lv' := [(1, .int (0 : Int32)), (0, .ref q0)]) hx hb dX3_forget_1 rfl hl (by decide) rfl (fun ls hl => ?_)
  refine lv_iload_n hx hb dX3_forget_2 rfl (lv_at hl 0 rfl) ?_
  refine lv_iconst (v := 3) hx hb dX3_forget_3 (by decide) ?_
  refine lv_icmp_ge (tgt := 20) hx hb dX3_forget_4 (by decide) (fun z => absurd z (by decide)) (fun _ => ?_)
  refine lv_aload_n hx hb dX3_forget_7 rfl (lv_at hl 1 rfl) ?_
  refine va_get (D := D) hx hb hts hiX3 hown hK.1 hP 0 rfl rfl 1 (by decide) (hts (.fieldLink RX3 15 "FencePilot$Sensors" "fresh" "[Z") (by decide +kernel)) (fun _ h9 => h9) rfl dX3_forget_8 ?_
  refine lv_iload_n hx hb dX3_forget_11 rfl (lv_at hl 0 rfl) ?_
  refine lv_iconst (v := 0) hx hb dX3_forget_12 (by decide) ?_
  refine va_zast hx hb hK.1 hP hD hS 1 1 rfl rfl (by unfold vp_in; decide) dX3_forget_13 (fun H locs hP hD hS => ?_)
  have hP : va_P D vwCl [(q0, .inr (3, [.ref q1, .ref q2])), (q2, .inl (cZ, 3, .inl (upd ff (0 : Int32).toNatClampNeg (vp_nar .boolean (0 : Int32)))))] H := hP
  have hD : va_D A [(q0, .inr (3, [.ref q1, .ref q2])), (q2, .inl (cZ, 3, .inl (upd ff (0 : Int32).toNatClampNeg (vp_nar .boolean (0 : Int32)))))] := hD
  refine lv_iinc (v := (1 : Int32)) (lv' := [(1, .int (1 : Int32)), (0, .ref q0)]) hx hb dX3_forget_14 hl (k := 0) rfl (by first | rfl | decide) (by decide) rfl (fun ls hl => ?_)
  refine lv_goto (tgt := 2) hx hb dX3_forget_17 (by decide) ?_
  refine lv_iload_n hx hb dX3_forget_2 rfl (lv_at hl 0 rfl) ?_
  refine lv_iconst (v := 3) hx hb dX3_forget_3 (by decide) ?_
  refine lv_icmp_ge (tgt := 20) hx hb dX3_forget_4 (by decide) (fun z => absurd z (by decide)) (fun _ => ?_)
  refine lv_aload_n hx hb dX3_forget_7 rfl (lv_at hl 1 rfl) ?_
  refine va_get (D := D) hx hb hts hiX3 hown hK.1 hP 0 rfl rfl 1 (by decide) (hts (.fieldLink RX3 15 "FencePilot$Sensors" "fresh" "[Z") (by decide +kernel)) (fun _ h9 => h9) rfl dX3_forget_8 ?_
  refine lv_iload_n hx hb dX3_forget_11 rfl (lv_at hl 0 rfl) ?_
  refine lv_iconst (v := 0) hx hb dX3_forget_12 (by decide) ?_
  refine va_zast hx hb hK.1 hP hD hS 1 1 rfl rfl (by unfold vp_in; decide) dX3_forget_13 (fun H locs hP hD hS => ?_)
  have hP : va_P D vwCl [(q0, .inr (3, [.ref q1, .ref q2])), (q2, .inl (cZ, 3, .inl (upd (upd ff (0 : Int32).toNatClampNeg (vp_nar .boolean (0 : Int32))) (1 : Int32).toNatClampNeg (vp_nar .boolean (0 : Int32)))))] H := hP
  have hD : va_D A [(q0, .inr (3, [.ref q1, .ref q2])), (q2, .inl (cZ, 3, .inl (upd (upd ff (0 : Int32).toNatClampNeg (vp_nar .boolean (0 : Int32))) (1 : Int32).toNatClampNeg (vp_nar .boolean (0 : Int32)))))] := hD
  refine lv_iinc (v := (2 : Int32)) (lv' := [(1, .int (2 : Int32)), (0, .ref q0)]) hx hb dX3_forget_14 hl (k := 0) rfl (by first | rfl | decide) (by decide) rfl (fun ls hl => ?_)
  refine lv_goto (tgt := 2) hx hb dX3_forget_17 (by decide) ?_
  refine lv_iload_n hx hb dX3_forget_2 rfl (lv_at hl 0 rfl) ?_
  refine lv_iconst (v := 3) hx hb dX3_forget_3 (by decide) ?_
  refine lv_icmp_ge (tgt := 20) hx hb dX3_forget_4 (by decide) (fun z => absurd z (by decide)) (fun _ => ?_)
  refine lv_aload_n hx hb dX3_forget_7 rfl (lv_at hl 1 rfl) ?_
  refine va_get (D := D) hx hb hts hiX3 hown hK.1 hP 0 rfl rfl 1 (by decide) (hts (.fieldLink RX3 15 "FencePilot$Sensors" "fresh" "[Z") (by decide +kernel)) (fun _ h9 => h9) rfl dX3_forget_8 ?_
  refine lv_iload_n hx hb dX3_forget_11 rfl (lv_at hl 0 rfl) ?_
  refine lv_iconst (v := 0) hx hb dX3_forget_12 (by decide) ?_
  refine va_zast hx hb hK.1 hP hD hS 1 1 rfl rfl (by unfold vp_in; decide) dX3_forget_13 (fun H locs hP hD hS => ?_)
  have hP : va_P D vwCl [(q0, .inr (3, [.ref q1, .ref q2])), (q2, .inl (cZ, 3, .inl (upd (upd (upd ff (0 : Int32).toNatClampNeg (vp_nar .boolean (0 : Int32))) (1 : Int32).toNatClampNeg (vp_nar .boolean (0 : Int32))) (2 : Int32).toNatClampNeg (vp_nar .boolean (0 : Int32)))))] H := hP
  have hD : va_D A [(q0, .inr (3, [.ref q1, .ref q2])), (q2, .inl (cZ, 3, .inl (upd (upd (upd ff (0 : Int32).toNatClampNeg (vp_nar .boolean (0 : Int32))) (1 : Int32).toNatClampNeg (vp_nar .boolean (0 : Int32))) (2 : Int32).toNatClampNeg (vp_nar .boolean (0 : Int32)))))] := hD
  refine lv_iinc (v := (3 : Int32)) (lv' := [(1, .int (3 : Int32)), (0, .ref q0)]) hx hb dX3_forget_14 hl (k := 0) rfl (by first | rfl | decide) (by decide) rfl (fun ls hl => ?_)
  refine lv_goto (tgt := 2) hx hb dX3_forget_17 (by decide) ?_
  refine lv_iload_n hx hb dX3_forget_2 rfl (lv_at hl 0 rfl) ?_
  refine lv_iconst (v := 3) hx hb dX3_forget_3 (by decide) ?_
  refine lv_icmp_ge (tgt := 20) hx hb dX3_forget_4 (by decide) (fun _ => ?_) (fun z => absurd (by decide) z)
  exact kk_rv (upd (upd (upd ff (0 : Int32).toNatClampNeg (vp_nar .boolean (0 : Int32))) (1 : Int32).toNatClampNeg (vp_nar .boolean (0 : Int32))) (2 : Int32).toNatClampNeg (vp_nar .boolean (0 : Int32))) hx hb hr hlk dX3_forget_20 hS (hP.sub [0, 1] rfl) (hD.sub [0, 1] (by decide) rfl) (by show (upd (upd (upd ff (0 : Int32).toNatClampNeg (vp_nar .boolean (0 : Int32))) (1 : Int32).toNatClampNeg (vp_nar .boolean (0 : Int32))) (2 : Int32).toNatClampNeg (vp_nar .boolean (0 : Int32))) = f_X3_forget ff; unfold f_X3_forget; rfl)
def f_X3_middle (a : Int32) (b : Int32) (c3 : Int32) : Int32 := (if (if b < a then b else a) < (if c3 < (if a < b then b else a) then c3 else (if a < b then b else a)) then (if c3 < (if a < b then b else a) then c3 else (if a < b then b else a)) else (if b < a then b else a))
set_option maxHeartbeats 4000000 in
set_option maxRecDepth 100000 in
theorem k_X3_middle (l : Launch) (D : va_G) (cI cZ : ClassId)  (sz : Nat)  (a : Int32) (b : Int32) (c3 : Int32)  : kk_Mi l D cI cZ yX3_middle wsX3_middle ({ frames := 1, cells := 0, slots := 0, locals := 14 } : Room) [.int a, .int b, .int c3] sz [] (fun (r : Int32) (_ : Unit) => r = f_X3_middle a b c3) (fun _ => []) 0 0 := by
  refine kk_enti (cc := cX3_middle) (maxL := 3) (ret := (some .int)) (by decide +kernel) rfl (Nat.le_of_ble_eq_true rfl) (fun p e s m args below meth c A ls hX hP hD hS hl => ?_)
  obtain ⟨hx, hb, hml, hown, hts, hr, hlk, hnm, hK, hA⟩ := hX
  have hown : s.vm.findClass RX3 = some m.cls := hown
  have hl : lv_has ls 3 [(0, .int a), (1, .int b), (2, .int c3)] := hl
  refine lv_iload_n hx hb dX3_middle_0 rfl (lv_at hl 0 rfl) ?_
  refine lv_iload_n hx hb dX3_middle_1 rfl (lv_at hl 1 rfl) ?_
  refine va_mmin hx hb (hml.trans hl.1.symm) hown (hts (.methodLink RX3 33 Lib.Math.min.name) (by decide +kernel)) (hts (.static Lib.Math.min.name) (by decide +kernel)) (hts (.initialized "java/lang/Math") (by decide +kernel)) (hts _ (List.mem_of_getElem? (i := 4) rfl)) (Nat.le_of_ble_eq_true rfl) (Nat.le_of_ble_eq_true rfl) (Nat.le_of_ble_eq_true rfl) (Nat.le_of_ble_eq_true rfl) dX3_middle_2 ?_
  refine lv_iload_n hx hb dX3_middle_5 rfl (lv_at hl 0 rfl) ?_
  refine lv_iload_n hx hb dX3_middle_6 rfl (lv_at hl 1 rfl) ?_
  refine va_mmax hx hb (hml.trans hl.1.symm) hown (hts (.methodLink RX3 36 Lib.Math.max.name) (by decide +kernel)) (hts (.static Lib.Math.max.name) (by decide +kernel)) (hts (.initialized "java/lang/Math") (by decide +kernel)) (hts _ (List.mem_of_getElem? (i := 7) rfl)) (Nat.le_of_ble_eq_true rfl) (Nat.le_of_ble_eq_true rfl) (Nat.le_of_ble_eq_true rfl) (Nat.le_of_ble_eq_true rfl) dX3_middle_7 ?_
  refine lv_iload_n hx hb dX3_middle_10 rfl (lv_at hl 2 rfl) ?_
  refine va_mmin hx hb (hml.trans hl.1.symm) hown (hts (.methodLink RX3 33 Lib.Math.min.name) (by decide +kernel)) (hts (.static Lib.Math.min.name) (by decide +kernel)) (hts (.initialized "java/lang/Math") (by decide +kernel)) (hts _ (List.mem_of_getElem? (i := 4) rfl)) (Nat.le_of_ble_eq_true rfl) (Nat.le_of_ble_eq_true rfl) (Nat.le_of_ble_eq_true rfl) (Nat.le_of_ble_eq_true rfl) dX3_middle_11 ?_
  refine va_mmax hx hb (hml.trans hl.1.symm) hown (hts (.methodLink RX3 36 Lib.Math.max.name) (by decide +kernel)) (hts (.static Lib.Math.max.name) (by decide +kernel)) (hts (.initialized "java/lang/Math") (by decide +kernel)) (hts _ (List.mem_of_getElem? (i := 7) rfl)) (Nat.le_of_ble_eq_true rfl) (Nat.le_of_ble_eq_true rfl) (Nat.le_of_ble_eq_true rfl) (Nat.le_of_ble_eq_true rfl) dX3_middle_14 ?_
  exact kk_ri () hx hb hr hlk dX3_middle_17 hS (hP.sub [] rfl) (hD.sub [] (by decide) rfl) (by show (if (if b < a then b else a) < (if c3 < (if a < b then b else a) then c3 else (if a < b then b else a)) then (if c3 < (if a < b then b else a) then c3 else (if a < b then b else a)) else (if b < a then b else a)) = f_X3_middle a b c3; unfold f_X3_middle; rfl)
def f_X3_vote (fr : Nat → Int32) (ff : Nat → Int32) (axis : Int32) : Int32 := (if (f_X3_countFresh ff) = (3 : Int32) then (f_X3_middle (fr axis.toNatClampNeg) (fr ((3 : Int32) + axis).toNatClampNeg) (fr ((6 : Int32) + axis).toNatClampNeg)) else (if (ff (0 : Int32).toNatClampNeg) = (0 : Int32) then (if (ff (1 : Int32).toNatClampNeg) = (0 : Int32) then (if (ff (2 : Int32).toNatClampNeg) = (0 : Int32) then (f_J9_floorDiv_7cf53 (0 : Int32) (2 : Int32)) else (f_J9_floorDiv_7cf53 ((0 : Int32) + (fr (((2 : Int32) * (3 : Int32)) + axis).toNatClampNeg)) (2 : Int32))) else (if (ff (2 : Int32).toNatClampNeg) = (0 : Int32) then (f_J9_floorDiv_7cf53 ((0 : Int32) + (fr (((1 : Int32) * (3 : Int32)) + axis).toNatClampNeg)) (2 : Int32)) else (f_J9_floorDiv_7cf53 (((0 : Int32) + (fr (((1 : Int32) * (3 : Int32)) + axis).toNatClampNeg)) + (fr (((2 : Int32) * (3 : Int32)) + axis).toNatClampNeg)) (2 : Int32)))) else (if (ff (1 : Int32).toNatClampNeg) = (0 : Int32) then (if (ff (2 : Int32).toNatClampNeg) = (0 : Int32) then (f_J9_floorDiv_7cf53 ((0 : Int32) + (fr (((0 : Int32) * (3 : Int32)) + axis).toNatClampNeg)) (2 : Int32)) else (f_J9_floorDiv_7cf53 (((0 : Int32) + (fr (((0 : Int32) * (3 : Int32)) + axis).toNatClampNeg)) + (fr (((2 : Int32) * (3 : Int32)) + axis).toNatClampNeg)) (2 : Int32))) else (if (ff (2 : Int32).toNatClampNeg) = (0 : Int32) then (f_J9_floorDiv_7cf53 (((0 : Int32) + (fr (((0 : Int32) * (3 : Int32)) + axis).toNatClampNeg)) + (fr (((1 : Int32) * (3 : Int32)) + axis).toNatClampNeg)) (2 : Int32)) else (f_J9_floorDiv_7cf53 ((((0 : Int32) + (fr (((0 : Int32) * (3 : Int32)) + axis).toNatClampNeg)) + (fr (((1 : Int32) * (3 : Int32)) + axis).toNatClampNeg)) + (fr (((2 : Int32) * (3 : Int32)) + axis).toNatClampNeg)) (2 : Int32))))))
set_option maxHeartbeats 4000000 in
set_option maxRecDepth 100000 in
theorem k_X3_vote (l : Launch) (D : va_G) (cI cZ : ClassId) (q0 : Nat) (q1 : Nat) (q2 : Nat) (sz : Nat) (fr : Nat → Int32) (ff : Nat → Int32) (axis : Int32) (hax : kk_L axis 2) : kk_Mi l D cI cZ yX3_vote wsX3_vote ({ frames := 2, cells := 0, slots := 0, locals := 36 } : Room) [.ref q0, .int axis] sz [(q0, .inr (3, [.ref q1, .ref q2])), (q1, .inl (cI, 9, .inl fr)), (q2, .inl (cZ, 3, .inl ff))] (fun (r : Int32) (_ : Unit) => r = f_X3_vote fr ff axis) (fun _ => [(q0, .inr (3, [.ref q1, .ref q2])), (q1, .inl (cI, 9, .inl fr)), (q2, .inl (cZ, 3, .inl ff))]) 0 0 := by
  refine kk_enti (cc := cX3_vote) (maxL := 4) (ret := (some .int)) (by decide +kernel) rfl (Nat.le_of_ble_eq_true rfl) (fun p e s m args below meth c A ls hX hP hD hS hl => ?_)
  obtain ⟨hx, hb, hml, hown, hts, hr, hlk, hnm, hK, hA⟩ := hX
  have hown : s.vm.findClass RX3 = some m.cls := hown
  have hiX3 : ∀ w ∈ wsX30, w ∈ wsX3_vote := by decide +kernel
  have hl : lv_has ls 4 [(0, .ref q0), (1, .int axis)] := hl
  refine lv_aload_n hx hb dX3_vote_0 rfl (lv_at hl 0 rfl) ?_
  refine kk_cVi (wc := [(q0, .inr (3, [.ref q1, .ref q2])), (q2, .inl (cZ, 3, .inl ff))]) (wr := [(q1, .inl (cI, 9, .inl fr))]) ⟨hx, hb, hml, hown, hts⟩ hK hP hD hS hA [0, 2] [1] (k_X3_countFresh l D cI cZ q0 q1 q2 s.heap.size ff) (cwV 0 hts gX3_vote_X3_countFresh rfl rfl rfl (by decide +kernel) ⟨(Nat.le_of_ble_eq_true rfl), (Nat.le_of_ble_eq_true rfl)⟩) rfl rfl (by decide) (by decide) (by decide) 0 3 rfl rfl rfl rfl hl.1 rfl (Nat.le_of_ble_eq_true rfl) dX3_vote_1 ⟨(Nat.le_of_ble_eq_true rfl), (Nat.le_of_ble_eq_true rfl)⟩ (fun r_1 u H locs hw_2 hP hD hS => ?_)
  have hw_2 : r_1 = (f_X3_countFresh ff) := hw_2
  subst hw_2
  have hP : va_P D vwCl [(q1, .inl (cI, 9, .inl fr)), (q0, .inr (3, [.ref q1, .ref q2])), (q2, .inl (cZ, 3, .inl ff))] H := hP
  have hD : va_D A [(q1, .inl (cI, 9, .inl fr)), (q0, .inr (3, [.ref q1, .ref q2])), (q2, .inl (cZ, 3, .inl ff))] := hD
  refine lv_iconst (v := 3) hx hb dX3_vote_4 (by decide) ?_
  refine lv_icmp_ne (tgt := 35) hx hb dX3_vote_5 (by decide) (fun c_3 => ?_) (fun c_3 => ?_)
  · refine lv_iconst (v := 0) hx hb dX3_vote_35 (by decide) ?_
    refine lv_istore_n (lv' := [(2, .int (0 : Int32)), (0, .ref q0), (1, .int axis)]) hx hb dX3_vote_36 rfl hl (by decide) rfl (fun ls hl => ?_)
    refine lv_iconst (v := 0) hx hb dX3_vote_37 (by decide) ?_
    refine lv_istore_n (lv' := [(3, .int (0 : Int32)), (2, .int (0 : Int32)), (0, .ref q0), (1, .int axis)]) hx hb dX3_vote_38 rfl hl (by decide) rfl (fun ls hl => ?_)
    refine lv_iload_n hx hb dX3_vote_39 rfl (lv_at hl 0 rfl) ?_
    refine lv_iconst (v := 3) hx hb dX3_vote_40 (by decide) ?_
    refine lv_icmp_ge (tgt := 72) hx hb dX3_vote_41 (by decide) (fun z => absurd z (by decide)) (fun _ => ?_)
    refine lv_aload_n hx hb dX3_vote_44 rfl (lv_at hl 2 rfl) ?_
    refine va_get (D := D) hx hb hts hiX3 hown hK.1 hP 1 rfl rfl 1 (by decide) (hts (.fieldLink RX3 15 "FencePilot$Sensors" "fresh" "[Z") (by decide +kernel)) (fun _ h9 => h9) rfl dX3_vote_45 ?_
    refine lv_iload_n hx hb dX3_vote_48 rfl (lv_at hl 0 rfl) ?_
    refine va_zald hx hb hK.1 hP 2 1 rfl rfl (by unfold vp_in; decide) dX3_vote_49 ?_
    refine lv_if_eq (tgt := 66) hx hb dX3_vote_50 (by decide) (fun c_4 => ?_) (fun c_4 => ?_)
    · refine lv_iinc (v := (1 : Int32)) (lv' := [(3, .int (1 : Int32)), (2, .int (0 : Int32)), (0, .ref q0), (1, .int axis)]) hx hb dX3_vote_66 hl (k := 0) rfl (by first | rfl | decide) (by decide) rfl (fun ls hl => ?_)
      refine lv_goto (tgt := 39) hx hb dX3_vote_69 (by decide) ?_
      refine lv_iload_n hx hb dX3_vote_39 rfl (lv_at hl 0 rfl) ?_
      refine lv_iconst (v := 3) hx hb dX3_vote_40 (by decide) ?_
      refine lv_icmp_ge (tgt := 72) hx hb dX3_vote_41 (by decide) (fun z => absurd z (by decide)) (fun _ => ?_)
      refine lv_aload_n hx hb dX3_vote_44 rfl (lv_at hl 2 rfl) ?_
      refine va_get (D := D) hx hb hts hiX3 hown hK.1 hP 1 rfl rfl 1 (by decide) (hts (.fieldLink RX3 15 "FencePilot$Sensors" "fresh" "[Z") (by decide +kernel)) (fun _ h9 => h9) rfl dX3_vote_45 ?_
      refine lv_iload_n hx hb dX3_vote_48 rfl (lv_at hl 0 rfl) ?_
      refine va_zald hx hb hK.1 hP 2 1 rfl rfl (by unfold vp_in; decide) dX3_vote_49 ?_
      refine lv_if_eq (tgt := 66) hx hb dX3_vote_50 (by decide) (fun c_5 => ?_) (fun c_5 => ?_)
      · refine lv_iinc (v := (2 : Int32)) (lv' := [(3, .int (2 : Int32)), (2, .int (0 : Int32)), (0, .ref q0), (1, .int axis)]) hx hb dX3_vote_66 hl (k := 0) rfl (by first | rfl | decide) (by decide) rfl (fun ls hl => ?_)
        refine lv_goto (tgt := 39) hx hb dX3_vote_69 (by decide) ?_
        refine lv_iload_n hx hb dX3_vote_39 rfl (lv_at hl 0 rfl) ?_
        refine lv_iconst (v := 3) hx hb dX3_vote_40 (by decide) ?_
        refine lv_icmp_ge (tgt := 72) hx hb dX3_vote_41 (by decide) (fun z => absurd z (by decide)) (fun _ => ?_)
        refine lv_aload_n hx hb dX3_vote_44 rfl (lv_at hl 2 rfl) ?_
        refine va_get (D := D) hx hb hts hiX3 hown hK.1 hP 1 rfl rfl 1 (by decide) (hts (.fieldLink RX3 15 "FencePilot$Sensors" "fresh" "[Z") (by decide +kernel)) (fun _ h9 => h9) rfl dX3_vote_45 ?_
        refine lv_iload_n hx hb dX3_vote_48 rfl (lv_at hl 0 rfl) ?_
        refine va_zald hx hb hK.1 hP 2 1 rfl rfl (by unfold vp_in; decide) dX3_vote_49 ?_
        refine lv_if_eq (tgt := 66) hx hb dX3_vote_50 (by decide) (fun c_6 => ?_) (fun c_6 => ?_)
        · refine lv_iinc (v := (3 : Int32)) (lv' := [(3, .int (3 : Int32)), (2, .int (0 : Int32)), (0, .ref q0), (1, .int axis)]) hx hb dX3_vote_66 hl (k := 0) rfl (by first | rfl | decide) (by decide) rfl (fun ls hl => ?_)
          refine lv_goto (tgt := 39) hx hb dX3_vote_69 (by decide) ?_
          refine lv_iload_n hx hb dX3_vote_39 rfl (lv_at hl 0 rfl) ?_
          refine lv_iconst (v := 3) hx hb dX3_vote_40 (by decide) ?_
          refine lv_icmp_ge (tgt := 72) hx hb dX3_vote_41 (by decide) (fun _ => ?_) (fun z => absurd (by decide) z)
          refine lv_iload_n hx hb dX3_vote_72 rfl (lv_at hl 1 rfl) ?_
          refine lv_iconst (v := 2) hx hb dX3_vote_73 (by decide) ?_
          refine kk_cSi (wc := []) (wr := [(q1, .inl (cI, 9, .inl fr)), (q0, .inr (3, [.ref q1, .ref q2])), (q2, .inl (cZ, 3, .inl ff))]) ⟨hx, hb, hml, hown, hts⟩ hK hP hD hS hA [] [0, 1, 2] (k_J9_floorDiv_7cf53 l D cI cZ  H.size (0 : Int32) (2 : Int32) (by decide)) (va_cwS 2 hts gX3_vote_J9_floorDiv_7cf53 rfl rfl rfl (by decide +kernel) ⟨(Nat.le_of_ble_eq_true rfl), (Nat.le_of_ble_eq_true rfl)⟩) rfl rfl (by decide) (by decide) (by decide) rfl hl.1 rfl (Nat.le_of_ble_eq_true rfl) dX3_vote_74 ⟨(Nat.le_of_ble_eq_true rfl), (Nat.le_of_ble_eq_true rfl)⟩ (fun r_7 u H locs hw_8 hP hD hS => ?_)
          have hw_8 : r_7 = (f_J9_floorDiv_7cf53 (0 : Int32) (2 : Int32)) := hw_8
          subst hw_8
          have hP : va_P D vwCl [(q1, .inl (cI, 9, .inl fr)), (q0, .inr (3, [.ref q1, .ref q2])), (q2, .inl (cZ, 3, .inl ff))] H := hP
          have hD : va_D A [(q1, .inl (cI, 9, .inl fr)), (q0, .inr (3, [.ref q1, .ref q2])), (q2, .inl (cZ, 3, .inl ff))] := hD
          exact kk_ri () hx hb hr hlk dX3_vote_77 hS (hP.sub [1, 0, 2] rfl) (hD.sub [1, 0, 2] (by decide) rfl) (by show (f_J9_floorDiv_7cf53 (0 : Int32) (2 : Int32)) = f_X3_vote fr ff axis; unfold f_X3_vote; rw [if_neg c_3]; rw [if_pos c_4]; rw [if_pos c_5]; rw [if_pos c_6]; try rfl)
        · refine lv_iload_n hx hb dX3_vote_53 rfl (lv_at hl 1 rfl) ?_
          refine lv_aload_n hx hb dX3_vote_54 rfl (lv_at hl 2 rfl) ?_
          refine va_get (D := D) hx hb hts hiX3 hown hK.1 hP 1 rfl rfl 0 (by decide) (hts (.fieldLink RX3 9 "FencePilot$Sensors" "row" "[I") (by decide +kernel)) (fun _ h9 => h9) rfl dX3_vote_55 ?_
          refine lv_iload_n hx hb dX3_vote_58 rfl (lv_at hl 0 rfl) ?_
          refine lv_iconst (v := 3) hx hb dX3_vote_59 (by decide) ?_
          refine lv_imul hx hb dX3_vote_60 ?_
          refine lv_iload_n hx hb dX3_vote_61 rfl (lv_at hl 3 rfl) ?_
          refine lv_iadd hx hb dX3_vote_62 ?_
          refine va_iald hx hb hK.1 hP 0 0 rfl rfl (by first | exact kk_Lix' (kk_Lda hax (by decide) (j := 0) rfl (by decide) (by decide)) (by decide) | exact kk_Lix' (kk_Lda hax (by decide) (j := 3) rfl (by decide) (by decide)) (by decide) | exact kk_Lix' (kk_Lda hax (by decide) (j := 6) rfl (by decide) (by decide)) (by decide)) dX3_vote_63 ?_
          refine lv_iadd hx hb dX3_vote_64 ?_
          refine lv_istore_n (lv' := [(2, .int ((0 : Int32) + (fr (((2 : Int32) * (3 : Int32)) + axis).toNatClampNeg))), (3, .int (2 : Int32)), (0, .ref q0), (1, .int axis)]) hx hb dX3_vote_65 rfl hl (by decide) rfl (fun ls hl => ?_)
          refine lv_iinc (v := (3 : Int32)) (lv' := [(3, .int (3 : Int32)), (2, .int ((0 : Int32) + (fr (((2 : Int32) * (3 : Int32)) + axis).toNatClampNeg))), (0, .ref q0), (1, .int axis)]) hx hb dX3_vote_66 hl (k := 1) rfl (by first | rfl | decide) (by decide) rfl (fun ls hl => ?_)
          refine lv_goto (tgt := 39) hx hb dX3_vote_69 (by decide) ?_
          refine lv_iload_n hx hb dX3_vote_39 rfl (lv_at hl 0 rfl) ?_
          refine lv_iconst (v := 3) hx hb dX3_vote_40 (by decide) ?_
          refine lv_icmp_ge (tgt := 72) hx hb dX3_vote_41 (by decide) (fun _ => ?_) (fun z => absurd (by decide) z)
          refine lv_iload_n hx hb dX3_vote_72 rfl (lv_at hl 1 rfl) ?_
          refine lv_iconst (v := 2) hx hb dX3_vote_73 (by decide) ?_
          refine kk_cSi (wc := []) (wr := [(q1, .inl (cI, 9, .inl fr)), (q0, .inr (3, [.ref q1, .ref q2])), (q2, .inl (cZ, 3, .inl ff))]) ⟨hx, hb, hml, hown, hts⟩ hK hP hD hS hA [] [0, 1, 2] (k_J9_floorDiv_7cf53 l D cI cZ  H.size ((0 : Int32) + (fr (((2 : Int32) * (3 : Int32)) + axis).toNatClampNeg)) (2 : Int32) (by decide)) (va_cwS 2 hts gX3_vote_J9_floorDiv_7cf53 rfl rfl rfl (by decide +kernel) ⟨(Nat.le_of_ble_eq_true rfl), (Nat.le_of_ble_eq_true rfl)⟩) rfl rfl (by decide) (by decide) (by decide) rfl hl.1 rfl (Nat.le_of_ble_eq_true rfl) dX3_vote_74 ⟨(Nat.le_of_ble_eq_true rfl), (Nat.le_of_ble_eq_true rfl)⟩ (fun r_9 u H locs hw_10 hP hD hS => ?_)
          have hw_10 : r_9 = (f_J9_floorDiv_7cf53 ((0 : Int32) + (fr (((2 : Int32) * (3 : Int32)) + axis).toNatClampNeg)) (2 : Int32)) := hw_10
          subst hw_10
          have hP : va_P D vwCl [(q1, .inl (cI, 9, .inl fr)), (q0, .inr (3, [.ref q1, .ref q2])), (q2, .inl (cZ, 3, .inl ff))] H := hP
          have hD : va_D A [(q1, .inl (cI, 9, .inl fr)), (q0, .inr (3, [.ref q1, .ref q2])), (q2, .inl (cZ, 3, .inl ff))] := hD
          exact kk_ri () hx hb hr hlk dX3_vote_77 hS (hP.sub [1, 0, 2] rfl) (hD.sub [1, 0, 2] (by decide) rfl) (by show (f_J9_floorDiv_7cf53 ((0 : Int32) + (fr (((2 : Int32) * (3 : Int32)) + axis).toNatClampNeg)) (2 : Int32)) = f_X3_vote fr ff axis; unfold f_X3_vote; rw [if_neg c_3]; rw [if_pos c_4]; rw [if_pos c_5]; rw [if_neg c_6]; try rfl)
      · refine lv_iload_n hx hb dX3_vote_53 rfl (lv_at hl 1 rfl) ?_
        refine lv_aload_n hx hb dX3_vote_54 rfl (lv_at hl 2 rfl) ?_
        refine va_get (D := D) hx hb hts hiX3 hown hK.1 hP 1 rfl rfl 0 (by decide) (hts (.fieldLink RX3 9 "FencePilot$Sensors" "row" "[I") (by decide +kernel)) (fun _ h9 => h9) rfl dX3_vote_55 ?_
        refine lv_iload_n hx hb dX3_vote_58 rfl (lv_at hl 0 rfl) ?_
        refine lv_iconst (v := 3) hx hb dX3_vote_59 (by decide) ?_
        refine lv_imul hx hb dX3_vote_60 ?_
        refine lv_iload_n hx hb dX3_vote_61 rfl (lv_at hl 3 rfl) ?_
        refine lv_iadd hx hb dX3_vote_62 ?_
        refine va_iald hx hb hK.1 hP 0 0 rfl rfl (by first | exact kk_Lix' (kk_Lda hax (by decide) (j := 0) rfl (by decide) (by decide)) (by decide) | exact kk_Lix' (kk_Lda hax (by decide) (j := 3) rfl (by decide) (by decide)) (by decide) | exact kk_Lix' (kk_Lda hax (by decide) (j := 6) rfl (by decide) (by decide)) (by decide)) dX3_vote_63 ?_
        refine lv_iadd hx hb dX3_vote_64 ?_
        refine lv_istore_n (lv' := [(2, .int ((0 : Int32) + (fr (((1 : Int32) * (3 : Int32)) + axis).toNatClampNeg))), (3, .int (1 : Int32)), (0, .ref q0), (1, .int axis)]) hx hb dX3_vote_65 rfl hl (by decide) rfl (fun ls hl => ?_)
        refine lv_iinc (v := (2 : Int32)) (lv' := [(3, .int (2 : Int32)), (2, .int ((0 : Int32) + (fr (((1 : Int32) * (3 : Int32)) + axis).toNatClampNeg))), (0, .ref q0), (1, .int axis)]) hx hb dX3_vote_66 hl (k := 1) rfl (by first | rfl | decide) (by decide) rfl (fun ls hl => ?_)
        refine lv_goto (tgt := 39) hx hb dX3_vote_69 (by decide) ?_
        refine lv_iload_n hx hb dX3_vote_39 rfl (lv_at hl 0 rfl) ?_
        refine lv_iconst (v := 3) hx hb dX3_vote_40 (by decide) ?_
        refine lv_icmp_ge (tgt := 72) hx hb dX3_vote_41 (by decide) (fun z => absurd z (by decide)) (fun _ => ?_)
        refine lv_aload_n hx hb dX3_vote_44 rfl (lv_at hl 2 rfl) ?_
        refine va_get (D := D) hx hb hts hiX3 hown hK.1 hP 1 rfl rfl 1 (by decide) (hts (.fieldLink RX3 15 "FencePilot$Sensors" "fresh" "[Z") (by decide +kernel)) (fun _ h9 => h9) rfl dX3_vote_45 ?_
        refine lv_iload_n hx hb dX3_vote_48 rfl (lv_at hl 0 rfl) ?_
        refine va_zald hx hb hK.1 hP 2 1 rfl rfl (by unfold vp_in; decide) dX3_vote_49 ?_
        refine lv_if_eq (tgt := 66) hx hb dX3_vote_50 (by decide) (fun c_11 => ?_) (fun c_11 => ?_)
        · refine lv_iinc (v := (3 : Int32)) (lv' := [(3, .int (3 : Int32)), (2, .int ((0 : Int32) + (fr (((1 : Int32) * (3 : Int32)) + axis).toNatClampNeg))), (0, .ref q0), (1, .int axis)]) hx hb dX3_vote_66 hl (k := 0) rfl (by first | rfl | decide) (by decide) rfl (fun ls hl => ?_)
          refine lv_goto (tgt := 39) hx hb dX3_vote_69 (by decide) ?_
          refine lv_iload_n hx hb dX3_vote_39 rfl (lv_at hl 0 rfl) ?_
          refine lv_iconst (v := 3) hx hb dX3_vote_40 (by decide) ?_
          refine lv_icmp_ge (tgt := 72) hx hb dX3_vote_41 (by decide) (fun _ => ?_) (fun z => absurd (by decide) z)
          refine lv_iload_n hx hb dX3_vote_72 rfl (lv_at hl 1 rfl) ?_
          refine lv_iconst (v := 2) hx hb dX3_vote_73 (by decide) ?_
          refine kk_cSi (wc := []) (wr := [(q1, .inl (cI, 9, .inl fr)), (q0, .inr (3, [.ref q1, .ref q2])), (q2, .inl (cZ, 3, .inl ff))]) ⟨hx, hb, hml, hown, hts⟩ hK hP hD hS hA [] [0, 1, 2] (k_J9_floorDiv_7cf53 l D cI cZ  H.size ((0 : Int32) + (fr (((1 : Int32) * (3 : Int32)) + axis).toNatClampNeg)) (2 : Int32) (by decide)) (va_cwS 2 hts gX3_vote_J9_floorDiv_7cf53 rfl rfl rfl (by decide +kernel) ⟨(Nat.le_of_ble_eq_true rfl), (Nat.le_of_ble_eq_true rfl)⟩) rfl rfl (by decide) (by decide) (by decide) rfl hl.1 rfl (Nat.le_of_ble_eq_true rfl) dX3_vote_74 ⟨(Nat.le_of_ble_eq_true rfl), (Nat.le_of_ble_eq_true rfl)⟩ (fun r_12 u H locs hw_13 hP hD hS => ?_)
          have hw_13 : r_12 = (f_J9_floorDiv_7cf53 ((0 : Int32) + (fr (((1 : Int32) * (3 : Int32)) + axis).toNatClampNeg)) (2 : Int32)) := hw_13
          subst hw_13
          have hP : va_P D vwCl [(q1, .inl (cI, 9, .inl fr)), (q0, .inr (3, [.ref q1, .ref q2])), (q2, .inl (cZ, 3, .inl ff))] H := hP
          have hD : va_D A [(q1, .inl (cI, 9, .inl fr)), (q0, .inr (3, [.ref q1, .ref q2])), (q2, .inl (cZ, 3, .inl ff))] := hD
          exact kk_ri () hx hb hr hlk dX3_vote_77 hS (hP.sub [1, 0, 2] rfl) (hD.sub [1, 0, 2] (by decide) rfl) (by show (f_J9_floorDiv_7cf53 ((0 : Int32) + (fr (((1 : Int32) * (3 : Int32)) + axis).toNatClampNeg)) (2 : Int32)) = f_X3_vote fr ff axis; unfold f_X3_vote; rw [if_neg c_3]; rw [if_pos c_4]; rw [if_neg c_5]; rw [if_pos c_11]; try rfl)
        · refine lv_iload_n hx hb dX3_vote_53 rfl (lv_at hl 1 rfl) ?_
          refine lv_aload_n hx hb dX3_vote_54 rfl (lv_at hl 2 rfl) ?_
          refine va_get (D := D) hx hb hts hiX3 hown hK.1 hP 1 rfl rfl 0 (by decide) (hts (.fieldLink RX3 9 "FencePilot$Sensors" "row" "[I") (by decide +kernel)) (fun _ h9 => h9) rfl dX3_vote_55 ?_
          refine lv_iload_n hx hb dX3_vote_58 rfl (lv_at hl 0 rfl) ?_
          refine lv_iconst (v := 3) hx hb dX3_vote_59 (by decide) ?_
          refine lv_imul hx hb dX3_vote_60 ?_
          refine lv_iload_n hx hb dX3_vote_61 rfl (lv_at hl 3 rfl) ?_
          refine lv_iadd hx hb dX3_vote_62 ?_
          refine va_iald hx hb hK.1 hP 0 0 rfl rfl (by first | exact kk_Lix' (kk_Lda hax (by decide) (j := 0) rfl (by decide) (by decide)) (by decide) | exact kk_Lix' (kk_Lda hax (by decide) (j := 3) rfl (by decide) (by decide)) (by decide) | exact kk_Lix' (kk_Lda hax (by decide) (j := 6) rfl (by decide) (by decide)) (by decide)) dX3_vote_63 ?_
          refine lv_iadd hx hb dX3_vote_64 ?_
          refine lv_istore_n (lv' := [(2, .int (((0 : Int32) + (fr (((1 : Int32) * (3 : Int32)) + axis).toNatClampNeg)) + (fr (((2 : Int32) * (3 : Int32)) + axis).toNatClampNeg))), (3, .int (2 : Int32)), (0, .ref q0), (1, .int axis)]) hx hb dX3_vote_65 rfl hl (by decide) rfl (fun ls hl => ?_)
          refine lv_iinc (v := (3 : Int32)) (lv' := [(3, .int (3 : Int32)), (2, .int (((0 : Int32) + (fr (((1 : Int32) * (3 : Int32)) + axis).toNatClampNeg)) + (fr (((2 : Int32) * (3 : Int32)) + axis).toNatClampNeg))), (0, .ref q0), (1, .int axis)]) hx hb dX3_vote_66 hl (k := 1) rfl (by first | rfl | decide) (by decide) rfl (fun ls hl => ?_)
          refine lv_goto (tgt := 39) hx hb dX3_vote_69 (by decide) ?_
          refine lv_iload_n hx hb dX3_vote_39 rfl (lv_at hl 0 rfl) ?_
          refine lv_iconst (v := 3) hx hb dX3_vote_40 (by decide) ?_
          refine lv_icmp_ge (tgt := 72) hx hb dX3_vote_41 (by decide) (fun _ => ?_) (fun z => absurd (by decide) z)
          refine lv_iload_n hx hb dX3_vote_72 rfl (lv_at hl 1 rfl) ?_
          refine lv_iconst (v := 2) hx hb dX3_vote_73 (by decide) ?_
          refine kk_cSi (wc := []) (wr := [(q1, .inl (cI, 9, .inl fr)), (q0, .inr (3, [.ref q1, .ref q2])), (q2, .inl (cZ, 3, .inl ff))]) ⟨hx, hb, hml, hown, hts⟩ hK hP hD hS hA [] [0, 1, 2] (k_J9_floorDiv_7cf53 l D cI cZ  H.size (((0 : Int32) + (fr (((1 : Int32) * (3 : Int32)) + axis).toNatClampNeg)) + (fr (((2 : Int32) * (3 : Int32)) + axis).toNatClampNeg)) (2 : Int32) (by decide)) (va_cwS 2 hts gX3_vote_J9_floorDiv_7cf53 rfl rfl rfl (by decide +kernel) ⟨(Nat.le_of_ble_eq_true rfl), (Nat.le_of_ble_eq_true rfl)⟩) rfl rfl (by decide) (by decide) (by decide) rfl hl.1 rfl (Nat.le_of_ble_eq_true rfl) dX3_vote_74 ⟨(Nat.le_of_ble_eq_true rfl), (Nat.le_of_ble_eq_true rfl)⟩ (fun r_14 u H locs hw_15 hP hD hS => ?_)
          have hw_15 : r_14 = (f_J9_floorDiv_7cf53 (((0 : Int32) + (fr (((1 : Int32) * (3 : Int32)) + axis).toNatClampNeg)) + (fr (((2 : Int32) * (3 : Int32)) + axis).toNatClampNeg)) (2 : Int32)) := hw_15
          subst hw_15
          have hP : va_P D vwCl [(q1, .inl (cI, 9, .inl fr)), (q0, .inr (3, [.ref q1, .ref q2])), (q2, .inl (cZ, 3, .inl ff))] H := hP
          have hD : va_D A [(q1, .inl (cI, 9, .inl fr)), (q0, .inr (3, [.ref q1, .ref q2])), (q2, .inl (cZ, 3, .inl ff))] := hD
          exact kk_ri () hx hb hr hlk dX3_vote_77 hS (hP.sub [1, 0, 2] rfl) (hD.sub [1, 0, 2] (by decide) rfl) (by show (f_J9_floorDiv_7cf53 (((0 : Int32) + (fr (((1 : Int32) * (3 : Int32)) + axis).toNatClampNeg)) + (fr (((2 : Int32) * (3 : Int32)) + axis).toNatClampNeg)) (2 : Int32)) = f_X3_vote fr ff axis; unfold f_X3_vote; rw [if_neg c_3]; rw [if_pos c_4]; rw [if_neg c_5]; rw [if_neg c_11]; try rfl)
    · refine lv_iload_n hx hb dX3_vote_53 rfl (lv_at hl 1 rfl) ?_
      refine lv_aload_n hx hb dX3_vote_54 rfl (lv_at hl 2 rfl) ?_
      refine va_get (D := D) hx hb hts hiX3 hown hK.1 hP 1 rfl rfl 0 (by decide) (hts (.fieldLink RX3 9 "FencePilot$Sensors" "row" "[I") (by decide +kernel)) (fun _ h9 => h9) rfl dX3_vote_55 ?_
      refine lv_iload_n hx hb dX3_vote_58 rfl (lv_at hl 0 rfl) ?_
      refine lv_iconst (v := 3) hx hb dX3_vote_59 (by decide) ?_
      refine lv_imul hx hb dX3_vote_60 ?_
      refine lv_iload_n hx hb dX3_vote_61 rfl (lv_at hl 3 rfl) ?_
      refine lv_iadd hx hb dX3_vote_62 ?_
      refine va_iald hx hb hK.1 hP 0 0 rfl rfl (by first | exact kk_Lix' (kk_Lda hax (by decide) (j := 0) rfl (by decide) (by decide)) (by decide) | exact kk_Lix' (kk_Lda hax (by decide) (j := 3) rfl (by decide) (by decide)) (by decide) | exact kk_Lix' (kk_Lda hax (by decide) (j := 6) rfl (by decide) (by decide)) (by decide)) dX3_vote_63 ?_
      refine lv_iadd hx hb dX3_vote_64 ?_
      refine lv_istore_n (lv' := [(2, .int ((0 : Int32) + (fr (((0 : Int32) * (3 : Int32)) + axis).toNatClampNeg))), (3, .int (0 : Int32)), (0, .ref q0), (1, .int axis)]) hx hb dX3_vote_65 rfl hl (by decide) rfl (fun ls hl => ?_)
      refine lv_iinc (v := (1 : Int32)) (lv' := [(3, .int (1 : Int32)), (2, .int ((0 : Int32) + (fr (((0 : Int32) * (3 : Int32)) + axis).toNatClampNeg))), (0, .ref q0), (1, .int axis)]) hx hb dX3_vote_66 hl (k := 1) rfl (by first | rfl | decide) (by decide) rfl (fun ls hl => ?_)
      refine lv_goto (tgt := 39) hx hb dX3_vote_69 (by decide) ?_
      refine lv_iload_n hx hb dX3_vote_39 rfl (lv_at hl 0 rfl) ?_
      refine lv_iconst (v := 3) hx hb dX3_vote_40 (by decide) ?_
      refine lv_icmp_ge (tgt := 72) hx hb dX3_vote_41 (by decide) (fun z => absurd z (by decide)) (fun _ => ?_)
      refine lv_aload_n hx hb dX3_vote_44 rfl (lv_at hl 2 rfl) ?_
      refine va_get (D := D) hx hb hts hiX3 hown hK.1 hP 1 rfl rfl 1 (by decide) (hts (.fieldLink RX3 15 "FencePilot$Sensors" "fresh" "[Z") (by decide +kernel)) (fun _ h9 => h9) rfl dX3_vote_45 ?_
      refine lv_iload_n hx hb dX3_vote_48 rfl (lv_at hl 0 rfl) ?_
      refine va_zald hx hb hK.1 hP 2 1 rfl rfl (by unfold vp_in; decide) dX3_vote_49 ?_
      refine lv_if_eq (tgt := 66) hx hb dX3_vote_50 (by decide) (fun c_16 => ?_) (fun c_16 => ?_)
      · refine lv_iinc (v := (2 : Int32)) (lv' := [(3, .int (2 : Int32)), (2, .int ((0 : Int32) + (fr (((0 : Int32) * (3 : Int32)) + axis).toNatClampNeg))), (0, .ref q0), (1, .int axis)]) hx hb dX3_vote_66 hl (k := 0) rfl (by first | rfl | decide) (by decide) rfl (fun ls hl => ?_)
        refine lv_goto (tgt := 39) hx hb dX3_vote_69 (by decide) ?_
        refine lv_iload_n hx hb dX3_vote_39 rfl (lv_at hl 0 rfl) ?_
        refine lv_iconst (v := 3) hx hb dX3_vote_40 (by decide) ?_
        refine lv_icmp_ge (tgt := 72) hx hb dX3_vote_41 (by decide) (fun z => absurd z (by decide)) (fun _ => ?_)
        refine lv_aload_n hx hb dX3_vote_44 rfl (lv_at hl 2 rfl) ?_
        refine va_get (D := D) hx hb hts hiX3 hown hK.1 hP 1 rfl rfl 1 (by decide) (hts (.fieldLink RX3 15 "FencePilot$Sensors" "fresh" "[Z") (by decide +kernel)) (fun _ h9 => h9) rfl dX3_vote_45 ?_
        refine lv_iload_n hx hb dX3_vote_48 rfl (lv_at hl 0 rfl) ?_
        refine va_zald hx hb hK.1 hP 2 1 rfl rfl (by unfold vp_in; decide) dX3_vote_49 ?_
        refine lv_if_eq (tgt := 66) hx hb dX3_vote_50 (by decide) (fun c_17 => ?_) (fun c_17 => ?_)
        · refine lv_iinc (v := (3 : Int32)) (lv' := [(3, .int (3 : Int32)), (2, .int ((0 : Int32) + (fr (((0 : Int32) * (3 : Int32)) + axis).toNatClampNeg))), (0, .ref q0), (1, .int axis)]) hx hb dX3_vote_66 hl (k := 0) rfl (by first | rfl | decide) (by decide) rfl (fun ls hl => ?_)
          refine lv_goto (tgt := 39) hx hb dX3_vote_69 (by decide) ?_
          refine lv_iload_n hx hb dX3_vote_39 rfl (lv_at hl 0 rfl) ?_
          refine lv_iconst (v := 3) hx hb dX3_vote_40 (by decide) ?_
          refine lv_icmp_ge (tgt := 72) hx hb dX3_vote_41 (by decide) (fun _ => ?_) (fun z => absurd (by decide) z)
          refine lv_iload_n hx hb dX3_vote_72 rfl (lv_at hl 1 rfl) ?_
          refine lv_iconst (v := 2) hx hb dX3_vote_73 (by decide) ?_
          refine kk_cSi (wc := []) (wr := [(q1, .inl (cI, 9, .inl fr)), (q0, .inr (3, [.ref q1, .ref q2])), (q2, .inl (cZ, 3, .inl ff))]) ⟨hx, hb, hml, hown, hts⟩ hK hP hD hS hA [] [0, 1, 2] (k_J9_floorDiv_7cf53 l D cI cZ  H.size ((0 : Int32) + (fr (((0 : Int32) * (3 : Int32)) + axis).toNatClampNeg)) (2 : Int32) (by decide)) (va_cwS 2 hts gX3_vote_J9_floorDiv_7cf53 rfl rfl rfl (by decide +kernel) ⟨(Nat.le_of_ble_eq_true rfl), (Nat.le_of_ble_eq_true rfl)⟩) rfl rfl (by decide) (by decide) (by decide) rfl hl.1 rfl (Nat.le_of_ble_eq_true rfl) dX3_vote_74 ⟨(Nat.le_of_ble_eq_true rfl), (Nat.le_of_ble_eq_true rfl)⟩ (fun r_18 u H locs hw_19 hP hD hS => ?_)
          have hw_19 : r_18 = (f_J9_floorDiv_7cf53 ((0 : Int32) + (fr (((0 : Int32) * (3 : Int32)) + axis).toNatClampNeg)) (2 : Int32)) := hw_19
          subst hw_19
          have hP : va_P D vwCl [(q1, .inl (cI, 9, .inl fr)), (q0, .inr (3, [.ref q1, .ref q2])), (q2, .inl (cZ, 3, .inl ff))] H := hP
          have hD : va_D A [(q1, .inl (cI, 9, .inl fr)), (q0, .inr (3, [.ref q1, .ref q2])), (q2, .inl (cZ, 3, .inl ff))] := hD
          exact kk_ri () hx hb hr hlk dX3_vote_77 hS (hP.sub [1, 0, 2] rfl) (hD.sub [1, 0, 2] (by decide) rfl) (by show (f_J9_floorDiv_7cf53 ((0 : Int32) + (fr (((0 : Int32) * (3 : Int32)) + axis).toNatClampNeg)) (2 : Int32)) = f_X3_vote fr ff axis; unfold f_X3_vote; rw [if_neg c_3]; rw [if_neg c_4]; rw [if_pos c_16]; rw [if_pos c_17]; try rfl)
        · refine lv_iload_n hx hb dX3_vote_53 rfl (lv_at hl 1 rfl) ?_
          refine lv_aload_n hx hb dX3_vote_54 rfl (lv_at hl 2 rfl) ?_
          refine va_get (D := D) hx hb hts hiX3 hown hK.1 hP 1 rfl rfl 0 (by decide) (hts (.fieldLink RX3 9 "FencePilot$Sensors" "row" "[I") (by decide +kernel)) (fun _ h9 => h9) rfl dX3_vote_55 ?_
          refine lv_iload_n hx hb dX3_vote_58 rfl (lv_at hl 0 rfl) ?_
          refine lv_iconst (v := 3) hx hb dX3_vote_59 (by decide) ?_
          refine lv_imul hx hb dX3_vote_60 ?_
          refine lv_iload_n hx hb dX3_vote_61 rfl (lv_at hl 3 rfl) ?_
          refine lv_iadd hx hb dX3_vote_62 ?_
          refine va_iald hx hb hK.1 hP 0 0 rfl rfl (by first | exact kk_Lix' (kk_Lda hax (by decide) (j := 0) rfl (by decide) (by decide)) (by decide) | exact kk_Lix' (kk_Lda hax (by decide) (j := 3) rfl (by decide) (by decide)) (by decide) | exact kk_Lix' (kk_Lda hax (by decide) (j := 6) rfl (by decide) (by decide)) (by decide)) dX3_vote_63 ?_
          refine lv_iadd hx hb dX3_vote_64 ?_
          refine lv_istore_n (lv' := [(2, .int (((0 : Int32) + (fr (((0 : Int32) * (3 : Int32)) + axis).toNatClampNeg)) + (fr (((2 : Int32) * (3 : Int32)) + axis).toNatClampNeg))), (3, .int (2 : Int32)), (0, .ref q0), (1, .int axis)]) hx hb dX3_vote_65 rfl hl (by decide) rfl (fun ls hl => ?_)
          refine lv_iinc (v := (3 : Int32)) (lv' := [(3, .int (3 : Int32)), (2, .int (((0 : Int32) + (fr (((0 : Int32) * (3 : Int32)) + axis).toNatClampNeg)) + (fr (((2 : Int32) * (3 : Int32)) + axis).toNatClampNeg))), (0, .ref q0), (1, .int axis)]) hx hb dX3_vote_66 hl (k := 1) rfl (by first | rfl | decide) (by decide) rfl (fun ls hl => ?_)
          refine lv_goto (tgt := 39) hx hb dX3_vote_69 (by decide) ?_
          refine lv_iload_n hx hb dX3_vote_39 rfl (lv_at hl 0 rfl) ?_
          refine lv_iconst (v := 3) hx hb dX3_vote_40 (by decide) ?_
          refine lv_icmp_ge (tgt := 72) hx hb dX3_vote_41 (by decide) (fun _ => ?_) (fun z => absurd (by decide) z)
          refine lv_iload_n hx hb dX3_vote_72 rfl (lv_at hl 1 rfl) ?_
          refine lv_iconst (v := 2) hx hb dX3_vote_73 (by decide) ?_
          refine kk_cSi (wc := []) (wr := [(q1, .inl (cI, 9, .inl fr)), (q0, .inr (3, [.ref q1, .ref q2])), (q2, .inl (cZ, 3, .inl ff))]) ⟨hx, hb, hml, hown, hts⟩ hK hP hD hS hA [] [0, 1, 2] (k_J9_floorDiv_7cf53 l D cI cZ  H.size (((0 : Int32) + (fr (((0 : Int32) * (3 : Int32)) + axis).toNatClampNeg)) + (fr (((2 : Int32) * (3 : Int32)) + axis).toNatClampNeg)) (2 : Int32) (by decide)) (va_cwS 2 hts gX3_vote_J9_floorDiv_7cf53 rfl rfl rfl (by decide +kernel) ⟨(Nat.le_of_ble_eq_true rfl), (Nat.le_of_ble_eq_true rfl)⟩) rfl rfl (by decide) (by decide) (by decide) rfl hl.1 rfl (Nat.le_of_ble_eq_true rfl) dX3_vote_74 ⟨(Nat.le_of_ble_eq_true rfl), (Nat.le_of_ble_eq_true rfl)⟩ (fun r_20 u H locs hw_21 hP hD hS => ?_)
          have hw_21 : r_20 = (f_J9_floorDiv_7cf53 (((0 : Int32) + (fr (((0 : Int32) * (3 : Int32)) + axis).toNatClampNeg)) + (fr (((2 : Int32) * (3 : Int32)) + axis).toNatClampNeg)) (2 : Int32)) := hw_21
          subst hw_21
          have hP : va_P D vwCl [(q1, .inl (cI, 9, .inl fr)), (q0, .inr (3, [.ref q1, .ref q2])), (q2, .inl (cZ, 3, .inl ff))] H := hP
          have hD : va_D A [(q1, .inl (cI, 9, .inl fr)), (q0, .inr (3, [.ref q1, .ref q2])), (q2, .inl (cZ, 3, .inl ff))] := hD
          exact kk_ri () hx hb hr hlk dX3_vote_77 hS (hP.sub [1, 0, 2] rfl) (hD.sub [1, 0, 2] (by decide) rfl) (by show (f_J9_floorDiv_7cf53 (((0 : Int32) + (fr (((0 : Int32) * (3 : Int32)) + axis).toNatClampNeg)) + (fr (((2 : Int32) * (3 : Int32)) + axis).toNatClampNeg)) (2 : Int32)) = f_X3_vote fr ff axis; unfold f_X3_vote; rw [if_neg c_3]; rw [if_neg c_4]; rw [if_pos c_16]; rw [if_neg c_17]; try rfl)
      · refine lv_iload_n hx hb dX3_vote_53 rfl (lv_at hl 1 rfl) ?_
        refine lv_aload_n hx hb dX3_vote_54 rfl (lv_at hl 2 rfl) ?_
        refine va_get (D := D) hx hb hts hiX3 hown hK.1 hP 1 rfl rfl 0 (by decide) (hts (.fieldLink RX3 9 "FencePilot$Sensors" "row" "[I") (by decide +kernel)) (fun _ h9 => h9) rfl dX3_vote_55 ?_
        refine lv_iload_n hx hb dX3_vote_58 rfl (lv_at hl 0 rfl) ?_
        refine lv_iconst (v := 3) hx hb dX3_vote_59 (by decide) ?_
        refine lv_imul hx hb dX3_vote_60 ?_
        refine lv_iload_n hx hb dX3_vote_61 rfl (lv_at hl 3 rfl) ?_
        refine lv_iadd hx hb dX3_vote_62 ?_
        refine va_iald hx hb hK.1 hP 0 0 rfl rfl (by first | exact kk_Lix' (kk_Lda hax (by decide) (j := 0) rfl (by decide) (by decide)) (by decide) | exact kk_Lix' (kk_Lda hax (by decide) (j := 3) rfl (by decide) (by decide)) (by decide) | exact kk_Lix' (kk_Lda hax (by decide) (j := 6) rfl (by decide) (by decide)) (by decide)) dX3_vote_63 ?_
        refine lv_iadd hx hb dX3_vote_64 ?_
        refine lv_istore_n (lv' := [(2, .int (((0 : Int32) + (fr (((0 : Int32) * (3 : Int32)) + axis).toNatClampNeg)) + (fr (((1 : Int32) * (3 : Int32)) + axis).toNatClampNeg))), (3, .int (1 : Int32)), (0, .ref q0), (1, .int axis)]) hx hb dX3_vote_65 rfl hl (by decide) rfl (fun ls hl => ?_)
        refine lv_iinc (v := (2 : Int32)) (lv' := [(3, .int (2 : Int32)), (2, .int (((0 : Int32) + (fr (((0 : Int32) * (3 : Int32)) + axis).toNatClampNeg)) + (fr (((1 : Int32) * (3 : Int32)) + axis).toNatClampNeg))), (0, .ref q0), (1, .int axis)]) hx hb dX3_vote_66 hl (k := 1) rfl (by first | rfl | decide) (by decide) rfl (fun ls hl => ?_)
        refine lv_goto (tgt := 39) hx hb dX3_vote_69 (by decide) ?_
        refine lv_iload_n hx hb dX3_vote_39 rfl (lv_at hl 0 rfl) ?_
        refine lv_iconst (v := 3) hx hb dX3_vote_40 (by decide) ?_
        refine lv_icmp_ge (tgt := 72) hx hb dX3_vote_41 (by decide) (fun z => absurd z (by decide)) (fun _ => ?_)
        refine lv_aload_n hx hb dX3_vote_44 rfl (lv_at hl 2 rfl) ?_
        refine va_get (D := D) hx hb hts hiX3 hown hK.1 hP 1 rfl rfl 1 (by decide) (hts (.fieldLink RX3 15 "FencePilot$Sensors" "fresh" "[Z") (by decide +kernel)) (fun _ h9 => h9) rfl dX3_vote_45 ?_
        refine lv_iload_n hx hb dX3_vote_48 rfl (lv_at hl 0 rfl) ?_
        refine va_zald hx hb hK.1 hP 2 1 rfl rfl (by unfold vp_in; decide) dX3_vote_49 ?_
        refine lv_if_eq (tgt := 66) hx hb dX3_vote_50 (by decide) (fun c_22 => ?_) (fun c_22 => ?_)
        · refine lv_iinc (v := (3 : Int32)) (lv' := [(3, .int (3 : Int32)), (2, .int (((0 : Int32) + (fr (((0 : Int32) * (3 : Int32)) + axis).toNatClampNeg)) + (fr (((1 : Int32) * (3 : Int32)) + axis).toNatClampNeg))), (0, .ref q0), (1, .int axis)]) hx hb dX3_vote_66 hl (k := 0) rfl (by first | rfl | decide) (by decide) rfl (fun ls hl => ?_)
          refine lv_goto (tgt := 39) hx hb dX3_vote_69 (by decide) ?_
          refine lv_iload_n hx hb dX3_vote_39 rfl (lv_at hl 0 rfl) ?_
          refine lv_iconst (v := 3) hx hb dX3_vote_40 (by decide) ?_
          refine lv_icmp_ge (tgt := 72) hx hb dX3_vote_41 (by decide) (fun _ => ?_) (fun z => absurd (by decide) z)
          refine lv_iload_n hx hb dX3_vote_72 rfl (lv_at hl 1 rfl) ?_
          refine lv_iconst (v := 2) hx hb dX3_vote_73 (by decide) ?_
          refine kk_cSi (wc := []) (wr := [(q1, .inl (cI, 9, .inl fr)), (q0, .inr (3, [.ref q1, .ref q2])), (q2, .inl (cZ, 3, .inl ff))]) ⟨hx, hb, hml, hown, hts⟩ hK hP hD hS hA [] [0, 1, 2] (k_J9_floorDiv_7cf53 l D cI cZ  H.size (((0 : Int32) + (fr (((0 : Int32) * (3 : Int32)) + axis).toNatClampNeg)) + (fr (((1 : Int32) * (3 : Int32)) + axis).toNatClampNeg)) (2 : Int32) (by decide)) (va_cwS 2 hts gX3_vote_J9_floorDiv_7cf53 rfl rfl rfl (by decide +kernel) ⟨(Nat.le_of_ble_eq_true rfl), (Nat.le_of_ble_eq_true rfl)⟩) rfl rfl (by decide) (by decide) (by decide) rfl hl.1 rfl (Nat.le_of_ble_eq_true rfl) dX3_vote_74 ⟨(Nat.le_of_ble_eq_true rfl), (Nat.le_of_ble_eq_true rfl)⟩ (fun r_23 u H locs hw_24 hP hD hS => ?_)
          have hw_24 : r_23 = (f_J9_floorDiv_7cf53 (((0 : Int32) + (fr (((0 : Int32) * (3 : Int32)) + axis).toNatClampNeg)) + (fr (((1 : Int32) * (3 : Int32)) + axis).toNatClampNeg)) (2 : Int32)) := hw_24
          subst hw_24
          have hP : va_P D vwCl [(q1, .inl (cI, 9, .inl fr)), (q0, .inr (3, [.ref q1, .ref q2])), (q2, .inl (cZ, 3, .inl ff))] H := hP
          have hD : va_D A [(q1, .inl (cI, 9, .inl fr)), (q0, .inr (3, [.ref q1, .ref q2])), (q2, .inl (cZ, 3, .inl ff))] := hD
          exact kk_ri () hx hb hr hlk dX3_vote_77 hS (hP.sub [1, 0, 2] rfl) (hD.sub [1, 0, 2] (by decide) rfl) (by show (f_J9_floorDiv_7cf53 (((0 : Int32) + (fr (((0 : Int32) * (3 : Int32)) + axis).toNatClampNeg)) + (fr (((1 : Int32) * (3 : Int32)) + axis).toNatClampNeg)) (2 : Int32)) = f_X3_vote fr ff axis; unfold f_X3_vote; rw [if_neg c_3]; rw [if_neg c_4]; rw [if_neg c_16]; rw [if_pos c_22]; try rfl)
        · refine lv_iload_n hx hb dX3_vote_53 rfl (lv_at hl 1 rfl) ?_
          refine lv_aload_n hx hb dX3_vote_54 rfl (lv_at hl 2 rfl) ?_
          refine va_get (D := D) hx hb hts hiX3 hown hK.1 hP 1 rfl rfl 0 (by decide) (hts (.fieldLink RX3 9 "FencePilot$Sensors" "row" "[I") (by decide +kernel)) (fun _ h9 => h9) rfl dX3_vote_55 ?_
          refine lv_iload_n hx hb dX3_vote_58 rfl (lv_at hl 0 rfl) ?_
          refine lv_iconst (v := 3) hx hb dX3_vote_59 (by decide) ?_
          refine lv_imul hx hb dX3_vote_60 ?_
          refine lv_iload_n hx hb dX3_vote_61 rfl (lv_at hl 3 rfl) ?_
          refine lv_iadd hx hb dX3_vote_62 ?_
          refine va_iald hx hb hK.1 hP 0 0 rfl rfl (by first | exact kk_Lix' (kk_Lda hax (by decide) (j := 0) rfl (by decide) (by decide)) (by decide) | exact kk_Lix' (kk_Lda hax (by decide) (j := 3) rfl (by decide) (by decide)) (by decide) | exact kk_Lix' (kk_Lda hax (by decide) (j := 6) rfl (by decide) (by decide)) (by decide)) dX3_vote_63 ?_
          refine lv_iadd hx hb dX3_vote_64 ?_
          refine lv_istore_n (lv' := [(2, .int ((((0 : Int32) + (fr (((0 : Int32) * (3 : Int32)) + axis).toNatClampNeg)) + (fr (((1 : Int32) * (3 : Int32)) + axis).toNatClampNeg)) + (fr (((2 : Int32) * (3 : Int32)) + axis).toNatClampNeg))), (3, .int (2 : Int32)), (0, .ref q0), (1, .int axis)]) hx hb dX3_vote_65 rfl hl (by decide) rfl (fun ls hl => ?_)
          refine lv_iinc (v := (3 : Int32)) (lv' := [(3, .int (3 : Int32)), (2, .int ((((0 : Int32) + (fr (((0 : Int32) * (3 : Int32)) + axis).toNatClampNeg)) + (fr (((1 : Int32) * (3 : Int32)) + axis).toNatClampNeg)) + (fr (((2 : Int32) * (3 : Int32)) + axis).toNatClampNeg))), (0, .ref q0), (1, .int axis)]) hx hb dX3_vote_66 hl (k := 1) rfl (by first | rfl | decide) (by decide) rfl (fun ls hl => ?_)
          refine lv_goto (tgt := 39) hx hb dX3_vote_69 (by decide) ?_
          refine lv_iload_n hx hb dX3_vote_39 rfl (lv_at hl 0 rfl) ?_
          refine lv_iconst (v := 3) hx hb dX3_vote_40 (by decide) ?_
          refine lv_icmp_ge (tgt := 72) hx hb dX3_vote_41 (by decide) (fun _ => ?_) (fun z => absurd (by decide) z)
          refine lv_iload_n hx hb dX3_vote_72 rfl (lv_at hl 1 rfl) ?_
          refine lv_iconst (v := 2) hx hb dX3_vote_73 (by decide) ?_
          refine kk_cSi (wc := []) (wr := [(q1, .inl (cI, 9, .inl fr)), (q0, .inr (3, [.ref q1, .ref q2])), (q2, .inl (cZ, 3, .inl ff))]) ⟨hx, hb, hml, hown, hts⟩ hK hP hD hS hA [] [0, 1, 2] (k_J9_floorDiv_7cf53 l D cI cZ  H.size ((((0 : Int32) + (fr (((0 : Int32) * (3 : Int32)) + axis).toNatClampNeg)) + (fr (((1 : Int32) * (3 : Int32)) + axis).toNatClampNeg)) + (fr (((2 : Int32) * (3 : Int32)) + axis).toNatClampNeg)) (2 : Int32) (by decide)) (va_cwS 2 hts gX3_vote_J9_floorDiv_7cf53 rfl rfl rfl (by decide +kernel) ⟨(Nat.le_of_ble_eq_true rfl), (Nat.le_of_ble_eq_true rfl)⟩) rfl rfl (by decide) (by decide) (by decide) rfl hl.1 rfl (Nat.le_of_ble_eq_true rfl) dX3_vote_74 ⟨(Nat.le_of_ble_eq_true rfl), (Nat.le_of_ble_eq_true rfl)⟩ (fun r_25 u H locs hw_26 hP hD hS => ?_)
          have hw_26 : r_25 = (f_J9_floorDiv_7cf53 ((((0 : Int32) + (fr (((0 : Int32) * (3 : Int32)) + axis).toNatClampNeg)) + (fr (((1 : Int32) * (3 : Int32)) + axis).toNatClampNeg)) + (fr (((2 : Int32) * (3 : Int32)) + axis).toNatClampNeg)) (2 : Int32)) := hw_26
          subst hw_26
          have hP : va_P D vwCl [(q1, .inl (cI, 9, .inl fr)), (q0, .inr (3, [.ref q1, .ref q2])), (q2, .inl (cZ, 3, .inl ff))] H := hP
          have hD : va_D A [(q1, .inl (cI, 9, .inl fr)), (q0, .inr (3, [.ref q1, .ref q2])), (q2, .inl (cZ, 3, .inl ff))] := hD
          exact kk_ri () hx hb hr hlk dX3_vote_77 hS (hP.sub [1, 0, 2] rfl) (hD.sub [1, 0, 2] (by decide) rfl) (by show (f_J9_floorDiv_7cf53 ((((0 : Int32) + (fr (((0 : Int32) * (3 : Int32)) + axis).toNatClampNeg)) + (fr (((1 : Int32) * (3 : Int32)) + axis).toNatClampNeg)) + (fr (((2 : Int32) * (3 : Int32)) + axis).toNatClampNeg)) (2 : Int32)) = f_X3_vote fr ff axis; unfold f_X3_vote; rw [if_neg c_3]; rw [if_neg c_4]; rw [if_neg c_16]; rw [if_neg c_22]; try rfl)
  · refine lv_aload_n hx hb dX3_vote_8 rfl (lv_at hl 0 rfl) ?_
    refine va_get (D := D) hx hb hts hiX3 hown hK.1 hP 1 rfl rfl 0 (by decide) (hts (.fieldLink RX3 9 "FencePilot$Sensors" "row" "[I") (by decide +kernel)) (fun _ h9 => h9) rfl dX3_vote_9 ?_
    refine lv_iload_n hx hb dX3_vote_12 rfl (lv_at hl 1 rfl) ?_
    refine va_iald hx hb hK.1 hP 0 0 rfl rfl (kk_Lix' hax (by decide)) dX3_vote_13 ?_
    refine lv_aload_n hx hb dX3_vote_14 rfl (lv_at hl 0 rfl) ?_
    refine va_get (D := D) hx hb hts hiX3 hown hK.1 hP 1 rfl rfl 0 (by decide) (hts (.fieldLink RX3 9 "FencePilot$Sensors" "row" "[I") (by decide +kernel)) (fun _ h9 => h9) rfl dX3_vote_15 ?_
    refine lv_iconst (v := 3) hx hb dX3_vote_18 (by decide) ?_
    refine lv_iload_n hx hb dX3_vote_19 rfl (lv_at hl 1 rfl) ?_
    refine lv_iadd hx hb dX3_vote_20 ?_
    refine va_iald hx hb hK.1 hP 0 0 rfl rfl (kk_Lix' (kk_Lda hax (by decide) (j := 3) rfl (by decide) (by decide)) (by decide)) dX3_vote_21 ?_
    refine lv_aload_n hx hb dX3_vote_22 rfl (lv_at hl 0 rfl) ?_
    refine va_get (D := D) hx hb hts hiX3 hown hK.1 hP 1 rfl rfl 0 (by decide) (hts (.fieldLink RX3 9 "FencePilot$Sensors" "row" "[I") (by decide +kernel)) (fun _ h9 => h9) rfl dX3_vote_23 ?_
    refine lv_bipush (v := 6) hx hb dX3_vote_26 (by decide) ?_
    refine lv_iload_n hx hb dX3_vote_28 rfl (lv_at hl 1 rfl) ?_
    refine lv_iadd hx hb dX3_vote_29 ?_
    refine va_iald hx hb hK.1 hP 0 0 rfl rfl (kk_Lix' (kk_Lda hax (by decide) (j := 6) rfl (by decide) (by decide)) (by decide)) dX3_vote_30 ?_
    refine kk_cSi (wc := []) (wr := [(q1, .inl (cI, 9, .inl fr)), (q0, .inr (3, [.ref q1, .ref q2])), (q2, .inl (cZ, 3, .inl ff))]) ⟨hx, hb, hml, hown, hts⟩ hK hP hD hS hA [] [0, 1, 2] (k_X3_middle l D cI cZ  H.size (fr axis.toNatClampNeg) (fr ((3 : Int32) + axis).toNatClampNeg) (fr ((6 : Int32) + axis).toNatClampNeg)) (va_cwS 3 hts gX3_vote_X3_middle rfl rfl rfl (by decide +kernel) ⟨(Nat.le_of_ble_eq_true rfl), (Nat.le_of_ble_eq_true rfl)⟩) rfl rfl (by decide) (by decide) (by decide) rfl hl.1 rfl (Nat.le_of_ble_eq_true rfl) dX3_vote_31 ⟨(Nat.le_of_ble_eq_true rfl), (Nat.le_of_ble_eq_true rfl)⟩ (fun r_27 u H locs hw_28 hP hD hS => ?_)
    have hw_28 : r_27 = (f_X3_middle (fr axis.toNatClampNeg) (fr ((3 : Int32) + axis).toNatClampNeg) (fr ((6 : Int32) + axis).toNatClampNeg)) := hw_28
    subst hw_28
    have hP : va_P D vwCl [(q1, .inl (cI, 9, .inl fr)), (q0, .inr (3, [.ref q1, .ref q2])), (q2, .inl (cZ, 3, .inl ff))] H := hP
    have hD : va_D A [(q1, .inl (cI, 9, .inl fr)), (q0, .inr (3, [.ref q1, .ref q2])), (q2, .inl (cZ, 3, .inl ff))] := hD
    exact kk_ri () hx hb hr hlk dX3_vote_34 hS (hP.sub [1, 0, 2] rfl) (hD.sub [1, 0, 2] (by decide) rfl) (by show (f_X3_middle (fr axis.toNatClampNeg) (fr ((3 : Int32) + axis).toNatClampNeg) (fr ((6 : Int32) + axis).toNatClampNeg)) = f_X3_vote fr ff axis; unfold f_X3_vote; rw [if_pos c_3]; try rfl)
end
