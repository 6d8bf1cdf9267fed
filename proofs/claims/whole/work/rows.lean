section
-- ===== PART A: goes FIRST, ahead of the names: the tables' words, and 'selects' of the private methods out of them =====
/-- a private method of a class that the tables say can be made, by its rows of tables_1 -/
def lw_okq (q : MethodName × Nat) : Prop := (q.1.cls ≠ "java/lang/invoke/MethodHandle" ∧ q.1.cls ≠ "java/lang/invoke/VarHandle") ∧ Cond.instantiable q.1.cls q.2 ∈ tables_1 ∧ Cond.privateMethod q.1 ∈ tables_1 ∧ Cond.instanceMethod q.1 ∈ tables_1
theorem lw_p0 : lw_okq (⟨"TankFilter", "fail", "(I)I"⟩, 5) := ⟨⟨by decide +kernel, by decide +kernel⟩, List.mem_of_getElem? (i := 8) (by decide +kernel), List.mem_of_getElem? (i := 156) (by decide +kernel), List.mem_of_getElem? (i := 157) (by decide +kernel)⟩
theorem lw_p1 : lw_okq (⟨"TankFilter", "save", "()V"⟩, 5) := ⟨⟨by decide +kernel, by decide +kernel⟩, List.mem_of_getElem? (i := 8) (by decide +kernel), List.mem_of_getElem? (i := 160) (by decide +kernel), List.mem_of_getElem? (i := 161) (by decide +kernel)⟩
theorem lw_p2 : lw_okq (⟨"TankFilter", "dropOldestSaved", "()V"⟩, 5) := ⟨⟨by decide +kernel, by decide +kernel⟩, List.mem_of_getElem? (i := 8) (by decide +kernel), List.mem_of_getElem? (i := 164) (by decide +kernel), List.mem_of_getElem? (i := 165) (by decide +kernel)⟩
theorem lw_p3 : lw_okq (⟨"TankFilter$Memory", "copyFrom", "(LTankFilter$Memory;)V"⟩, 10) := ⟨⟨by decide +kernel, by decide +kernel⟩, List.mem_of_getElem? (i := 16) (by decide +kernel), List.mem_of_getElem? (i := 168) (by decide +kernel), List.mem_of_getElem? (i := 169) (by decide +kernel)⟩
theorem lw_p4 : lw_okq (⟨"TankFilter$Estimate", "copyFrom", "(LTankFilter$Estimate;)V"⟩, 8) := ⟨⟨by decide +kernel, by decide +kernel⟩, List.mem_of_getElem? (i := 22) (by decide +kernel), List.mem_of_getElem? (i := 172) (by decide +kernel), List.mem_of_getElem? (i := 173) (by decide +kernel)⟩
theorem lw_p5 : lw_okq (⟨"TankFilter$History", "copyFrom", "(LTankFilter$History;)V"⟩, 3) := ⟨⟨by decide +kernel, by decide +kernel⟩, List.mem_of_getElem? (i := 63) (by decide +kernel), List.mem_of_getElem? (i := 179) (by decide +kernel), List.mem_of_getElem? (i := 180) (by decide +kernel)⟩
theorem lw_p6 : lw_okq (⟨"TankFilter$Estimate", "startFrom", "(IIII)V"⟩, 8) := ⟨⟨by decide +kernel, by decide +kernel⟩, List.mem_of_getElem? (i := 22) (by decide +kernel), List.mem_of_getElem? (i := 184) (by decide +kernel), List.mem_of_getElem? (i := 185) (by decide +kernel)⟩
theorem lw_p7 : lw_okq (⟨"TankFilter$Estimate", "advance", "(JJJ)Z"⟩, 8) := ⟨⟨by decide +kernel, by decide +kernel⟩, List.mem_of_getElem? (i := 22) (by decide +kernel), List.mem_of_getElem? (i := 211) (by decide +kernel), List.mem_of_getElem? (i := 212) (by decide +kernel)⟩
theorem lw_p8 : lw_okq (⟨"TankFilter$Estimate", "move", "(JJJJJ)Z"⟩, 8) := ⟨⟨by decide +kernel, by decide +kernel⟩, List.mem_of_getElem? (i := 22) (by decide +kernel), List.mem_of_getElem? (i := 216) (by decide +kernel), List.mem_of_getElem? (i := 217) (by decide +kernel)⟩
theorem lw_p9 : lw_okq (⟨"TankFilter$History", "append", "(II)V"⟩, 3) := ⟨⟨by decide +kernel, by decide +kernel⟩, List.mem_of_getElem? (i := 63) (by decide +kernel), List.mem_of_getElem? (i := 229) (by decide +kernel), List.mem_of_getElem? (i := 230) (by decide +kernel)⟩
theorem lw_p10 : lw_okq (⟨"TankFilter$History", "dropOldest", "()V"⟩, 3) := ⟨⟨by decide +kernel, by decide +kernel⟩, List.mem_of_getElem? (i := 63) (by decide +kernel), List.mem_of_getElem? (i := 233) (by decide +kernel), List.mem_of_getElem? (i := 234) (by decide +kernel)⟩
theorem lw_p11 : lw_okq (⟨"TankFilter$Estimate", "take", "(JIJJ)I"⟩, 8) := ⟨⟨by decide +kernel, by decide +kernel⟩, List.mem_of_getElem? (i := 22) (by decide +kernel), List.mem_of_getElem? (i := 241) (by decide +kernel), List.mem_of_getElem? (i := 242) (by decide +kernel)⟩
theorem lw_p12 : lw_okq (⟨"TankFilter$Estimate", "mean", "(I)J"⟩, 8) := ⟨⟨by decide +kernel, by decide +kernel⟩, List.mem_of_getElem? (i := 22) (by decide +kernel), List.mem_of_getElem? (i := 245) (by decide +kernel), List.mem_of_getElem? (i := 246) (by decide +kernel)⟩
theorem lw_p13 : lw_okq (⟨"TankFilter", "runPredictions", "(I)Z"⟩, 5) := ⟨⟨by decide +kernel, by decide +kernel⟩, List.mem_of_getElem? (i := 8) (by decide +kernel), List.mem_of_getElem? (i := 318) (by decide +kernel), List.mem_of_getElem? (i := 319) (by decide +kernel)⟩
theorem lw_p14 : lw_okq (⟨"TankFilter", "runCyclesUntilSteady", "(II)I"⟩, 5) := ⟨⟨by decide +kernel, by decide +kernel⟩, List.mem_of_getElem? (i := 8) (by decide +kernel), List.mem_of_getElem? (i := 335) (by decide +kernel), List.mem_of_getElem? (i := 336) (by decide +kernel)⟩
theorem lw_p15 : lw_okq (⟨"TankFilter$History", "hasReading", "()Z"⟩, 3) := ⟨⟨by decide +kernel, by decide +kernel⟩, List.mem_of_getElem? (i := 63) (by decide +kernel), List.mem_of_getElem? (i := 348) (by decide +kernel), List.mem_of_getElem? (i := 349) (by decide +kernel)⟩
def lw_privs_1 : List (MethodName × Nat) := [(⟨"TankFilter", "fail", "(I)I"⟩, 5), (⟨"TankFilter", "save", "()V"⟩, 5), (⟨"TankFilter", "dropOldestSaved", "()V"⟩, 5), (⟨"TankFilter$Memory", "copyFrom", "(LTankFilter$Memory;)V"⟩, 10), (⟨"TankFilter$Estimate", "copyFrom", "(LTankFilter$Estimate;)V"⟩, 8), (⟨"TankFilter$History", "copyFrom", "(LTankFilter$History;)V"⟩, 3), (⟨"TankFilter$Estimate", "startFrom", "(IIII)V"⟩, 8), (⟨"TankFilter$Estimate", "advance", "(JJJ)Z"⟩, 8), (⟨"TankFilter$Estimate", "move", "(JJJJJ)Z"⟩, 8), (⟨"TankFilter$History", "append", "(II)V"⟩, 3), (⟨"TankFilter$History", "dropOldest", "()V"⟩, 3), (⟨"TankFilter$Estimate", "take", "(JIJJ)I"⟩, 8), (⟨"TankFilter$Estimate", "mean", "(I)J"⟩, 8), (⟨"TankFilter", "runPredictions", "(I)Z"⟩, 5), (⟨"TankFilter", "runCyclesUntilSteady", "(II)I"⟩, 5), (⟨"TankFilter$History", "hasReading", "()Z"⟩, 3)]
theorem lw_r1 : ∀ q ∈ lw_privs_1, lw_okq q := List.forall_mem_cons.mpr ⟨lw_p0, List.forall_mem_cons.mpr ⟨lw_p1, List.forall_mem_cons.mpr ⟨lw_p2, List.forall_mem_cons.mpr ⟨lw_p3, List.forall_mem_cons.mpr ⟨lw_p4, List.forall_mem_cons.mpr ⟨lw_p5, List.forall_mem_cons.mpr ⟨lw_p6, List.forall_mem_cons.mpr ⟨lw_p7, List.forall_mem_cons.mpr ⟨lw_p8, List.forall_mem_cons.mpr ⟨lw_p9, List.forall_mem_cons.mpr ⟨lw_p10, List.forall_mem_cons.mpr ⟨lw_p11, List.forall_mem_cons.mpr ⟨lw_p12, List.forall_mem_cons.mpr ⟨lw_p13, List.forall_mem_cons.mpr ⟨lw_p14, List.forall_mem_cons.mpr ⟨lw_p15, fun _ h => absurd h List.not_mem_nil⟩⟩⟩⟩⟩⟩⟩⟩⟩⟩⟩⟩⟩⟩⟩⟩
theorem lw_p16 : lw_okq (⟨"TankFilter", "runReplay", "(I)I"⟩, 5) := ⟨⟨by decide +kernel, by decide +kernel⟩, List.mem_of_getElem? (i := 8) (by decide +kernel), List.mem_of_getElem? (i := 353) (by decide +kernel), List.mem_of_getElem? (i := 354) (by decide +kernel)⟩
theorem lw_p17 : lw_okq (⟨"TankFilter$Memory", "mixInto", "(J)J"⟩, 10) := ⟨⟨by decide +kernel, by decide +kernel⟩, List.mem_of_getElem? (i := 16) (by decide +kernel), List.mem_of_getElem? (i := 385) (by decide +kernel), List.mem_of_getElem? (i := 386) (by decide +kernel)⟩
theorem lw_p18 : lw_okq (⟨"TankFilter$Estimate", "mixStateInto", "(J)J"⟩, 8) := ⟨⟨by decide +kernel, by decide +kernel⟩, List.mem_of_getElem? (i := 22) (by decide +kernel), List.mem_of_getElem? (i := 389) (by decide +kernel), List.mem_of_getElem? (i := 390) (by decide +kernel)⟩
theorem lw_p19 : lw_okq (⟨"TankFilter$Estimate", "mixLatestReadingInto", "(J)J"⟩, 8) := ⟨⟨by decide +kernel, by decide +kernel⟩, List.mem_of_getElem? (i := 22) (by decide +kernel), List.mem_of_getElem? (i := 395) (by decide +kernel), List.mem_of_getElem? (i := 396) (by decide +kernel)⟩
theorem lw_p20 : lw_okq (⟨"TankFilter$History", "mixInto", "(J)J"⟩, 3) := ⟨⟨by decide +kernel, by decide +kernel⟩, List.mem_of_getElem? (i := 63) (by decide +kernel), List.mem_of_getElem? (i := 399) (by decide +kernel), List.mem_of_getElem? (i := 400) (by decide +kernel)⟩
theorem lw_p21 : lw_okq (⟨"TankFilterModel", "forget", "()V"⟩, 9) := ⟨⟨by decide +kernel, by decide +kernel⟩, List.mem_of_getElem? (i := 404) (by decide +kernel), List.mem_of_getElem? (i := 410) (by decide +kernel), List.mem_of_getElem? (i := 411) (by decide +kernel)⟩
theorem lw_p22 : lw_okq (⟨"TankFilterModel", "fail", "(I)I"⟩, 9) := ⟨⟨by decide +kernel, by decide +kernel⟩, List.mem_of_getElem? (i := 404) (by decide +kernel), List.mem_of_getElem? (i := 456) (by decide +kernel), List.mem_of_getElem? (i := 457) (by decide +kernel)⟩
theorem lw_p23 : lw_okq (⟨"TankFilterModel", "note", "()V"⟩, 9) := ⟨⟨by decide +kernel, by decide +kernel⟩, List.mem_of_getElem? (i := 404) (by decide +kernel), List.mem_of_getElem? (i := 460) (by decide +kernel), List.mem_of_getElem? (i := 461) (by decide +kernel)⟩
theorem lw_p24 : lw_okq (⟨"TankFilterModel", "take", "()V"⟩, 9) := ⟨⟨by decide +kernel, by decide +kernel⟩, List.mem_of_getElem? (i := 404) (by decide +kernel), List.mem_of_getElem? (i := 483) (by decide +kernel), List.mem_of_getElem? (i := 484) (by decide +kernel)⟩
theorem lw_p25 : lw_okq (⟨"TankFilterModel", "predicts", "(II)Z"⟩, 9) := ⟨⟨by decide +kernel, by decide +kernel⟩, List.mem_of_getElem? (i := 404) (by decide +kernel), List.mem_of_getElem? (i := 487) (by decide +kernel), List.mem_of_getElem? (i := 488) (by decide +kernel)⟩
theorem lw_p26 : lw_okq (⟨"TankFilterModel", "put", "()V"⟩, 9) := ⟨⟨by decide +kernel, by decide +kernel⟩, List.mem_of_getElem? (i := 404) (by decide +kernel), List.mem_of_getElem? (i := 498) (by decide +kernel), List.mem_of_getElem? (i := 499) (by decide +kernel)⟩
theorem lw_p27 : lw_okq (⟨"TankFilterModel", "record", "(II)V"⟩, 9) := ⟨⟨by decide +kernel, by decide +kernel⟩, List.mem_of_getElem? (i := 404) (by decide +kernel), List.mem_of_getElem? (i := 502) (by decide +kernel), List.mem_of_getElem? (i := 503) (by decide +kernel)⟩
theorem lw_p28 : lw_okq (⟨"TankFilterModel", "corrects", "(IJI)I"⟩, 9) := ⟨⟨by decide +kernel, by decide +kernel⟩, List.mem_of_getElem? (i := 404) (by decide +kernel), List.mem_of_getElem? (i := 510) (by decide +kernel), List.mem_of_getElem? (i := 511) (by decide +kernel)⟩
theorem lw_p29 : lw_okq (⟨"TankFilterModel", "goesOn", "(I)Z"⟩, 9) := ⟨⟨by decide +kernel, by decide +kernel⟩, List.mem_of_getElem? (i := 404) (by decide +kernel), List.mem_of_getElem? (i := 581) (by decide +kernel), List.mem_of_getElem? (i := 582) (by decide +kernel)⟩
theorem lw_p30 : lw_okq (⟨"TankFilterModel", "cycles", "(I)I"⟩, 9) := ⟨⟨by decide +kernel, by decide +kernel⟩, List.mem_of_getElem? (i := 404) (by decide +kernel), List.mem_of_getElem? (i := 597) (by decide +kernel), List.mem_of_getElem? (i := 598) (by decide +kernel)⟩
theorem lw_p31 : lw_okq (⟨"TankFilterModel", "hasReading", "()Z"⟩, 9) := ⟨⟨by decide +kernel, by decide +kernel⟩, List.mem_of_getElem? (i := 404) (by decide +kernel), List.mem_of_getElem? (i := 609) (by decide +kernel), List.mem_of_getElem? (i := 610) (by decide +kernel)⟩
def lw_privs_2 : List (MethodName × Nat) := [(⟨"TankFilter", "runReplay", "(I)I"⟩, 5), (⟨"TankFilter$Memory", "mixInto", "(J)J"⟩, 10), (⟨"TankFilter$Estimate", "mixStateInto", "(J)J"⟩, 8), (⟨"TankFilter$Estimate", "mixLatestReadingInto", "(J)J"⟩, 8), (⟨"TankFilter$History", "mixInto", "(J)J"⟩, 3), (⟨"TankFilterModel", "forget", "()V"⟩, 9), (⟨"TankFilterModel", "fail", "(I)I"⟩, 9), (⟨"TankFilterModel", "note", "()V"⟩, 9), (⟨"TankFilterModel", "take", "()V"⟩, 9), (⟨"TankFilterModel", "predicts", "(II)Z"⟩, 9), (⟨"TankFilterModel", "put", "()V"⟩, 9), (⟨"TankFilterModel", "record", "(II)V"⟩, 9), (⟨"TankFilterModel", "corrects", "(IJI)I"⟩, 9), (⟨"TankFilterModel", "goesOn", "(I)Z"⟩, 9), (⟨"TankFilterModel", "cycles", "(I)I"⟩, 9), (⟨"TankFilterModel", "hasReading", "()Z"⟩, 9)]
theorem lw_r2 : ∀ q ∈ lw_privs_2, lw_okq q := List.forall_mem_cons.mpr ⟨lw_p16, List.forall_mem_cons.mpr ⟨lw_p17, List.forall_mem_cons.mpr ⟨lw_p18, List.forall_mem_cons.mpr ⟨lw_p19, List.forall_mem_cons.mpr ⟨lw_p20, List.forall_mem_cons.mpr ⟨lw_p21, List.forall_mem_cons.mpr ⟨lw_p22, List.forall_mem_cons.mpr ⟨lw_p23, List.forall_mem_cons.mpr ⟨lw_p24, List.forall_mem_cons.mpr ⟨lw_p25, List.forall_mem_cons.mpr ⟨lw_p26, List.forall_mem_cons.mpr ⟨lw_p27, List.forall_mem_cons.mpr ⟨lw_p28, List.forall_mem_cons.mpr ⟨lw_p29, List.forall_mem_cons.mpr ⟨lw_p30, List.forall_mem_cons.mpr ⟨lw_p31, fun _ h => absurd h List.not_mem_nil⟩⟩⟩⟩⟩⟩⟩⟩⟩⟩⟩⟩⟩⟩⟩⟩
theorem lw_p32 : lw_okq (⟨"TankFilterModel", "errorOf", "(I)J"⟩, 9) := ⟨⟨by decide +kernel, by decide +kernel⟩, List.mem_of_getElem? (i := 404) (by decide +kernel), List.mem_of_getElem? (i := 614) (by decide +kernel), List.mem_of_getElem? (i := 615) (by decide +kernel)⟩
theorem lw_p33 : lw_okq (⟨"TankFilterModel", "add", "(I)V"⟩, 9) := ⟨⟨by decide +kernel, by decide +kernel⟩, List.mem_of_getElem? (i := 404) (by decide +kernel), List.mem_of_getElem? (i := 637) (by decide +kernel), List.mem_of_getElem? (i := 638) (by decide +kernel)⟩
def lw_privs_3 : List (MethodName × Nat) := [(⟨"TankFilterModel", "errorOf", "(I)J"⟩, 9), (⟨"TankFilterModel", "add", "(I)V"⟩, 9)]
theorem lw_r3 : ∀ q ∈ lw_privs_3, lw_okq q := List.forall_mem_cons.mpr ⟨lw_p32, List.forall_mem_cons.mpr ⟨lw_p33, fun _ h => absurd h List.not_mem_nil⟩⟩
def lw_privs : List (MethodName × Nat) := lw_privs_1 ++ (lw_privs_2 ++ (lw_privs_3))
def lw_tbl : List Cond := k2_sels lw_privs ++ tables_1
theorem lw_privs_ok : ∀ q ∈ lw_privs, lw_okq q := by
  show ∀ q ∈ lw_privs_1 ++ (lw_privs_2 ++ (lw_privs_3)), lw_okq q
  exact List.forall_mem_append.mpr ⟨lw_r1, List.forall_mem_append.mpr ⟨lw_r2, lw_r3⟩⟩
/-! ===== BEGIN words of one list among another's, by their places ===== -/
theorem goodIn_r {big : List Cond} (ws : List Cond) (ps : List Nat) (hp : ws = ps.filterMap (fun i => big[i]?)) (h : ws.all goodWord = true) : GoodIn big ws := by
  intro w hw
  have h1 := List.all_eq_true.mp h w hw
  rw [hp] at hw
  obtain ⟨i, -, hi⟩ := List.mem_filterMap.mp hw
  have hm : w ∈ big := by first | exact List.mem_of_getElem? hi | exact List.getElem?_mem hi
  exact ⟨hm, good_of_word h1⟩
theorem goodIn_app {big a b : List Cond} (ha : GoodIn big a) (hb : GoodIn big b) : GoodIn big (a ++ b) := fun w h => (List.mem_append.mp h).elim (ha w) (hb w)
theorem goodIn_ca {big a b : List Cond} {c : Cond} (ha : GoodIn big (c :: a)) (hb : GoodIn big b) : GoodIn big (c :: (a ++ b)) := fun w h => (List.mem_cons.mp h).elim (fun e => ha w (List.mem_cons.mpr (Or.inl e))) (fun h => (List.mem_append.mp h).elim (fun h => ha w (List.mem_cons.mpr (Or.inr h))) (hb w))
theorem goodIn_sub {big ws : List Cond} (hm : ∀ w ∈ ws, w ∈ big) (h : ws.all goodWord = true) : GoodIn big ws := fun w hw => ⟨hm w hw, good_of_word (List.all_eq_true.mp h w hw)⟩
/-! ===== END ===== -/

/-! ===== BEGIN printed: names, fields, word lists, decode rows ===== -/
def RX0 : String := "TankFilter$Estimate"
def TX0 : u_T := fun k => match k with
  | 0 => ("TankFilter$Estimate", "level", "J", false)
  | 1 => ("TankFilter$Estimate", "flow", "J", false)
  | 2 => ("TankFilter$Estimate", "levelVariance", "J", false)
  | 3 => ("TankFilter$Estimate", "covariance", "J", false)
  | 4 => ("TankFilter$Estimate", "flowVariance", "J", false)
  | 5 => ("TankFilter$Estimate", "innovation", "J", false)
  | 6 => ("TankFilter$Estimate", "levelGain", "J", false)
  | _ => ("TankFilter$Estimate", "flowGain", "J", false)
def tyX0 : Nat → FieldType := fun k => match k with
  | 0 => .long
  | 1 => .long
  | 2 => .long
  | 3 => .long
  | 4 => .long
  | 5 => .long
  | 6 => .long
  | _ => .long
abbrev wsX00 : List Cond := u_ws RX0 TX0 8
theorem nmX0 : ∀ a, a < 8 → ∀ b, b < 8 → a ≠ b → (TX0 a).2.1 ≠ (TX0 b).2.1 := by decide +kernel
theorem tyX0_ok : ∀ k, k < 8 → parseFieldDescriptor (TX0 k).2.2.1 = some (tyX0 k) := by decide +kernel
abbrev cX0_init : ByteArray := prog_2_method_1_code
def yX0_init : MethodName := ⟨RX0, "<init>", "()V"⟩
abbrev cX0_startFrom : ByteArray := prog_2_method_2_code
def yX0_startFrom : MethodName := ⟨RX0, "startFrom", "(IIII)V"⟩
abbrev cX0_copyFrom : ByteArray := prog_2_method_3_code
def yX0_copyFrom : MethodName := ⟨RX0, "copyFrom", "(LTankFilter$Estimate;)V"⟩
abbrev cX0_mean : ByteArray := prog_2_method_4_code
def yX0_mean : MethodName := ⟨RX0, "mean", "(I)J"⟩
abbrev cX0_advance : ByteArray := prog_2_method_5_code
def yX0_advance : MethodName := ⟨RX0, "advance", "(JJJ)Z"⟩
abbrev cX0_take : ByteArray := prog_2_method_6_code
def yX0_take : MethodName := ⟨RX0, "take", "(JIJJ)I"⟩
abbrev cX0_move : ByteArray := prog_2_method_7_code
def yX0_move : MethodName := ⟨RX0, "move", "(JJJJJ)Z"⟩
abbrev cX0_mixStateInto : ByteArray := prog_2_method_8_code
def yX0_mixStateInto : MethodName := ⟨RX0, "mixStateInto", "(J)J"⟩
abbrev cX0_mixLatestReadingInto : ByteArray := prog_2_method_9_code
def yX0_mixLatestReadingInto : MethodName := ⟨RX0, "mixLatestReadingInto", "(J)J"⟩
def RX1 : String := "TankFilter$History"
def TX1 : u_T := fun k => match k with
  | 0 => ("TankFilter$History", "sources", "[I", true)
  | 1 => ("TankFilter$History", "values", "[I", true)
  | _ => ("TankFilter$History", "size", "I", false)
def tyX1 : Nat → FieldType := fun k => match k with
  | 0 => .array .int
  | 1 => .array .int
  | _ => .int
abbrev wsX10 : List Cond := u_ws RX1 TX1 3
theorem nmX1 : ∀ a, a < 3 → ∀ b, b < 3 → a ≠ b → (TX1 a).2.1 ≠ (TX1 b).2.1 := by decide +kernel
theorem tyX1_ok : ∀ k, k < 3 → parseFieldDescriptor (TX1 k).2.2.1 = some (tyX1 k) := by decide +kernel
abbrev cX1_init : ByteArray := prog_3_method_1_code
def yX1_init : MethodName := ⟨RX1, "<init>", "()V"⟩
abbrev cX1_append : ByteArray := prog_3_method_2_code
def yX1_append : MethodName := ⟨RX1, "append", "(II)V"⟩
abbrev cX1_dropOldest : ByteArray := prog_3_method_3_code
def yX1_dropOldest : MethodName := ⟨RX1, "dropOldest", "()V"⟩
abbrev cX1_hasReading : ByteArray := prog_3_method_4_code
def yX1_hasReading : MethodName := ⟨RX1, "hasReading", "()Z"⟩
abbrev cX1_copyFrom : ByteArray := prog_3_method_5_code
def yX1_copyFrom : MethodName := ⟨RX1, "copyFrom", "(LTankFilter$History;)V"⟩
abbrev cX1_mixInto : ByteArray := prog_3_method_6_code
def yX1_mixInto : MethodName := ⟨RX1, "mixInto", "(J)J"⟩
def RX2 : String := "TankFilter$Memory"
def TX2 : u_T := fun k => match k with
  | 0 => ("TankFilter$Memory", "estimate", "LTankFilter$Estimate;", true)
  | 1 => ("TankFilter$Memory", "levelNoise", "I", false)
  | 2 => ("TankFilter$Memory", "flowNoise", "I", false)
  | 3 => ("TankFilter$Memory", "gate", "I", false)
  | 4 => ("TankFilter$Memory", "sensorKinds", "[I", true)
  | 5 => ("TankFilter$Memory", "sensorVariances", "[I", true)
  | 6 => ("TankFilter$Memory", "acceptedCount", "I", false)
  | 7 => ("TankFilter$Memory", "rejectedCount", "I", false)
  | 8 => ("TankFilter$Memory", "missedCount", "I", false)
  | _ => ("TankFilter$Memory", "history", "LTankFilter$History;", true)
def tyX2 : Nat → FieldType := fun k => match k with
  | 0 => .object "TankFilter$Estimate"
  | 1 => .int
  | 2 => .int
  | 3 => .int
  | 4 => .array .int
  | 5 => .array .int
  | 6 => .int
  | 7 => .int
  | 8 => .int
  | _ => .object "TankFilter$History"
abbrev wsX20 : List Cond := u_ws RX2 TX2 10
theorem nmX2 : ∀ a, a < 10 → ∀ b, b < 10 → a ≠ b → (TX2 a).2.1 ≠ (TX2 b).2.1 := by decide +kernel
theorem tyX2_ok : ∀ k, k < 10 → parseFieldDescriptor (TX2 k).2.2.1 = some (tyX2 k) := by decide +kernel
abbrev cX2_init : ByteArray := prog_4_method_1_code
def yX2_init : MethodName := ⟨RX2, "<init>", "()V"⟩
abbrev cX2_copyFrom : ByteArray := prog_4_method_2_code
def yX2_copyFrom : MethodName := ⟨RX2, "copyFrom", "(LTankFilter$Memory;)V"⟩
abbrev cX2_mixInto : ByteArray := prog_4_method_3_code
def yX2_mixInto : MethodName := ⟨RX2, "mixInto", "(J)J"⟩
def RX3 : String := "TankFilter"
def TX3 : u_T := fun k => match k with
  | 0 => ("TankFilter", "now", "LTankFilter$Memory;", true)
  | 1 => ("TankFilter", "saved", "[LTankFilter$Memory;", true)
  | 2 => ("TankFilter", "savedCount", "I", false)
  | 3 => ("TankFilter", "errors", "[I", true)
  | _ => ("TankFilter", "trial", "LTankFilter$Estimate;", true)
def tyX3 : Nat → FieldType := fun k => match k with
  | 0 => .object "TankFilter$Memory"
  | 1 => .array (.object "TankFilter$Memory")
  | 2 => .int
  | 3 => .array .int
  | _ => .object "TankFilter$Estimate"
abbrev wsX30 : List Cond := u_ws RX3 TX3 5
theorem nmX3 : ∀ a, a < 5 → ∀ b, b < 5 → a ≠ b → (TX3 a).2.1 ≠ (TX3 b).2.1 := by decide +kernel
theorem tyX3_ok : ∀ k, k < 5 → parseFieldDescriptor (TX3 k).2.2.1 = some (tyX3 k) := by decide +kernel
abbrev cX3_init : ByteArray := prog_1_method_1_code
def yX3_init : MethodName := ⟨RX3, "<init>", "()V"⟩
abbrev cX3_reset : ByteArray := prog_1_method_2_code
def yX3_reset : MethodName := ⟨RX3, "reset", "(IIII)I"⟩
abbrev cX3_setProcessNoise : ByteArray := prog_1_method_3_code
def yX3_setProcessNoise : MethodName := ⟨RX3, "setProcessNoise", "(II)I"⟩
abbrev cX3_setSensor : ByteArray := prog_1_method_4_code
def yX3_setSensor : MethodName := ⟨RX3, "setSensor", "(III)I"⟩
abbrev cX3_setGate : ByteArray := prog_1_method_5_code
def yX3_setGate : MethodName := ⟨RX3, "setGate", "(I)I"⟩
abbrev cX3_predict : ByteArray := prog_1_method_6_code
def yX3_predict : MethodName := ⟨RX3, "predict", "(I)I"⟩
abbrev cX3_correct : ByteArray := prog_1_method_7_code
def yX3_correct : MethodName := ⟨RX3, "correct", "(II)I"⟩
abbrev cX3_miss : ByteArray := prog_1_method_8_code
def yX3_miss : MethodName := ⟨RX3, "miss", "(I)I"⟩
abbrev cX3_level : ByteArray := prog_1_method_9_code
def yX3_level : MethodName := ⟨RX3, "level", "()I"⟩
abbrev cX3_flow : ByteArray := prog_1_method_10_code
def yX3_flow : MethodName := ⟨RX3, "flow", "()I"⟩
abbrev cX3_levelVariance : ByteArray := prog_1_method_11_code
def yX3_levelVariance : MethodName := ⟨RX3, "levelVariance", "()I"⟩
abbrev cX3_covariance : ByteArray := prog_1_method_12_code
def yX3_covariance : MethodName := ⟨RX3, "covariance", "()I"⟩
abbrev cX3_flowVariance : ByteArray := prog_1_method_13_code
def yX3_flowVariance : MethodName := ⟨RX3, "flowVariance", "()I"⟩
abbrev cX3_innovation : ByteArray := prog_1_method_14_code
def yX3_innovation : MethodName := ⟨RX3, "innovation", "()I"⟩
abbrev cX3_levelGain : ByteArray := prog_1_method_15_code
def yX3_levelGain : MethodName := ⟨RX3, "levelGain", "()I"⟩
abbrev cX3_flowGain : ByteArray := prog_1_method_16_code
def yX3_flowGain : MethodName := ⟨RX3, "flowGain", "()I"⟩
abbrev cX3_accepted : ByteArray := prog_1_method_17_code
def yX3_accepted : MethodName := ⟨RX3, "accepted", "()I"⟩
abbrev cX3_rejected : ByteArray := prog_1_method_18_code
def yX3_rejected : MethodName := ⟨RX3, "rejected", "()I"⟩
abbrev cX3_missed : ByteArray := prog_1_method_19_code
def yX3_missed : MethodName := ⟨RX3, "missed", "()I"⟩
abbrev cX3_historyLength : ByteArray := prog_1_method_20_code
def yX3_historyLength : MethodName := ⟨RX3, "historyLength", "()I"⟩
abbrev cX3_forecast : ByteArray := prog_1_method_21_code
def yX3_forecast : MethodName := ⟨RX3, "forecast", "(I)I"⟩
abbrev cX3_forecastVariance : ByteArray := prog_1_method_22_code
def yX3_forecastVariance : MethodName := ⟨RX3, "forecastVariance", "(I)I"⟩
abbrev cX3_stepsTo : ByteArray := prog_1_method_23_code
def yX3_stepsTo : MethodName := ⟨RX3, "stepsTo", "(I)I"⟩
abbrev cX3_steadyCycles : ByteArray := prog_1_method_24_code
def yX3_steadyCycles : MethodName := ⟨RX3, "steadyCycles", "(I)I"⟩
abbrev cX3_steadyGain : ByteArray := prog_1_method_25_code
def yX3_steadyGain : MethodName := ⟨RX3, "steadyGain", "(II)I"⟩
abbrev cX3_replayError : ByteArray := prog_1_method_26_code
def yX3_replayError : MethodName := ⟨RX3, "replayError", "(I)I"⟩
abbrev cX3_bestFlowNoise : ByteArray := prog_1_method_27_code
def yX3_bestFlowNoise : MethodName := ⟨RX3, "bestFlowNoise", "()I"⟩
abbrev cX3_undo : ByteArray := prog_1_method_28_code
def yX3_undo : MethodName := ⟨RX3, "undo", "()I"⟩
abbrev cX3_errorCount : ByteArray := prog_1_method_29_code
def yX3_errorCount : MethodName := ⟨RX3, "errorCount", "(I)I"⟩
abbrev cX3_digest : ByteArray := prog_1_method_30_code
def yX3_digest : MethodName := ⟨RX3, "digest", "()J"⟩
abbrev cX3_isOutside : ByteArray := prog_1_method_31_code
def yX3_isOutside : MethodName := ⟨RX3, "isOutside", "(III)Z"⟩
abbrev cX3_isSensor : ByteArray := prog_1_method_32_code
def yX3_isSensor : MethodName := ⟨RX3, "isSensor", "(I)Z"⟩
abbrev cX3_isKind : ByteArray := prog_1_method_33_code
def yX3_isKind : MethodName := ⟨RX3, "isKind", "(I)Z"⟩
abbrev cX3_isInLimit : ByteArray := prog_1_method_34_code
def yX3_isInLimit : MethodName := ⟨RX3, "isInLimit", "(J)Z"⟩
abbrev cX3_times : ByteArray := prog_1_method_35_code
def yX3_times : MethodName := ⟨RX3, "times", "(JJ)J"⟩
abbrev cX3_dividedBy : ByteArray := prog_1_method_36_code
def yX3_dividedBy : MethodName := ⟨RX3, "dividedBy", "(JJ)J"⟩
abbrev cX3_mix : ByteArray := prog_1_method_37_code
def yX3_mix : MethodName := ⟨RX3, "mix", "(JJ)J"⟩
abbrev cX3_copyRow : ByteArray := prog_1_method_38_code
def yX3_copyRow : MethodName := ⟨RX3, "copyRow", "([I[I)V"⟩
abbrev cX3_fail : ByteArray := prog_1_method_39_code
def yX3_fail : MethodName := ⟨RX3, "fail", "(I)I"⟩
abbrev cX3_save : ByteArray := prog_1_method_40_code
def yX3_save : MethodName := ⟨RX3, "save", "()V"⟩
abbrev cX3_dropOldestSaved : ByteArray := prog_1_method_41_code
def yX3_dropOldestSaved : MethodName := ⟨RX3, "dropOldestSaved", "()V"⟩
abbrev cX3_runPredictions : ByteArray := prog_1_method_42_code
def yX3_runPredictions : MethodName := ⟨RX3, "runPredictions", "(I)Z"⟩
abbrev cX3_runCyclesUntilSteady : ByteArray := prog_1_method_43_code
def yX3_runCyclesUntilSteady : MethodName := ⟨RX3, "runCyclesUntilSteady", "(II)I"⟩
abbrev cX3_runReplay : ByteArray := prog_1_method_44_code
def yX3_runReplay : MethodName := ⟨RX3, "runReplay", "(I)I"⟩
def RX4 : String := "TankFilterModel"
def TX4 : u_T := fun k => match k with
  | 0 => ("TankFilterModel", "s", "[I", true)
  | 1 => ("TankFilterModel", "past", "[I", true)
  | 2 => ("TankFilterModel", "pasts", "I", false)
  | 3 => ("TankFilterModel", "errors", "[I", true)
  | 4 => ("TankFilterModel", "now", "[J", true)
  | 5 => ("TankFilterModel", "innovation", "J", false)
  | 6 => ("TankFilterModel", "levelGain", "J", false)
  | 7 => ("TankFilterModel", "flowGain", "J", false)
  | _ => ("TankFilterModel", "hash", "J", false)
def tyX4 : Nat → FieldType := fun k => match k with
  | 0 => .array .int
  | 1 => .array .int
  | 2 => .int
  | 3 => .array .int
  | 4 => .array .long
  | 5 => .long
  | 6 => .long
  | 7 => .long
  | _ => .long
abbrev wsX40 : List Cond := u_ws RX4 TX4 9
theorem nmX4 : ∀ a, a < 9 → ∀ b, b < 9 → a ≠ b → (TX4 a).2.1 ≠ (TX4 b).2.1 := by decide +kernel
theorem tyX4_ok : ∀ k, k < 9 → parseFieldDescriptor (TX4 k).2.2.1 = some (tyX4 k) := by decide +kernel
abbrev cX4_init : ByteArray := prog_6_method_1_code
def yX4_init : MethodName := ⟨RX4, "<init>", "()V"⟩
abbrev cX4_in : ByteArray := prog_6_method_3_code
def yX4_in : MethodName := ⟨RX4, "in", "(III)Z"⟩
abbrev cX4_fail : ByteArray := prog_6_method_4_code
def yX4_fail : MethodName := ⟨RX4, "fail", "(I)I"⟩
abbrev cX4_forget : ByteArray := prog_6_method_5_code
def yX4_forget : MethodName := ⟨RX4, "forget", "()V"⟩
abbrev cX4_note : ByteArray := prog_6_method_6_code
def yX4_note : MethodName := ⟨RX4, "note", "()V"⟩
abbrev cX4_down : ByteArray := prog_6_method_7_code
def yX4_down : MethodName := ⟨RX4, "down", "(JJ)J"⟩
abbrev cX4_mul : ByteArray := prog_6_method_8_code
def yX4_mul : MethodName := ⟨RX4, "mul", "(JJ)J"⟩
abbrev cX4_div : ByteArray := prog_6_method_9_code
def yX4_div : MethodName := ⟨RX4, "div", "(JJ)J"⟩
abbrev cX4_isIn : ByteArray := prog_6_method_10_code
def yX4_isIn : MethodName := ⟨RX4, "isIn", "(J)Z"⟩
abbrev cX4_take : ByteArray := prog_6_method_11_code
def yX4_take : MethodName := ⟨RX4, "take", "()V"⟩
abbrev cX4_put : ByteArray := prog_6_method_12_code
def yX4_put : MethodName := ⟨RX4, "put", "()V"⟩
abbrev cX4_predicts : ByteArray := prog_6_method_13_code
def yX4_predicts : MethodName := ⟨RX4, "predicts", "(II)Z"⟩
abbrev cX4_corrects : ByteArray := prog_6_method_14_code
def yX4_corrects : MethodName := ⟨RX4, "corrects", "(IJI)I"⟩
abbrev cX4_reset : ByteArray := prog_6_method_15_code
def yX4_reset : MethodName := ⟨RX4, "reset", "(IIII)I"⟩
abbrev cX4_setProcessNoise : ByteArray := prog_6_method_16_code
def yX4_setProcessNoise : MethodName := ⟨RX4, "setProcessNoise", "(II)I"⟩
abbrev cX4_isSensor : ByteArray := prog_6_method_17_code
def yX4_isSensor : MethodName := ⟨RX4, "isSensor", "(I)Z"⟩
abbrev cX4_setSensor : ByteArray := prog_6_method_18_code
def yX4_setSensor : MethodName := ⟨RX4, "setSensor", "(III)I"⟩
abbrev cX4_setGate : ByteArray := prog_6_method_19_code
def yX4_setGate : MethodName := ⟨RX4, "setGate", "(I)I"⟩
abbrev cX4_record : ByteArray := prog_6_method_20_code
def yX4_record : MethodName := ⟨RX4, "record", "(II)V"⟩
abbrev cX4_predict : ByteArray := prog_6_method_21_code
def yX4_predict : MethodName := ⟨RX4, "predict", "(I)I"⟩
abbrev cX4_correct : ByteArray := prog_6_method_22_code
def yX4_correct : MethodName := ⟨RX4, "correct", "(II)I"⟩
abbrev cX4_miss : ByteArray := prog_6_method_23_code
def yX4_miss : MethodName := ⟨RX4, "miss", "(I)I"⟩
abbrev cX4_level : ByteArray := prog_6_method_24_code
def yX4_level : MethodName := ⟨RX4, "level", "()I"⟩
abbrev cX4_flow : ByteArray := prog_6_method_25_code
def yX4_flow : MethodName := ⟨RX4, "flow", "()I"⟩
abbrev cX4_levelVariance : ByteArray := prog_6_method_26_code
def yX4_levelVariance : MethodName := ⟨RX4, "levelVariance", "()I"⟩
abbrev cX4_covariance : ByteArray := prog_6_method_27_code
def yX4_covariance : MethodName := ⟨RX4, "covariance", "()I"⟩
abbrev cX4_flowVariance : ByteArray := prog_6_method_28_code
def yX4_flowVariance : MethodName := ⟨RX4, "flowVariance", "()I"⟩
abbrev cX4_innovation : ByteArray := prog_6_method_29_code
def yX4_innovation : MethodName := ⟨RX4, "innovation", "()I"⟩
abbrev cX4_levelGain : ByteArray := prog_6_method_30_code
def yX4_levelGain : MethodName := ⟨RX4, "levelGain", "()I"⟩
abbrev cX4_flowGain : ByteArray := prog_6_method_31_code
def yX4_flowGain : MethodName := ⟨RX4, "flowGain", "()I"⟩
abbrev cX4_accepted : ByteArray := prog_6_method_32_code
def yX4_accepted : MethodName := ⟨RX4, "accepted", "()I"⟩
abbrev cX4_rejected : ByteArray := prog_6_method_33_code
def yX4_rejected : MethodName := ⟨RX4, "rejected", "()I"⟩
abbrev cX4_missed : ByteArray := prog_6_method_34_code
def yX4_missed : MethodName := ⟨RX4, "missed", "()I"⟩
abbrev cX4_historyLength : ByteArray := prog_6_method_35_code
def yX4_historyLength : MethodName := ⟨RX4, "historyLength", "()I"⟩
abbrev cX4_goesOn : ByteArray := prog_6_method_36_code
def yX4_goesOn : MethodName := ⟨RX4, "goesOn", "(I)Z"⟩
abbrev cX4_forecast : ByteArray := prog_6_method_37_code
def yX4_forecast : MethodName := ⟨RX4, "forecast", "(I)I"⟩
abbrev cX4_forecastVariance : ByteArray := prog_6_method_38_code
def yX4_forecastVariance : MethodName := ⟨RX4, "forecastVariance", "(I)I"⟩
abbrev cX4_stepsTo : ByteArray := prog_6_method_39_code
def yX4_stepsTo : MethodName := ⟨RX4, "stepsTo", "(I)I"⟩
abbrev cX4_cycles : ByteArray := prog_6_method_40_code
def yX4_cycles : MethodName := ⟨RX4, "cycles", "(I)I"⟩
abbrev cX4_steadyCycles : ByteArray := prog_6_method_41_code
def yX4_steadyCycles : MethodName := ⟨RX4, "steadyCycles", "(I)I"⟩
abbrev cX4_steadyGain : ByteArray := prog_6_method_42_code
def yX4_steadyGain : MethodName := ⟨RX4, "steadyGain", "(II)I"⟩
abbrev cX4_hasReading : ByteArray := prog_6_method_43_code
def yX4_hasReading : MethodName := ⟨RX4, "hasReading", "()Z"⟩
abbrev cX4_errorOf : ByteArray := prog_6_method_44_code
def yX4_errorOf : MethodName := ⟨RX4, "errorOf", "(I)J"⟩
abbrev cX4_replayError : ByteArray := prog_6_method_45_code
def yX4_replayError : MethodName := ⟨RX4, "replayError", "(I)I"⟩
abbrev cX4_bestFlowNoise : ByteArray := prog_6_method_46_code
def yX4_bestFlowNoise : MethodName := ⟨RX4, "bestFlowNoise", "()I"⟩
abbrev cX4_undo : ByteArray := prog_6_method_47_code
def yX4_undo : MethodName := ⟨RX4, "undo", "()I"⟩
abbrev cX4_errorCount : ByteArray := prog_6_method_48_code
def yX4_errorCount : MethodName := ⟨RX4, "errorCount", "(I)I"⟩
abbrev cX4_add : ByteArray := prog_6_method_49_code
def yX4_add : MethodName := ⟨RX4, "add", "(I)V"⟩
abbrev cX4_digest : ByteArray := prog_6_method_50_code
def yX4_digest : MethodName := ⟨RX4, "digest", "()J"⟩
def RJ9 : String := "java/lang/Math"
def TJ9 : u_T := fun k => match k with
  | _ => ("", "", "", false)
def tyJ9 : Nat → FieldType := fun k => match k with
  | _ => .int
abbrev wsJ90 : List Cond := u_ws RJ9 TJ9 0
theorem nmJ9 : ∀ a, a < 0 → ∀ b, b < 0 → a ≠ b → (TJ9 a).2.1 ≠ (TJ9 b).2.1 := by decide +kernel
theorem tyJ9_ok : ∀ k, k < 0 → parseFieldDescriptor (TJ9 k).2.2.1 = some (tyJ9 k) := by decide +kernel
abbrev cJ9_floorDiv_f86c9 : ByteArray := prog_7_method_49_code
def yJ9_floorDiv_f86c9 : MethodName := ⟨RJ9, "floorDiv", "(JJ)J"⟩
abbrev cJ9_abs_067f4 : ByteArray := prog_7_method_61_code
def yJ9_abs_067f4 : MethodName := ⟨RJ9, "abs", "(J)J"⟩
abbrev cJ9_max_f86c9 : ByteArray := prog_7_method_66_code
def yJ9_max_f86c9 : MethodName := ⟨RJ9, "max", "(JJ)J"⟩
def RL : String := "TankFilterLaw"
abbrev cL_law : ByteArray := code
def yL_law : MethodName := ⟨RL, "law", "([I)Z"⟩
def wsX0_init : List Cond := .code yX0_init cX0_init 1 none :: ([.methodLink RX0 3 objectInit, .instanceMethod objectInit, .code objectInit ⟨#[0xb1]⟩ 1 none, .fieldLink RX0 9 "TankFilter$Estimate" "level" "J", .fieldLink RX0 15 "TankFilter$Estimate" "flow" "J", .constantLong RX0 18 (4096), .fieldLink RX0 20 "TankFilter$Estimate" "levelVariance" "J", .fieldLink RX0 23 "TankFilter$Estimate" "covariance" "J", .fieldLink RX0 26 "TankFilter$Estimate" "flowVariance" "J", .constantLong RX0 29 (-2000000001), .fieldLink RX0 31 "TankFilter$Estimate" "innovation" "J", .fieldLink RX0 34 "TankFilter$Estimate" "levelGain" "J", .fieldLink RX0 37 "TankFilter$Estimate" "flowGain" "J"] ++ wsX00)
def wsX0_startFrom : List Cond := .code yX0_startFrom cX0_startFrom 5 none :: ([.fieldLink RX0 9 "TankFilter$Estimate" "level" "J", .fieldLink RX0 15 "TankFilter$Estimate" "flow" "J", .fieldLink RX0 20 "TankFilter$Estimate" "levelVariance" "J", .fieldLink RX0 23 "TankFilter$Estimate" "covariance" "J", .fieldLink RX0 26 "TankFilter$Estimate" "flowVariance" "J", .constantLong RX0 29 (-2000000001), .fieldLink RX0 31 "TankFilter$Estimate" "innovation" "J", .fieldLink RX0 34 "TankFilter$Estimate" "levelGain" "J", .fieldLink RX0 37 "TankFilter$Estimate" "flowGain" "J"] ++ wsX00)
def wsX0_copyFrom : List Cond := .code yX0_copyFrom cX0_copyFrom 2 none :: ([.fieldLink RX0 9 "TankFilter$Estimate" "level" "J", .fieldLink RX0 15 "TankFilter$Estimate" "flow" "J", .fieldLink RX0 20 "TankFilter$Estimate" "levelVariance" "J", .fieldLink RX0 23 "TankFilter$Estimate" "covariance" "J", .fieldLink RX0 26 "TankFilter$Estimate" "flowVariance" "J", .fieldLink RX0 31 "TankFilter$Estimate" "innovation" "J", .fieldLink RX0 34 "TankFilter$Estimate" "levelGain" "J", .fieldLink RX0 37 "TankFilter$Estimate" "flowGain" "J"] ++ wsX00)
def wsX0_mean : List Cond := .code yX0_mean cX0_mean 2 (some .long) :: ([.fieldLink RX0 9 "TankFilter$Estimate" "level" "J", .fieldLink RX0 15 "TankFilter$Estimate" "flow" "J"] ++ wsX00)
def wsX3_isInLimit : List Cond := .code yX3_isInLimit cX3_isInLimit 2 (some .boolean) :: ([.constantLong RX3 174 (-1000000000), .constantLong RX3 176 (1000000000)])
def wsX0_move : List Cond := .code yX0_move cX0_move 15 (some .boolean) :: ([.methodLink RX0 62 Lib.MathLoose.max_long.x, .static Lib.MathLoose.max_long.x, .initialized "java/lang/Math", .code Lib.MathLoose.max_long.x Lib.MathLoose.max_long.code 4 (some .long), .fieldLink RX0 9 "TankFilter$Estimate" "level" "J", .fieldLink RX0 15 "TankFilter$Estimate" "flow" "J", .fieldLink RX0 20 "TankFilter$Estimate" "levelVariance" "J", .fieldLink RX0 23 "TankFilter$Estimate" "covariance" "J", .fieldLink RX0 26 "TankFilter$Estimate" "flowVariance" "J", .static yX3_isInLimit, .initialized RX3, .code yX3_isInLimit cX3_isInLimit 2 (some .boolean), .constantLong RX3 174 (-1000000000), .constantLong RX3 176 (1000000000)] ++ wsX00)
def wsX0_advance : List Cond := .code yX0_advance cX0_advance 7 (some .boolean) :: ([.fieldLink RX0 9 "TankFilter$Estimate" "level" "J", .fieldLink RX0 15 "TankFilter$Estimate" "flow" "J", .fieldLink RX0 20 "TankFilter$Estimate" "levelVariance" "J", .constantLong RX0 40 (2), .fieldLink RX0 23 "TankFilter$Estimate" "covariance" "J", .fieldLink RX0 26 "TankFilter$Estimate" "flowVariance" "J", .methodLink RX0 42 yX0_move, .instanceMethod yX0_move, .selects RX0 yX0_move yX0_move, .initialized RX0, .code yX0_move cX0_move 15 (some .boolean), .methodLink RX0 62 Lib.MathLoose.max_long.x, .static Lib.MathLoose.max_long.x, .initialized "java/lang/Math", .code Lib.MathLoose.max_long.x Lib.MathLoose.max_long.code 4 (some .long), .static yX3_isInLimit, .initialized RX3, .code yX3_isInLimit cX3_isInLimit 2 (some .boolean), .constantLong RX3 174 (-1000000000), .constantLong RX3 176 (1000000000)] ++ wsX00)
def wsJ9_floorDiv_f86c9 : List Cond := .code yJ9_floorDiv_f86c9 cJ9_floorDiv_f86c9 6 (some .long) :: ([])
def wsX3_dividedBy : List Cond := .code yX3_dividedBy cX3_dividedBy 4 (some .long) :: ([.constantLong RX3 180 (4096), .constantLong RX3 187 (2), .methodLink RX3 182 yJ9_floorDiv_f86c9, .static yJ9_floorDiv_f86c9, .initialized RJ9, .code yJ9_floorDiv_f86c9 cJ9_floorDiv_f86c9 6 (some .long)])
def wsX3_times : List Cond := .code yX3_times cX3_times 4 (some .long) :: ([.constantLong RX3 178 (2048), .constantLong RX3 180 (4096), .methodLink RX3 182 yJ9_floorDiv_f86c9, .static yJ9_floorDiv_f86c9, .initialized RJ9, .code yJ9_floorDiv_f86c9 cJ9_floorDiv_f86c9 6 (some .long)])
def wsX0_take_r1 : List Cond := [Cond.fieldLink RX0 20 "TankFilter$Estimate" "levelVariance" "J", Cond.fieldLink RX0 23 "TankFilter$Estimate" "covariance" "J", Cond.fieldLink RX0 26 "TankFilter$Estimate" "flowVariance" "J", Cond.constantLong RX0 18 (4096), Cond.fieldLink RX0 31 "TankFilter$Estimate" "innovation" "J", Cond.constant RX0 58 (-2000000004), Cond.fieldLink RX0 9 "TankFilter$Estimate" "level" "J", Cond.fieldLink RX0 15 "TankFilter$Estimate" "flow" "J", Cond.fieldLink RX0 34 "TankFilter$Estimate" "levelGain" "J", Cond.fieldLink RX0 37 "TankFilter$Estimate" "flowGain" "J", Cond.methodLink RX0 46 yX0_mean, Cond.instanceMethod yX0_mean, Cond.selects RX0 yX0_mean yX0_mean, Cond.initialized RX0, Cond.code yX0_mean cX0_mean 2 (some .long), Cond.static yX3_dividedBy, Cond.initialized RX3, Cond.code yX3_dividedBy cX3_dividedBy 4 (some .long), Cond.constantLong RX3 180 (4096), Cond.constantLong RX3 187 (2), Cond.methodLink RX3 182 yJ9_floorDiv_f86c9, Cond.static yJ9_floorDiv_f86c9, Cond.initialized RJ9, Cond.code yJ9_floorDiv_f86c9 cJ9_floorDiv_f86c9 6 (some .long)]
def wsX0_take_r2 : List Cond := [Cond.static yX3_isInLimit, Cond.code yX3_isInLimit cX3_isInLimit 2 (some .boolean), Cond.constantLong RX3 174 (-1000000000), Cond.constantLong RX3 176 (1000000000), Cond.static yX3_times, Cond.code yX3_times cX3_times 4 (some .long), Cond.constantLong RX3 178 (2048), Cond.methodLink RX0 42 yX0_move, Cond.instanceMethod yX0_move, Cond.selects RX0 yX0_move yX0_move, Cond.code yX0_move cX0_move 15 (some .boolean), Cond.methodLink RX0 62 Lib.MathLoose.max_long.x, Cond.static Lib.MathLoose.max_long.x, Cond.initialized "java/lang/Math", Cond.code Lib.MathLoose.max_long.x Lib.MathLoose.max_long.code 4 (some .long)]
def wsX0_take : List Cond := .code yX0_take cX0_take 22 (some .int) :: ((wsX0_take_r1 ++ wsX0_take_r2) ++ wsX00)
def wsX3_mix : List Cond := .code yX3_mix cX3_mix 4 (some .long) :: ([.constantLong RX3 189 (31)])
def wsX0_mixStateInto : List Cond := .code yX0_mixStateInto cX0_mixStateInto 3 (some .long) :: ([.fieldLink RX0 9 "TankFilter$Estimate" "level" "J", .fieldLink RX0 15 "TankFilter$Estimate" "flow" "J", .fieldLink RX0 20 "TankFilter$Estimate" "levelVariance" "J", .fieldLink RX0 23 "TankFilter$Estimate" "covariance" "J", .fieldLink RX0 26 "TankFilter$Estimate" "flowVariance" "J", .static yX3_mix, .initialized RX3, .code yX3_mix cX3_mix 4 (some .long), .constantLong RX3 189 (31)] ++ wsX00)
def wsX0_mixLatestReadingInto : List Cond := .code yX0_mixLatestReadingInto cX0_mixLatestReadingInto 3 (some .long) :: ([.fieldLink RX0 31 "TankFilter$Estimate" "innovation" "J", .fieldLink RX0 34 "TankFilter$Estimate" "levelGain" "J", .fieldLink RX0 37 "TankFilter$Estimate" "flowGain" "J", .static yX3_mix, .initialized RX3, .code yX3_mix cX3_mix 4 (some .long), .constantLong RX3 189 (31)] ++ wsX00)
def wsX1_init : List Cond := .code yX1_init cX1_init 1 none :: ([.methodLink RX1 3 objectInit, .instanceMethod objectInit, .code objectInit ⟨#[0xb1]⟩ 1 none, .arrayClass .int, .fieldLink RX1 9 "TankFilter$History" "sources" "[I", .fieldLink RX1 15 "TankFilter$History" "values" "[I", .fieldLink RX1 18 "TankFilter$History" "size" "I"] ++ wsX10)
def wsX1_dropOldest : List Cond := .code yX1_dropOldest cX1_dropOldest 2 none :: ([.fieldLink RX1 9 "TankFilter$History" "sources" "[I", .fieldLink RX1 15 "TankFilter$History" "values" "[I", .fieldLink RX1 18 "TankFilter$History" "size" "I"] ++ wsX10)
def wsX1_append : List Cond := .code yX1_append cX1_append 3 none :: ([.fieldLink RX1 18 "TankFilter$History" "size" "I", .fieldLink RX1 9 "TankFilter$History" "sources" "[I", .fieldLink RX1 15 "TankFilter$History" "values" "[I", .methodLink RX1 22 yX1_dropOldest, .instanceMethod yX1_dropOldest, .selects RX1 yX1_dropOldest yX1_dropOldest, .initialized RX1, .code yX1_dropOldest cX1_dropOldest 2 none] ++ wsX10)
def wsX1_hasReading : List Cond := .code yX1_hasReading cX1_hasReading 2 (some .boolean) :: ([.fieldLink RX1 18 "TankFilter$History" "size" "I", .fieldLink RX1 9 "TankFilter$History" "sources" "[I"] ++ wsX10)
def wsX3_copyRow : List Cond := .code yX3_copyRow cX3_copyRow 3 none :: ([])
def wsX1_copyFrom : List Cond := .code yX1_copyFrom cX1_copyFrom 2 none :: ([.fieldLink RX1 9 "TankFilter$History" "sources" "[I", .fieldLink RX1 15 "TankFilter$History" "values" "[I", .fieldLink RX1 18 "TankFilter$History" "size" "I", .static yX3_copyRow, .initialized RX3, .code yX3_copyRow cX3_copyRow 3 none] ++ wsX10)
def wsX1_mixInto : List Cond := .code yX1_mixInto cX1_mixInto 4 (some .long) :: ([.fieldLink RX1 18 "TankFilter$History" "size" "I", .fieldLink RX1 9 "TankFilter$History" "sources" "[I", .fieldLink RX1 15 "TankFilter$History" "values" "[I", .static yX3_mix, .initialized RX3, .code yX3_mix cX3_mix 4 (some .long), .constantLong RX3 189 (31)] ++ wsX10)
def wsX2_init_r1 : List Cond := [Cond.methodLink RX2 3 objectInit, Cond.instanceMethod objectInit, Cond.code objectInit ⟨#[0xb1]⟩ 1 none, Cond.classLink RX2 9 RX0, Cond.instantiable RX0 8, Cond.initialized RX0, Cond.fieldLink RX2 12 "TankFilter$Memory" "estimate" "LTankFilter$Estimate;", Cond.fieldLink RX2 18 "TankFilter$Memory" "levelNoise" "I", Cond.fieldLink RX2 22 "TankFilter$Memory" "flowNoise" "I", Cond.fieldLink RX2 25 "TankFilter$Memory" "gate" "I", Cond.arrayClass .int, Cond.fieldLink RX2 28 "TankFilter$Memory" "sensorKinds" "[I", Cond.fieldLink RX2 32 "TankFilter$Memory" "sensorVariances" "[I", Cond.fieldLink RX2 35 "TankFilter$Memory" "acceptedCount" "I", Cond.fieldLink RX2 38 "TankFilter$Memory" "rejectedCount" "I", Cond.fieldLink RX2 41 "TankFilter$Memory" "missedCount" "I", Cond.classLink RX2 44 RX1, Cond.instantiable RX1 3, Cond.initialized RX1, Cond.fieldLink RX2 47 "TankFilter$Memory" "history" "LTankFilter$History;", Cond.instanceMethod yX0_init, Cond.code yX0_init cX0_init 1 none, Cond.methodLink RX0 3 objectInit, Cond.fieldLink RX0 9 "TankFilter$Estimate" "level" "J"]
def wsX2_init_r2 : List Cond := [Cond.fieldLink RX0 15 "TankFilter$Estimate" "flow" "J", Cond.constantLong RX0 18 (4096), Cond.fieldLink RX0 20 "TankFilter$Estimate" "levelVariance" "J", Cond.fieldLink RX0 23 "TankFilter$Estimate" "covariance" "J", Cond.fieldLink RX0 26 "TankFilter$Estimate" "flowVariance" "J", Cond.constantLong RX0 29 (-2000000001), Cond.fieldLink RX0 31 "TankFilter$Estimate" "innovation" "J", Cond.fieldLink RX0 34 "TankFilter$Estimate" "levelGain" "J", Cond.fieldLink RX0 37 "TankFilter$Estimate" "flowGain" "J", Cond.instanceMethod yX1_init, Cond.code yX1_init cX1_init 1 none, Cond.methodLink RX1 3 objectInit, Cond.fieldLink RX1 9 "TankFilter$History" "sources" "[I", Cond.fieldLink RX1 15 "TankFilter$History" "values" "[I", Cond.fieldLink RX1 18 "TankFilter$History" "size" "I"]
def wsX2_init : List Cond := .code yX2_init cX2_init 2 none :: ((wsX2_init_r1 ++ wsX2_init_r2) ++ wsX00 ++ wsX20 ++ wsX10)
def wsX2_copyFrom_r1 : List Cond := [Cond.fieldLink RX2 12 "TankFilter$Memory" "estimate" "LTankFilter$Estimate;", Cond.fieldLink RX2 18 "TankFilter$Memory" "levelNoise" "I", Cond.fieldLink RX2 22 "TankFilter$Memory" "flowNoise" "I", Cond.fieldLink RX2 25 "TankFilter$Memory" "gate" "I", Cond.fieldLink RX2 28 "TankFilter$Memory" "sensorKinds" "[I", Cond.fieldLink RX2 32 "TankFilter$Memory" "sensorVariances" "[I", Cond.fieldLink RX2 35 "TankFilter$Memory" "acceptedCount" "I", Cond.fieldLink RX2 38 "TankFilter$Memory" "rejectedCount" "I", Cond.fieldLink RX2 41 "TankFilter$Memory" "missedCount" "I", Cond.fieldLink RX2 47 "TankFilter$Memory" "history" "LTankFilter$History;", Cond.instanceMethod yX0_copyFrom, Cond.initialized RX0, Cond.selects RX0 yX0_copyFrom yX0_copyFrom, Cond.code yX0_copyFrom cX0_copyFrom 2 none, Cond.fieldLink RX0 9 "TankFilter$Estimate" "level" "J", Cond.fieldLink RX0 15 "TankFilter$Estimate" "flow" "J", Cond.fieldLink RX0 20 "TankFilter$Estimate" "levelVariance" "J", Cond.fieldLink RX0 23 "TankFilter$Estimate" "covariance" "J", Cond.fieldLink RX0 26 "TankFilter$Estimate" "flowVariance" "J", Cond.fieldLink RX0 31 "TankFilter$Estimate" "innovation" "J", Cond.fieldLink RX0 34 "TankFilter$Estimate" "levelGain" "J", Cond.fieldLink RX0 37 "TankFilter$Estimate" "flowGain" "J", Cond.static yX3_copyRow, Cond.initialized RX3]
def wsX2_copyFrom_r2 : List Cond := [Cond.code yX3_copyRow cX3_copyRow 3 none, Cond.instanceMethod yX1_copyFrom, Cond.initialized RX1, Cond.selects RX1 yX1_copyFrom yX1_copyFrom, Cond.code yX1_copyFrom cX1_copyFrom 2 none, Cond.fieldLink RX1 9 "TankFilter$History" "sources" "[I", Cond.fieldLink RX1 15 "TankFilter$History" "values" "[I", Cond.fieldLink RX1 18 "TankFilter$History" "size" "I"]
def wsX2_copyFrom : List Cond := .code yX2_copyFrom cX2_copyFrom 2 none :: ((wsX2_copyFrom_r1 ++ wsX2_copyFrom_r2) ++ wsX20 ++ wsX00 ++ wsX10)
def wsX2_mixInto_r1 : List Cond := [Cond.fieldLink RX2 12 "TankFilter$Memory" "estimate" "LTankFilter$Estimate;", Cond.fieldLink RX2 18 "TankFilter$Memory" "levelNoise" "I", Cond.fieldLink RX2 22 "TankFilter$Memory" "flowNoise" "I", Cond.fieldLink RX2 25 "TankFilter$Memory" "gate" "I", Cond.fieldLink RX2 28 "TankFilter$Memory" "sensorKinds" "[I", Cond.fieldLink RX2 32 "TankFilter$Memory" "sensorVariances" "[I", Cond.fieldLink RX2 35 "TankFilter$Memory" "acceptedCount" "I", Cond.fieldLink RX2 38 "TankFilter$Memory" "rejectedCount" "I", Cond.fieldLink RX2 41 "TankFilter$Memory" "missedCount" "I", Cond.fieldLink RX2 47 "TankFilter$Memory" "history" "LTankFilter$History;", Cond.instanceMethod yX0_mixStateInto, Cond.initialized RX0, Cond.selects RX0 yX0_mixStateInto yX0_mixStateInto, Cond.code yX0_mixStateInto cX0_mixStateInto 3 (some .long), Cond.fieldLink RX0 9 "TankFilter$Estimate" "level" "J", Cond.fieldLink RX0 15 "TankFilter$Estimate" "flow" "J", Cond.fieldLink RX0 20 "TankFilter$Estimate" "levelVariance" "J", Cond.fieldLink RX0 23 "TankFilter$Estimate" "covariance" "J", Cond.fieldLink RX0 26 "TankFilter$Estimate" "flowVariance" "J", Cond.static yX3_mix, Cond.initialized RX3, Cond.code yX3_mix cX3_mix 4 (some .long), Cond.constantLong RX3 189 (31), Cond.instanceMethod yX0_mixLatestReadingInto]
def wsX2_mixInto_r2 : List Cond := [Cond.selects RX0 yX0_mixLatestReadingInto yX0_mixLatestReadingInto, Cond.code yX0_mixLatestReadingInto cX0_mixLatestReadingInto 3 (some .long), Cond.fieldLink RX0 31 "TankFilter$Estimate" "innovation" "J", Cond.fieldLink RX0 34 "TankFilter$Estimate" "levelGain" "J", Cond.fieldLink RX0 37 "TankFilter$Estimate" "flowGain" "J", Cond.instanceMethod yX1_mixInto, Cond.initialized RX1, Cond.selects RX1 yX1_mixInto yX1_mixInto, Cond.code yX1_mixInto cX1_mixInto 4 (some .long), Cond.fieldLink RX1 18 "TankFilter$History" "size" "I", Cond.fieldLink RX1 9 "TankFilter$History" "sources" "[I", Cond.fieldLink RX1 15 "TankFilter$History" "values" "[I"]
def wsX2_mixInto : List Cond := .code yX2_mixInto cX2_mixInto 4 (some .long) :: ((wsX2_mixInto_r1 ++ wsX2_mixInto_r2) ++ wsX20 ++ wsX10 ++ wsX00)
def wsX3_init_r1 : List Cond := [Cond.methodLink RX3 1 objectInit, Cond.instanceMethod objectInit, Cond.code objectInit ⟨#[0xb1]⟩ 1 none, Cond.classLink RX3 7 RX2, Cond.instantiable RX2 10, Cond.initialized RX2, Cond.fieldLink RX3 10 "TankFilter" "now" "LTankFilter$Memory;", Cond.fieldLink RX3 16 "TankFilter" "saved" "[LTankFilter$Memory;", Cond.fieldLink RX3 20 "TankFilter" "savedCount" "I", Cond.arrayClass .int, Cond.fieldLink RX3 24 "TankFilter" "errors" "[I", Cond.classLink RX3 28 RX0, Cond.instantiable RX0 8, Cond.initialized RX0, Cond.fieldLink RX3 31 "TankFilter" "trial" "LTankFilter$Estimate;", Cond.instanceMethod yX2_init, Cond.code yX2_init cX2_init 2 none, Cond.methodLink RX2 3 objectInit, Cond.classLink RX2 9 RX0, Cond.fieldLink RX2 12 "TankFilter$Memory" "estimate" "LTankFilter$Estimate;", Cond.fieldLink RX2 18 "TankFilter$Memory" "levelNoise" "I", Cond.fieldLink RX2 22 "TankFilter$Memory" "flowNoise" "I", Cond.fieldLink RX2 25 "TankFilter$Memory" "gate" "I", Cond.fieldLink RX2 28 "TankFilter$Memory" "sensorKinds" "[I"]
def wsX3_init_r2 : List Cond := [Cond.fieldLink RX2 32 "TankFilter$Memory" "sensorVariances" "[I", Cond.fieldLink RX2 35 "TankFilter$Memory" "acceptedCount" "I", Cond.fieldLink RX2 38 "TankFilter$Memory" "rejectedCount" "I", Cond.fieldLink RX2 41 "TankFilter$Memory" "missedCount" "I", Cond.classLink RX2 44 RX1, Cond.instantiable RX1 3, Cond.initialized RX1, Cond.fieldLink RX2 47 "TankFilter$Memory" "history" "LTankFilter$History;", Cond.instanceMethod yX0_init, Cond.code yX0_init cX0_init 1 none, Cond.methodLink RX0 3 objectInit, Cond.fieldLink RX0 9 "TankFilter$Estimate" "level" "J", Cond.fieldLink RX0 15 "TankFilter$Estimate" "flow" "J", Cond.constantLong RX0 18 (4096), Cond.fieldLink RX0 20 "TankFilter$Estimate" "levelVariance" "J", Cond.fieldLink RX0 23 "TankFilter$Estimate" "covariance" "J", Cond.fieldLink RX0 26 "TankFilter$Estimate" "flowVariance" "J", Cond.constantLong RX0 29 (-2000000001), Cond.fieldLink RX0 31 "TankFilter$Estimate" "innovation" "J", Cond.fieldLink RX0 34 "TankFilter$Estimate" "levelGain" "J", Cond.fieldLink RX0 37 "TankFilter$Estimate" "flowGain" "J", Cond.instanceMethod yX1_init, Cond.code yX1_init cX1_init 1 none, Cond.methodLink RX1 3 objectInit]
def wsX3_init_r3 : List Cond := [Cond.fieldLink RX1 9 "TankFilter$History" "sources" "[I", Cond.fieldLink RX1 15 "TankFilter$History" "values" "[I", Cond.fieldLink RX1 18 "TankFilter$History" "size" "I"]
def wsX3_init : List Cond := .code yX3_init cX3_init 2 none :: ((wsX3_init_r1 ++ (wsX3_init_r2 ++ wsX3_init_r3)) ++ wsX20 ++ wsX30 ++ wsX00 ++ wsX10)
def wsX3_isOutside : List Cond := .code yX3_isOutside cX3_isOutside 3 (some .boolean) :: ([])
def wsX3_fail : List Cond := .code yX3_fail cX3_fail 3 (some .int) :: ([.constant RX3 43 (-2000000002), .fieldLink RX3 24 "TankFilter" "errors" "[I"] ++ wsX30)
def wsX3_dropOldestSaved : List Cond := .code yX3_dropOldestSaved cX3_dropOldestSaved 3 none :: ([.fieldLink RX3 16 "TankFilter" "saved" "[LTankFilter$Memory;", .fieldLink RX3 20 "TankFilter" "savedCount" "I"] ++ wsX30)
def wsX3_save_r1 : List Cond := [Cond.fieldLink RX3 20 "TankFilter" "savedCount" "I", Cond.fieldLink RX3 16 "TankFilter" "saved" "[LTankFilter$Memory;", Cond.fieldLink RX3 10 "TankFilter" "now" "LTankFilter$Memory;", Cond.methodLink RX3 191 yX3_dropOldestSaved, Cond.instanceMethod yX3_dropOldestSaved, Cond.selects RX3 yX3_dropOldestSaved yX3_dropOldestSaved, Cond.initialized RX3, Cond.code yX3_dropOldestSaved cX3_dropOldestSaved 3 none, Cond.instanceMethod yX2_copyFrom, Cond.initialized RX2, Cond.selects RX2 yX2_copyFrom yX2_copyFrom, Cond.code yX2_copyFrom cX2_copyFrom 2 none, Cond.fieldLink RX2 12 "TankFilter$Memory" "estimate" "LTankFilter$Estimate;", Cond.fieldLink RX2 18 "TankFilter$Memory" "levelNoise" "I", Cond.fieldLink RX2 22 "TankFilter$Memory" "flowNoise" "I", Cond.fieldLink RX2 25 "TankFilter$Memory" "gate" "I", Cond.fieldLink RX2 28 "TankFilter$Memory" "sensorKinds" "[I", Cond.fieldLink RX2 32 "TankFilter$Memory" "sensorVariances" "[I", Cond.fieldLink RX2 35 "TankFilter$Memory" "acceptedCount" "I", Cond.fieldLink RX2 38 "TankFilter$Memory" "rejectedCount" "I", Cond.fieldLink RX2 41 "TankFilter$Memory" "missedCount" "I", Cond.fieldLink RX2 47 "TankFilter$Memory" "history" "LTankFilter$History;", Cond.instanceMethod yX0_copyFrom, Cond.initialized RX0]
def wsX3_save_r2 : List Cond := [Cond.selects RX0 yX0_copyFrom yX0_copyFrom, Cond.code yX0_copyFrom cX0_copyFrom 2 none, Cond.fieldLink RX0 9 "TankFilter$Estimate" "level" "J", Cond.fieldLink RX0 15 "TankFilter$Estimate" "flow" "J", Cond.fieldLink RX0 20 "TankFilter$Estimate" "levelVariance" "J", Cond.fieldLink RX0 23 "TankFilter$Estimate" "covariance" "J", Cond.fieldLink RX0 26 "TankFilter$Estimate" "flowVariance" "J", Cond.fieldLink RX0 31 "TankFilter$Estimate" "innovation" "J", Cond.fieldLink RX0 34 "TankFilter$Estimate" "levelGain" "J", Cond.fieldLink RX0 37 "TankFilter$Estimate" "flowGain" "J", Cond.static yX3_copyRow, Cond.code yX3_copyRow cX3_copyRow 3 none, Cond.instanceMethod yX1_copyFrom, Cond.initialized RX1, Cond.selects RX1 yX1_copyFrom yX1_copyFrom, Cond.code yX1_copyFrom cX1_copyFrom 2 none, Cond.fieldLink RX1 9 "TankFilter$History" "sources" "[I", Cond.fieldLink RX1 15 "TankFilter$History" "values" "[I", Cond.fieldLink RX1 18 "TankFilter$History" "size" "I"]
def wsX3_save : List Cond := .code yX3_save cX3_save 1 none :: ((wsX3_save_r1 ++ wsX3_save_r2) ++ wsX30 ++ wsX20 ++ wsX00 ++ wsX10)
def wsX3_reset_r1 : List Cond := [Cond.constant RX3 35 (-40960000), Cond.constant RX3 36 (40960000), Cond.constant RX3 41 (-4096000), Cond.constant RX3 42 (4096000), Cond.constant RX3 43 (-2000000002), Cond.fieldLink RX3 10 "TankFilter" "now" "LTankFilter$Memory;", Cond.methodLink RX3 37 yX3_isOutside, Cond.static yX3_isOutside, Cond.initialized RX3, Cond.code yX3_isOutside cX3_isOutside 3 (some .boolean), Cond.methodLink RX3 44 yX3_fail, Cond.instanceMethod yX3_fail, Cond.selects RX3 yX3_fail yX3_fail, Cond.code yX3_fail cX3_fail 3 (some .int), Cond.fieldLink RX3 24 "TankFilter" "errors" "[I", Cond.methodLink RX3 48 yX3_save, Cond.instanceMethod yX3_save, Cond.selects RX3 yX3_save yX3_save, Cond.code yX3_save cX3_save 1 none, Cond.fieldLink RX3 20 "TankFilter" "savedCount" "I", Cond.fieldLink RX3 16 "TankFilter" "saved" "[LTankFilter$Memory;", Cond.methodLink RX3 191 yX3_dropOldestSaved, Cond.instanceMethod yX3_dropOldestSaved, Cond.selects RX3 yX3_dropOldestSaved yX3_dropOldestSaved]
def wsX3_reset_r2 : List Cond := [Cond.code yX3_dropOldestSaved cX3_dropOldestSaved 3 none, Cond.instanceMethod yX2_copyFrom, Cond.initialized RX2, Cond.selects RX2 yX2_copyFrom yX2_copyFrom, Cond.code yX2_copyFrom cX2_copyFrom 2 none, Cond.fieldLink RX2 12 "TankFilter$Memory" "estimate" "LTankFilter$Estimate;", Cond.fieldLink RX2 18 "TankFilter$Memory" "levelNoise" "I", Cond.fieldLink RX2 22 "TankFilter$Memory" "flowNoise" "I", Cond.fieldLink RX2 25 "TankFilter$Memory" "gate" "I", Cond.fieldLink RX2 28 "TankFilter$Memory" "sensorKinds" "[I", Cond.fieldLink RX2 32 "TankFilter$Memory" "sensorVariances" "[I", Cond.fieldLink RX2 35 "TankFilter$Memory" "acceptedCount" "I", Cond.fieldLink RX2 38 "TankFilter$Memory" "rejectedCount" "I", Cond.fieldLink RX2 41 "TankFilter$Memory" "missedCount" "I", Cond.fieldLink RX2 47 "TankFilter$Memory" "history" "LTankFilter$History;", Cond.instanceMethod yX0_copyFrom, Cond.initialized RX0, Cond.selects RX0 yX0_copyFrom yX0_copyFrom, Cond.code yX0_copyFrom cX0_copyFrom 2 none, Cond.fieldLink RX0 9 "TankFilter$Estimate" "level" "J", Cond.fieldLink RX0 15 "TankFilter$Estimate" "flow" "J", Cond.fieldLink RX0 20 "TankFilter$Estimate" "levelVariance" "J", Cond.fieldLink RX0 23 "TankFilter$Estimate" "covariance" "J", Cond.fieldLink RX0 26 "TankFilter$Estimate" "flowVariance" "J"]
def wsX3_reset_r3 : List Cond := [Cond.fieldLink RX0 31 "TankFilter$Estimate" "innovation" "J", Cond.fieldLink RX0 34 "TankFilter$Estimate" "levelGain" "J", Cond.fieldLink RX0 37 "TankFilter$Estimate" "flowGain" "J", Cond.static yX3_copyRow, Cond.code yX3_copyRow cX3_copyRow 3 none, Cond.instanceMethod yX1_copyFrom, Cond.initialized RX1, Cond.selects RX1 yX1_copyFrom yX1_copyFrom, Cond.code yX1_copyFrom cX1_copyFrom 2 none, Cond.fieldLink RX1 9 "TankFilter$History" "sources" "[I", Cond.fieldLink RX1 15 "TankFilter$History" "values" "[I", Cond.fieldLink RX1 18 "TankFilter$History" "size" "I", Cond.instanceMethod yX0_startFrom, Cond.selects RX0 yX0_startFrom yX0_startFrom, Cond.code yX0_startFrom cX0_startFrom 5 none, Cond.constantLong RX0 29 (-2000000001)]
def wsX3_reset : List Cond := .code yX3_reset cX3_reset 6 (some .int) :: ((wsX3_reset_r1 ++ (wsX3_reset_r2 ++ wsX3_reset_r3)) ++ wsX30 ++ wsX20 ++ wsX10 ++ wsX00)
def wsX3_setProcessNoise_r1 : List Cond := [Cond.constant RX3 42 (4096000), Cond.constant RX3 43 (-2000000002), Cond.fieldLink RX3 10 "TankFilter" "now" "LTankFilter$Memory;", Cond.methodLink RX3 37 yX3_isOutside, Cond.static yX3_isOutside, Cond.initialized RX3, Cond.code yX3_isOutside cX3_isOutside 3 (some .boolean), Cond.methodLink RX3 44 yX3_fail, Cond.instanceMethod yX3_fail, Cond.selects RX3 yX3_fail yX3_fail, Cond.code yX3_fail cX3_fail 3 (some .int), Cond.fieldLink RX3 24 "TankFilter" "errors" "[I", Cond.methodLink RX3 48 yX3_save, Cond.instanceMethod yX3_save, Cond.selects RX3 yX3_save yX3_save, Cond.code yX3_save cX3_save 1 none, Cond.fieldLink RX3 20 "TankFilter" "savedCount" "I", Cond.fieldLink RX3 16 "TankFilter" "saved" "[LTankFilter$Memory;", Cond.methodLink RX3 191 yX3_dropOldestSaved, Cond.instanceMethod yX3_dropOldestSaved, Cond.selects RX3 yX3_dropOldestSaved yX3_dropOldestSaved, Cond.code yX3_dropOldestSaved cX3_dropOldestSaved 3 none, Cond.instanceMethod yX2_copyFrom, Cond.initialized RX2]
def wsX3_setProcessNoise_r2 : List Cond := [Cond.selects RX2 yX2_copyFrom yX2_copyFrom, Cond.code yX2_copyFrom cX2_copyFrom 2 none, Cond.fieldLink RX2 12 "TankFilter$Memory" "estimate" "LTankFilter$Estimate;", Cond.fieldLink RX2 18 "TankFilter$Memory" "levelNoise" "I", Cond.fieldLink RX2 22 "TankFilter$Memory" "flowNoise" "I", Cond.fieldLink RX2 25 "TankFilter$Memory" "gate" "I", Cond.fieldLink RX2 28 "TankFilter$Memory" "sensorKinds" "[I", Cond.fieldLink RX2 32 "TankFilter$Memory" "sensorVariances" "[I", Cond.fieldLink RX2 35 "TankFilter$Memory" "acceptedCount" "I", Cond.fieldLink RX2 38 "TankFilter$Memory" "rejectedCount" "I", Cond.fieldLink RX2 41 "TankFilter$Memory" "missedCount" "I", Cond.fieldLink RX2 47 "TankFilter$Memory" "history" "LTankFilter$History;", Cond.instanceMethod yX0_copyFrom, Cond.initialized RX0, Cond.selects RX0 yX0_copyFrom yX0_copyFrom, Cond.code yX0_copyFrom cX0_copyFrom 2 none, Cond.fieldLink RX0 9 "TankFilter$Estimate" "level" "J", Cond.fieldLink RX0 15 "TankFilter$Estimate" "flow" "J", Cond.fieldLink RX0 20 "TankFilter$Estimate" "levelVariance" "J", Cond.fieldLink RX0 23 "TankFilter$Estimate" "covariance" "J", Cond.fieldLink RX0 26 "TankFilter$Estimate" "flowVariance" "J", Cond.fieldLink RX0 31 "TankFilter$Estimate" "innovation" "J", Cond.fieldLink RX0 34 "TankFilter$Estimate" "levelGain" "J", Cond.fieldLink RX0 37 "TankFilter$Estimate" "flowGain" "J"]
def wsX3_setProcessNoise_r3 : List Cond := [Cond.static yX3_copyRow, Cond.code yX3_copyRow cX3_copyRow 3 none, Cond.instanceMethod yX1_copyFrom, Cond.initialized RX1, Cond.selects RX1 yX1_copyFrom yX1_copyFrom, Cond.code yX1_copyFrom cX1_copyFrom 2 none, Cond.fieldLink RX1 9 "TankFilter$History" "sources" "[I", Cond.fieldLink RX1 15 "TankFilter$History" "values" "[I", Cond.fieldLink RX1 18 "TankFilter$History" "size" "I"]
def wsX3_setProcessNoise : List Cond := .code yX3_setProcessNoise cX3_setProcessNoise 4 (some .int) :: ((wsX3_setProcessNoise_r1 ++ (wsX3_setProcessNoise_r2 ++ wsX3_setProcessNoise_r3)) ++ wsX30 ++ wsX20 ++ wsX00 ++ wsX10)
def wsX3_isSensor : List Cond := .code yX3_isSensor cX3_isSensor 1 (some .boolean) :: ([.methodLink RX3 37 yX3_isOutside, .static yX3_isOutside, .initialized RX3, .code yX3_isOutside cX3_isOutside 3 (some .boolean)])
def wsX3_isKind : List Cond := .code yX3_isKind cX3_isKind 1 (some .boolean) :: ([])
def wsX3_setSensor_r1 : List Cond := [Cond.constant RX3 36 (40960000), Cond.constant RX3 43 (-2000000002), Cond.fieldLink RX3 10 "TankFilter" "now" "LTankFilter$Memory;", Cond.methodLink RX3 82 yX3_isSensor, Cond.static yX3_isSensor, Cond.initialized RX3, Cond.code yX3_isSensor cX3_isSensor 1 (some .boolean), Cond.methodLink RX3 37 yX3_isOutside, Cond.static yX3_isOutside, Cond.code yX3_isOutside cX3_isOutside 3 (some .boolean), Cond.methodLink RX3 86 yX3_isKind, Cond.static yX3_isKind, Cond.code yX3_isKind cX3_isKind 1 (some .boolean), Cond.methodLink RX3 44 yX3_fail, Cond.instanceMethod yX3_fail, Cond.selects RX3 yX3_fail yX3_fail, Cond.code yX3_fail cX3_fail 3 (some .int), Cond.fieldLink RX3 24 "TankFilter" "errors" "[I", Cond.methodLink RX3 48 yX3_save, Cond.instanceMethod yX3_save, Cond.selects RX3 yX3_save yX3_save, Cond.code yX3_save cX3_save 1 none, Cond.fieldLink RX3 20 "TankFilter" "savedCount" "I", Cond.fieldLink RX3 16 "TankFilter" "saved" "[LTankFilter$Memory;"]
def wsX3_setSensor_r2 : List Cond := [Cond.methodLink RX3 191 yX3_dropOldestSaved, Cond.instanceMethod yX3_dropOldestSaved, Cond.selects RX3 yX3_dropOldestSaved yX3_dropOldestSaved, Cond.code yX3_dropOldestSaved cX3_dropOldestSaved 3 none, Cond.instanceMethod yX2_copyFrom, Cond.initialized RX2, Cond.selects RX2 yX2_copyFrom yX2_copyFrom, Cond.code yX2_copyFrom cX2_copyFrom 2 none, Cond.fieldLink RX2 12 "TankFilter$Memory" "estimate" "LTankFilter$Estimate;", Cond.fieldLink RX2 18 "TankFilter$Memory" "levelNoise" "I", Cond.fieldLink RX2 22 "TankFilter$Memory" "flowNoise" "I", Cond.fieldLink RX2 25 "TankFilter$Memory" "gate" "I", Cond.fieldLink RX2 28 "TankFilter$Memory" "sensorKinds" "[I", Cond.fieldLink RX2 32 "TankFilter$Memory" "sensorVariances" "[I", Cond.fieldLink RX2 35 "TankFilter$Memory" "acceptedCount" "I", Cond.fieldLink RX2 38 "TankFilter$Memory" "rejectedCount" "I", Cond.fieldLink RX2 41 "TankFilter$Memory" "missedCount" "I", Cond.fieldLink RX2 47 "TankFilter$Memory" "history" "LTankFilter$History;", Cond.instanceMethod yX0_copyFrom, Cond.initialized RX0, Cond.selects RX0 yX0_copyFrom yX0_copyFrom, Cond.code yX0_copyFrom cX0_copyFrom 2 none, Cond.fieldLink RX0 9 "TankFilter$Estimate" "level" "J", Cond.fieldLink RX0 15 "TankFilter$Estimate" "flow" "J"]
def wsX3_setSensor_r3 : List Cond := [Cond.fieldLink RX0 20 "TankFilter$Estimate" "levelVariance" "J", Cond.fieldLink RX0 23 "TankFilter$Estimate" "covariance" "J", Cond.fieldLink RX0 26 "TankFilter$Estimate" "flowVariance" "J", Cond.fieldLink RX0 31 "TankFilter$Estimate" "innovation" "J", Cond.fieldLink RX0 34 "TankFilter$Estimate" "levelGain" "J", Cond.fieldLink RX0 37 "TankFilter$Estimate" "flowGain" "J", Cond.static yX3_copyRow, Cond.code yX3_copyRow cX3_copyRow 3 none, Cond.instanceMethod yX1_copyFrom, Cond.initialized RX1, Cond.selects RX1 yX1_copyFrom yX1_copyFrom, Cond.code yX1_copyFrom cX1_copyFrom 2 none, Cond.fieldLink RX1 9 "TankFilter$History" "sources" "[I", Cond.fieldLink RX1 15 "TankFilter$History" "values" "[I", Cond.fieldLink RX1 18 "TankFilter$History" "size" "I"]
def wsX3_setSensor : List Cond := .code yX3_setSensor cX3_setSensor 5 (some .int) :: ((wsX3_setSensor_r1 ++ (wsX3_setSensor_r2 ++ wsX3_setSensor_r3)) ++ wsX30 ++ wsX20 ++ wsX00 ++ wsX10)
def wsX3_setGate_r1 : List Cond := [Cond.constant RX3 43 (-2000000002), Cond.fieldLink RX3 10 "TankFilter" "now" "LTankFilter$Memory;", Cond.methodLink RX3 37 yX3_isOutside, Cond.static yX3_isOutside, Cond.initialized RX3, Cond.code yX3_isOutside cX3_isOutside 3 (some .boolean), Cond.methodLink RX3 44 yX3_fail, Cond.instanceMethod yX3_fail, Cond.selects RX3 yX3_fail yX3_fail, Cond.code yX3_fail cX3_fail 3 (some .int), Cond.fieldLink RX3 24 "TankFilter" "errors" "[I", Cond.methodLink RX3 48 yX3_save, Cond.instanceMethod yX3_save, Cond.selects RX3 yX3_save yX3_save, Cond.code yX3_save cX3_save 1 none, Cond.fieldLink RX3 20 "TankFilter" "savedCount" "I", Cond.fieldLink RX3 16 "TankFilter" "saved" "[LTankFilter$Memory;", Cond.methodLink RX3 191 yX3_dropOldestSaved, Cond.instanceMethod yX3_dropOldestSaved, Cond.selects RX3 yX3_dropOldestSaved yX3_dropOldestSaved, Cond.code yX3_dropOldestSaved cX3_dropOldestSaved 3 none, Cond.instanceMethod yX2_copyFrom, Cond.initialized RX2, Cond.selects RX2 yX2_copyFrom yX2_copyFrom]
def wsX3_setGate_r2 : List Cond := [Cond.code yX2_copyFrom cX2_copyFrom 2 none, Cond.fieldLink RX2 12 "TankFilter$Memory" "estimate" "LTankFilter$Estimate;", Cond.fieldLink RX2 18 "TankFilter$Memory" "levelNoise" "I", Cond.fieldLink RX2 22 "TankFilter$Memory" "flowNoise" "I", Cond.fieldLink RX2 25 "TankFilter$Memory" "gate" "I", Cond.fieldLink RX2 28 "TankFilter$Memory" "sensorKinds" "[I", Cond.fieldLink RX2 32 "TankFilter$Memory" "sensorVariances" "[I", Cond.fieldLink RX2 35 "TankFilter$Memory" "acceptedCount" "I", Cond.fieldLink RX2 38 "TankFilter$Memory" "rejectedCount" "I", Cond.fieldLink RX2 41 "TankFilter$Memory" "missedCount" "I", Cond.fieldLink RX2 47 "TankFilter$Memory" "history" "LTankFilter$History;", Cond.instanceMethod yX0_copyFrom, Cond.initialized RX0, Cond.selects RX0 yX0_copyFrom yX0_copyFrom, Cond.code yX0_copyFrom cX0_copyFrom 2 none, Cond.fieldLink RX0 9 "TankFilter$Estimate" "level" "J", Cond.fieldLink RX0 15 "TankFilter$Estimate" "flow" "J", Cond.fieldLink RX0 20 "TankFilter$Estimate" "levelVariance" "J", Cond.fieldLink RX0 23 "TankFilter$Estimate" "covariance" "J", Cond.fieldLink RX0 26 "TankFilter$Estimate" "flowVariance" "J", Cond.fieldLink RX0 31 "TankFilter$Estimate" "innovation" "J", Cond.fieldLink RX0 34 "TankFilter$Estimate" "levelGain" "J", Cond.fieldLink RX0 37 "TankFilter$Estimate" "flowGain" "J", Cond.static yX3_copyRow]
def wsX3_setGate_r3 : List Cond := [Cond.code yX3_copyRow cX3_copyRow 3 none, Cond.instanceMethod yX1_copyFrom, Cond.initialized RX1, Cond.selects RX1 yX1_copyFrom yX1_copyFrom, Cond.code yX1_copyFrom cX1_copyFrom 2 none, Cond.fieldLink RX1 9 "TankFilter$History" "sources" "[I", Cond.fieldLink RX1 15 "TankFilter$History" "values" "[I", Cond.fieldLink RX1 18 "TankFilter$History" "size" "I"]
def wsX3_setGate : List Cond := .code yX3_setGate cX3_setGate 3 (some .int) :: ((wsX3_setGate_r1 ++ (wsX3_setGate_r2 ++ wsX3_setGate_r3)) ++ wsX30 ++ wsX20 ++ wsX00 ++ wsX10)
def wsX3_predict_r1 : List Cond := [Cond.constant RX3 41 (-4096000), Cond.constant RX3 42 (4096000), Cond.constant RX3 43 (-2000000002), Cond.fieldLink RX3 31 "TankFilter" "trial" "LTankFilter$Estimate;", Cond.fieldLink RX3 10 "TankFilter" "now" "LTankFilter$Memory;", Cond.constant RX3 106 (-2000000004), Cond.methodLink RX3 37 yX3_isOutside, Cond.static yX3_isOutside, Cond.initialized RX3, Cond.code yX3_isOutside cX3_isOutside 3 (some .boolean), Cond.methodLink RX3 44 yX3_fail, Cond.instanceMethod yX3_fail, Cond.selects RX3 yX3_fail yX3_fail, Cond.code yX3_fail cX3_fail 3 (some .int), Cond.fieldLink RX3 24 "TankFilter" "errors" "[I", Cond.instanceMethod yX0_copyFrom, Cond.initialized RX0, Cond.selects RX0 yX0_copyFrom yX0_copyFrom, Cond.code yX0_copyFrom cX0_copyFrom 2 none, Cond.fieldLink RX0 9 "TankFilter$Estimate" "level" "J", Cond.fieldLink RX0 15 "TankFilter$Estimate" "flow" "J", Cond.fieldLink RX0 20 "TankFilter$Estimate" "levelVariance" "J", Cond.fieldLink RX0 23 "TankFilter$Estimate" "covariance" "J", Cond.fieldLink RX0 26 "TankFilter$Estimate" "flowVariance" "J"]
def wsX3_predict_r2 : List Cond := [Cond.fieldLink RX0 31 "TankFilter$Estimate" "innovation" "J", Cond.fieldLink RX0 34 "TankFilter$Estimate" "levelGain" "J", Cond.fieldLink RX0 37 "TankFilter$Estimate" "flowGain" "J", Cond.instanceMethod yX0_advance, Cond.selects RX0 yX0_advance yX0_advance, Cond.code yX0_advance cX0_advance 7 (some .boolean), Cond.constantLong RX0 40 (2), Cond.methodLink RX0 42 yX0_move, Cond.instanceMethod yX0_move, Cond.selects RX0 yX0_move yX0_move, Cond.code yX0_move cX0_move 15 (some .boolean), Cond.methodLink RX0 62 Lib.MathLoose.max_long.x, Cond.static Lib.MathLoose.max_long.x, Cond.initialized "java/lang/Math", Cond.code Lib.MathLoose.max_long.x Lib.MathLoose.max_long.code 4 (some .long), Cond.static yX3_isInLimit, Cond.code yX3_isInLimit cX3_isInLimit 2 (some .boolean), Cond.constantLong RX3 174 (-1000000000), Cond.constantLong RX3 176 (1000000000), Cond.methodLink RX3 48 yX3_save, Cond.instanceMethod yX3_save, Cond.selects RX3 yX3_save yX3_save, Cond.code yX3_save cX3_save 1 none, Cond.fieldLink RX3 20 "TankFilter" "savedCount" "I"]
def wsX3_predict_r3 : List Cond := [Cond.fieldLink RX3 16 "TankFilter" "saved" "[LTankFilter$Memory;", Cond.methodLink RX3 191 yX3_dropOldestSaved, Cond.instanceMethod yX3_dropOldestSaved, Cond.selects RX3 yX3_dropOldestSaved yX3_dropOldestSaved, Cond.code yX3_dropOldestSaved cX3_dropOldestSaved 3 none, Cond.instanceMethod yX2_copyFrom, Cond.initialized RX2, Cond.selects RX2 yX2_copyFrom yX2_copyFrom, Cond.code yX2_copyFrom cX2_copyFrom 2 none, Cond.fieldLink RX2 12 "TankFilter$Memory" "estimate" "LTankFilter$Estimate;", Cond.fieldLink RX2 18 "TankFilter$Memory" "levelNoise" "I", Cond.fieldLink RX2 22 "TankFilter$Memory" "flowNoise" "I", Cond.fieldLink RX2 25 "TankFilter$Memory" "gate" "I", Cond.fieldLink RX2 28 "TankFilter$Memory" "sensorKinds" "[I", Cond.fieldLink RX2 32 "TankFilter$Memory" "sensorVariances" "[I", Cond.fieldLink RX2 35 "TankFilter$Memory" "acceptedCount" "I", Cond.fieldLink RX2 38 "TankFilter$Memory" "rejectedCount" "I", Cond.fieldLink RX2 41 "TankFilter$Memory" "missedCount" "I", Cond.fieldLink RX2 47 "TankFilter$Memory" "history" "LTankFilter$History;", Cond.static yX3_copyRow, Cond.code yX3_copyRow cX3_copyRow 3 none, Cond.instanceMethod yX1_copyFrom, Cond.initialized RX1, Cond.selects RX1 yX1_copyFrom yX1_copyFrom]
def wsX3_predict_r4 : List Cond := [Cond.code yX1_copyFrom cX1_copyFrom 2 none, Cond.fieldLink RX1 9 "TankFilter$History" "sources" "[I", Cond.fieldLink RX1 15 "TankFilter$History" "values" "[I", Cond.fieldLink RX1 18 "TankFilter$History" "size" "I", Cond.instanceMethod yX1_append, Cond.selects RX1 yX1_append yX1_append, Cond.code yX1_append cX1_append 3 none, Cond.methodLink RX1 22 yX1_dropOldest, Cond.instanceMethod yX1_dropOldest, Cond.selects RX1 yX1_dropOldest yX1_dropOldest, Cond.code yX1_dropOldest cX1_dropOldest 2 none]
def wsX3_predict : List Cond := .code yX3_predict cX3_predict 2 (some .int) :: ((wsX3_predict_r1 ++ (wsX3_predict_r2 ++ (wsX3_predict_r3 ++ wsX3_predict_r4))) ++ wsX30 ++ wsX20 ++ wsX00 ++ wsX10)
def wsX3_correct_r1 : List Cond := [Cond.constant RX3 35 (-40960000), Cond.constant RX3 36 (40960000), Cond.constant RX3 43 (-2000000002), Cond.fieldLink RX3 31 "TankFilter" "trial" "LTankFilter$Estimate;", Cond.fieldLink RX3 10 "TankFilter" "now" "LTankFilter$Memory;", Cond.constant RX3 106 (-2000000004), Cond.methodLink RX3 82 yX3_isSensor, Cond.static yX3_isSensor, Cond.initialized RX3, Cond.code yX3_isSensor cX3_isSensor 1 (some .boolean), Cond.methodLink RX3 37 yX3_isOutside, Cond.static yX3_isOutside, Cond.code yX3_isOutside cX3_isOutside 3 (some .boolean), Cond.methodLink RX3 44 yX3_fail, Cond.instanceMethod yX3_fail, Cond.selects RX3 yX3_fail yX3_fail, Cond.code yX3_fail cX3_fail 3 (some .int), Cond.fieldLink RX3 24 "TankFilter" "errors" "[I", Cond.instanceMethod yX0_copyFrom, Cond.initialized RX0, Cond.selects RX0 yX0_copyFrom yX0_copyFrom, Cond.code yX0_copyFrom cX0_copyFrom 2 none, Cond.fieldLink RX0 9 "TankFilter$Estimate" "level" "J", Cond.fieldLink RX0 15 "TankFilter$Estimate" "flow" "J"]
def wsX3_correct_r2 : List Cond := [Cond.fieldLink RX0 20 "TankFilter$Estimate" "levelVariance" "J", Cond.fieldLink RX0 23 "TankFilter$Estimate" "covariance" "J", Cond.fieldLink RX0 26 "TankFilter$Estimate" "flowVariance" "J", Cond.fieldLink RX0 31 "TankFilter$Estimate" "innovation" "J", Cond.fieldLink RX0 34 "TankFilter$Estimate" "levelGain" "J", Cond.fieldLink RX0 37 "TankFilter$Estimate" "flowGain" "J", Cond.instanceMethod yX0_take, Cond.selects RX0 yX0_take yX0_take, Cond.code yX0_take cX0_take 22 (some .int), Cond.constantLong RX0 18 (4096), Cond.constant RX0 58 (-2000000004), Cond.methodLink RX0 46 yX0_mean, Cond.instanceMethod yX0_mean, Cond.selects RX0 yX0_mean yX0_mean, Cond.code yX0_mean cX0_mean 2 (some .long), Cond.static yX3_dividedBy, Cond.code yX3_dividedBy cX3_dividedBy 4 (some .long), Cond.constantLong RX3 180 (4096), Cond.constantLong RX3 187 (2), Cond.methodLink RX3 182 yJ9_floorDiv_f86c9, Cond.static yJ9_floorDiv_f86c9, Cond.initialized RJ9, Cond.code yJ9_floorDiv_f86c9 cJ9_floorDiv_f86c9 6 (some .long), Cond.static yX3_isInLimit]
def wsX3_correct_r3 : List Cond := [Cond.code yX3_isInLimit cX3_isInLimit 2 (some .boolean), Cond.constantLong RX3 174 (-1000000000), Cond.constantLong RX3 176 (1000000000), Cond.static yX3_times, Cond.code yX3_times cX3_times 4 (some .long), Cond.constantLong RX3 178 (2048), Cond.methodLink RX0 42 yX0_move, Cond.instanceMethod yX0_move, Cond.selects RX0 yX0_move yX0_move, Cond.code yX0_move cX0_move 15 (some .boolean), Cond.methodLink RX0 62 Lib.MathLoose.max_long.x, Cond.static Lib.MathLoose.max_long.x, Cond.initialized "java/lang/Math", Cond.code Lib.MathLoose.max_long.x Lib.MathLoose.max_long.code 4 (some .long), Cond.methodLink RX3 48 yX3_save, Cond.instanceMethod yX3_save, Cond.selects RX3 yX3_save yX3_save, Cond.code yX3_save cX3_save 1 none, Cond.fieldLink RX3 20 "TankFilter" "savedCount" "I", Cond.fieldLink RX3 16 "TankFilter" "saved" "[LTankFilter$Memory;", Cond.methodLink RX3 191 yX3_dropOldestSaved, Cond.instanceMethod yX3_dropOldestSaved, Cond.selects RX3 yX3_dropOldestSaved yX3_dropOldestSaved, Cond.code yX3_dropOldestSaved cX3_dropOldestSaved 3 none]
def wsX3_correct_r4 : List Cond := [Cond.instanceMethod yX2_copyFrom, Cond.initialized RX2, Cond.selects RX2 yX2_copyFrom yX2_copyFrom, Cond.code yX2_copyFrom cX2_copyFrom 2 none, Cond.fieldLink RX2 12 "TankFilter$Memory" "estimate" "LTankFilter$Estimate;", Cond.fieldLink RX2 18 "TankFilter$Memory" "levelNoise" "I", Cond.fieldLink RX2 22 "TankFilter$Memory" "flowNoise" "I", Cond.fieldLink RX2 25 "TankFilter$Memory" "gate" "I", Cond.fieldLink RX2 28 "TankFilter$Memory" "sensorKinds" "[I", Cond.fieldLink RX2 32 "TankFilter$Memory" "sensorVariances" "[I", Cond.fieldLink RX2 35 "TankFilter$Memory" "acceptedCount" "I", Cond.fieldLink RX2 38 "TankFilter$Memory" "rejectedCount" "I", Cond.fieldLink RX2 41 "TankFilter$Memory" "missedCount" "I", Cond.fieldLink RX2 47 "TankFilter$Memory" "history" "LTankFilter$History;", Cond.static yX3_copyRow, Cond.code yX3_copyRow cX3_copyRow 3 none, Cond.instanceMethod yX1_copyFrom, Cond.initialized RX1, Cond.selects RX1 yX1_copyFrom yX1_copyFrom, Cond.code yX1_copyFrom cX1_copyFrom 2 none, Cond.fieldLink RX1 9 "TankFilter$History" "sources" "[I", Cond.fieldLink RX1 15 "TankFilter$History" "values" "[I", Cond.fieldLink RX1 18 "TankFilter$History" "size" "I", Cond.instanceMethod yX1_append]
def wsX3_correct_r5 : List Cond := [Cond.selects RX1 yX1_append yX1_append, Cond.code yX1_append cX1_append 3 none, Cond.methodLink RX1 22 yX1_dropOldest, Cond.instanceMethod yX1_dropOldest, Cond.selects RX1 yX1_dropOldest yX1_dropOldest, Cond.code yX1_dropOldest cX1_dropOldest 2 none]
def wsX3_correct : List Cond := .code yX3_correct cX3_correct 4 (some .int) :: ((wsX3_correct_r1 ++ (wsX3_correct_r2 ++ (wsX3_correct_r3 ++ (wsX3_correct_r4 ++ wsX3_correct_r5)))) ++ wsX30 ++ wsX20 ++ wsX00 ++ wsX10)
def wsX3_miss_r1 : List Cond := [Cond.constant RX3 43 (-2000000002), Cond.fieldLink RX3 10 "TankFilter" "now" "LTankFilter$Memory;", Cond.methodLink RX3 82 yX3_isSensor, Cond.static yX3_isSensor, Cond.initialized RX3, Cond.code yX3_isSensor cX3_isSensor 1 (some .boolean), Cond.methodLink RX3 37 yX3_isOutside, Cond.static yX3_isOutside, Cond.code yX3_isOutside cX3_isOutside 3 (some .boolean), Cond.methodLink RX3 44 yX3_fail, Cond.instanceMethod yX3_fail, Cond.selects RX3 yX3_fail yX3_fail, Cond.code yX3_fail cX3_fail 3 (some .int), Cond.fieldLink RX3 24 "TankFilter" "errors" "[I", Cond.methodLink RX3 48 yX3_save, Cond.instanceMethod yX3_save, Cond.selects RX3 yX3_save yX3_save, Cond.code yX3_save cX3_save 1 none, Cond.fieldLink RX3 20 "TankFilter" "savedCount" "I", Cond.fieldLink RX3 16 "TankFilter" "saved" "[LTankFilter$Memory;", Cond.methodLink RX3 191 yX3_dropOldestSaved, Cond.instanceMethod yX3_dropOldestSaved, Cond.selects RX3 yX3_dropOldestSaved yX3_dropOldestSaved, Cond.code yX3_dropOldestSaved cX3_dropOldestSaved 3 none]
def wsX3_miss_r2 : List Cond := [Cond.instanceMethod yX2_copyFrom, Cond.initialized RX2, Cond.selects RX2 yX2_copyFrom yX2_copyFrom, Cond.code yX2_copyFrom cX2_copyFrom 2 none, Cond.fieldLink RX2 12 "TankFilter$Memory" "estimate" "LTankFilter$Estimate;", Cond.fieldLink RX2 18 "TankFilter$Memory" "levelNoise" "I", Cond.fieldLink RX2 22 "TankFilter$Memory" "flowNoise" "I", Cond.fieldLink RX2 25 "TankFilter$Memory" "gate" "I", Cond.fieldLink RX2 28 "TankFilter$Memory" "sensorKinds" "[I", Cond.fieldLink RX2 32 "TankFilter$Memory" "sensorVariances" "[I", Cond.fieldLink RX2 35 "TankFilter$Memory" "acceptedCount" "I", Cond.fieldLink RX2 38 "TankFilter$Memory" "rejectedCount" "I", Cond.fieldLink RX2 41 "TankFilter$Memory" "missedCount" "I", Cond.fieldLink RX2 47 "TankFilter$Memory" "history" "LTankFilter$History;", Cond.instanceMethod yX0_copyFrom, Cond.initialized RX0, Cond.selects RX0 yX0_copyFrom yX0_copyFrom, Cond.code yX0_copyFrom cX0_copyFrom 2 none, Cond.fieldLink RX0 9 "TankFilter$Estimate" "level" "J", Cond.fieldLink RX0 15 "TankFilter$Estimate" "flow" "J", Cond.fieldLink RX0 20 "TankFilter$Estimate" "levelVariance" "J", Cond.fieldLink RX0 23 "TankFilter$Estimate" "covariance" "J", Cond.fieldLink RX0 26 "TankFilter$Estimate" "flowVariance" "J", Cond.fieldLink RX0 31 "TankFilter$Estimate" "innovation" "J"]
def wsX3_miss_r3 : List Cond := [Cond.fieldLink RX0 34 "TankFilter$Estimate" "levelGain" "J", Cond.fieldLink RX0 37 "TankFilter$Estimate" "flowGain" "J", Cond.static yX3_copyRow, Cond.code yX3_copyRow cX3_copyRow 3 none, Cond.instanceMethod yX1_copyFrom, Cond.initialized RX1, Cond.selects RX1 yX1_copyFrom yX1_copyFrom, Cond.code yX1_copyFrom cX1_copyFrom 2 none, Cond.fieldLink RX1 9 "TankFilter$History" "sources" "[I", Cond.fieldLink RX1 15 "TankFilter$History" "values" "[I", Cond.fieldLink RX1 18 "TankFilter$History" "size" "I"]
def wsX3_miss : List Cond := .code yX3_miss cX3_miss 2 (some .int) :: ((wsX3_miss_r1 ++ (wsX3_miss_r2 ++ wsX3_miss_r3)) ++ wsX30 ++ wsX20 ++ wsX00 ++ wsX10)
def wsX3_level : List Cond := .code yX3_level cX3_level 1 (some .int) :: ([.fieldLink RX3 10 "TankFilter" "now" "LTankFilter$Memory;"] ++ wsX30 ++ wsX20 ++ wsX00)
def wsX3_flow : List Cond := .code yX3_flow cX3_flow 1 (some .int) :: ([.fieldLink RX3 10 "TankFilter" "now" "LTankFilter$Memory;"] ++ wsX30 ++ wsX20 ++ wsX00)
def wsX3_levelVariance : List Cond := .code yX3_levelVariance cX3_levelVariance 1 (some .int) :: ([.fieldLink RX3 10 "TankFilter" "now" "LTankFilter$Memory;"] ++ wsX30 ++ wsX20 ++ wsX00)
def wsX3_covariance : List Cond := .code yX3_covariance cX3_covariance 1 (some .int) :: ([.fieldLink RX3 10 "TankFilter" "now" "LTankFilter$Memory;"] ++ wsX30 ++ wsX20 ++ wsX00)
def wsX3_flowVariance : List Cond := .code yX3_flowVariance cX3_flowVariance 1 (some .int) :: ([.fieldLink RX3 10 "TankFilter" "now" "LTankFilter$Memory;"] ++ wsX30 ++ wsX20 ++ wsX00)
def wsX3_innovation : List Cond := .code yX3_innovation cX3_innovation 1 (some .int) :: ([.fieldLink RX3 10 "TankFilter" "now" "LTankFilter$Memory;"] ++ wsX30 ++ wsX20 ++ wsX00)
def wsX3_levelGain : List Cond := .code yX3_levelGain cX3_levelGain 1 (some .int) :: ([.fieldLink RX3 10 "TankFilter" "now" "LTankFilter$Memory;"] ++ wsX30 ++ wsX20 ++ wsX00)
def wsX3_flowGain : List Cond := .code yX3_flowGain cX3_flowGain 1 (some .int) :: ([.fieldLink RX3 10 "TankFilter" "now" "LTankFilter$Memory;"] ++ wsX30 ++ wsX20 ++ wsX00)
def wsX3_accepted : List Cond := .code yX3_accepted cX3_accepted 1 (some .int) :: ([.fieldLink RX3 10 "TankFilter" "now" "LTankFilter$Memory;"] ++ wsX30 ++ wsX20)
def wsX3_rejected : List Cond := .code yX3_rejected cX3_rejected 1 (some .int) :: ([.fieldLink RX3 10 "TankFilter" "now" "LTankFilter$Memory;"] ++ wsX30 ++ wsX20)
def wsX3_missed : List Cond := .code yX3_missed cX3_missed 1 (some .int) :: ([.fieldLink RX3 10 "TankFilter" "now" "LTankFilter$Memory;"] ++ wsX30 ++ wsX20)
def wsX3_historyLength : List Cond := .code yX3_historyLength cX3_historyLength 1 (some .int) :: ([.fieldLink RX3 10 "TankFilter" "now" "LTankFilter$Memory;"] ++ wsX30 ++ wsX20 ++ wsX10)
def wsX3_runPredictions_r1 : List Cond := [Cond.fieldLink RX3 31 "TankFilter" "trial" "LTankFilter$Estimate;", Cond.fieldLink RX3 10 "TankFilter" "now" "LTankFilter$Memory;", Cond.instanceMethod yX0_copyFrom, Cond.initialized RX0, Cond.selects RX0 yX0_copyFrom yX0_copyFrom, Cond.code yX0_copyFrom cX0_copyFrom 2 none, Cond.fieldLink RX0 9 "TankFilter$Estimate" "level" "J", Cond.fieldLink RX0 15 "TankFilter$Estimate" "flow" "J", Cond.fieldLink RX0 20 "TankFilter$Estimate" "levelVariance" "J", Cond.fieldLink RX0 23 "TankFilter$Estimate" "covariance" "J", Cond.fieldLink RX0 26 "TankFilter$Estimate" "flowVariance" "J", Cond.fieldLink RX0 31 "TankFilter$Estimate" "innovation" "J", Cond.fieldLink RX0 34 "TankFilter$Estimate" "levelGain" "J", Cond.fieldLink RX0 37 "TankFilter$Estimate" "flowGain" "J", Cond.instanceMethod yX0_advance, Cond.selects RX0 yX0_advance yX0_advance, Cond.code yX0_advance cX0_advance 7 (some .boolean), Cond.constantLong RX0 40 (2), Cond.methodLink RX0 42 yX0_move, Cond.instanceMethod yX0_move, Cond.selects RX0 yX0_move yX0_move, Cond.code yX0_move cX0_move 15 (some .boolean), Cond.methodLink RX0 62 Lib.MathLoose.max_long.x, Cond.static Lib.MathLoose.max_long.x]
def wsX3_runPredictions_r2 : List Cond := [Cond.initialized "java/lang/Math", Cond.code Lib.MathLoose.max_long.x Lib.MathLoose.max_long.code 4 (some .long), Cond.static yX3_isInLimit, Cond.initialized RX3, Cond.code yX3_isInLimit cX3_isInLimit 2 (some .boolean), Cond.constantLong RX3 174 (-1000000000), Cond.constantLong RX3 176 (1000000000)]
def wsX3_runPredictions : List Cond := .code yX3_runPredictions cX3_runPredictions 3 (some .boolean) :: ((wsX3_runPredictions_r1 ++ wsX3_runPredictions_r2) ++ wsX30 ++ wsX20 ++ wsX00)
def wsX3_forecast_r1 : List Cond := [Cond.constant RX3 43 (-2000000002), Cond.fieldLink RX3 31 "TankFilter" "trial" "LTankFilter$Estimate;", Cond.constant RX3 106 (-2000000004), Cond.methodLink RX3 37 yX3_isOutside, Cond.static yX3_isOutside, Cond.initialized RX3, Cond.code yX3_isOutside cX3_isOutside 3 (some .boolean), Cond.methodLink RX3 44 yX3_fail, Cond.instanceMethod yX3_fail, Cond.selects RX3 yX3_fail yX3_fail, Cond.code yX3_fail cX3_fail 3 (some .int), Cond.fieldLink RX3 24 "TankFilter" "errors" "[I", Cond.methodLink RX3 140 yX3_runPredictions, Cond.instanceMethod yX3_runPredictions, Cond.selects RX3 yX3_runPredictions yX3_runPredictions, Cond.code yX3_runPredictions cX3_runPredictions 3 (some .boolean), Cond.fieldLink RX3 10 "TankFilter" "now" "LTankFilter$Memory;", Cond.instanceMethod yX0_copyFrom, Cond.initialized RX0, Cond.selects RX0 yX0_copyFrom yX0_copyFrom, Cond.code yX0_copyFrom cX0_copyFrom 2 none, Cond.fieldLink RX0 9 "TankFilter$Estimate" "level" "J", Cond.fieldLink RX0 15 "TankFilter$Estimate" "flow" "J", Cond.fieldLink RX0 20 "TankFilter$Estimate" "levelVariance" "J"]
def wsX3_forecast_r2 : List Cond := [Cond.fieldLink RX0 23 "TankFilter$Estimate" "covariance" "J", Cond.fieldLink RX0 26 "TankFilter$Estimate" "flowVariance" "J", Cond.fieldLink RX0 31 "TankFilter$Estimate" "innovation" "J", Cond.fieldLink RX0 34 "TankFilter$Estimate" "levelGain" "J", Cond.fieldLink RX0 37 "TankFilter$Estimate" "flowGain" "J", Cond.instanceMethod yX0_advance, Cond.selects RX0 yX0_advance yX0_advance, Cond.code yX0_advance cX0_advance 7 (some .boolean), Cond.constantLong RX0 40 (2), Cond.methodLink RX0 42 yX0_move, Cond.instanceMethod yX0_move, Cond.selects RX0 yX0_move yX0_move, Cond.code yX0_move cX0_move 15 (some .boolean), Cond.methodLink RX0 62 Lib.MathLoose.max_long.x, Cond.static Lib.MathLoose.max_long.x, Cond.initialized "java/lang/Math", Cond.code Lib.MathLoose.max_long.x Lib.MathLoose.max_long.code 4 (some .long), Cond.static yX3_isInLimit, Cond.code yX3_isInLimit cX3_isInLimit 2 (some .boolean), Cond.constantLong RX3 174 (-1000000000), Cond.constantLong RX3 176 (1000000000)]
def wsX3_forecast : List Cond := .code yX3_forecast cX3_forecast 2 (some .int) :: ((wsX3_forecast_r1 ++ wsX3_forecast_r2) ++ wsX30 ++ wsX00 ++ wsX20)
def wsX3_forecastVariance_r1 : List Cond := [Cond.constant RX3 43 (-2000000002), Cond.fieldLink RX3 31 "TankFilter" "trial" "LTankFilter$Estimate;", Cond.constant RX3 106 (-2000000004), Cond.methodLink RX3 37 yX3_isOutside, Cond.static yX3_isOutside, Cond.initialized RX3, Cond.code yX3_isOutside cX3_isOutside 3 (some .boolean), Cond.methodLink RX3 44 yX3_fail, Cond.instanceMethod yX3_fail, Cond.selects RX3 yX3_fail yX3_fail, Cond.code yX3_fail cX3_fail 3 (some .int), Cond.fieldLink RX3 24 "TankFilter" "errors" "[I", Cond.methodLink RX3 140 yX3_runPredictions, Cond.instanceMethod yX3_runPredictions, Cond.selects RX3 yX3_runPredictions yX3_runPredictions, Cond.code yX3_runPredictions cX3_runPredictions 3 (some .boolean), Cond.fieldLink RX3 10 "TankFilter" "now" "LTankFilter$Memory;", Cond.instanceMethod yX0_copyFrom, Cond.initialized RX0, Cond.selects RX0 yX0_copyFrom yX0_copyFrom, Cond.code yX0_copyFrom cX0_copyFrom 2 none, Cond.fieldLink RX0 9 "TankFilter$Estimate" "level" "J", Cond.fieldLink RX0 15 "TankFilter$Estimate" "flow" "J", Cond.fieldLink RX0 20 "TankFilter$Estimate" "levelVariance" "J"]
def wsX3_forecastVariance_r2 : List Cond := [Cond.fieldLink RX0 23 "TankFilter$Estimate" "covariance" "J", Cond.fieldLink RX0 26 "TankFilter$Estimate" "flowVariance" "J", Cond.fieldLink RX0 31 "TankFilter$Estimate" "innovation" "J", Cond.fieldLink RX0 34 "TankFilter$Estimate" "levelGain" "J", Cond.fieldLink RX0 37 "TankFilter$Estimate" "flowGain" "J", Cond.instanceMethod yX0_advance, Cond.selects RX0 yX0_advance yX0_advance, Cond.code yX0_advance cX0_advance 7 (some .boolean), Cond.constantLong RX0 40 (2), Cond.methodLink RX0 42 yX0_move, Cond.instanceMethod yX0_move, Cond.selects RX0 yX0_move yX0_move, Cond.code yX0_move cX0_move 15 (some .boolean), Cond.methodLink RX0 62 Lib.MathLoose.max_long.x, Cond.static Lib.MathLoose.max_long.x, Cond.initialized "java/lang/Math", Cond.code Lib.MathLoose.max_long.x Lib.MathLoose.max_long.code 4 (some .long), Cond.static yX3_isInLimit, Cond.code yX3_isInLimit cX3_isInLimit 2 (some .boolean), Cond.constantLong RX3 174 (-1000000000), Cond.constantLong RX3 176 (1000000000)]
def wsX3_forecastVariance : List Cond := .code yX3_forecastVariance cX3_forecastVariance 2 (some .int) :: ((wsX3_forecastVariance_r1 ++ wsX3_forecastVariance_r2) ++ wsX30 ++ wsX00 ++ wsX20)
def wsX3_stepsTo_r1 : List Cond := [Cond.constant RX3 35 (-40960000), Cond.constant RX3 36 (40960000), Cond.constant RX3 43 (-2000000002), Cond.fieldLink RX3 31 "TankFilter" "trial" "LTankFilter$Estimate;", Cond.fieldLink RX3 10 "TankFilter" "now" "LTankFilter$Memory;", Cond.constant RX3 143 (-2000000001), Cond.methodLink RX3 37 yX3_isOutside, Cond.static yX3_isOutside, Cond.initialized RX3, Cond.code yX3_isOutside cX3_isOutside 3 (some .boolean), Cond.methodLink RX3 44 yX3_fail, Cond.instanceMethod yX3_fail, Cond.selects RX3 yX3_fail yX3_fail, Cond.code yX3_fail cX3_fail 3 (some .int), Cond.fieldLink RX3 24 "TankFilter" "errors" "[I", Cond.instanceMethod yX0_copyFrom, Cond.initialized RX0, Cond.selects RX0 yX0_copyFrom yX0_copyFrom, Cond.code yX0_copyFrom cX0_copyFrom 2 none, Cond.fieldLink RX0 9 "TankFilter$Estimate" "level" "J", Cond.fieldLink RX0 15 "TankFilter$Estimate" "flow" "J", Cond.fieldLink RX0 20 "TankFilter$Estimate" "levelVariance" "J", Cond.fieldLink RX0 23 "TankFilter$Estimate" "covariance" "J", Cond.fieldLink RX0 26 "TankFilter$Estimate" "flowVariance" "J"]
def wsX3_stepsTo_r2 : List Cond := [Cond.fieldLink RX0 31 "TankFilter$Estimate" "innovation" "J", Cond.fieldLink RX0 34 "TankFilter$Estimate" "levelGain" "J", Cond.fieldLink RX0 37 "TankFilter$Estimate" "flowGain" "J", Cond.instanceMethod yX0_advance, Cond.selects RX0 yX0_advance yX0_advance, Cond.code yX0_advance cX0_advance 7 (some .boolean), Cond.constantLong RX0 40 (2), Cond.methodLink RX0 42 yX0_move, Cond.instanceMethod yX0_move, Cond.selects RX0 yX0_move yX0_move, Cond.code yX0_move cX0_move 15 (some .boolean), Cond.methodLink RX0 62 Lib.MathLoose.max_long.x, Cond.static Lib.MathLoose.max_long.x, Cond.initialized "java/lang/Math", Cond.code Lib.MathLoose.max_long.x Lib.MathLoose.max_long.code 4 (some .long), Cond.static yX3_isInLimit, Cond.code yX3_isInLimit cX3_isInLimit 2 (some .boolean), Cond.constantLong RX3 174 (-1000000000), Cond.constantLong RX3 176 (1000000000)]
def wsX3_stepsTo : List Cond := .code yX3_stepsTo cX3_stepsTo 4 (some .int) :: ((wsX3_stepsTo_r1 ++ wsX3_stepsTo_r2) ++ wsX30 ++ wsX20 ++ wsX00)
def wsX3_runCyclesUntilSteady_r1 : List Cond := [Cond.fieldLink RX3 31 "TankFilter" "trial" "LTankFilter$Estimate;", Cond.fieldLink RX3 10 "TankFilter" "now" "LTankFilter$Memory;", Cond.constant RX3 106 (-2000000004), Cond.constant RX3 143 (-2000000001), Cond.instanceMethod yX0_copyFrom, Cond.initialized RX0, Cond.selects RX0 yX0_copyFrom yX0_copyFrom, Cond.code yX0_copyFrom cX0_copyFrom 2 none, Cond.fieldLink RX0 9 "TankFilter$Estimate" "level" "J", Cond.fieldLink RX0 15 "TankFilter$Estimate" "flow" "J", Cond.fieldLink RX0 20 "TankFilter$Estimate" "levelVariance" "J", Cond.fieldLink RX0 23 "TankFilter$Estimate" "covariance" "J", Cond.fieldLink RX0 26 "TankFilter$Estimate" "flowVariance" "J", Cond.fieldLink RX0 31 "TankFilter$Estimate" "innovation" "J", Cond.fieldLink RX0 34 "TankFilter$Estimate" "levelGain" "J", Cond.fieldLink RX0 37 "TankFilter$Estimate" "flowGain" "J", Cond.instanceMethod yX0_advance, Cond.selects RX0 yX0_advance yX0_advance, Cond.code yX0_advance cX0_advance 7 (some .boolean), Cond.constantLong RX0 40 (2), Cond.methodLink RX0 42 yX0_move, Cond.instanceMethod yX0_move, Cond.selects RX0 yX0_move yX0_move, Cond.code yX0_move cX0_move 15 (some .boolean)]
def wsX3_runCyclesUntilSteady_r2 : List Cond := [Cond.methodLink RX0 62 Lib.MathLoose.max_long.x, Cond.static Lib.MathLoose.max_long.x, Cond.initialized "java/lang/Math", Cond.code Lib.MathLoose.max_long.x Lib.MathLoose.max_long.code 4 (some .long), Cond.static yX3_isInLimit, Cond.initialized RX3, Cond.code yX3_isInLimit cX3_isInLimit 2 (some .boolean), Cond.constantLong RX3 174 (-1000000000), Cond.constantLong RX3 176 (1000000000), Cond.instanceMethod yX0_mean, Cond.selects RX0 yX0_mean yX0_mean, Cond.code yX0_mean cX0_mean 2 (some .long), Cond.instanceMethod yX0_take, Cond.selects RX0 yX0_take yX0_take, Cond.code yX0_take cX0_take 22 (some .int), Cond.constantLong RX0 18 (4096), Cond.constant RX0 58 (-2000000004), Cond.methodLink RX0 46 yX0_mean, Cond.static yX3_dividedBy, Cond.code yX3_dividedBy cX3_dividedBy 4 (some .long), Cond.constantLong RX3 180 (4096), Cond.constantLong RX3 187 (2), Cond.methodLink RX3 182 yJ9_floorDiv_f86c9, Cond.static yJ9_floorDiv_f86c9]
def wsX3_runCyclesUntilSteady_r3 : List Cond := [Cond.initialized RJ9, Cond.code yJ9_floorDiv_f86c9 cJ9_floorDiv_f86c9 6 (some .long), Cond.static yX3_times, Cond.code yX3_times cX3_times 4 (some .long), Cond.constantLong RX3 178 (2048)]
def wsX3_runCyclesUntilSteady : List Cond := .code yX3_runCyclesUntilSteady cX3_runCyclesUntilSteady 10 (some .int) :: ((wsX3_runCyclesUntilSteady_r1 ++ (wsX3_runCyclesUntilSteady_r2 ++ wsX3_runCyclesUntilSteady_r3)) ++ wsX30 ++ wsX20 ++ wsX00)
def wsX3_steadyCycles_r1 : List Cond := [Cond.constant RX3 43 (-2000000002), Cond.fieldLink RX3 10 "TankFilter" "now" "LTankFilter$Memory;", Cond.methodLink RX3 82 yX3_isSensor, Cond.static yX3_isSensor, Cond.initialized RX3, Cond.code yX3_isSensor cX3_isSensor 1 (some .boolean), Cond.methodLink RX3 37 yX3_isOutside, Cond.static yX3_isOutside, Cond.code yX3_isOutside cX3_isOutside 3 (some .boolean), Cond.methodLink RX3 44 yX3_fail, Cond.instanceMethod yX3_fail, Cond.selects RX3 yX3_fail yX3_fail, Cond.code yX3_fail cX3_fail 3 (some .int), Cond.fieldLink RX3 24 "TankFilter" "errors" "[I", Cond.methodLink RX3 144 yX3_runCyclesUntilSteady, Cond.instanceMethod yX3_runCyclesUntilSteady, Cond.selects RX3 yX3_runCyclesUntilSteady yX3_runCyclesUntilSteady, Cond.code yX3_runCyclesUntilSteady cX3_runCyclesUntilSteady 10 (some .int), Cond.fieldLink RX3 31 "TankFilter" "trial" "LTankFilter$Estimate;", Cond.constant RX3 106 (-2000000004), Cond.constant RX3 143 (-2000000001), Cond.instanceMethod yX0_copyFrom, Cond.initialized RX0, Cond.selects RX0 yX0_copyFrom yX0_copyFrom]
def wsX3_steadyCycles_r2 : List Cond := [Cond.code yX0_copyFrom cX0_copyFrom 2 none, Cond.fieldLink RX0 9 "TankFilter$Estimate" "level" "J", Cond.fieldLink RX0 15 "TankFilter$Estimate" "flow" "J", Cond.fieldLink RX0 20 "TankFilter$Estimate" "levelVariance" "J", Cond.fieldLink RX0 23 "TankFilter$Estimate" "covariance" "J", Cond.fieldLink RX0 26 "TankFilter$Estimate" "flowVariance" "J", Cond.fieldLink RX0 31 "TankFilter$Estimate" "innovation" "J", Cond.fieldLink RX0 34 "TankFilter$Estimate" "levelGain" "J", Cond.fieldLink RX0 37 "TankFilter$Estimate" "flowGain" "J", Cond.instanceMethod yX0_advance, Cond.selects RX0 yX0_advance yX0_advance, Cond.code yX0_advance cX0_advance 7 (some .boolean), Cond.constantLong RX0 40 (2), Cond.methodLink RX0 42 yX0_move, Cond.instanceMethod yX0_move, Cond.selects RX0 yX0_move yX0_move, Cond.code yX0_move cX0_move 15 (some .boolean), Cond.methodLink RX0 62 Lib.MathLoose.max_long.x, Cond.static Lib.MathLoose.max_long.x, Cond.initialized "java/lang/Math", Cond.code Lib.MathLoose.max_long.x Lib.MathLoose.max_long.code 4 (some .long), Cond.static yX3_isInLimit, Cond.code yX3_isInLimit cX3_isInLimit 2 (some .boolean), Cond.constantLong RX3 174 (-1000000000)]
def wsX3_steadyCycles_r3 : List Cond := [Cond.constantLong RX3 176 (1000000000), Cond.instanceMethod yX0_mean, Cond.selects RX0 yX0_mean yX0_mean, Cond.code yX0_mean cX0_mean 2 (some .long), Cond.instanceMethod yX0_take, Cond.selects RX0 yX0_take yX0_take, Cond.code yX0_take cX0_take 22 (some .int), Cond.constantLong RX0 18 (4096), Cond.constant RX0 58 (-2000000004), Cond.methodLink RX0 46 yX0_mean, Cond.static yX3_dividedBy, Cond.code yX3_dividedBy cX3_dividedBy 4 (some .long), Cond.constantLong RX3 180 (4096), Cond.constantLong RX3 187 (2), Cond.methodLink RX3 182 yJ9_floorDiv_f86c9, Cond.static yJ9_floorDiv_f86c9, Cond.initialized RJ9, Cond.code yJ9_floorDiv_f86c9 cJ9_floorDiv_f86c9 6 (some .long), Cond.static yX3_times, Cond.code yX3_times cX3_times 4 (some .long), Cond.constantLong RX3 178 (2048)]
def wsX3_steadyCycles : List Cond := .code yX3_steadyCycles cX3_steadyCycles 2 (some .int) :: ((wsX3_steadyCycles_r1 ++ (wsX3_steadyCycles_r2 ++ wsX3_steadyCycles_r3)) ++ wsX30 ++ wsX20 ++ wsX00)
def wsX3_steadyGain_r1 : List Cond := [Cond.constant RX3 43 (-2000000002), Cond.fieldLink RX3 10 "TankFilter" "now" "LTankFilter$Memory;", Cond.constant RX3 143 (-2000000001), Cond.fieldLink RX3 31 "TankFilter" "trial" "LTankFilter$Estimate;", Cond.methodLink RX3 82 yX3_isSensor, Cond.static yX3_isSensor, Cond.initialized RX3, Cond.code yX3_isSensor cX3_isSensor 1 (some .boolean), Cond.methodLink RX3 37 yX3_isOutside, Cond.static yX3_isOutside, Cond.code yX3_isOutside cX3_isOutside 3 (some .boolean), Cond.methodLink RX3 86 yX3_isKind, Cond.static yX3_isKind, Cond.code yX3_isKind cX3_isKind 1 (some .boolean), Cond.methodLink RX3 44 yX3_fail, Cond.instanceMethod yX3_fail, Cond.selects RX3 yX3_fail yX3_fail, Cond.code yX3_fail cX3_fail 3 (some .int), Cond.fieldLink RX3 24 "TankFilter" "errors" "[I", Cond.methodLink RX3 144 yX3_runCyclesUntilSteady, Cond.instanceMethod yX3_runCyclesUntilSteady, Cond.selects RX3 yX3_runCyclesUntilSteady yX3_runCyclesUntilSteady, Cond.code yX3_runCyclesUntilSteady cX3_runCyclesUntilSteady 10 (some .int), Cond.constant RX3 106 (-2000000004)]
def wsX3_steadyGain_r2 : List Cond := [Cond.instanceMethod yX0_copyFrom, Cond.initialized RX0, Cond.selects RX0 yX0_copyFrom yX0_copyFrom, Cond.code yX0_copyFrom cX0_copyFrom 2 none, Cond.fieldLink RX0 9 "TankFilter$Estimate" "level" "J", Cond.fieldLink RX0 15 "TankFilter$Estimate" "flow" "J", Cond.fieldLink RX0 20 "TankFilter$Estimate" "levelVariance" "J", Cond.fieldLink RX0 23 "TankFilter$Estimate" "covariance" "J", Cond.fieldLink RX0 26 "TankFilter$Estimate" "flowVariance" "J", Cond.fieldLink RX0 31 "TankFilter$Estimate" "innovation" "J", Cond.fieldLink RX0 34 "TankFilter$Estimate" "levelGain" "J", Cond.fieldLink RX0 37 "TankFilter$Estimate" "flowGain" "J", Cond.instanceMethod yX0_advance, Cond.selects RX0 yX0_advance yX0_advance, Cond.code yX0_advance cX0_advance 7 (some .boolean), Cond.constantLong RX0 40 (2), Cond.methodLink RX0 42 yX0_move, Cond.instanceMethod yX0_move, Cond.selects RX0 yX0_move yX0_move, Cond.code yX0_move cX0_move 15 (some .boolean), Cond.methodLink RX0 62 Lib.MathLoose.max_long.x, Cond.static Lib.MathLoose.max_long.x, Cond.initialized "java/lang/Math", Cond.code Lib.MathLoose.max_long.x Lib.MathLoose.max_long.code 4 (some .long)]
def wsX3_steadyGain_r3 : List Cond := [Cond.static yX3_isInLimit, Cond.code yX3_isInLimit cX3_isInLimit 2 (some .boolean), Cond.constantLong RX3 174 (-1000000000), Cond.constantLong RX3 176 (1000000000), Cond.instanceMethod yX0_mean, Cond.selects RX0 yX0_mean yX0_mean, Cond.code yX0_mean cX0_mean 2 (some .long), Cond.instanceMethod yX0_take, Cond.selects RX0 yX0_take yX0_take, Cond.code yX0_take cX0_take 22 (some .int), Cond.constantLong RX0 18 (4096), Cond.constant RX0 58 (-2000000004), Cond.methodLink RX0 46 yX0_mean, Cond.static yX3_dividedBy, Cond.code yX3_dividedBy cX3_dividedBy 4 (some .long), Cond.constantLong RX3 180 (4096), Cond.constantLong RX3 187 (2), Cond.methodLink RX3 182 yJ9_floorDiv_f86c9, Cond.static yJ9_floorDiv_f86c9, Cond.initialized RJ9, Cond.code yJ9_floorDiv_f86c9 cJ9_floorDiv_f86c9 6 (some .long), Cond.static yX3_times, Cond.code yX3_times cX3_times 4 (some .long), Cond.constantLong RX3 178 (2048)]
def wsX3_steadyGain : List Cond := .code yX3_steadyGain cX3_steadyGain 4 (some .int) :: ((wsX3_steadyGain_r1 ++ (wsX3_steadyGain_r2 ++ wsX3_steadyGain_r3)) ++ wsX30 ++ wsX20 ++ wsX00)
def wsX3_runReplay_r1 : List Cond := [Cond.fieldLink RX3 31 "TankFilter" "trial" "LTankFilter$Estimate;", Cond.fieldLink RX3 10 "TankFilter" "now" "LTankFilter$Memory;", Cond.constant RX3 106 (-2000000004), Cond.methodLink RX3 204 Lib.MathLoose.abs_long.x, Cond.static Lib.MathLoose.abs_long.x, Cond.initialized "java/lang/Math", Cond.code Lib.MathLoose.abs_long.x Lib.MathLoose.abs_long.code 2 (some .long), Cond.instanceMethod yX0_copyFrom, Cond.initialized RX0, Cond.selects RX0 yX0_copyFrom yX0_copyFrom, Cond.code yX0_copyFrom cX0_copyFrom 2 none, Cond.fieldLink RX0 9 "TankFilter$Estimate" "level" "J", Cond.fieldLink RX0 15 "TankFilter$Estimate" "flow" "J", Cond.fieldLink RX0 20 "TankFilter$Estimate" "levelVariance" "J", Cond.fieldLink RX0 23 "TankFilter$Estimate" "covariance" "J", Cond.fieldLink RX0 26 "TankFilter$Estimate" "flowVariance" "J", Cond.fieldLink RX0 31 "TankFilter$Estimate" "innovation" "J", Cond.fieldLink RX0 34 "TankFilter$Estimate" "levelGain" "J", Cond.fieldLink RX0 37 "TankFilter$Estimate" "flowGain" "J", Cond.methodLink RX3 82 yX3_isSensor, Cond.static yX3_isSensor, Cond.initialized RX3, Cond.code yX3_isSensor cX3_isSensor 1 (some .boolean), Cond.methodLink RX3 37 yX3_isOutside]
def wsX3_runReplay_r2 : List Cond := [Cond.static yX3_isOutside, Cond.code yX3_isOutside cX3_isOutside 3 (some .boolean), Cond.instanceMethod yX0_take, Cond.selects RX0 yX0_take yX0_take, Cond.code yX0_take cX0_take 22 (some .int), Cond.constantLong RX0 18 (4096), Cond.constant RX0 58 (-2000000004), Cond.methodLink RX0 46 yX0_mean, Cond.instanceMethod yX0_mean, Cond.selects RX0 yX0_mean yX0_mean, Cond.code yX0_mean cX0_mean 2 (some .long), Cond.static yX3_dividedBy, Cond.code yX3_dividedBy cX3_dividedBy 4 (some .long), Cond.constantLong RX3 180 (4096), Cond.constantLong RX3 187 (2), Cond.methodLink RX3 182 yJ9_floorDiv_f86c9, Cond.static yJ9_floorDiv_f86c9, Cond.initialized RJ9, Cond.code yJ9_floorDiv_f86c9 cJ9_floorDiv_f86c9 6 (some .long), Cond.static yX3_isInLimit, Cond.code yX3_isInLimit cX3_isInLimit 2 (some .boolean), Cond.constantLong RX3 174 (-1000000000), Cond.constantLong RX3 176 (1000000000), Cond.static yX3_times]
def wsX3_runReplay_r3 : List Cond := [Cond.code yX3_times cX3_times 4 (some .long), Cond.constantLong RX3 178 (2048), Cond.methodLink RX0 42 yX0_move, Cond.instanceMethod yX0_move, Cond.selects RX0 yX0_move yX0_move, Cond.code yX0_move cX0_move 15 (some .boolean), Cond.methodLink RX0 62 Lib.MathLoose.max_long.x, Cond.static Lib.MathLoose.max_long.x, Cond.code Lib.MathLoose.max_long.x Lib.MathLoose.max_long.code 4 (some .long), Cond.instanceMethod yX0_advance, Cond.selects RX0 yX0_advance yX0_advance, Cond.code yX0_advance cX0_advance 7 (some .boolean), Cond.constantLong RX0 40 (2), Cond.methodLink RX3 207 yX3_isInLimit]
def wsX3_runReplay : List Cond := .code yX3_runReplay cX3_runReplay 8 (some .int) :: ((wsX3_runReplay_r1 ++ (wsX3_runReplay_r2 ++ wsX3_runReplay_r3)) ++ wsX30 ++ wsX20 ++ wsX10 ++ wsX00)
def wsX3_replayError_r1 : List Cond := [Cond.constant RX3 42 (4096000), Cond.constant RX3 43 (-2000000002), Cond.fieldLink RX3 10 "TankFilter" "now" "LTankFilter$Memory;", Cond.constant RX3 152 (-2000000003), Cond.constant RX3 106 (-2000000004), Cond.methodLink RX3 37 yX3_isOutside, Cond.static yX3_isOutside, Cond.initialized RX3, Cond.code yX3_isOutside cX3_isOutside 3 (some .boolean), Cond.methodLink RX3 44 yX3_fail, Cond.instanceMethod yX3_fail, Cond.selects RX3 yX3_fail yX3_fail, Cond.code yX3_fail cX3_fail 3 (some .int), Cond.fieldLink RX3 24 "TankFilter" "errors" "[I", Cond.instanceMethod yX1_hasReading, Cond.initialized RX1, Cond.selects RX1 yX1_hasReading yX1_hasReading, Cond.code yX1_hasReading cX1_hasReading 2 (some .boolean), Cond.fieldLink RX1 18 "TankFilter$History" "size" "I", Cond.fieldLink RX1 9 "TankFilter$History" "sources" "[I", Cond.methodLink RX3 153 yX3_runReplay, Cond.instanceMethod yX3_runReplay, Cond.selects RX3 yX3_runReplay yX3_runReplay, Cond.code yX3_runReplay cX3_runReplay 8 (some .int)]
def wsX3_replayError_r2 : List Cond := [Cond.fieldLink RX3 31 "TankFilter" "trial" "LTankFilter$Estimate;", Cond.methodLink RX3 204 Lib.MathLoose.abs_long.x, Cond.static Lib.MathLoose.abs_long.x, Cond.initialized "java/lang/Math", Cond.code Lib.MathLoose.abs_long.x Lib.MathLoose.abs_long.code 2 (some .long), Cond.instanceMethod yX0_copyFrom, Cond.initialized RX0, Cond.selects RX0 yX0_copyFrom yX0_copyFrom, Cond.code yX0_copyFrom cX0_copyFrom 2 none, Cond.fieldLink RX0 9 "TankFilter$Estimate" "level" "J", Cond.fieldLink RX0 15 "TankFilter$Estimate" "flow" "J", Cond.fieldLink RX0 20 "TankFilter$Estimate" "levelVariance" "J", Cond.fieldLink RX0 23 "TankFilter$Estimate" "covariance" "J", Cond.fieldLink RX0 26 "TankFilter$Estimate" "flowVariance" "J", Cond.fieldLink RX0 31 "TankFilter$Estimate" "innovation" "J", Cond.fieldLink RX0 34 "TankFilter$Estimate" "levelGain" "J", Cond.fieldLink RX0 37 "TankFilter$Estimate" "flowGain" "J", Cond.methodLink RX3 82 yX3_isSensor, Cond.static yX3_isSensor, Cond.code yX3_isSensor cX3_isSensor 1 (some .boolean), Cond.instanceMethod yX0_take, Cond.selects RX0 yX0_take yX0_take, Cond.code yX0_take cX0_take 22 (some .int), Cond.constantLong RX0 18 (4096)]
def wsX3_replayError_r3 : List Cond := [Cond.constant RX0 58 (-2000000004), Cond.methodLink RX0 46 yX0_mean, Cond.instanceMethod yX0_mean, Cond.selects RX0 yX0_mean yX0_mean, Cond.code yX0_mean cX0_mean 2 (some .long), Cond.static yX3_dividedBy, Cond.code yX3_dividedBy cX3_dividedBy 4 (some .long), Cond.constantLong RX3 180 (4096), Cond.constantLong RX3 187 (2), Cond.methodLink RX3 182 yJ9_floorDiv_f86c9, Cond.static yJ9_floorDiv_f86c9, Cond.initialized RJ9, Cond.code yJ9_floorDiv_f86c9 cJ9_floorDiv_f86c9 6 (some .long), Cond.static yX3_isInLimit, Cond.code yX3_isInLimit cX3_isInLimit 2 (some .boolean), Cond.constantLong RX3 174 (-1000000000), Cond.constantLong RX3 176 (1000000000), Cond.static yX3_times, Cond.code yX3_times cX3_times 4 (some .long), Cond.constantLong RX3 178 (2048), Cond.methodLink RX0 42 yX0_move, Cond.instanceMethod yX0_move, Cond.selects RX0 yX0_move yX0_move, Cond.code yX0_move cX0_move 15 (some .boolean)]
def wsX3_replayError_r4 : List Cond := [Cond.methodLink RX0 62 Lib.MathLoose.max_long.x, Cond.static Lib.MathLoose.max_long.x, Cond.code Lib.MathLoose.max_long.x Lib.MathLoose.max_long.code 4 (some .long), Cond.instanceMethod yX0_advance, Cond.selects RX0 yX0_advance yX0_advance, Cond.code yX0_advance cX0_advance 7 (some .boolean), Cond.constantLong RX0 40 (2), Cond.methodLink RX3 207 yX3_isInLimit]
def wsX3_replayError : List Cond := .code yX3_replayError cX3_replayError 3 (some .int) :: ((wsX3_replayError_r1 ++ (wsX3_replayError_r2 ++ (wsX3_replayError_r3 ++ wsX3_replayError_r4))) ++ wsX30 ++ wsX20 ++ wsX10 ++ wsX00)
def wsX3_bestFlowNoise_r1 : List Cond := [Cond.fieldLink RX3 10 "TankFilter" "now" "LTankFilter$Memory;", Cond.constant RX3 152 (-2000000003), Cond.constant RX3 143 (-2000000001), Cond.constantLong RX3 156 (1000000001), Cond.fieldLink RX3 158 "TankFilter" "FLOW_NOISE_CANDIDATES" "[I", Cond.constant RX3 106 (-2000000004), Cond.instanceMethod yX1_hasReading, Cond.initialized RX1, Cond.selects RX1 yX1_hasReading yX1_hasReading, Cond.code yX1_hasReading cX1_hasReading 2 (some .boolean), Cond.fieldLink RX1 18 "TankFilter$History" "size" "I", Cond.fieldLink RX1 9 "TankFilter$History" "sources" "[I", Cond.methodLink RX3 44 yX3_fail, Cond.instanceMethod yX3_fail, Cond.selects RX3 yX3_fail yX3_fail, Cond.initialized RX3, Cond.code yX3_fail cX3_fail 3 (some .int), Cond.constant RX3 43 (-2000000002), Cond.fieldLink RX3 24 "TankFilter" "errors" "[I", Cond.methodLink RX3 153 yX3_runReplay, Cond.instanceMethod yX3_runReplay, Cond.selects RX3 yX3_runReplay yX3_runReplay, Cond.code yX3_runReplay cX3_runReplay 8 (some .int), Cond.fieldLink RX3 31 "TankFilter" "trial" "LTankFilter$Estimate;"]
def wsX3_bestFlowNoise_r2 : List Cond := [Cond.methodLink RX3 204 Lib.MathLoose.abs_long.x, Cond.static Lib.MathLoose.abs_long.x, Cond.initialized "java/lang/Math", Cond.code Lib.MathLoose.abs_long.x Lib.MathLoose.abs_long.code 2 (some .long), Cond.instanceMethod yX0_copyFrom, Cond.initialized RX0, Cond.selects RX0 yX0_copyFrom yX0_copyFrom, Cond.code yX0_copyFrom cX0_copyFrom 2 none, Cond.fieldLink RX0 9 "TankFilter$Estimate" "level" "J", Cond.fieldLink RX0 15 "TankFilter$Estimate" "flow" "J", Cond.fieldLink RX0 20 "TankFilter$Estimate" "levelVariance" "J", Cond.fieldLink RX0 23 "TankFilter$Estimate" "covariance" "J", Cond.fieldLink RX0 26 "TankFilter$Estimate" "flowVariance" "J", Cond.fieldLink RX0 31 "TankFilter$Estimate" "innovation" "J", Cond.fieldLink RX0 34 "TankFilter$Estimate" "levelGain" "J", Cond.fieldLink RX0 37 "TankFilter$Estimate" "flowGain" "J", Cond.methodLink RX3 82 yX3_isSensor, Cond.static yX3_isSensor, Cond.code yX3_isSensor cX3_isSensor 1 (some .boolean), Cond.methodLink RX3 37 yX3_isOutside, Cond.static yX3_isOutside, Cond.code yX3_isOutside cX3_isOutside 3 (some .boolean), Cond.instanceMethod yX0_take, Cond.selects RX0 yX0_take yX0_take]
def wsX3_bestFlowNoise_r3 : List Cond := [Cond.code yX0_take cX0_take 22 (some .int), Cond.constantLong RX0 18 (4096), Cond.constant RX0 58 (-2000000004), Cond.methodLink RX0 46 yX0_mean, Cond.instanceMethod yX0_mean, Cond.selects RX0 yX0_mean yX0_mean, Cond.code yX0_mean cX0_mean 2 (some .long), Cond.static yX3_dividedBy, Cond.code yX3_dividedBy cX3_dividedBy 4 (some .long), Cond.constantLong RX3 180 (4096), Cond.constantLong RX3 187 (2), Cond.methodLink RX3 182 yJ9_floorDiv_f86c9, Cond.static yJ9_floorDiv_f86c9, Cond.initialized RJ9, Cond.code yJ9_floorDiv_f86c9 cJ9_floorDiv_f86c9 6 (some .long), Cond.static yX3_isInLimit, Cond.code yX3_isInLimit cX3_isInLimit 2 (some .boolean), Cond.constantLong RX3 174 (-1000000000), Cond.constantLong RX3 176 (1000000000), Cond.static yX3_times, Cond.code yX3_times cX3_times 4 (some .long), Cond.constantLong RX3 178 (2048), Cond.methodLink RX0 42 yX0_move, Cond.instanceMethod yX0_move]
def wsX3_bestFlowNoise_r4 : List Cond := [Cond.selects RX0 yX0_move yX0_move, Cond.code yX0_move cX0_move 15 (some .boolean), Cond.methodLink RX0 62 Lib.MathLoose.max_long.x, Cond.static Lib.MathLoose.max_long.x, Cond.code Lib.MathLoose.max_long.x Lib.MathLoose.max_long.code 4 (some .long), Cond.instanceMethod yX0_advance, Cond.selects RX0 yX0_advance yX0_advance, Cond.code yX0_advance cX0_advance 7 (some .boolean), Cond.constantLong RX0 40 (2), Cond.methodLink RX3 207 yX3_isInLimit]
def wsX3_bestFlowNoise : List Cond := .code yX3_bestFlowNoise cX3_bestFlowNoise 6 (some .int) :: ((wsX3_bestFlowNoise_r1 ++ (wsX3_bestFlowNoise_r2 ++ (wsX3_bestFlowNoise_r3 ++ wsX3_bestFlowNoise_r4))) ++ wsX30 ++ wsX20 ++ wsX10 ++ wsX00)
def wsX3_undo_r1 : List Cond := [Cond.fieldLink RX3 20 "TankFilter" "savedCount" "I", Cond.fieldLink RX3 16 "TankFilter" "saved" "[LTankFilter$Memory;", Cond.constant RX3 152 (-2000000003), Cond.fieldLink RX3 10 "TankFilter" "now" "LTankFilter$Memory;", Cond.methodLink RX3 44 yX3_fail, Cond.instanceMethod yX3_fail, Cond.selects RX3 yX3_fail yX3_fail, Cond.initialized RX3, Cond.code yX3_fail cX3_fail 3 (some .int), Cond.constant RX3 43 (-2000000002), Cond.fieldLink RX3 24 "TankFilter" "errors" "[I", Cond.instanceMethod yX2_copyFrom, Cond.initialized RX2, Cond.selects RX2 yX2_copyFrom yX2_copyFrom, Cond.code yX2_copyFrom cX2_copyFrom 2 none, Cond.fieldLink RX2 12 "TankFilter$Memory" "estimate" "LTankFilter$Estimate;", Cond.fieldLink RX2 18 "TankFilter$Memory" "levelNoise" "I", Cond.fieldLink RX2 22 "TankFilter$Memory" "flowNoise" "I", Cond.fieldLink RX2 25 "TankFilter$Memory" "gate" "I", Cond.fieldLink RX2 28 "TankFilter$Memory" "sensorKinds" "[I", Cond.fieldLink RX2 32 "TankFilter$Memory" "sensorVariances" "[I", Cond.fieldLink RX2 35 "TankFilter$Memory" "acceptedCount" "I", Cond.fieldLink RX2 38 "TankFilter$Memory" "rejectedCount" "I", Cond.fieldLink RX2 41 "TankFilter$Memory" "missedCount" "I"]
def wsX3_undo_r2 : List Cond := [Cond.fieldLink RX2 47 "TankFilter$Memory" "history" "LTankFilter$History;", Cond.instanceMethod yX0_copyFrom, Cond.initialized RX0, Cond.selects RX0 yX0_copyFrom yX0_copyFrom, Cond.code yX0_copyFrom cX0_copyFrom 2 none, Cond.fieldLink RX0 9 "TankFilter$Estimate" "level" "J", Cond.fieldLink RX0 15 "TankFilter$Estimate" "flow" "J", Cond.fieldLink RX0 20 "TankFilter$Estimate" "levelVariance" "J", Cond.fieldLink RX0 23 "TankFilter$Estimate" "covariance" "J", Cond.fieldLink RX0 26 "TankFilter$Estimate" "flowVariance" "J", Cond.fieldLink RX0 31 "TankFilter$Estimate" "innovation" "J", Cond.fieldLink RX0 34 "TankFilter$Estimate" "levelGain" "J", Cond.fieldLink RX0 37 "TankFilter$Estimate" "flowGain" "J", Cond.static yX3_copyRow, Cond.code yX3_copyRow cX3_copyRow 3 none, Cond.instanceMethod yX1_copyFrom, Cond.initialized RX1, Cond.selects RX1 yX1_copyFrom yX1_copyFrom, Cond.code yX1_copyFrom cX1_copyFrom 2 none, Cond.fieldLink RX1 9 "TankFilter$History" "sources" "[I", Cond.fieldLink RX1 15 "TankFilter$History" "values" "[I", Cond.fieldLink RX1 18 "TankFilter$History" "size" "I"]
def wsX3_undo : List Cond := .code yX3_undo cX3_undo 1 (some .int) :: ((wsX3_undo_r1 ++ wsX3_undo_r2) ++ wsX30 ++ wsX20 ++ wsX00 ++ wsX10)
def wsX3_errorCount : List Cond := .code yX3_errorCount cX3_errorCount 2 (some .int) :: ([.constant RX3 43 (-2000000002), .fieldLink RX3 24 "TankFilter" "errors" "[I", .methodLink RX3 37 yX3_isOutside, .static yX3_isOutside, .initialized RX3, .code yX3_isOutside cX3_isOutside 3 (some .boolean), .methodLink RX3 44 yX3_fail, .instanceMethod yX3_fail, .selects RX3 yX3_fail yX3_fail, .code yX3_fail cX3_fail 3 (some .int)] ++ wsX30)
def wsX3_digest_r1 : List Cond := [Cond.constantLong RX3 164 (12254), Cond.fieldLink RX3 24 "TankFilter" "errors" "[I", Cond.fieldLink RX3 20 "TankFilter" "savedCount" "I", Cond.fieldLink RX3 10 "TankFilter" "now" "LTankFilter$Memory;", Cond.methodLink RX3 166 yX3_mix, Cond.static yX3_mix, Cond.initialized RX3, Cond.code yX3_mix cX3_mix 4 (some .long), Cond.constantLong RX3 189 (31), Cond.instanceMethod yX2_mixInto, Cond.initialized RX2, Cond.selects RX2 yX2_mixInto yX2_mixInto, Cond.code yX2_mixInto cX2_mixInto 4 (some .long), Cond.fieldLink RX2 12 "TankFilter$Memory" "estimate" "LTankFilter$Estimate;", Cond.fieldLink RX2 18 "TankFilter$Memory" "levelNoise" "I", Cond.fieldLink RX2 22 "TankFilter$Memory" "flowNoise" "I", Cond.fieldLink RX2 25 "TankFilter$Memory" "gate" "I", Cond.fieldLink RX2 28 "TankFilter$Memory" "sensorKinds" "[I", Cond.fieldLink RX2 32 "TankFilter$Memory" "sensorVariances" "[I", Cond.fieldLink RX2 35 "TankFilter$Memory" "acceptedCount" "I", Cond.fieldLink RX2 38 "TankFilter$Memory" "rejectedCount" "I", Cond.fieldLink RX2 41 "TankFilter$Memory" "missedCount" "I", Cond.fieldLink RX2 47 "TankFilter$Memory" "history" "LTankFilter$History;", Cond.instanceMethod yX0_mixStateInto]
def wsX3_digest_r2 : List Cond := [Cond.initialized RX0, Cond.selects RX0 yX0_mixStateInto yX0_mixStateInto, Cond.code yX0_mixStateInto cX0_mixStateInto 3 (some .long), Cond.fieldLink RX0 9 "TankFilter$Estimate" "level" "J", Cond.fieldLink RX0 15 "TankFilter$Estimate" "flow" "J", Cond.fieldLink RX0 20 "TankFilter$Estimate" "levelVariance" "J", Cond.fieldLink RX0 23 "TankFilter$Estimate" "covariance" "J", Cond.fieldLink RX0 26 "TankFilter$Estimate" "flowVariance" "J", Cond.instanceMethod yX0_mixLatestReadingInto, Cond.selects RX0 yX0_mixLatestReadingInto yX0_mixLatestReadingInto, Cond.code yX0_mixLatestReadingInto cX0_mixLatestReadingInto 3 (some .long), Cond.fieldLink RX0 31 "TankFilter$Estimate" "innovation" "J", Cond.fieldLink RX0 34 "TankFilter$Estimate" "levelGain" "J", Cond.fieldLink RX0 37 "TankFilter$Estimate" "flowGain" "J", Cond.instanceMethod yX1_mixInto, Cond.initialized RX1, Cond.selects RX1 yX1_mixInto yX1_mixInto, Cond.code yX1_mixInto cX1_mixInto 4 (some .long), Cond.fieldLink RX1 18 "TankFilter$History" "size" "I", Cond.fieldLink RX1 9 "TankFilter$History" "sources" "[I", Cond.fieldLink RX1 15 "TankFilter$History" "values" "[I"]
def wsX3_digest : List Cond := .code yX3_digest cX3_digest 4 (some .long) :: ((wsX3_digest_r1 ++ wsX3_digest_r2) ++ wsX30 ++ wsX20 ++ wsX10 ++ wsX00)
def wsX4_forget : List Cond := .code yX4_forget cX4_forget 2 none :: ([.fieldLink RX4 7 "TankFilterModel" "s" "[I", .constant RX4 27 (-2000000001)] ++ wsX40)
def wsX4_init : List Cond := .code yX4_init cX4_init 2 none :: ([.methodLink RX4 1 objectInit, .instanceMethod objectInit, .code objectInit ⟨#[0xb1]⟩ 1 none, .arrayClass .int, .fieldLink RX4 7 "TankFilterModel" "s" "[I", .fieldLink RX4 13 "TankFilterModel" "past" "[I", .fieldLink RX4 16 "TankFilterModel" "errors" "[I", .arrayClass .long, .fieldLink RX4 19 "TankFilterModel" "now" "[J", .methodLink RX4 23 yX4_forget, .instanceMethod yX4_forget, .selects RX4 yX4_forget yX4_forget, .initialized RX4, .code yX4_forget cX4_forget 2 none, .constant RX4 27 (-2000000001)] ++ wsX40)
def wsX4_in : List Cond := .code yX4_in cX4_in 3 (some .boolean) :: ([])
def wsX4_fail : List Cond := .code yX4_fail cX4_fail 2 (some .int) :: ([.fieldLink RX4 16 "TankFilterModel" "errors" "[I", .constant RX4 26 (-2000000002)] ++ wsX40)
def wsX4_note : List Cond := .code yX4_note cX4_note 2 none :: ([.fieldLink RX4 28 "TankFilterModel" "pasts" "I", .fieldLink RX4 13 "TankFilterModel" "past" "[I", .fieldLink RX4 7 "TankFilterModel" "s" "[I"] ++ wsX40)
def wsX4_down : List Cond := .code yX4_down cX4_down 6 (some .long) :: ([])
def wsX4_mul : List Cond := .code yX4_mul cX4_mul 4 (some .long) :: ([.constantLong RX4 32 (2048), .constantLong RX4 34 (4096), .methodLink RX4 36 yX4_down, .static yX4_down, .initialized RX4, .code yX4_down cX4_down 6 (some .long)])
def wsX4_div : List Cond := .code yX4_div cX4_div 4 (some .long) :: ([.constantLong RX4 34 (4096), .constantLong RX4 40 (2), .methodLink RX4 36 yX4_down, .static yX4_down, .initialized RX4, .code yX4_down cX4_down 6 (some .long)])
def wsX4_isIn : List Cond := .code yX4_isIn cX4_isIn 2 (some .boolean) :: ([.constantLong RX4 42 (-1000000000), .constantLong RX4 44 (1000000000)])
def wsX4_take : List Cond := .code yX4_take cX4_take 2 none :: ([.fieldLink RX4 19 "TankFilterModel" "now" "[J", .fieldLink RX4 7 "TankFilterModel" "s" "[I"] ++ wsX40)
def wsX4_put : List Cond := .code yX4_put cX4_put 2 none :: ([.fieldLink RX4 7 "TankFilterModel" "s" "[I", .fieldLink RX4 19 "TankFilterModel" "now" "[J"] ++ wsX40)
def wsX4_predicts : List Cond := .code yX4_predicts cX4_predicts 11 (some .boolean) :: ([.fieldLink RX4 19 "TankFilterModel" "now" "[J", .constantLong RX4 40 (2), .fieldLink RX4 7 "TankFilterModel" "s" "[I", .methodLink RX4 46 yX4_isIn, .static yX4_isIn, .initialized RX4, .code yX4_isIn cX4_isIn 2 (some .boolean), .constantLong RX4 42 (-1000000000), .constantLong RX4 44 (1000000000)] ++ wsX40)
def wsX4_corrects : List Cond := .code yX4_corrects cX4_corrects 24 (some .int) :: ([.fieldLink RX4 7 "TankFilterModel" "s" "[I", .fieldLink RX4 19 "TankFilterModel" "now" "[J", .fieldLink RX4 50 "TankFilterModel" "innovation" "J", .constantLong RX4 34 (4096), .fieldLink RX4 60 "TankFilterModel" "levelGain" "J", .fieldLink RX4 63 "TankFilterModel" "flowGain" "J", .methodLink RX4 54 yX4_div, .static yX4_div, .initialized RX4, .code yX4_div cX4_div 4 (some .long), .constantLong RX4 40 (2), .methodLink RX4 36 yX4_down, .static yX4_down, .code yX4_down cX4_down 6 (some .long), .methodLink RX4 46 yX4_isIn, .static yX4_isIn, .code yX4_isIn cX4_isIn 2 (some .boolean), .constantLong RX4 42 (-1000000000), .constantLong RX4 44 (1000000000), .methodLink RX4 57 yX4_mul, .static yX4_mul, .code yX4_mul cX4_mul 4 (some .long), .constantLong RX4 32 (2048)] ++ wsX40)
def wsX4_reset_r1 : List Cond := [Cond.constant RX4 66 (-40960000), Cond.constant RX4 67 (40960000), Cond.constant RX4 72 (-4096000), Cond.constant RX4 73 (4096000), Cond.constant RX4 26 (-2000000002), Cond.fieldLink RX4 7 "TankFilterModel" "s" "[I", Cond.methodLink RX4 68 yX4_in, Cond.static yX4_in, Cond.initialized RX4, Cond.code yX4_in cX4_in 3 (some .boolean), Cond.methodLink RX4 74 yX4_fail, Cond.instanceMethod yX4_fail, Cond.selects RX4 yX4_fail yX4_fail, Cond.code yX4_fail cX4_fail 2 (some .int), Cond.fieldLink RX4 16 "TankFilterModel" "errors" "[I", Cond.methodLink RX4 78 yX4_note, Cond.instanceMethod yX4_note, Cond.selects RX4 yX4_note yX4_note, Cond.code yX4_note cX4_note 2 none, Cond.fieldLink RX4 28 "TankFilterModel" "pasts" "I", Cond.fieldLink RX4 13 "TankFilterModel" "past" "[I", Cond.methodLink RX4 23 yX4_forget, Cond.instanceMethod yX4_forget, Cond.selects RX4 yX4_forget yX4_forget]
def wsX4_reset_r2 : List Cond := [Cond.code yX4_forget cX4_forget 2 none, Cond.constant RX4 27 (-2000000001)]
def wsX4_reset : List Cond := .code yX4_reset cX4_reset 6 (some .int) :: ((wsX4_reset_r1 ++ wsX4_reset_r2) ++ wsX40)
def wsX4_setProcessNoise : List Cond := .code yX4_setProcessNoise cX4_setProcessNoise 4 (some .int) :: ([.constant RX4 73 (4096000), .constant RX4 26 (-2000000002), .fieldLink RX4 7 "TankFilterModel" "s" "[I", .methodLink RX4 68 yX4_in, .static yX4_in, .initialized RX4, .code yX4_in cX4_in 3 (some .boolean), .methodLink RX4 74 yX4_fail, .instanceMethod yX4_fail, .selects RX4 yX4_fail yX4_fail, .code yX4_fail cX4_fail 2 (some .int), .fieldLink RX4 16 "TankFilterModel" "errors" "[I", .methodLink RX4 78 yX4_note, .instanceMethod yX4_note, .selects RX4 yX4_note yX4_note, .code yX4_note cX4_note 2 none, .fieldLink RX4 28 "TankFilterModel" "pasts" "I", .fieldLink RX4 13 "TankFilterModel" "past" "[I"] ++ wsX40)
def wsX4_isSensor : List Cond := .code yX4_isSensor cX4_isSensor 1 (some .boolean) :: ([.methodLink RX4 68 yX4_in, .static yX4_in, .initialized RX4, .code yX4_in cX4_in 3 (some .boolean)])
def wsX4_setSensor : List Cond := .code yX4_setSensor cX4_setSensor 5 (some .int) :: ([.constant RX4 67 (40960000), .constant RX4 26 (-2000000002), .fieldLink RX4 7 "TankFilterModel" "s" "[I", .methodLink RX4 81 yX4_isSensor, .static yX4_isSensor, .initialized RX4, .code yX4_isSensor cX4_isSensor 1 (some .boolean), .methodLink RX4 68 yX4_in, .static yX4_in, .code yX4_in cX4_in 3 (some .boolean), .methodLink RX4 74 yX4_fail, .instanceMethod yX4_fail, .selects RX4 yX4_fail yX4_fail, .code yX4_fail cX4_fail 2 (some .int), .fieldLink RX4 16 "TankFilterModel" "errors" "[I", .methodLink RX4 78 yX4_note, .instanceMethod yX4_note, .selects RX4 yX4_note yX4_note, .code yX4_note cX4_note 2 none, .fieldLink RX4 28 "TankFilterModel" "pasts" "I", .fieldLink RX4 13 "TankFilterModel" "past" "[I"] ++ wsX40)
def wsX4_setGate : List Cond := .code yX4_setGate cX4_setGate 3 (some .int) :: ([.constant RX4 26 (-2000000002), .fieldLink RX4 7 "TankFilterModel" "s" "[I", .methodLink RX4 68 yX4_in, .static yX4_in, .initialized RX4, .code yX4_in cX4_in 3 (some .boolean), .methodLink RX4 74 yX4_fail, .instanceMethod yX4_fail, .selects RX4 yX4_fail yX4_fail, .code yX4_fail cX4_fail 2 (some .int), .fieldLink RX4 16 "TankFilterModel" "errors" "[I", .methodLink RX4 78 yX4_note, .instanceMethod yX4_note, .selects RX4 yX4_note yX4_note, .code yX4_note cX4_note 2 none, .fieldLink RX4 28 "TankFilterModel" "pasts" "I", .fieldLink RX4 13 "TankFilterModel" "past" "[I"] ++ wsX40)
def wsX4_record : List Cond := .code yX4_record cX4_record 4 none :: ([.fieldLink RX4 7 "TankFilterModel" "s" "[I"] ++ wsX40)
def wsX4_predict_r1 : List Cond := [Cond.constant RX4 72 (-4096000), Cond.constant RX4 73 (4096000), Cond.constant RX4 26 (-2000000002), Cond.fieldLink RX4 7 "TankFilterModel" "s" "[I", Cond.constant RX4 92 (-2000000004), Cond.methodLink RX4 68 yX4_in, Cond.static yX4_in, Cond.initialized RX4, Cond.code yX4_in cX4_in 3 (some .boolean), Cond.methodLink RX4 74 yX4_fail, Cond.instanceMethod yX4_fail, Cond.selects RX4 yX4_fail yX4_fail, Cond.code yX4_fail cX4_fail 2 (some .int), Cond.fieldLink RX4 16 "TankFilterModel" "errors" "[I", Cond.methodLink RX4 85 yX4_take, Cond.instanceMethod yX4_take, Cond.selects RX4 yX4_take yX4_take, Cond.code yX4_take cX4_take 2 none, Cond.fieldLink RX4 19 "TankFilterModel" "now" "[J", Cond.methodLink RX4 88 yX4_predicts, Cond.instanceMethod yX4_predicts, Cond.selects RX4 yX4_predicts yX4_predicts, Cond.code yX4_predicts cX4_predicts 11 (some .boolean), Cond.constantLong RX4 40 (2)]
def wsX4_predict_r2 : List Cond := [Cond.methodLink RX4 46 yX4_isIn, Cond.static yX4_isIn, Cond.code yX4_isIn cX4_isIn 2 (some .boolean), Cond.constantLong RX4 42 (-1000000000), Cond.constantLong RX4 44 (1000000000), Cond.methodLink RX4 78 yX4_note, Cond.instanceMethod yX4_note, Cond.selects RX4 yX4_note yX4_note, Cond.code yX4_note cX4_note 2 none, Cond.fieldLink RX4 28 "TankFilterModel" "pasts" "I", Cond.fieldLink RX4 13 "TankFilterModel" "past" "[I", Cond.methodLink RX4 93 yX4_put, Cond.instanceMethod yX4_put, Cond.selects RX4 yX4_put yX4_put, Cond.code yX4_put cX4_put 2 none, Cond.methodLink RX4 96 yX4_record, Cond.instanceMethod yX4_record, Cond.selects RX4 yX4_record yX4_record, Cond.code yX4_record cX4_record 4 none]
def wsX4_predict : List Cond := .code yX4_predict cX4_predict 2 (some .int) :: ((wsX4_predict_r1 ++ wsX4_predict_r2) ++ wsX40)
def wsX4_correct_r1 : List Cond := [Cond.constant RX4 66 (-40960000), Cond.constant RX4 67 (40960000), Cond.constant RX4 26 (-2000000002), Cond.fieldLink RX4 7 "TankFilterModel" "s" "[I", Cond.constant RX4 92 (-2000000004), Cond.fieldLink RX4 50 "TankFilterModel" "innovation" "J", Cond.fieldLink RX4 60 "TankFilterModel" "levelGain" "J", Cond.fieldLink RX4 63 "TankFilterModel" "flowGain" "J", Cond.methodLink RX4 81 yX4_isSensor, Cond.static yX4_isSensor, Cond.initialized RX4, Cond.code yX4_isSensor cX4_isSensor 1 (some .boolean), Cond.methodLink RX4 68 yX4_in, Cond.static yX4_in, Cond.code yX4_in cX4_in 3 (some .boolean), Cond.methodLink RX4 74 yX4_fail, Cond.instanceMethod yX4_fail, Cond.selects RX4 yX4_fail yX4_fail, Cond.code yX4_fail cX4_fail 2 (some .int), Cond.fieldLink RX4 16 "TankFilterModel" "errors" "[I", Cond.methodLink RX4 85 yX4_take, Cond.instanceMethod yX4_take, Cond.selects RX4 yX4_take yX4_take, Cond.code yX4_take cX4_take 2 none]
def wsX4_correct_r2 : List Cond := [Cond.fieldLink RX4 19 "TankFilterModel" "now" "[J", Cond.methodLink RX4 100 yX4_corrects, Cond.instanceMethod yX4_corrects, Cond.selects RX4 yX4_corrects yX4_corrects, Cond.code yX4_corrects cX4_corrects 24 (some .int), Cond.constantLong RX4 34 (4096), Cond.methodLink RX4 54 yX4_div, Cond.static yX4_div, Cond.code yX4_div cX4_div 4 (some .long), Cond.constantLong RX4 40 (2), Cond.methodLink RX4 36 yX4_down, Cond.static yX4_down, Cond.code yX4_down cX4_down 6 (some .long), Cond.methodLink RX4 46 yX4_isIn, Cond.static yX4_isIn, Cond.code yX4_isIn cX4_isIn 2 (some .boolean), Cond.constantLong RX4 42 (-1000000000), Cond.constantLong RX4 44 (1000000000), Cond.methodLink RX4 57 yX4_mul, Cond.static yX4_mul, Cond.code yX4_mul cX4_mul 4 (some .long), Cond.constantLong RX4 32 (2048), Cond.methodLink RX4 78 yX4_note, Cond.instanceMethod yX4_note]
def wsX4_correct_r3 : List Cond := [Cond.selects RX4 yX4_note yX4_note, Cond.code yX4_note cX4_note 2 none, Cond.fieldLink RX4 28 "TankFilterModel" "pasts" "I", Cond.fieldLink RX4 13 "TankFilterModel" "past" "[I", Cond.methodLink RX4 93 yX4_put, Cond.instanceMethod yX4_put, Cond.selects RX4 yX4_put yX4_put, Cond.code yX4_put cX4_put 2 none, Cond.methodLink RX4 96 yX4_record, Cond.instanceMethod yX4_record, Cond.selects RX4 yX4_record yX4_record, Cond.code yX4_record cX4_record 4 none]
def wsX4_correct : List Cond := .code yX4_correct cX4_correct 4 (some .int) :: ((wsX4_correct_r1 ++ (wsX4_correct_r2 ++ wsX4_correct_r3)) ++ wsX40)
def wsX4_miss : List Cond := .code yX4_miss cX4_miss 2 (some .int) :: ([.constant RX4 26 (-2000000002), .fieldLink RX4 7 "TankFilterModel" "s" "[I", .methodLink RX4 81 yX4_isSensor, .static yX4_isSensor, .initialized RX4, .code yX4_isSensor cX4_isSensor 1 (some .boolean), .methodLink RX4 68 yX4_in, .static yX4_in, .code yX4_in cX4_in 3 (some .boolean), .methodLink RX4 74 yX4_fail, .instanceMethod yX4_fail, .selects RX4 yX4_fail yX4_fail, .code yX4_fail cX4_fail 2 (some .int), .fieldLink RX4 16 "TankFilterModel" "errors" "[I", .methodLink RX4 78 yX4_note, .instanceMethod yX4_note, .selects RX4 yX4_note yX4_note, .code yX4_note cX4_note 2 none, .fieldLink RX4 28 "TankFilterModel" "pasts" "I", .fieldLink RX4 13 "TankFilterModel" "past" "[I"] ++ wsX40)
def wsX4_level : List Cond := .code yX4_level cX4_level 1 (some .int) :: ([.fieldLink RX4 7 "TankFilterModel" "s" "[I"] ++ wsX40)
def wsX4_flow : List Cond := .code yX4_flow cX4_flow 1 (some .int) :: ([.fieldLink RX4 7 "TankFilterModel" "s" "[I"] ++ wsX40)
def wsX4_levelVariance : List Cond := .code yX4_levelVariance cX4_levelVariance 1 (some .int) :: ([.fieldLink RX4 7 "TankFilterModel" "s" "[I"] ++ wsX40)
def wsX4_covariance : List Cond := .code yX4_covariance cX4_covariance 1 (some .int) :: ([.fieldLink RX4 7 "TankFilterModel" "s" "[I"] ++ wsX40)
def wsX4_flowVariance : List Cond := .code yX4_flowVariance cX4_flowVariance 1 (some .int) :: ([.fieldLink RX4 7 "TankFilterModel" "s" "[I"] ++ wsX40)
def wsX4_innovation : List Cond := .code yX4_innovation cX4_innovation 1 (some .int) :: ([.fieldLink RX4 7 "TankFilterModel" "s" "[I"] ++ wsX40)
def wsX4_levelGain : List Cond := .code yX4_levelGain cX4_levelGain 1 (some .int) :: ([.fieldLink RX4 7 "TankFilterModel" "s" "[I"] ++ wsX40)
def wsX4_flowGain : List Cond := .code yX4_flowGain cX4_flowGain 1 (some .int) :: ([.fieldLink RX4 7 "TankFilterModel" "s" "[I"] ++ wsX40)
def wsX4_accepted : List Cond := .code yX4_accepted cX4_accepted 1 (some .int) :: ([.fieldLink RX4 7 "TankFilterModel" "s" "[I"] ++ wsX40)
def wsX4_rejected : List Cond := .code yX4_rejected cX4_rejected 1 (some .int) :: ([.fieldLink RX4 7 "TankFilterModel" "s" "[I"] ++ wsX40)
def wsX4_missed : List Cond := .code yX4_missed cX4_missed 1 (some .int) :: ([.fieldLink RX4 7 "TankFilterModel" "s" "[I"] ++ wsX40)
def wsX4_historyLength : List Cond := .code yX4_historyLength cX4_historyLength 1 (some .int) :: ([.fieldLink RX4 7 "TankFilterModel" "s" "[I"] ++ wsX40)
def wsX4_goesOn : List Cond := .code yX4_goesOn cX4_goesOn 4 (some .boolean) :: ([.fieldLink RX4 7 "TankFilterModel" "s" "[I", .methodLink RX4 85 yX4_take, .instanceMethod yX4_take, .selects RX4 yX4_take yX4_take, .initialized RX4, .code yX4_take cX4_take 2 none, .fieldLink RX4 19 "TankFilterModel" "now" "[J", .methodLink RX4 88 yX4_predicts, .instanceMethod yX4_predicts, .selects RX4 yX4_predicts yX4_predicts, .code yX4_predicts cX4_predicts 11 (some .boolean), .constantLong RX4 40 (2), .methodLink RX4 46 yX4_isIn, .static yX4_isIn, .code yX4_isIn cX4_isIn 2 (some .boolean), .constantLong RX4 42 (-1000000000), .constantLong RX4 44 (1000000000)] ++ wsX40)
def wsX4_forecast_r1 : List Cond := [Cond.constant RX4 26 (-2000000002), Cond.fieldLink RX4 19 "TankFilterModel" "now" "[J", Cond.constant RX4 92 (-2000000004), Cond.methodLink RX4 68 yX4_in, Cond.static yX4_in, Cond.initialized RX4, Cond.code yX4_in cX4_in 3 (some .boolean), Cond.methodLink RX4 74 yX4_fail, Cond.instanceMethod yX4_fail, Cond.selects RX4 yX4_fail yX4_fail, Cond.code yX4_fail cX4_fail 2 (some .int), Cond.fieldLink RX4 16 "TankFilterModel" "errors" "[I", Cond.methodLink RX4 104 yX4_goesOn, Cond.instanceMethod yX4_goesOn, Cond.selects RX4 yX4_goesOn yX4_goesOn, Cond.code yX4_goesOn cX4_goesOn 4 (some .boolean), Cond.fieldLink RX4 7 "TankFilterModel" "s" "[I", Cond.methodLink RX4 85 yX4_take, Cond.instanceMethod yX4_take, Cond.selects RX4 yX4_take yX4_take, Cond.code yX4_take cX4_take 2 none, Cond.methodLink RX4 88 yX4_predicts, Cond.instanceMethod yX4_predicts, Cond.selects RX4 yX4_predicts yX4_predicts]
def wsX4_forecast_r2 : List Cond := [Cond.code yX4_predicts cX4_predicts 11 (some .boolean), Cond.constantLong RX4 40 (2), Cond.methodLink RX4 46 yX4_isIn, Cond.static yX4_isIn, Cond.code yX4_isIn cX4_isIn 2 (some .boolean), Cond.constantLong RX4 42 (-1000000000), Cond.constantLong RX4 44 (1000000000)]
def wsX4_forecast : List Cond := .code yX4_forecast cX4_forecast 2 (some .int) :: ((wsX4_forecast_r1 ++ wsX4_forecast_r2) ++ wsX40)
def wsX4_forecastVariance_r1 : List Cond := [Cond.constant RX4 26 (-2000000002), Cond.fieldLink RX4 19 "TankFilterModel" "now" "[J", Cond.constant RX4 92 (-2000000004), Cond.methodLink RX4 68 yX4_in, Cond.static yX4_in, Cond.initialized RX4, Cond.code yX4_in cX4_in 3 (some .boolean), Cond.methodLink RX4 74 yX4_fail, Cond.instanceMethod yX4_fail, Cond.selects RX4 yX4_fail yX4_fail, Cond.code yX4_fail cX4_fail 2 (some .int), Cond.fieldLink RX4 16 "TankFilterModel" "errors" "[I", Cond.methodLink RX4 104 yX4_goesOn, Cond.instanceMethod yX4_goesOn, Cond.selects RX4 yX4_goesOn yX4_goesOn, Cond.code yX4_goesOn cX4_goesOn 4 (some .boolean), Cond.fieldLink RX4 7 "TankFilterModel" "s" "[I", Cond.methodLink RX4 85 yX4_take, Cond.instanceMethod yX4_take, Cond.selects RX4 yX4_take yX4_take, Cond.code yX4_take cX4_take 2 none, Cond.methodLink RX4 88 yX4_predicts, Cond.instanceMethod yX4_predicts, Cond.selects RX4 yX4_predicts yX4_predicts]
def wsX4_forecastVariance_r2 : List Cond := [Cond.code yX4_predicts cX4_predicts 11 (some .boolean), Cond.constantLong RX4 40 (2), Cond.methodLink RX4 46 yX4_isIn, Cond.static yX4_isIn, Cond.code yX4_isIn cX4_isIn 2 (some .boolean), Cond.constantLong RX4 42 (-1000000000), Cond.constantLong RX4 44 (1000000000)]
def wsX4_forecastVariance : List Cond := .code yX4_forecastVariance cX4_forecastVariance 2 (some .int) :: ((wsX4_forecastVariance_r1 ++ wsX4_forecastVariance_r2) ++ wsX40)
def wsX4_stepsTo_r1 : List Cond := [Cond.constant RX4 66 (-40960000), Cond.constant RX4 67 (40960000), Cond.constant RX4 26 (-2000000002), Cond.fieldLink RX4 7 "TankFilterModel" "s" "[I", Cond.fieldLink RX4 19 "TankFilterModel" "now" "[J", Cond.constant RX4 27 (-2000000001), Cond.methodLink RX4 68 yX4_in, Cond.static yX4_in, Cond.initialized RX4, Cond.code yX4_in cX4_in 3 (some .boolean), Cond.methodLink RX4 74 yX4_fail, Cond.instanceMethod yX4_fail, Cond.selects RX4 yX4_fail yX4_fail, Cond.code yX4_fail cX4_fail 2 (some .int), Cond.fieldLink RX4 16 "TankFilterModel" "errors" "[I", Cond.methodLink RX4 85 yX4_take, Cond.instanceMethod yX4_take, Cond.selects RX4 yX4_take yX4_take, Cond.code yX4_take cX4_take 2 none, Cond.methodLink RX4 88 yX4_predicts, Cond.instanceMethod yX4_predicts, Cond.selects RX4 yX4_predicts yX4_predicts, Cond.code yX4_predicts cX4_predicts 11 (some .boolean), Cond.constantLong RX4 40 (2)]
def wsX4_stepsTo_r2 : List Cond := [Cond.methodLink RX4 46 yX4_isIn, Cond.static yX4_isIn, Cond.code yX4_isIn cX4_isIn 2 (some .boolean), Cond.constantLong RX4 42 (-1000000000), Cond.constantLong RX4 44 (1000000000)]
def wsX4_stepsTo : List Cond := .code yX4_stepsTo cX4_stepsTo 5 (some .int) :: ((wsX4_stepsTo_r1 ++ wsX4_stepsTo_r2) ++ wsX40)
def wsX4_cycles_r1 : List Cond := [Cond.fieldLink RX4 19 "TankFilterModel" "now" "[J", Cond.fieldLink RX4 7 "TankFilterModel" "s" "[I", Cond.constant RX4 27 (-2000000001), Cond.methodLink RX4 85 yX4_take, Cond.instanceMethod yX4_take, Cond.selects RX4 yX4_take yX4_take, Cond.initialized RX4, Cond.code yX4_take cX4_take 2 none, Cond.methodLink RX4 88 yX4_predicts, Cond.instanceMethod yX4_predicts, Cond.selects RX4 yX4_predicts yX4_predicts, Cond.code yX4_predicts cX4_predicts 11 (some .boolean), Cond.constantLong RX4 40 (2), Cond.methodLink RX4 46 yX4_isIn, Cond.static yX4_isIn, Cond.code yX4_isIn cX4_isIn 2 (some .boolean), Cond.constantLong RX4 42 (-1000000000), Cond.constantLong RX4 44 (1000000000), Cond.methodLink RX4 100 yX4_corrects, Cond.instanceMethod yX4_corrects, Cond.selects RX4 yX4_corrects yX4_corrects, Cond.code yX4_corrects cX4_corrects 24 (some .int), Cond.fieldLink RX4 50 "TankFilterModel" "innovation" "J", Cond.constantLong RX4 34 (4096)]
def wsX4_cycles_r2 : List Cond := [Cond.fieldLink RX4 60 "TankFilterModel" "levelGain" "J", Cond.fieldLink RX4 63 "TankFilterModel" "flowGain" "J", Cond.methodLink RX4 54 yX4_div, Cond.static yX4_div, Cond.code yX4_div cX4_div 4 (some .long), Cond.methodLink RX4 36 yX4_down, Cond.static yX4_down, Cond.code yX4_down cX4_down 6 (some .long), Cond.methodLink RX4 57 yX4_mul, Cond.static yX4_mul, Cond.code yX4_mul cX4_mul 4 (some .long), Cond.constantLong RX4 32 (2048)]
def wsX4_cycles : List Cond := .code yX4_cycles cX4_cycles 10 (some .int) :: ((wsX4_cycles_r1 ++ wsX4_cycles_r2) ++ wsX40)
def wsX4_steadyCycles_r1 : List Cond := [Cond.constant RX4 26 (-2000000002), Cond.methodLink RX4 81 yX4_isSensor, Cond.static yX4_isSensor, Cond.initialized RX4, Cond.code yX4_isSensor cX4_isSensor 1 (some .boolean), Cond.methodLink RX4 68 yX4_in, Cond.static yX4_in, Cond.code yX4_in cX4_in 3 (some .boolean), Cond.methodLink RX4 107 yX4_cycles, Cond.instanceMethod yX4_cycles, Cond.selects RX4 yX4_cycles yX4_cycles, Cond.code yX4_cycles cX4_cycles 10 (some .int), Cond.fieldLink RX4 19 "TankFilterModel" "now" "[J", Cond.fieldLink RX4 7 "TankFilterModel" "s" "[I", Cond.constant RX4 27 (-2000000001), Cond.methodLink RX4 85 yX4_take, Cond.instanceMethod yX4_take, Cond.selects RX4 yX4_take yX4_take, Cond.code yX4_take cX4_take 2 none, Cond.methodLink RX4 88 yX4_predicts, Cond.instanceMethod yX4_predicts, Cond.selects RX4 yX4_predicts yX4_predicts, Cond.code yX4_predicts cX4_predicts 11 (some .boolean), Cond.constantLong RX4 40 (2)]
def wsX4_steadyCycles_r2 : List Cond := [Cond.methodLink RX4 46 yX4_isIn, Cond.static yX4_isIn, Cond.code yX4_isIn cX4_isIn 2 (some .boolean), Cond.constantLong RX4 42 (-1000000000), Cond.constantLong RX4 44 (1000000000), Cond.methodLink RX4 100 yX4_corrects, Cond.instanceMethod yX4_corrects, Cond.selects RX4 yX4_corrects yX4_corrects, Cond.code yX4_corrects cX4_corrects 24 (some .int), Cond.fieldLink RX4 50 "TankFilterModel" "innovation" "J", Cond.constantLong RX4 34 (4096), Cond.fieldLink RX4 60 "TankFilterModel" "levelGain" "J", Cond.fieldLink RX4 63 "TankFilterModel" "flowGain" "J", Cond.methodLink RX4 54 yX4_div, Cond.static yX4_div, Cond.code yX4_div cX4_div 4 (some .long), Cond.methodLink RX4 36 yX4_down, Cond.static yX4_down, Cond.code yX4_down cX4_down 6 (some .long), Cond.methodLink RX4 57 yX4_mul, Cond.static yX4_mul, Cond.code yX4_mul cX4_mul 4 (some .long), Cond.constantLong RX4 32 (2048), Cond.methodLink RX4 74 yX4_fail]
def wsX4_steadyCycles_r3 : List Cond := [Cond.instanceMethod yX4_fail, Cond.selects RX4 yX4_fail yX4_fail, Cond.code yX4_fail cX4_fail 2 (some .int), Cond.fieldLink RX4 16 "TankFilterModel" "errors" "[I"]
def wsX4_steadyCycles : List Cond := .code yX4_steadyCycles cX4_steadyCycles 2 (some .int) :: ((wsX4_steadyCycles_r1 ++ (wsX4_steadyCycles_r2 ++ wsX4_steadyCycles_r3)) ++ wsX40)
def wsX4_steadyGain_r1 : List Cond := [Cond.constant RX4 26 (-2000000002), Cond.constant RX4 27 (-2000000001), Cond.fieldLink RX4 60 "TankFilterModel" "levelGain" "J", Cond.fieldLink RX4 63 "TankFilterModel" "flowGain" "J", Cond.methodLink RX4 81 yX4_isSensor, Cond.static yX4_isSensor, Cond.initialized RX4, Cond.code yX4_isSensor cX4_isSensor 1 (some .boolean), Cond.methodLink RX4 68 yX4_in, Cond.static yX4_in, Cond.code yX4_in cX4_in 3 (some .boolean), Cond.methodLink RX4 74 yX4_fail, Cond.instanceMethod yX4_fail, Cond.selects RX4 yX4_fail yX4_fail, Cond.code yX4_fail cX4_fail 2 (some .int), Cond.fieldLink RX4 16 "TankFilterModel" "errors" "[I", Cond.methodLink RX4 107 yX4_cycles, Cond.instanceMethod yX4_cycles, Cond.selects RX4 yX4_cycles yX4_cycles, Cond.code yX4_cycles cX4_cycles 10 (some .int), Cond.fieldLink RX4 19 "TankFilterModel" "now" "[J", Cond.fieldLink RX4 7 "TankFilterModel" "s" "[I", Cond.methodLink RX4 85 yX4_take, Cond.instanceMethod yX4_take]
def wsX4_steadyGain_r2 : List Cond := [Cond.selects RX4 yX4_take yX4_take, Cond.code yX4_take cX4_take 2 none, Cond.methodLink RX4 88 yX4_predicts, Cond.instanceMethod yX4_predicts, Cond.selects RX4 yX4_predicts yX4_predicts, Cond.code yX4_predicts cX4_predicts 11 (some .boolean), Cond.constantLong RX4 40 (2), Cond.methodLink RX4 46 yX4_isIn, Cond.static yX4_isIn, Cond.code yX4_isIn cX4_isIn 2 (some .boolean), Cond.constantLong RX4 42 (-1000000000), Cond.constantLong RX4 44 (1000000000), Cond.methodLink RX4 100 yX4_corrects, Cond.instanceMethod yX4_corrects, Cond.selects RX4 yX4_corrects yX4_corrects, Cond.code yX4_corrects cX4_corrects 24 (some .int), Cond.fieldLink RX4 50 "TankFilterModel" "innovation" "J", Cond.constantLong RX4 34 (4096), Cond.methodLink RX4 54 yX4_div, Cond.static yX4_div, Cond.code yX4_div cX4_div 4 (some .long), Cond.methodLink RX4 36 yX4_down, Cond.static yX4_down, Cond.code yX4_down cX4_down 6 (some .long)]
def wsX4_steadyGain_r3 : List Cond := [Cond.methodLink RX4 57 yX4_mul, Cond.static yX4_mul, Cond.code yX4_mul cX4_mul 4 (some .long), Cond.constantLong RX4 32 (2048)]
def wsX4_steadyGain : List Cond := .code yX4_steadyGain cX4_steadyGain 4 (some .int) :: ((wsX4_steadyGain_r1 ++ (wsX4_steadyGain_r2 ++ wsX4_steadyGain_r3)) ++ wsX40)
def wsX4_hasReading : List Cond := .code yX4_hasReading cX4_hasReading 3 (some .boolean) :: ([.fieldLink RX4 7 "TankFilterModel" "s" "[I"] ++ wsX40)
def wsX4_errorOf_r1 : List Cond := [Cond.fieldLink RX4 7 "TankFilterModel" "s" "[I", Cond.constantLong RX4 110 (-1), Cond.fieldLink RX4 50 "TankFilterModel" "innovation" "J", Cond.methodLink RX4 85 yX4_take, Cond.instanceMethod yX4_take, Cond.selects RX4 yX4_take yX4_take, Cond.initialized RX4, Cond.code yX4_take cX4_take 2 none, Cond.fieldLink RX4 19 "TankFilterModel" "now" "[J", Cond.methodLink RX4 88 yX4_predicts, Cond.instanceMethod yX4_predicts, Cond.selects RX4 yX4_predicts yX4_predicts, Cond.code yX4_predicts cX4_predicts 11 (some .boolean), Cond.constantLong RX4 40 (2), Cond.methodLink RX4 46 yX4_isIn, Cond.static yX4_isIn, Cond.code yX4_isIn cX4_isIn 2 (some .boolean), Cond.constantLong RX4 42 (-1000000000), Cond.constantLong RX4 44 (1000000000), Cond.methodLink RX4 100 yX4_corrects, Cond.instanceMethod yX4_corrects, Cond.selects RX4 yX4_corrects yX4_corrects, Cond.code yX4_corrects cX4_corrects 24 (some .int), Cond.constantLong RX4 34 (4096)]
def wsX4_errorOf_r2 : List Cond := [Cond.fieldLink RX4 60 "TankFilterModel" "levelGain" "J", Cond.fieldLink RX4 63 "TankFilterModel" "flowGain" "J", Cond.methodLink RX4 54 yX4_div, Cond.static yX4_div, Cond.code yX4_div cX4_div 4 (some .long), Cond.methodLink RX4 36 yX4_down, Cond.static yX4_down, Cond.code yX4_down cX4_down 6 (some .long), Cond.methodLink RX4 57 yX4_mul, Cond.static yX4_mul, Cond.code yX4_mul cX4_mul 4 (some .long), Cond.constantLong RX4 32 (2048)]
def wsX4_errorOf : List Cond := .code yX4_errorOf cX4_errorOf 8 (some .long) :: ((wsX4_errorOf_r1 ++ wsX4_errorOf_r2) ++ wsX40)
def wsX4_replayError_r1 : List Cond := [Cond.constant RX4 73 (4096000), Cond.constant RX4 26 (-2000000002), Cond.constant RX4 116 (-2000000003), Cond.constant RX4 92 (-2000000004), Cond.methodLink RX4 68 yX4_in, Cond.static yX4_in, Cond.initialized RX4, Cond.code yX4_in cX4_in 3 (some .boolean), Cond.methodLink RX4 74 yX4_fail, Cond.instanceMethod yX4_fail, Cond.selects RX4 yX4_fail yX4_fail, Cond.code yX4_fail cX4_fail 2 (some .int), Cond.fieldLink RX4 16 "TankFilterModel" "errors" "[I", Cond.methodLink RX4 112 yX4_hasReading, Cond.instanceMethod yX4_hasReading, Cond.selects RX4 yX4_hasReading yX4_hasReading, Cond.code yX4_hasReading cX4_hasReading 3 (some .boolean), Cond.fieldLink RX4 7 "TankFilterModel" "s" "[I", Cond.methodLink RX4 117 yX4_errorOf, Cond.instanceMethod yX4_errorOf, Cond.selects RX4 yX4_errorOf yX4_errorOf, Cond.code yX4_errorOf cX4_errorOf 8 (some .long), Cond.constantLong RX4 110 (-1), Cond.fieldLink RX4 50 "TankFilterModel" "innovation" "J"]
def wsX4_replayError_r2 : List Cond := [Cond.methodLink RX4 85 yX4_take, Cond.instanceMethod yX4_take, Cond.selects RX4 yX4_take yX4_take, Cond.code yX4_take cX4_take 2 none, Cond.fieldLink RX4 19 "TankFilterModel" "now" "[J", Cond.methodLink RX4 88 yX4_predicts, Cond.instanceMethod yX4_predicts, Cond.selects RX4 yX4_predicts yX4_predicts, Cond.code yX4_predicts cX4_predicts 11 (some .boolean), Cond.constantLong RX4 40 (2), Cond.methodLink RX4 46 yX4_isIn, Cond.static yX4_isIn, Cond.code yX4_isIn cX4_isIn 2 (some .boolean), Cond.constantLong RX4 42 (-1000000000), Cond.constantLong RX4 44 (1000000000), Cond.methodLink RX4 100 yX4_corrects, Cond.instanceMethod yX4_corrects, Cond.selects RX4 yX4_corrects yX4_corrects, Cond.code yX4_corrects cX4_corrects 24 (some .int), Cond.constantLong RX4 34 (4096), Cond.fieldLink RX4 60 "TankFilterModel" "levelGain" "J", Cond.fieldLink RX4 63 "TankFilterModel" "flowGain" "J", Cond.methodLink RX4 54 yX4_div, Cond.static yX4_div]
def wsX4_replayError_r3 : List Cond := [Cond.code yX4_div cX4_div 4 (some .long), Cond.methodLink RX4 36 yX4_down, Cond.static yX4_down, Cond.code yX4_down cX4_down 6 (some .long), Cond.methodLink RX4 57 yX4_mul, Cond.static yX4_mul, Cond.code yX4_mul cX4_mul 4 (some .long), Cond.constantLong RX4 32 (2048)]
def wsX4_replayError : List Cond := .code yX4_replayError cX4_replayError 4 (some .int) :: ((wsX4_replayError_r1 ++ (wsX4_replayError_r2 ++ wsX4_replayError_r3)) ++ wsX40)
def wsX4_bestFlowNoise_r1 : List Cond := [Cond.constant RX4 116 (-2000000003), Cond.constant RX4 27 (-2000000001), Cond.constantLong RX4 121 (1000000001), Cond.methodLink RX4 112 yX4_hasReading, Cond.instanceMethod yX4_hasReading, Cond.selects RX4 yX4_hasReading yX4_hasReading, Cond.initialized RX4, Cond.code yX4_hasReading cX4_hasReading 3 (some .boolean), Cond.fieldLink RX4 7 "TankFilterModel" "s" "[I", Cond.methodLink RX4 74 yX4_fail, Cond.instanceMethod yX4_fail, Cond.selects RX4 yX4_fail yX4_fail, Cond.code yX4_fail cX4_fail 2 (some .int), Cond.fieldLink RX4 16 "TankFilterModel" "errors" "[I", Cond.constant RX4 26 (-2000000002), Cond.methodLink RX4 117 yX4_errorOf, Cond.instanceMethod yX4_errorOf, Cond.selects RX4 yX4_errorOf yX4_errorOf, Cond.code yX4_errorOf cX4_errorOf 8 (some .long), Cond.constantLong RX4 110 (-1), Cond.fieldLink RX4 50 "TankFilterModel" "innovation" "J", Cond.methodLink RX4 85 yX4_take, Cond.instanceMethod yX4_take, Cond.selects RX4 yX4_take yX4_take]
def wsX4_bestFlowNoise_r2 : List Cond := [Cond.code yX4_take cX4_take 2 none, Cond.fieldLink RX4 19 "TankFilterModel" "now" "[J", Cond.methodLink RX4 88 yX4_predicts, Cond.instanceMethod yX4_predicts, Cond.selects RX4 yX4_predicts yX4_predicts, Cond.code yX4_predicts cX4_predicts 11 (some .boolean), Cond.constantLong RX4 40 (2), Cond.methodLink RX4 46 yX4_isIn, Cond.static yX4_isIn, Cond.code yX4_isIn cX4_isIn 2 (some .boolean), Cond.constantLong RX4 42 (-1000000000), Cond.constantLong RX4 44 (1000000000), Cond.methodLink RX4 100 yX4_corrects, Cond.instanceMethod yX4_corrects, Cond.selects RX4 yX4_corrects yX4_corrects, Cond.code yX4_corrects cX4_corrects 24 (some .int), Cond.constantLong RX4 34 (4096), Cond.fieldLink RX4 60 "TankFilterModel" "levelGain" "J", Cond.fieldLink RX4 63 "TankFilterModel" "flowGain" "J", Cond.methodLink RX4 54 yX4_div, Cond.static yX4_div, Cond.code yX4_div cX4_div 4 (some .long), Cond.methodLink RX4 36 yX4_down, Cond.static yX4_down]
def wsX4_bestFlowNoise_r3 : List Cond := [Cond.code yX4_down cX4_down 6 (some .long), Cond.methodLink RX4 57 yX4_mul, Cond.static yX4_mul, Cond.code yX4_mul cX4_mul 4 (some .long), Cond.constantLong RX4 32 (2048)]
def wsX4_bestFlowNoise : List Cond := .code yX4_bestFlowNoise cX4_bestFlowNoise 8 (some .int) :: ((wsX4_bestFlowNoise_r1 ++ (wsX4_bestFlowNoise_r2 ++ wsX4_bestFlowNoise_r3)) ++ wsX40)
def wsX4_undo : List Cond := .code yX4_undo cX4_undo 2 (some .int) :: ([.fieldLink RX4 28 "TankFilterModel" "pasts" "I", .constant RX4 116 (-2000000003), .fieldLink RX4 7 "TankFilterModel" "s" "[I", .fieldLink RX4 13 "TankFilterModel" "past" "[I", .methodLink RX4 74 yX4_fail, .instanceMethod yX4_fail, .selects RX4 yX4_fail yX4_fail, .initialized RX4, .code yX4_fail cX4_fail 2 (some .int), .fieldLink RX4 16 "TankFilterModel" "errors" "[I", .constant RX4 26 (-2000000002)] ++ wsX40)
def wsX4_errorCount : List Cond := .code yX4_errorCount cX4_errorCount 2 (some .int) :: ([.fieldLink RX4 16 "TankFilterModel" "errors" "[I", .constant RX4 26 (-2000000002), .methodLink RX4 68 yX4_in, .static yX4_in, .initialized RX4, .code yX4_in cX4_in 3 (some .boolean), .methodLink RX4 74 yX4_fail, .instanceMethod yX4_fail, .selects RX4 yX4_fail yX4_fail, .code yX4_fail cX4_fail 2 (some .int)] ++ wsX40)
def wsX4_add : List Cond := .code yX4_add cX4_add 2 none :: ([.constantLong RX4 123 (31), .fieldLink RX4 125 "TankFilterModel" "hash" "J"] ++ wsX40)
def wsX4_digest : List Cond := .code yX4_digest cX4_digest 2 (some .long) :: ([.constantLong RX4 128 (12254), .fieldLink RX4 125 "TankFilterModel" "hash" "J", .fieldLink RX4 16 "TankFilterModel" "errors" "[I", .fieldLink RX4 28 "TankFilterModel" "pasts" "I", .fieldLink RX4 7 "TankFilterModel" "s" "[I", .methodLink RX4 130 yX4_add, .instanceMethod yX4_add, .selects RX4 yX4_add yX4_add, .initialized RX4, .code yX4_add cX4_add 2 none, .constantLong RX4 123 (31)] ++ wsX40)
def wsJ9_abs_067f4 : List Cond := .code yJ9_abs_067f4 cJ9_abs_067f4 2 (some .long) :: ([])
def wsJ9_max_f86c9 : List Cond := .code yJ9_max_f86c9 cJ9_max_f86c9 4 (some .long) :: ([])
def wsL_law_r1 : List Cond := [Cond.classLink RL 7 RX3, Cond.instantiable RX3 5, Cond.initialized RX3, Cond.classLink RL 10 RX4, Cond.instantiable RX4 9, Cond.initialized RX4, Cond.methodLink RL 9 yX3_init, Cond.instanceMethod yX3_init, Cond.code yX3_init cX3_init 2 none, Cond.methodLink RX3 1 objectInit, Cond.instanceMethod objectInit, Cond.code objectInit ⟨#[0xb1]⟩ 1 none, Cond.classLink RX3 7 RX2, Cond.instantiable RX2 10, Cond.initialized RX2, Cond.fieldLink RX3 10 "TankFilter" "now" "LTankFilter$Memory;", Cond.fieldLink RX3 16 "TankFilter" "saved" "[LTankFilter$Memory;", Cond.fieldLink RX3 20 "TankFilter" "savedCount" "I", Cond.arrayClass .int, Cond.fieldLink RX3 24 "TankFilter" "errors" "[I", Cond.classLink RX3 28 RX0, Cond.instantiable RX0 8, Cond.initialized RX0, Cond.fieldLink RX3 31 "TankFilter" "trial" "LTankFilter$Estimate;"]
def wsL_law_r2 : List Cond := [Cond.instanceMethod yX2_init, Cond.code yX2_init cX2_init 2 none, Cond.methodLink RX2 3 objectInit, Cond.classLink RX2 9 RX0, Cond.fieldLink RX2 12 "TankFilter$Memory" "estimate" "LTankFilter$Estimate;", Cond.fieldLink RX2 18 "TankFilter$Memory" "levelNoise" "I", Cond.fieldLink RX2 22 "TankFilter$Memory" "flowNoise" "I", Cond.fieldLink RX2 25 "TankFilter$Memory" "gate" "I", Cond.fieldLink RX2 28 "TankFilter$Memory" "sensorKinds" "[I", Cond.fieldLink RX2 32 "TankFilter$Memory" "sensorVariances" "[I", Cond.fieldLink RX2 35 "TankFilter$Memory" "acceptedCount" "I", Cond.fieldLink RX2 38 "TankFilter$Memory" "rejectedCount" "I", Cond.fieldLink RX2 41 "TankFilter$Memory" "missedCount" "I", Cond.classLink RX2 44 RX1, Cond.instantiable RX1 3, Cond.initialized RX1, Cond.fieldLink RX2 47 "TankFilter$Memory" "history" "LTankFilter$History;", Cond.instanceMethod yX0_init, Cond.code yX0_init cX0_init 1 none, Cond.methodLink RX0 3 objectInit, Cond.fieldLink RX0 9 "TankFilter$Estimate" "level" "J", Cond.fieldLink RX0 15 "TankFilter$Estimate" "flow" "J", Cond.constantLong RX0 18 (4096), Cond.fieldLink RX0 20 "TankFilter$Estimate" "levelVariance" "J"]
def wsL_law_r3 : List Cond := [Cond.fieldLink RX0 23 "TankFilter$Estimate" "covariance" "J", Cond.fieldLink RX0 26 "TankFilter$Estimate" "flowVariance" "J", Cond.constantLong RX0 29 (-2000000001), Cond.fieldLink RX0 31 "TankFilter$Estimate" "innovation" "J", Cond.fieldLink RX0 34 "TankFilter$Estimate" "levelGain" "J", Cond.fieldLink RX0 37 "TankFilter$Estimate" "flowGain" "J", Cond.instanceMethod yX1_init, Cond.code yX1_init cX1_init 1 none, Cond.methodLink RX1 3 objectInit, Cond.fieldLink RX1 9 "TankFilter$History" "sources" "[I", Cond.fieldLink RX1 15 "TankFilter$History" "values" "[I", Cond.fieldLink RX1 18 "TankFilter$History" "size" "I", Cond.methodLink RL 12 yX4_init, Cond.instanceMethod yX4_init, Cond.code yX4_init cX4_init 2 none, Cond.methodLink RX4 1 objectInit, Cond.fieldLink RX4 7 "TankFilterModel" "s" "[I", Cond.fieldLink RX4 13 "TankFilterModel" "past" "[I", Cond.fieldLink RX4 16 "TankFilterModel" "errors" "[I", Cond.arrayClass .long, Cond.fieldLink RX4 19 "TankFilterModel" "now" "[J", Cond.methodLink RX4 23 yX4_forget, Cond.instanceMethod yX4_forget, Cond.selects RX4 yX4_forget yX4_forget]
def wsL_law_r4 : List Cond := [Cond.code yX4_forget cX4_forget 2 none, Cond.constant RX4 27 (-2000000001), Cond.methodLink RL 13 yX3_reset, Cond.instanceMethod yX3_reset, Cond.selects RX3 yX3_reset yX3_reset, Cond.code yX3_reset cX3_reset 6 (some .int), Cond.constant RX3 35 (-40960000), Cond.constant RX3 36 (40960000), Cond.constant RX3 41 (-4096000), Cond.constant RX3 42 (4096000), Cond.constant RX3 43 (-2000000002), Cond.methodLink RX3 37 yX3_isOutside, Cond.static yX3_isOutside, Cond.code yX3_isOutside cX3_isOutside 3 (some .boolean), Cond.methodLink RX3 44 yX3_fail, Cond.instanceMethod yX3_fail, Cond.selects RX3 yX3_fail yX3_fail, Cond.code yX3_fail cX3_fail 3 (some .int), Cond.methodLink RX3 48 yX3_save, Cond.instanceMethod yX3_save, Cond.selects RX3 yX3_save yX3_save, Cond.code yX3_save cX3_save 1 none, Cond.methodLink RX3 191 yX3_dropOldestSaved, Cond.instanceMethod yX3_dropOldestSaved]
def wsL_law_r5 : List Cond := [Cond.selects RX3 yX3_dropOldestSaved yX3_dropOldestSaved, Cond.code yX3_dropOldestSaved cX3_dropOldestSaved 3 none, Cond.instanceMethod yX2_copyFrom, Cond.selects RX2 yX2_copyFrom yX2_copyFrom, Cond.code yX2_copyFrom cX2_copyFrom 2 none, Cond.instanceMethod yX0_copyFrom, Cond.selects RX0 yX0_copyFrom yX0_copyFrom, Cond.code yX0_copyFrom cX0_copyFrom 2 none, Cond.static yX3_copyRow, Cond.code yX3_copyRow cX3_copyRow 3 none, Cond.instanceMethod yX1_copyFrom, Cond.selects RX1 yX1_copyFrom yX1_copyFrom, Cond.code yX1_copyFrom cX1_copyFrom 2 none, Cond.instanceMethod yX0_startFrom, Cond.selects RX0 yX0_startFrom yX0_startFrom, Cond.code yX0_startFrom cX0_startFrom 5 none, Cond.methodLink RL 17 yX4_reset, Cond.instanceMethod yX4_reset, Cond.selects RX4 yX4_reset yX4_reset, Cond.code yX4_reset cX4_reset 6 (some .int), Cond.constant RX4 66 (-40960000), Cond.constant RX4 67 (40960000), Cond.constant RX4 72 (-4096000), Cond.constant RX4 73 (4096000)]
def wsL_law_r6 : List Cond := [Cond.constant RX4 26 (-2000000002), Cond.methodLink RX4 68 yX4_in, Cond.static yX4_in, Cond.code yX4_in cX4_in 3 (some .boolean), Cond.methodLink RX4 74 yX4_fail, Cond.instanceMethod yX4_fail, Cond.selects RX4 yX4_fail yX4_fail, Cond.code yX4_fail cX4_fail 2 (some .int), Cond.methodLink RX4 78 yX4_note, Cond.instanceMethod yX4_note, Cond.selects RX4 yX4_note yX4_note, Cond.code yX4_note cX4_note 2 none, Cond.fieldLink RX4 28 "TankFilterModel" "pasts" "I", Cond.methodLink RL 18 yX3_setProcessNoise, Cond.instanceMethod yX3_setProcessNoise, Cond.selects RX3 yX3_setProcessNoise yX3_setProcessNoise, Cond.code yX3_setProcessNoise cX3_setProcessNoise 4 (some .int), Cond.methodLink RL 22 yX4_setProcessNoise, Cond.instanceMethod yX4_setProcessNoise, Cond.selects RX4 yX4_setProcessNoise yX4_setProcessNoise, Cond.code yX4_setProcessNoise cX4_setProcessNoise 4 (some .int), Cond.methodLink RL 23 yX3_setSensor, Cond.instanceMethod yX3_setSensor, Cond.selects RX3 yX3_setSensor yX3_setSensor]
def wsL_law_r7 : List Cond := [Cond.code yX3_setSensor cX3_setSensor 5 (some .int), Cond.methodLink RX3 82 yX3_isSensor, Cond.static yX3_isSensor, Cond.code yX3_isSensor cX3_isSensor 1 (some .boolean), Cond.methodLink RX3 86 yX3_isKind, Cond.static yX3_isKind, Cond.code yX3_isKind cX3_isKind 1 (some .boolean), Cond.methodLink RL 27 yX4_setSensor, Cond.instanceMethod yX4_setSensor, Cond.selects RX4 yX4_setSensor yX4_setSensor, Cond.code yX4_setSensor cX4_setSensor 5 (some .int), Cond.methodLink RX4 81 yX4_isSensor, Cond.static yX4_isSensor, Cond.code yX4_isSensor cX4_isSensor 1 (some .boolean), Cond.methodLink RL 28 yX3_setGate, Cond.instanceMethod yX3_setGate, Cond.selects RX3 yX3_setGate yX3_setGate, Cond.code yX3_setGate cX3_setGate 3 (some .int), Cond.methodLink RL 32 yX4_setGate, Cond.instanceMethod yX4_setGate, Cond.selects RX4 yX4_setGate yX4_setGate, Cond.code yX4_setGate cX4_setGate 3 (some .int), Cond.methodLink RL 33 yX3_predict, Cond.instanceMethod yX3_predict]
def wsL_law_r8 : List Cond := [Cond.selects RX3 yX3_predict yX3_predict, Cond.code yX3_predict cX3_predict 2 (some .int), Cond.constant RX3 106 (-2000000004), Cond.instanceMethod yX0_advance, Cond.selects RX0 yX0_advance yX0_advance, Cond.code yX0_advance cX0_advance 7 (some .boolean), Cond.constantLong RX0 40 (2), Cond.methodLink RX0 42 yX0_move, Cond.instanceMethod yX0_move, Cond.selects RX0 yX0_move yX0_move, Cond.code yX0_move cX0_move 15 (some .boolean), Cond.methodLink RX0 62 Lib.MathLoose.max_long.x, Cond.static Lib.MathLoose.max_long.x, Cond.initialized "java/lang/Math", Cond.code Lib.MathLoose.max_long.x Lib.MathLoose.max_long.code 4 (some .long), Cond.static yX3_isInLimit, Cond.code yX3_isInLimit cX3_isInLimit 2 (some .boolean), Cond.constantLong RX3 174 (-1000000000), Cond.constantLong RX3 176 (1000000000), Cond.instanceMethod yX1_append, Cond.selects RX1 yX1_append yX1_append, Cond.code yX1_append cX1_append 3 none, Cond.methodLink RX1 22 yX1_dropOldest, Cond.instanceMethod yX1_dropOldest]
def wsL_law_r9 : List Cond := [Cond.selects RX1 yX1_dropOldest yX1_dropOldest, Cond.code yX1_dropOldest cX1_dropOldest 2 none, Cond.methodLink RL 36 yX4_predict, Cond.instanceMethod yX4_predict, Cond.selects RX4 yX4_predict yX4_predict, Cond.code yX4_predict cX4_predict 2 (some .int), Cond.constant RX4 92 (-2000000004), Cond.methodLink RX4 85 yX4_take, Cond.instanceMethod yX4_take, Cond.selects RX4 yX4_take yX4_take, Cond.code yX4_take cX4_take 2 none, Cond.methodLink RX4 88 yX4_predicts, Cond.instanceMethod yX4_predicts, Cond.selects RX4 yX4_predicts yX4_predicts, Cond.code yX4_predicts cX4_predicts 11 (some .boolean), Cond.constantLong RX4 40 (2), Cond.methodLink RX4 46 yX4_isIn, Cond.static yX4_isIn, Cond.code yX4_isIn cX4_isIn 2 (some .boolean), Cond.constantLong RX4 42 (-1000000000), Cond.constantLong RX4 44 (1000000000), Cond.methodLink RX4 93 yX4_put, Cond.instanceMethod yX4_put, Cond.selects RX4 yX4_put yX4_put]
def wsL_law_r10 : List Cond := [Cond.code yX4_put cX4_put 2 none, Cond.methodLink RX4 96 yX4_record, Cond.instanceMethod yX4_record, Cond.selects RX4 yX4_record yX4_record, Cond.code yX4_record cX4_record 4 none, Cond.methodLink RL 37 yX3_correct, Cond.instanceMethod yX3_correct, Cond.selects RX3 yX3_correct yX3_correct, Cond.code yX3_correct cX3_correct 4 (some .int), Cond.instanceMethod yX0_take, Cond.selects RX0 yX0_take yX0_take, Cond.code yX0_take cX0_take 22 (some .int), Cond.constant RX0 58 (-2000000004), Cond.methodLink RX0 46 yX0_mean, Cond.instanceMethod yX0_mean, Cond.selects RX0 yX0_mean yX0_mean, Cond.code yX0_mean cX0_mean 2 (some .long), Cond.static yX3_dividedBy, Cond.code yX3_dividedBy cX3_dividedBy 4 (some .long), Cond.constantLong RX3 180 (4096), Cond.constantLong RX3 187 (2), Cond.methodLink RX3 182 yJ9_floorDiv_f86c9, Cond.static yJ9_floorDiv_f86c9, Cond.initialized RJ9]
def wsL_law_r11 : List Cond := [Cond.code yJ9_floorDiv_f86c9 cJ9_floorDiv_f86c9 6 (some .long), Cond.static yX3_times, Cond.code yX3_times cX3_times 4 (some .long), Cond.constantLong RX3 178 (2048), Cond.methodLink RL 40 yX4_correct, Cond.instanceMethod yX4_correct, Cond.selects RX4 yX4_correct yX4_correct, Cond.code yX4_correct cX4_correct 4 (some .int), Cond.fieldLink RX4 50 "TankFilterModel" "innovation" "J", Cond.fieldLink RX4 60 "TankFilterModel" "levelGain" "J", Cond.fieldLink RX4 63 "TankFilterModel" "flowGain" "J", Cond.methodLink RX4 100 yX4_corrects, Cond.instanceMethod yX4_corrects, Cond.selects RX4 yX4_corrects yX4_corrects, Cond.code yX4_corrects cX4_corrects 24 (some .int), Cond.constantLong RX4 34 (4096), Cond.methodLink RX4 54 yX4_div, Cond.static yX4_div, Cond.code yX4_div cX4_div 4 (some .long), Cond.methodLink RX4 36 yX4_down, Cond.static yX4_down, Cond.code yX4_down cX4_down 6 (some .long), Cond.methodLink RX4 57 yX4_mul, Cond.static yX4_mul]
def wsL_law_r12 : List Cond := [Cond.code yX4_mul cX4_mul 4 (some .long), Cond.constantLong RX4 32 (2048), Cond.methodLink RL 41 yX3_miss, Cond.instanceMethod yX3_miss, Cond.selects RX3 yX3_miss yX3_miss, Cond.code yX3_miss cX3_miss 2 (some .int), Cond.methodLink RL 44 yX4_miss, Cond.instanceMethod yX4_miss, Cond.selects RX4 yX4_miss yX4_miss, Cond.code yX4_miss cX4_miss 2 (some .int), Cond.methodLink RL 45 yX3_level, Cond.instanceMethod yX3_level, Cond.selects RX3 yX3_level yX3_level, Cond.code yX3_level cX3_level 1 (some .int), Cond.methodLink RL 49 yX4_level, Cond.instanceMethod yX4_level, Cond.selects RX4 yX4_level yX4_level, Cond.code yX4_level cX4_level 1 (some .int), Cond.methodLink RL 50 yX3_flow, Cond.instanceMethod yX3_flow, Cond.selects RX3 yX3_flow yX3_flow, Cond.code yX3_flow cX3_flow 1 (some .int), Cond.methodLink RL 53 yX4_flow, Cond.instanceMethod yX4_flow]
def wsL_law_r13 : List Cond := [Cond.selects RX4 yX4_flow yX4_flow, Cond.code yX4_flow cX4_flow 1 (some .int), Cond.methodLink RL 54 yX3_levelVariance, Cond.instanceMethod yX3_levelVariance, Cond.selects RX3 yX3_levelVariance yX3_levelVariance, Cond.code yX3_levelVariance cX3_levelVariance 1 (some .int), Cond.methodLink RL 57 yX4_levelVariance, Cond.instanceMethod yX4_levelVariance, Cond.selects RX4 yX4_levelVariance yX4_levelVariance, Cond.code yX4_levelVariance cX4_levelVariance 1 (some .int), Cond.methodLink RL 58 yX3_covariance, Cond.instanceMethod yX3_covariance, Cond.selects RX3 yX3_covariance yX3_covariance, Cond.code yX3_covariance cX3_covariance 1 (some .int), Cond.methodLink RL 61 yX4_covariance, Cond.instanceMethod yX4_covariance, Cond.selects RX4 yX4_covariance yX4_covariance, Cond.code yX4_covariance cX4_covariance 1 (some .int), Cond.methodLink RL 62 yX3_flowVariance, Cond.instanceMethod yX3_flowVariance, Cond.selects RX3 yX3_flowVariance yX3_flowVariance, Cond.code yX3_flowVariance cX3_flowVariance 1 (some .int), Cond.methodLink RL 65 yX4_flowVariance, Cond.instanceMethod yX4_flowVariance]
def wsL_law_r14 : List Cond := [Cond.selects RX4 yX4_flowVariance yX4_flowVariance, Cond.code yX4_flowVariance cX4_flowVariance 1 (some .int), Cond.methodLink RL 66 yX3_innovation, Cond.instanceMethod yX3_innovation, Cond.selects RX3 yX3_innovation yX3_innovation, Cond.code yX3_innovation cX3_innovation 1 (some .int), Cond.methodLink RL 69 yX4_innovation, Cond.instanceMethod yX4_innovation, Cond.selects RX4 yX4_innovation yX4_innovation, Cond.code yX4_innovation cX4_innovation 1 (some .int), Cond.methodLink RL 70 yX3_levelGain, Cond.instanceMethod yX3_levelGain, Cond.selects RX3 yX3_levelGain yX3_levelGain, Cond.code yX3_levelGain cX3_levelGain 1 (some .int), Cond.methodLink RL 73 yX4_levelGain, Cond.instanceMethod yX4_levelGain, Cond.selects RX4 yX4_levelGain yX4_levelGain, Cond.code yX4_levelGain cX4_levelGain 1 (some .int), Cond.methodLink RL 74 yX3_flowGain, Cond.instanceMethod yX3_flowGain, Cond.selects RX3 yX3_flowGain yX3_flowGain, Cond.code yX3_flowGain cX3_flowGain 1 (some .int), Cond.methodLink RL 77 yX4_flowGain, Cond.instanceMethod yX4_flowGain]
def wsL_law_r15 : List Cond := [Cond.selects RX4 yX4_flowGain yX4_flowGain, Cond.code yX4_flowGain cX4_flowGain 1 (some .int), Cond.methodLink RL 78 yX3_accepted, Cond.instanceMethod yX3_accepted, Cond.selects RX3 yX3_accepted yX3_accepted, Cond.code yX3_accepted cX3_accepted 1 (some .int), Cond.methodLink RL 81 yX4_accepted, Cond.instanceMethod yX4_accepted, Cond.selects RX4 yX4_accepted yX4_accepted, Cond.code yX4_accepted cX4_accepted 1 (some .int), Cond.methodLink RL 82 yX3_rejected, Cond.instanceMethod yX3_rejected, Cond.selects RX3 yX3_rejected yX3_rejected, Cond.code yX3_rejected cX3_rejected 1 (some .int), Cond.methodLink RL 85 yX4_rejected, Cond.instanceMethod yX4_rejected, Cond.selects RX4 yX4_rejected yX4_rejected, Cond.code yX4_rejected cX4_rejected 1 (some .int), Cond.methodLink RL 86 yX3_missed, Cond.instanceMethod yX3_missed, Cond.selects RX3 yX3_missed yX3_missed, Cond.code yX3_missed cX3_missed 1 (some .int), Cond.methodLink RL 89 yX4_missed, Cond.instanceMethod yX4_missed]
def wsL_law_r16 : List Cond := [Cond.selects RX4 yX4_missed yX4_missed, Cond.code yX4_missed cX4_missed 1 (some .int), Cond.methodLink RL 90 yX3_historyLength, Cond.instanceMethod yX3_historyLength, Cond.selects RX3 yX3_historyLength yX3_historyLength, Cond.code yX3_historyLength cX3_historyLength 1 (some .int), Cond.methodLink RL 93 yX4_historyLength, Cond.instanceMethod yX4_historyLength, Cond.selects RX4 yX4_historyLength yX4_historyLength, Cond.code yX4_historyLength cX4_historyLength 1 (some .int), Cond.methodLink RL 94 yX3_forecast, Cond.instanceMethod yX3_forecast, Cond.selects RX3 yX3_forecast yX3_forecast, Cond.code yX3_forecast cX3_forecast 2 (some .int), Cond.methodLink RX3 140 yX3_runPredictions, Cond.instanceMethod yX3_runPredictions, Cond.selects RX3 yX3_runPredictions yX3_runPredictions, Cond.code yX3_runPredictions cX3_runPredictions 3 (some .boolean), Cond.methodLink RL 97 yX4_forecast, Cond.instanceMethod yX4_forecast, Cond.selects RX4 yX4_forecast yX4_forecast, Cond.code yX4_forecast cX4_forecast 2 (some .int), Cond.methodLink RX4 104 yX4_goesOn, Cond.instanceMethod yX4_goesOn]
def wsL_law_r17 : List Cond := [Cond.selects RX4 yX4_goesOn yX4_goesOn, Cond.code yX4_goesOn cX4_goesOn 4 (some .boolean), Cond.methodLink RL 98 yX3_forecastVariance, Cond.instanceMethod yX3_forecastVariance, Cond.selects RX3 yX3_forecastVariance yX3_forecastVariance, Cond.code yX3_forecastVariance cX3_forecastVariance 2 (some .int), Cond.methodLink RL 101 yX4_forecastVariance, Cond.instanceMethod yX4_forecastVariance, Cond.selects RX4 yX4_forecastVariance yX4_forecastVariance, Cond.code yX4_forecastVariance cX4_forecastVariance 2 (some .int), Cond.methodLink RL 102 yX3_stepsTo, Cond.instanceMethod yX3_stepsTo, Cond.selects RX3 yX3_stepsTo yX3_stepsTo, Cond.code yX3_stepsTo cX3_stepsTo 4 (some .int), Cond.constant RX3 143 (-2000000001), Cond.methodLink RL 105 yX4_stepsTo, Cond.instanceMethod yX4_stepsTo, Cond.selects RX4 yX4_stepsTo yX4_stepsTo, Cond.code yX4_stepsTo cX4_stepsTo 5 (some .int), Cond.methodLink RL 106 yX3_steadyCycles, Cond.instanceMethod yX3_steadyCycles, Cond.selects RX3 yX3_steadyCycles yX3_steadyCycles, Cond.code yX3_steadyCycles cX3_steadyCycles 2 (some .int), Cond.methodLink RX3 144 yX3_runCyclesUntilSteady]
def wsL_law_r18 : List Cond := [Cond.instanceMethod yX3_runCyclesUntilSteady, Cond.selects RX3 yX3_runCyclesUntilSteady yX3_runCyclesUntilSteady, Cond.code yX3_runCyclesUntilSteady cX3_runCyclesUntilSteady 10 (some .int), Cond.methodLink RL 109 yX4_steadyCycles, Cond.instanceMethod yX4_steadyCycles, Cond.selects RX4 yX4_steadyCycles yX4_steadyCycles, Cond.code yX4_steadyCycles cX4_steadyCycles 2 (some .int), Cond.methodLink RX4 107 yX4_cycles, Cond.instanceMethod yX4_cycles, Cond.selects RX4 yX4_cycles yX4_cycles, Cond.code yX4_cycles cX4_cycles 10 (some .int), Cond.methodLink RL 110 yX3_steadyGain, Cond.instanceMethod yX3_steadyGain, Cond.selects RX3 yX3_steadyGain yX3_steadyGain, Cond.code yX3_steadyGain cX3_steadyGain 4 (some .int), Cond.methodLink RL 113 yX4_steadyGain, Cond.instanceMethod yX4_steadyGain, Cond.selects RX4 yX4_steadyGain yX4_steadyGain, Cond.code yX4_steadyGain cX4_steadyGain 4 (some .int), Cond.methodLink RL 114 yX3_replayError, Cond.instanceMethod yX3_replayError, Cond.selects RX3 yX3_replayError yX3_replayError, Cond.code yX3_replayError cX3_replayError 3 (some .int), Cond.constant RX3 152 (-2000000003)]
def wsL_law_r19 : List Cond := [Cond.instanceMethod yX1_hasReading, Cond.selects RX1 yX1_hasReading yX1_hasReading, Cond.code yX1_hasReading cX1_hasReading 2 (some .boolean), Cond.methodLink RX3 153 yX3_runReplay, Cond.instanceMethod yX3_runReplay, Cond.selects RX3 yX3_runReplay yX3_runReplay, Cond.code yX3_runReplay cX3_runReplay 8 (some .int), Cond.methodLink RX3 204 Lib.MathLoose.abs_long.x, Cond.static Lib.MathLoose.abs_long.x, Cond.code Lib.MathLoose.abs_long.x Lib.MathLoose.abs_long.code 2 (some .long), Cond.methodLink RX3 207 yX3_isInLimit, Cond.methodLink RL 117 yX4_replayError, Cond.instanceMethod yX4_replayError, Cond.selects RX4 yX4_replayError yX4_replayError, Cond.code yX4_replayError cX4_replayError 4 (some .int), Cond.constant RX4 116 (-2000000003), Cond.methodLink RX4 112 yX4_hasReading, Cond.instanceMethod yX4_hasReading, Cond.selects RX4 yX4_hasReading yX4_hasReading, Cond.code yX4_hasReading cX4_hasReading 3 (some .boolean), Cond.methodLink RX4 117 yX4_errorOf, Cond.instanceMethod yX4_errorOf, Cond.selects RX4 yX4_errorOf yX4_errorOf, Cond.code yX4_errorOf cX4_errorOf 8 (some .long)]
def wsL_law_r20 : List Cond := [Cond.constantLong RX4 110 (-1), Cond.methodLink RL 118 yX3_bestFlowNoise, Cond.instanceMethod yX3_bestFlowNoise, Cond.selects RX3 yX3_bestFlowNoise yX3_bestFlowNoise, Cond.code yX3_bestFlowNoise cX3_bestFlowNoise 6 (some .int), Cond.constantLong RX3 156 (1000000001), Cond.fieldLink RX3 158 "TankFilter" "FLOW_NOISE_CANDIDATES" "[I", Cond.methodLink RL 121 yX4_bestFlowNoise, Cond.instanceMethod yX4_bestFlowNoise, Cond.selects RX4 yX4_bestFlowNoise yX4_bestFlowNoise, Cond.code yX4_bestFlowNoise cX4_bestFlowNoise 8 (some .int), Cond.constantLong RX4 121 (1000000001), Cond.methodLink RL 122 yX3_undo, Cond.instanceMethod yX3_undo, Cond.selects RX3 yX3_undo yX3_undo, Cond.code yX3_undo cX3_undo 1 (some .int), Cond.methodLink RL 125 yX4_undo, Cond.instanceMethod yX4_undo, Cond.selects RX4 yX4_undo yX4_undo, Cond.code yX4_undo cX4_undo 2 (some .int), Cond.methodLink RL 126 yX3_errorCount, Cond.instanceMethod yX3_errorCount, Cond.selects RX3 yX3_errorCount yX3_errorCount, Cond.code yX3_errorCount cX3_errorCount 2 (some .int)]
def wsL_law_r21 : List Cond := [Cond.methodLink RL 129 yX4_errorCount, Cond.instanceMethod yX4_errorCount, Cond.selects RX4 yX4_errorCount yX4_errorCount, Cond.code yX4_errorCount cX4_errorCount 2 (some .int), Cond.methodLink RL 130 yX3_digest, Cond.instanceMethod yX3_digest, Cond.selects RX3 yX3_digest yX3_digest, Cond.code yX3_digest cX3_digest 4 (some .long), Cond.constantLong RX3 164 (12254), Cond.methodLink RX3 166 yX3_mix, Cond.static yX3_mix, Cond.code yX3_mix cX3_mix 4 (some .long), Cond.constantLong RX3 189 (31), Cond.instanceMethod yX2_mixInto, Cond.selects RX2 yX2_mixInto yX2_mixInto, Cond.code yX2_mixInto cX2_mixInto 4 (some .long), Cond.instanceMethod yX0_mixStateInto, Cond.selects RX0 yX0_mixStateInto yX0_mixStateInto, Cond.code yX0_mixStateInto cX0_mixStateInto 3 (some .long), Cond.instanceMethod yX0_mixLatestReadingInto, Cond.selects RX0 yX0_mixLatestReadingInto yX0_mixLatestReadingInto, Cond.code yX0_mixLatestReadingInto cX0_mixLatestReadingInto 3 (some .long), Cond.instanceMethod yX1_mixInto, Cond.selects RX1 yX1_mixInto yX1_mixInto]
def wsL_law_r22 : List Cond := [Cond.code yX1_mixInto cX1_mixInto 4 (some .long), Cond.methodLink RL 134 yX4_digest, Cond.instanceMethod yX4_digest, Cond.selects RX4 yX4_digest yX4_digest, Cond.code yX4_digest cX4_digest 2 (some .long), Cond.constantLong RX4 128 (12254), Cond.fieldLink RX4 125 "TankFilterModel" "hash" "J", Cond.methodLink RX4 130 yX4_add, Cond.instanceMethod yX4_add, Cond.selects RX4 yX4_add yX4_add, Cond.code yX4_add cX4_add 2 none, Cond.constantLong RX4 123 (31)]
def wsL_law : List Cond := (wsL_law_r1 ++ (wsL_law_r2 ++ (wsL_law_r3 ++ (wsL_law_r4 ++ (wsL_law_r5 ++ (wsL_law_r6 ++ (wsL_law_r7 ++ (wsL_law_r8 ++ (wsL_law_r9 ++ (wsL_law_r10 ++ (wsL_law_r11 ++ (wsL_law_r12 ++ (wsL_law_r13 ++ (wsL_law_r14 ++ (wsL_law_r15 ++ (wsL_law_r16 ++ (wsL_law_r17 ++ (wsL_law_r18 ++ (wsL_law_r19 ++ (wsL_law_r20 ++ (wsL_law_r21 ++ wsL_law_r22))))))))))))))))))))) ++ wsX30 ++ wsX40 ++ wsX20 ++ wsX00 ++ wsX10 ++ ([] : List Cond)
set_option maxRecDepth 20000 in
theorem inlX0 : ∀ w ∈ wsX00, w ∈ wsL_law := fun _ h => List.mem_append_left _ (List.mem_append_left _ (List.mem_append_right _ h))
theorem inlX1 : ∀ w ∈ wsX10, w ∈ wsL_law := fun _ h => List.mem_append_left _ (List.mem_append_right _ h)
theorem inlX2 : ∀ w ∈ wsX20, w ∈ wsL_law := fun _ h => List.mem_append_left _ (List.mem_append_left _ (List.mem_append_left _ (List.mem_append_right _ h)))
theorem inlX3 : ∀ w ∈ wsX30, w ∈ wsL_law := fun _ h => List.mem_append_left _ (List.mem_append_left _ (List.mem_append_left _ (List.mem_append_left _ (List.mem_append_left _ (List.mem_append_right _ h)))))
theorem inlX4 : ∀ w ∈ wsX40, w ∈ wsL_law := fun _ h => List.mem_append_left _ (List.mem_append_left _ (List.mem_append_left _ (List.mem_append_left _ (List.mem_append_right _ h))))
theorem inJ9 : ∀ w ∈ wsJ90, w ∈ lw_tbl := by decide +kernel
end
section
theorem dX0_init_0 : decode cX0_init 0 = .ok (.aload_n 0, 1) := by decide +kernel
theorem dX0_init_1 : decode cX0_init 1 = .ok (.invokespecial 3, 3) := by decide +kernel
theorem dX0_init_4 : decode cX0_init 4 = .ok (.aload_n 0, 1) := by decide +kernel
theorem dX0_init_5 : decode cX0_init 5 = .ok (.lconst 0, 1) := by decide +kernel
theorem dX0_init_6 : decode cX0_init 6 = .ok (.putfield 9, 3) := by decide +kernel
theorem dX0_init_9 : decode cX0_init 9 = .ok (.aload_n 0, 1) := by decide +kernel
theorem dX0_init_10 : decode cX0_init 10 = .ok (.lconst 0, 1) := by decide +kernel
theorem dX0_init_11 : decode cX0_init 11 = .ok (.putfield 15, 3) := by decide +kernel
theorem dX0_init_14 : decode cX0_init 14 = .ok (.aload_n 0, 1) := by decide +kernel
theorem dX0_init_15 : decode cX0_init 15 = .ok (.ldc2_w 18, 3) := by decide +kernel
theorem dX0_init_18 : decode cX0_init 18 = .ok (.putfield 20, 3) := by decide +kernel
theorem dX0_init_21 : decode cX0_init 21 = .ok (.aload_n 0, 1) := by decide +kernel
theorem dX0_init_22 : decode cX0_init 22 = .ok (.lconst 0, 1) := by decide +kernel
theorem dX0_init_23 : decode cX0_init 23 = .ok (.putfield 23, 3) := by decide +kernel
theorem dX0_init_26 : decode cX0_init 26 = .ok (.aload_n 0, 1) := by decide +kernel
theorem dX0_init_27 : decode cX0_init 27 = .ok (.ldc2_w 18, 3) := by decide +kernel
theorem dX0_init_30 : decode cX0_init 30 = .ok (.putfield 26, 3) := by decide +kernel
theorem dX0_init_33 : decode cX0_init 33 = .ok (.aload_n 0, 1) := by decide +kernel
theorem dX0_init_34 : decode cX0_init 34 = .ok (.ldc2_w 29, 3) := by decide +kernel
theorem dX0_init_37 : decode cX0_init 37 = .ok (.putfield 31, 3) := by decide +kernel
theorem dX0_init_40 : decode cX0_init 40 = .ok (.aload_n 0, 1) := by decide +kernel
theorem dX0_init_41 : decode cX0_init 41 = .ok (.ldc2_w 29, 3) := by decide +kernel
theorem dX0_init_44 : decode cX0_init 44 = .ok (.putfield 34, 3) := by decide +kernel
theorem dX0_init_47 : decode cX0_init 47 = .ok (.aload_n 0, 1) := by decide +kernel
theorem dX0_init_48 : decode cX0_init 48 = .ok (.ldc2_w 29, 3) := by decide +kernel
theorem dX0_init_51 : decode cX0_init 51 = .ok (.putfield 37, 3) := by decide +kernel
theorem dX0_init_54 : decode cX0_init 54 = .ok (.return_, 1) := by decide +kernel
theorem dX0_startFrom_0 : decode cX0_startFrom 0 = .ok (.aload_n 0, 1) := by decide +kernel
theorem dX0_startFrom_1 : decode cX0_startFrom 1 = .ok (.iload_n 1, 1) := by decide +kernel
theorem dX0_startFrom_2 : decode cX0_startFrom 2 = .ok (.i2l, 1) := by decide +kernel
theorem dX0_startFrom_3 : decode cX0_startFrom 3 = .ok (.putfield 9, 3) := by decide +kernel
theorem dX0_startFrom_6 : decode cX0_startFrom 6 = .ok (.aload_n 0, 1) := by decide +kernel
theorem dX0_startFrom_7 : decode cX0_startFrom 7 = .ok (.iload_n 2, 1) := by decide +kernel
theorem dX0_startFrom_8 : decode cX0_startFrom 8 = .ok (.i2l, 1) := by decide +kernel
theorem dX0_startFrom_9 : decode cX0_startFrom 9 = .ok (.putfield 15, 3) := by decide +kernel
theorem dX0_startFrom_12 : decode cX0_startFrom 12 = .ok (.aload_n 0, 1) := by decide +kernel
theorem dX0_startFrom_13 : decode cX0_startFrom 13 = .ok (.iload_n 3, 1) := by decide +kernel
theorem dX0_startFrom_14 : decode cX0_startFrom 14 = .ok (.i2l, 1) := by decide +kernel
theorem dX0_startFrom_15 : decode cX0_startFrom 15 = .ok (.putfield 20, 3) := by decide +kernel
theorem dX0_startFrom_18 : decode cX0_startFrom 18 = .ok (.aload_n 0, 1) := by decide +kernel
theorem dX0_startFrom_19 : decode cX0_startFrom 19 = .ok (.lconst 0, 1) := by decide +kernel
theorem dX0_startFrom_20 : decode cX0_startFrom 20 = .ok (.putfield 23, 3) := by decide +kernel
theorem dX0_startFrom_23 : decode cX0_startFrom 23 = .ok (.aload_n 0, 1) := by decide +kernel
theorem dX0_startFrom_24 : decode cX0_startFrom 24 = .ok (.iload 4, 2) := by decide +kernel
theorem dX0_startFrom_26 : decode cX0_startFrom 26 = .ok (.i2l, 1) := by decide +kernel
theorem dX0_startFrom_27 : decode cX0_startFrom 27 = .ok (.putfield 26, 3) := by decide +kernel
theorem dX0_startFrom_30 : decode cX0_startFrom 30 = .ok (.aload_n 0, 1) := by decide +kernel
theorem dX0_startFrom_31 : decode cX0_startFrom 31 = .ok (.ldc2_w 29, 3) := by decide +kernel
theorem dX0_startFrom_34 : decode cX0_startFrom 34 = .ok (.putfield 31, 3) := by decide +kernel
theorem dX0_startFrom_37 : decode cX0_startFrom 37 = .ok (.aload_n 0, 1) := by decide +kernel
theorem dX0_startFrom_38 : decode cX0_startFrom 38 = .ok (.ldc2_w 29, 3) := by decide +kernel
theorem dX0_startFrom_41 : decode cX0_startFrom 41 = .ok (.putfield 34, 3) := by decide +kernel
theorem dX0_startFrom_44 : decode cX0_startFrom 44 = .ok (.aload_n 0, 1) := by decide +kernel
theorem dX0_startFrom_45 : decode cX0_startFrom 45 = .ok (.ldc2_w 29, 3) := by decide +kernel
theorem dX0_startFrom_48 : decode cX0_startFrom 48 = .ok (.putfield 37, 3) := by decide +kernel
theorem dX0_startFrom_51 : decode cX0_startFrom 51 = .ok (.return_, 1) := by decide +kernel
theorem dX0_copyFrom_0 : decode cX0_copyFrom 0 = .ok (.aload_n 0, 1) := by decide +kernel
theorem dX0_copyFrom_1 : decode cX0_copyFrom 1 = .ok (.aload_n 1, 1) := by decide +kernel
theorem dX0_copyFrom_2 : decode cX0_copyFrom 2 = .ok (.getfield 9, 3) := by decide +kernel
theorem dX0_copyFrom_5 : decode cX0_copyFrom 5 = .ok (.putfield 9, 3) := by decide +kernel
theorem dX0_copyFrom_8 : decode cX0_copyFrom 8 = .ok (.aload_n 0, 1) := by decide +kernel
theorem dX0_copyFrom_9 : decode cX0_copyFrom 9 = .ok (.aload_n 1, 1) := by decide +kernel
theorem dX0_copyFrom_10 : decode cX0_copyFrom 10 = .ok (.getfield 15, 3) := by decide +kernel
theorem dX0_copyFrom_13 : decode cX0_copyFrom 13 = .ok (.putfield 15, 3) := by decide +kernel
theorem dX0_copyFrom_16 : decode cX0_copyFrom 16 = .ok (.aload_n 0, 1) := by decide +kernel
theorem dX0_copyFrom_17 : decode cX0_copyFrom 17 = .ok (.aload_n 1, 1) := by decide +kernel
theorem dX0_copyFrom_18 : decode cX0_copyFrom 18 = .ok (.getfield 20, 3) := by decide +kernel
theorem dX0_copyFrom_21 : decode cX0_copyFrom 21 = .ok (.putfield 20, 3) := by decide +kernel
theorem dX0_copyFrom_24 : decode cX0_copyFrom 24 = .ok (.aload_n 0, 1) := by decide +kernel
theorem dX0_copyFrom_25 : decode cX0_copyFrom 25 = .ok (.aload_n 1, 1) := by decide +kernel
theorem dX0_copyFrom_26 : decode cX0_copyFrom 26 = .ok (.getfield 23, 3) := by decide +kernel
theorem dX0_copyFrom_29 : decode cX0_copyFrom 29 = .ok (.putfield 23, 3) := by decide +kernel
theorem dX0_copyFrom_32 : decode cX0_copyFrom 32 = .ok (.aload_n 0, 1) := by decide +kernel
theorem dX0_copyFrom_33 : decode cX0_copyFrom 33 = .ok (.aload_n 1, 1) := by decide +kernel
theorem dX0_copyFrom_34 : decode cX0_copyFrom 34 = .ok (.getfield 26, 3) := by decide +kernel
theorem dX0_copyFrom_37 : decode cX0_copyFrom 37 = .ok (.putfield 26, 3) := by decide +kernel
theorem dX0_copyFrom_40 : decode cX0_copyFrom 40 = .ok (.aload_n 0, 1) := by decide +kernel
theorem dX0_copyFrom_41 : decode cX0_copyFrom 41 = .ok (.aload_n 1, 1) := by decide +kernel
theorem dX0_copyFrom_42 : decode cX0_copyFrom 42 = .ok (.getfield 31, 3) := by decide +kernel
theorem dX0_copyFrom_45 : decode cX0_copyFrom 45 = .ok (.putfield 31, 3) := by decide +kernel
theorem dX0_copyFrom_48 : decode cX0_copyFrom 48 = .ok (.aload_n 0, 1) := by decide +kernel
theorem dX0_copyFrom_49 : decode cX0_copyFrom 49 = .ok (.aload_n 1, 1) := by decide +kernel
theorem dX0_copyFrom_50 : decode cX0_copyFrom 50 = .ok (.getfield 34, 3) := by decide +kernel
theorem dX0_copyFrom_53 : decode cX0_copyFrom 53 = .ok (.putfield 34, 3) := by decide +kernel
theorem dX0_copyFrom_56 : decode cX0_copyFrom 56 = .ok (.aload_n 0, 1) := by decide +kernel
theorem dX0_copyFrom_57 : decode cX0_copyFrom 57 = .ok (.aload_n 1, 1) := by decide +kernel
theorem dX0_copyFrom_58 : decode cX0_copyFrom 58 = .ok (.getfield 37, 3) := by decide +kernel
theorem dX0_copyFrom_61 : decode cX0_copyFrom 61 = .ok (.putfield 37, 3) := by decide +kernel
theorem dX0_copyFrom_64 : decode cX0_copyFrom 64 = .ok (.return_, 1) := by decide +kernel
theorem dX0_mean_0 : decode cX0_mean 0 = .ok (.iload_n 1, 1) := by decide +kernel
theorem dX0_mean_1 : decode cX0_mean 1 = .ok (.ifCond .ne 10, 3) := by decide +kernel
theorem dX0_mean_4 : decode cX0_mean 4 = .ok (.aload_n 0, 1) := by decide +kernel
theorem dX0_mean_5 : decode cX0_mean 5 = .ok (.getfield 9, 3) := by decide +kernel
theorem dX0_mean_8 : decode cX0_mean 8 = .ok (.goto 7, 3) := by decide +kernel
theorem dX0_mean_11 : decode cX0_mean 11 = .ok (.aload_n 0, 1) := by decide +kernel
theorem dX0_mean_12 : decode cX0_mean 12 = .ok (.getfield 15, 3) := by decide +kernel
theorem dX0_mean_15 : decode cX0_mean 15 = .ok (.lreturn, 1) := by decide +kernel
set_option maxRecDepth 20000 in
theorem ggX0_advance_X0_move : GoodIn wsX0_advance wsX0_move := goodIn_r _ [11, 12, 13, 14, 15, 1, 2, 3, 5, 6, 16, 17, 18, 19, 20, 21, 22, 23, 24, 25, 26, 27, 28] (by decide +kernel) (by decide +kernel)
set_option maxRecDepth 20000 in
theorem gX0_advance_X0_move : GoodIn wsX0_advance (wsV RX0 42 RX0 yX0_move wsX0_move) := goodIn_app (goodIn_of _ (by decide +kernel)) ggX0_advance_X0_move
theorem dX0_advance_0 : decode cX0_advance 0 = .ok (.aload_n 0, 1) := by decide +kernel
theorem dX0_advance_1 : decode cX0_advance 1 = .ok (.aload_n 0, 1) := by decide +kernel
theorem dX0_advance_2 : decode cX0_advance 2 = .ok (.getfield 9, 3) := by decide +kernel
theorem dX0_advance_5 : decode cX0_advance 5 = .ok (.aload_n 0, 1) := by decide +kernel
theorem dX0_advance_6 : decode cX0_advance 6 = .ok (.getfield 15, 3) := by decide +kernel
theorem dX0_advance_9 : decode cX0_advance 9 = .ok (.ladd, 1) := by decide +kernel
theorem dX0_advance_10 : decode cX0_advance 10 = .ok (.lload_n 1, 1) := by decide +kernel
theorem dX0_advance_11 : decode cX0_advance 11 = .ok (.ladd, 1) := by decide +kernel
theorem dX0_advance_12 : decode cX0_advance 12 = .ok (.aload_n 0, 1) := by decide +kernel
theorem dX0_advance_13 : decode cX0_advance 13 = .ok (.getfield 15, 3) := by decide +kernel
theorem dX0_advance_16 : decode cX0_advance 16 = .ok (.aload_n 0, 1) := by decide +kernel
theorem dX0_advance_17 : decode cX0_advance 17 = .ok (.getfield 20, 3) := by decide +kernel
theorem dX0_advance_20 : decode cX0_advance 20 = .ok (.ldc2_w 40, 3) := by decide +kernel
theorem dX0_advance_23 : decode cX0_advance 23 = .ok (.aload_n 0, 1) := by decide +kernel
theorem dX0_advance_24 : decode cX0_advance 24 = .ok (.getfield 23, 3) := by decide +kernel
theorem dX0_advance_27 : decode cX0_advance 27 = .ok (.lmul, 1) := by decide +kernel
theorem dX0_advance_28 : decode cX0_advance 28 = .ok (.ladd, 1) := by decide +kernel
theorem dX0_advance_29 : decode cX0_advance 29 = .ok (.aload_n 0, 1) := by decide +kernel
theorem dX0_advance_30 : decode cX0_advance 30 = .ok (.getfield 26, 3) := by decide +kernel
theorem dX0_advance_33 : decode cX0_advance 33 = .ok (.ladd, 1) := by decide +kernel
theorem dX0_advance_34 : decode cX0_advance 34 = .ok (.lload_n 3, 1) := by decide +kernel
theorem dX0_advance_35 : decode cX0_advance 35 = .ok (.ladd, 1) := by decide +kernel
theorem dX0_advance_36 : decode cX0_advance 36 = .ok (.aload_n 0, 1) := by decide +kernel
theorem dX0_advance_37 : decode cX0_advance 37 = .ok (.getfield 23, 3) := by decide +kernel
theorem dX0_advance_40 : decode cX0_advance 40 = .ok (.aload_n 0, 1) := by decide +kernel
theorem dX0_advance_41 : decode cX0_advance 41 = .ok (.getfield 26, 3) := by decide +kernel
theorem dX0_advance_44 : decode cX0_advance 44 = .ok (.ladd, 1) := by decide +kernel
theorem dX0_advance_45 : decode cX0_advance 45 = .ok (.aload_n 0, 1) := by decide +kernel
theorem dX0_advance_46 : decode cX0_advance 46 = .ok (.getfield 26, 3) := by decide +kernel
theorem dX0_advance_49 : decode cX0_advance 49 = .ok (.lload 5, 2) := by decide +kernel
theorem dX0_advance_51 : decode cX0_advance 51 = .ok (.ladd, 1) := by decide +kernel
theorem dX0_advance_52 : decode cX0_advance 52 = .ok (.invokevirtual 42, 3) := by decide +kernel
theorem dX0_advance_55 : decode cX0_advance 55 = .ok (.ireturn, 1) := by decide +kernel
set_option maxRecDepth 20000 in
theorem ggX0_take_X0_mean : GoodIn wsX0_take wsX0_mean := goodIn_r _ [15, 7, 8, 40, 41, 42, 43, 44, 45, 46, 47] (by decide +kernel) (by decide +kernel)
set_option maxRecDepth 20000 in
theorem gX0_take_X0_mean : GoodIn wsX0_take (wsV RX0 46 RX0 yX0_mean wsX0_mean) := goodIn_app (goodIn_of _ (by decide +kernel)) ggX0_take_X0_mean
set_option maxRecDepth 20000 in
theorem ggX0_take_X3_dividedBy : GoodIn wsX0_take wsX3_dividedBy := goodIn_r _ [18, 19, 20, 21, 22, 23, 24] (by decide +kernel) (by decide +kernel)
set_option maxRecDepth 20000 in
theorem gX0_take_X3_dividedBy_n50 : GoodIn wsX0_take (wsX3_dividedBy) := ggX0_take_X3_dividedBy
set_option maxRecDepth 20000 in
theorem ggX0_take_X3_isInLimit : GoodIn wsX0_take wsX3_isInLimit := goodIn_r _ [26, 27, 28] (by decide +kernel) (by decide +kernel)
set_option maxRecDepth 20000 in
theorem gX0_take_X3_isInLimit_n54 : GoodIn wsX0_take (wsX3_isInLimit) := ggX0_take_X3_isInLimit
set_option maxRecDepth 20000 in
theorem ggX0_take_X3_times : GoodIn wsX0_take wsX3_times := goodIn_r _ [30, 31, 19, 21, 22, 23, 24] (by decide +kernel) (by decide +kernel)
set_option maxRecDepth 20000 in
theorem gX0_take_X3_times_n59 : GoodIn wsX0_take (wsX3_times) := ggX0_take_X3_times
set_option maxRecDepth 20000 in
theorem ggX0_take_X0_move : GoodIn wsX0_take wsX0_move := goodIn_r _ [35, 36, 37, 38, 39, 7, 8, 1, 2, 3, 25, 17, 26, 27, 28, 40, 41, 42, 43, 44, 45, 46, 47] (by decide +kernel) (by decide +kernel)
set_option maxRecDepth 20000 in
theorem gX0_take_X0_move : GoodIn wsX0_take (wsV RX0 42 RX0 yX0_move wsX0_move) := goodIn_app (goodIn_of _ (by decide +kernel)) ggX0_take_X0_move
theorem dX0_take_0 : decode cX0_take 0 = .ok (.iload_n 3, 1) := by decide +kernel
theorem dX0_take_1 : decode cX0_take 1 = .ok (.ifCond .ne 7, 3) := by decide +kernel
theorem dX0_take_4 : decode cX0_take 4 = .ok (.iconst 1, 1) := by decide +kernel
theorem dX0_take_5 : decode cX0_take 5 = .ok (.goto 4, 3) := by decide +kernel
theorem dX0_take_8 : decode cX0_take 8 = .ok (.iconst 0, 1) := by decide +kernel
theorem dX0_take_9 : decode cX0_take 9 = .ok (.istore 8, 2) := by decide +kernel
theorem dX0_take_11 : decode cX0_take 11 = .ok (.iload 8, 2) := by decide +kernel
theorem dX0_take_13 : decode cX0_take 13 = .ok (.ifCond .eq 10, 3) := by decide +kernel
theorem dX0_take_16 : decode cX0_take 16 = .ok (.aload_n 0, 1) := by decide +kernel
theorem dX0_take_17 : decode cX0_take 17 = .ok (.getfield 20, 3) := by decide +kernel
theorem dX0_take_20 : decode cX0_take 20 = .ok (.goto 7, 3) := by decide +kernel
theorem dX0_take_23 : decode cX0_take 23 = .ok (.aload_n 0, 1) := by decide +kernel
theorem dX0_take_24 : decode cX0_take 24 = .ok (.getfield 23, 3) := by decide +kernel
theorem dX0_take_27 : decode cX0_take 27 = .ok (.lstore 9, 2) := by decide +kernel
theorem dX0_take_29 : decode cX0_take 29 = .ok (.iload 8, 2) := by decide +kernel
theorem dX0_take_31 : decode cX0_take 31 = .ok (.ifCond .eq 10, 3) := by decide +kernel
theorem dX0_take_34 : decode cX0_take 34 = .ok (.aload_n 0, 1) := by decide +kernel
theorem dX0_take_35 : decode cX0_take 35 = .ok (.getfield 23, 3) := by decide +kernel
theorem dX0_take_38 : decode cX0_take 38 = .ok (.goto 7, 3) := by decide +kernel
theorem dX0_take_41 : decode cX0_take 41 = .ok (.aload_n 0, 1) := by decide +kernel
theorem dX0_take_42 : decode cX0_take 42 = .ok (.getfield 26, 3) := by decide +kernel
theorem dX0_take_45 : decode cX0_take 45 = .ok (.lstore 11, 2) := by decide +kernel
theorem dX0_take_47 : decode cX0_take 47 = .ok (.lload_n 1, 1) := by decide +kernel
theorem dX0_take_48 : decode cX0_take 48 = .ok (.aload_n 0, 1) := by decide +kernel
theorem dX0_take_49 : decode cX0_take 49 = .ok (.iload_n 3, 1) := by decide +kernel
theorem dX0_take_50 : decode cX0_take 50 = .ok (.invokevirtual 46, 3) := by decide +kernel
theorem dX0_take_53 : decode cX0_take 53 = .ok (.lsub, 1) := by decide +kernel
theorem dX0_take_54 : decode cX0_take 54 = .ok (.lstore 13, 2) := by decide +kernel
theorem dX0_take_56 : decode cX0_take 56 = .ok (.iload 8, 2) := by decide +kernel
theorem dX0_take_58 : decode cX0_take 58 = .ok (.ifCond .eq 10, 3) := by decide +kernel
theorem dX0_take_61 : decode cX0_take 61 = .ok (.aload_n 0, 1) := by decide +kernel
theorem dX0_take_62 : decode cX0_take 62 = .ok (.getfield 20, 3) := by decide +kernel
theorem dX0_take_65 : decode cX0_take 65 = .ok (.goto 7, 3) := by decide +kernel
theorem dX0_take_68 : decode cX0_take 68 = .ok (.aload_n 0, 1) := by decide +kernel
theorem dX0_take_69 : decode cX0_take 69 = .ok (.getfield 26, 3) := by decide +kernel
theorem dX0_take_72 : decode cX0_take 72 = .ok (.lload 4, 2) := by decide +kernel
theorem dX0_take_74 : decode cX0_take 74 = .ok (.ladd, 1) := by decide +kernel
theorem dX0_take_75 : decode cX0_take 75 = .ok (.lstore 15, 2) := by decide +kernel
theorem dX0_take_77 : decode cX0_take 77 = .ok (.lload 6, 2) := by decide +kernel
theorem dX0_take_79 : decode cX0_take 79 = .ok (.lconst 0, 1) := by decide +kernel
theorem dX0_take_80 : decode cX0_take 80 = .ok (.lcmp, 1) := by decide +kernel
theorem dX0_take_81 : decode cX0_take 81 = .ok (.ifCond .eq 29, 3) := by decide +kernel
theorem dX0_take_84 : decode cX0_take 84 = .ok (.lload 13, 2) := by decide +kernel
theorem dX0_take_86 : decode cX0_take 86 = .ok (.lload 13, 2) := by decide +kernel
theorem dX0_take_88 : decode cX0_take 88 = .ok (.lmul, 1) := by decide +kernel
theorem dX0_take_89 : decode cX0_take 89 = .ok (.lload 6, 2) := by decide +kernel
theorem dX0_take_91 : decode cX0_take 91 = .ok (.lload 15, 2) := by decide +kernel
theorem dX0_take_93 : decode cX0_take 93 = .ok (.lmul, 1) := by decide +kernel
theorem dX0_take_94 : decode cX0_take 94 = .ok (.ldc2_w 18, 3) := by decide +kernel
theorem dX0_take_97 : decode cX0_take 97 = .ok (.lmul, 1) := by decide +kernel
theorem dX0_take_98 : decode cX0_take 98 = .ok (.lcmp, 1) := by decide +kernel
theorem dX0_take_99 : decode cX0_take 99 = .ok (.ifCond .le 11, 3) := by decide +kernel
theorem dX0_take_102 : decode cX0_take 102 = .ok (.aload_n 0, 1) := by decide +kernel
theorem dX0_take_103 : decode cX0_take 103 = .ok (.lload 13, 2) := by decide +kernel
theorem dX0_take_105 : decode cX0_take 105 = .ok (.putfield 31, 3) := by decide +kernel
theorem dX0_take_108 : decode cX0_take 108 = .ok (.iconst 0, 1) := by decide +kernel
theorem dX0_take_109 : decode cX0_take 109 = .ok (.ireturn, 1) := by decide +kernel
theorem dX0_take_110 : decode cX0_take 110 = .ok (.lload 9, 2) := by decide +kernel
theorem dX0_take_112 : decode cX0_take 112 = .ok (.lload 15, 2) := by decide +kernel
theorem dX0_take_114 : decode cX0_take 114 = .ok (.invokestatic 50, 3) := by decide +kernel
theorem dX0_take_117 : decode cX0_take 117 = .ok (.lstore 17, 2) := by decide +kernel
theorem dX0_take_119 : decode cX0_take 119 = .ok (.lload 11, 2) := by decide +kernel
theorem dX0_take_121 : decode cX0_take 121 = .ok (.lload 15, 2) := by decide +kernel
theorem dX0_take_123 : decode cX0_take 123 = .ok (.invokestatic 50, 3) := by decide +kernel
theorem dX0_take_126 : decode cX0_take 126 = .ok (.lstore 19, 2) := by decide +kernel
theorem dX0_take_128 : decode cX0_take 128 = .ok (.lload 17, 2) := by decide +kernel
theorem dX0_take_130 : decode cX0_take 130 = .ok (.invokestatic 54, 3) := by decide +kernel
theorem dX0_take_133 : decode cX0_take 133 = .ok (.ifCond .eq 11, 3) := by decide +kernel
theorem dX0_take_136 : decode cX0_take 136 = .ok (.lload 19, 2) := by decide +kernel
theorem dX0_take_138 : decode cX0_take 138 = .ok (.invokestatic 54, 3) := by decide +kernel
theorem dX0_take_141 : decode cX0_take 141 = .ok (.ifCond .ne 6, 3) := by decide +kernel
theorem dX0_take_144 : decode cX0_take 144 = .ok (.ldc 58, 2) := by decide +kernel
theorem dX0_take_146 : decode cX0_take 146 = .ok (.ireturn, 1) := by decide +kernel
theorem dX0_take_147 : decode cX0_take 147 = .ok (.aload_n 0, 1) := by decide +kernel
theorem dX0_take_148 : decode cX0_take 148 = .ok (.aload_n 0, 1) := by decide +kernel
theorem dX0_take_149 : decode cX0_take 149 = .ok (.getfield 9, 3) := by decide +kernel
theorem dX0_take_152 : decode cX0_take 152 = .ok (.lload 17, 2) := by decide +kernel
theorem dX0_take_154 : decode cX0_take 154 = .ok (.lload 13, 2) := by decide +kernel
theorem dX0_take_156 : decode cX0_take 156 = .ok (.invokestatic 59, 3) := by decide +kernel
theorem dX0_take_159 : decode cX0_take 159 = .ok (.ladd, 1) := by decide +kernel
theorem dX0_take_160 : decode cX0_take 160 = .ok (.aload_n 0, 1) := by decide +kernel
theorem dX0_take_161 : decode cX0_take 161 = .ok (.getfield 15, 3) := by decide +kernel
theorem dX0_take_164 : decode cX0_take 164 = .ok (.lload 19, 2) := by decide +kernel
theorem dX0_take_166 : decode cX0_take 166 = .ok (.lload 13, 2) := by decide +kernel
theorem dX0_take_168 : decode cX0_take 168 = .ok (.invokestatic 59, 3) := by decide +kernel
theorem dX0_take_171 : decode cX0_take 171 = .ok (.ladd, 1) := by decide +kernel
theorem dX0_take_172 : decode cX0_take 172 = .ok (.aload_n 0, 1) := by decide +kernel
theorem dX0_take_173 : decode cX0_take 173 = .ok (.getfield 20, 3) := by decide +kernel
theorem dX0_take_176 : decode cX0_take 176 = .ok (.lload 17, 2) := by decide +kernel
theorem dX0_take_178 : decode cX0_take 178 = .ok (.lload 9, 2) := by decide +kernel
theorem dX0_take_180 : decode cX0_take 180 = .ok (.invokestatic 59, 3) := by decide +kernel
theorem dX0_take_183 : decode cX0_take 183 = .ok (.lsub, 1) := by decide +kernel
theorem dX0_take_184 : decode cX0_take 184 = .ok (.aload_n 0, 1) := by decide +kernel
theorem dX0_take_185 : decode cX0_take 185 = .ok (.getfield 23, 3) := by decide +kernel
theorem dX0_take_188 : decode cX0_take 188 = .ok (.lload 17, 2) := by decide +kernel
theorem dX0_take_190 : decode cX0_take 190 = .ok (.lload 11, 2) := by decide +kernel
theorem dX0_take_192 : decode cX0_take 192 = .ok (.invokestatic 59, 3) := by decide +kernel
theorem dX0_take_195 : decode cX0_take 195 = .ok (.lsub, 1) := by decide +kernel
theorem dX0_take_196 : decode cX0_take 196 = .ok (.aload_n 0, 1) := by decide +kernel
theorem dX0_take_197 : decode cX0_take 197 = .ok (.getfield 26, 3) := by decide +kernel
theorem dX0_take_200 : decode cX0_take 200 = .ok (.lload 19, 2) := by decide +kernel
theorem dX0_take_202 : decode cX0_take 202 = .ok (.lload 11, 2) := by decide +kernel
theorem dX0_take_204 : decode cX0_take 204 = .ok (.invokestatic 59, 3) := by decide +kernel
theorem dX0_take_207 : decode cX0_take 207 = .ok (.lsub, 1) := by decide +kernel
theorem dX0_take_208 : decode cX0_take 208 = .ok (.invokevirtual 42, 3) := by decide +kernel
theorem dX0_take_211 : decode cX0_take 211 = .ok (.istore 21, 2) := by decide +kernel
theorem dX0_take_213 : decode cX0_take 213 = .ok (.iload 21, 2) := by decide +kernel
theorem dX0_take_215 : decode cX0_take 215 = .ok (.ifCond .ne 6, 3) := by decide +kernel
theorem dX0_take_218 : decode cX0_take 218 = .ok (.ldc 58, 2) := by decide +kernel
theorem dX0_take_220 : decode cX0_take 220 = .ok (.ireturn, 1) := by decide +kernel
theorem dX0_take_221 : decode cX0_take 221 = .ok (.aload_n 0, 1) := by decide +kernel
theorem dX0_take_222 : decode cX0_take 222 = .ok (.lload 13, 2) := by decide +kernel
theorem dX0_take_224 : decode cX0_take 224 = .ok (.putfield 31, 3) := by decide +kernel
theorem dX0_take_227 : decode cX0_take 227 = .ok (.aload_n 0, 1) := by decide +kernel
theorem dX0_take_228 : decode cX0_take 228 = .ok (.lload 17, 2) := by decide +kernel
theorem dX0_take_230 : decode cX0_take 230 = .ok (.putfield 34, 3) := by decide +kernel
theorem dX0_take_233 : decode cX0_take 233 = .ok (.aload_n 0, 1) := by decide +kernel
theorem dX0_take_234 : decode cX0_take 234 = .ok (.lload 19, 2) := by decide +kernel
theorem dX0_take_236 : decode cX0_take 236 = .ok (.putfield 37, 3) := by decide +kernel
theorem dX0_take_239 : decode cX0_take 239 = .ok (.iconst 1, 1) := by decide +kernel
theorem dX0_take_240 : decode cX0_take 240 = .ok (.ireturn, 1) := by decide +kernel
set_option maxRecDepth 20000 in
theorem ggX0_move_X3_isInLimit : GoodIn wsX0_move wsX3_isInLimit := goodIn_r _ [12, 13, 14] (by decide +kernel) (by decide +kernel)
set_option maxRecDepth 20000 in
theorem gX0_move_X3_isInLimit_n54 : GoodIn wsX0_move (wsX3_isInLimit) := ggX0_move_X3_isInLimit
theorem dX0_move_0 : decode cX0_move 0 = .ok (.lload 5, 2) := by decide +kernel
theorem dX0_move_2 : decode cX0_move 2 = .ok (.lconst 0, 1) := by decide +kernel
theorem dX0_move_3 : decode cX0_move 3 = .ok (.invokestatic 62, 3) := by decide +kernel
theorem dX0_move_6 : decode cX0_move 6 = .ok (.lstore 11, 2) := by decide +kernel
theorem dX0_move_8 : decode cX0_move 8 = .ok (.lload 9, 2) := by decide +kernel
theorem dX0_move_10 : decode cX0_move 10 = .ok (.lconst 0, 1) := by decide +kernel
theorem dX0_move_11 : decode cX0_move 11 = .ok (.invokestatic 62, 3) := by decide +kernel
theorem dX0_move_14 : decode cX0_move 14 = .ok (.lstore 13, 2) := by decide +kernel
theorem dX0_move_16 : decode cX0_move 16 = .ok (.lload_n 1, 1) := by decide +kernel
theorem dX0_move_17 : decode cX0_move 17 = .ok (.invokestatic 54, 3) := by decide +kernel
theorem dX0_move_20 : decode cX0_move 20 = .ok (.ifCond .eq 34, 3) := by decide +kernel
theorem dX0_move_23 : decode cX0_move 23 = .ok (.lload_n 3, 1) := by decide +kernel
theorem dX0_move_24 : decode cX0_move 24 = .ok (.invokestatic 54, 3) := by decide +kernel
theorem dX0_move_27 : decode cX0_move 27 = .ok (.ifCond .eq 27, 3) := by decide +kernel
theorem dX0_move_30 : decode cX0_move 30 = .ok (.lload 11, 2) := by decide +kernel
theorem dX0_move_32 : decode cX0_move 32 = .ok (.invokestatic 54, 3) := by decide +kernel
theorem dX0_move_35 : decode cX0_move 35 = .ok (.ifCond .eq 19, 3) := by decide +kernel
theorem dX0_move_38 : decode cX0_move 38 = .ok (.lload 7, 2) := by decide +kernel
theorem dX0_move_40 : decode cX0_move 40 = .ok (.invokestatic 54, 3) := by decide +kernel
theorem dX0_move_43 : decode cX0_move 43 = .ok (.ifCond .eq 11, 3) := by decide +kernel
theorem dX0_move_46 : decode cX0_move 46 = .ok (.lload 13, 2) := by decide +kernel
theorem dX0_move_48 : decode cX0_move 48 = .ok (.invokestatic 54, 3) := by decide +kernel
theorem dX0_move_51 : decode cX0_move 51 = .ok (.ifCond .ne 5, 3) := by decide +kernel
theorem dX0_move_54 : decode cX0_move 54 = .ok (.iconst 0, 1) := by decide +kernel
theorem dX0_move_55 : decode cX0_move 55 = .ok (.ireturn, 1) := by decide +kernel
theorem dX0_move_56 : decode cX0_move 56 = .ok (.aload_n 0, 1) := by decide +kernel
theorem dX0_move_57 : decode cX0_move 57 = .ok (.lload_n 1, 1) := by decide +kernel
theorem dX0_move_58 : decode cX0_move 58 = .ok (.putfield 9, 3) := by decide +kernel
theorem dX0_move_61 : decode cX0_move 61 = .ok (.aload_n 0, 1) := by decide +kernel
theorem dX0_move_62 : decode cX0_move 62 = .ok (.lload_n 3, 1) := by decide +kernel
theorem dX0_move_63 : decode cX0_move 63 = .ok (.putfield 15, 3) := by decide +kernel
theorem dX0_move_66 : decode cX0_move 66 = .ok (.aload_n 0, 1) := by decide +kernel
theorem dX0_move_67 : decode cX0_move 67 = .ok (.lload 11, 2) := by decide +kernel
theorem dX0_move_69 : decode cX0_move 69 = .ok (.putfield 20, 3) := by decide +kernel
theorem dX0_move_72 : decode cX0_move 72 = .ok (.aload_n 0, 1) := by decide +kernel
theorem dX0_move_73 : decode cX0_move 73 = .ok (.lload 7, 2) := by decide +kernel
theorem dX0_move_75 : decode cX0_move 75 = .ok (.putfield 23, 3) := by decide +kernel
theorem dX0_move_78 : decode cX0_move 78 = .ok (.aload_n 0, 1) := by decide +kernel
theorem dX0_move_79 : decode cX0_move 79 = .ok (.lload 13, 2) := by decide +kernel
theorem dX0_move_81 : decode cX0_move 81 = .ok (.putfield 26, 3) := by decide +kernel
theorem dX0_move_84 : decode cX0_move 84 = .ok (.iconst 1, 1) := by decide +kernel
theorem dX0_move_85 : decode cX0_move 85 = .ok (.ireturn, 1) := by decide +kernel
set_option maxRecDepth 20000 in
theorem ggX0_mixStateInto_X3_mix : GoodIn wsX0_mixStateInto wsX3_mix := goodIn_r _ [8, 9] (by decide +kernel) (by decide +kernel)
set_option maxRecDepth 20000 in
theorem gX0_mixStateInto_X3_mix_n67 : GoodIn wsX0_mixStateInto (wsX3_mix) := ggX0_mixStateInto_X3_mix
theorem dX0_mixStateInto_0 : decode cX0_mixStateInto 0 = .ok (.lload_n 1, 1) := by decide +kernel
theorem dX0_mixStateInto_1 : decode cX0_mixStateInto 1 = .ok (.aload_n 0, 1) := by decide +kernel
theorem dX0_mixStateInto_2 : decode cX0_mixStateInto 2 = .ok (.getfield 9, 3) := by decide +kernel
theorem dX0_mixStateInto_5 : decode cX0_mixStateInto 5 = .ok (.invokestatic 67, 3) := by decide +kernel
theorem dX0_mixStateInto_8 : decode cX0_mixStateInto 8 = .ok (.lstore_n 1, 1) := by decide +kernel
theorem dX0_mixStateInto_9 : decode cX0_mixStateInto 9 = .ok (.lload_n 1, 1) := by decide +kernel
theorem dX0_mixStateInto_10 : decode cX0_mixStateInto 10 = .ok (.aload_n 0, 1) := by decide +kernel
theorem dX0_mixStateInto_11 : decode cX0_mixStateInto 11 = .ok (.getfield 15, 3) := by decide +kernel
theorem dX0_mixStateInto_14 : decode cX0_mixStateInto 14 = .ok (.invokestatic 67, 3) := by decide +kernel
theorem dX0_mixStateInto_17 : decode cX0_mixStateInto 17 = .ok (.lstore_n 1, 1) := by decide +kernel
theorem dX0_mixStateInto_18 : decode cX0_mixStateInto 18 = .ok (.lload_n 1, 1) := by decide +kernel
theorem dX0_mixStateInto_19 : decode cX0_mixStateInto 19 = .ok (.aload_n 0, 1) := by decide +kernel
theorem dX0_mixStateInto_20 : decode cX0_mixStateInto 20 = .ok (.getfield 20, 3) := by decide +kernel
theorem dX0_mixStateInto_23 : decode cX0_mixStateInto 23 = .ok (.invokestatic 67, 3) := by decide +kernel
theorem dX0_mixStateInto_26 : decode cX0_mixStateInto 26 = .ok (.lstore_n 1, 1) := by decide +kernel
theorem dX0_mixStateInto_27 : decode cX0_mixStateInto 27 = .ok (.lload_n 1, 1) := by decide +kernel
theorem dX0_mixStateInto_28 : decode cX0_mixStateInto 28 = .ok (.aload_n 0, 1) := by decide +kernel
theorem dX0_mixStateInto_29 : decode cX0_mixStateInto 29 = .ok (.getfield 23, 3) := by decide +kernel
theorem dX0_mixStateInto_32 : decode cX0_mixStateInto 32 = .ok (.invokestatic 67, 3) := by decide +kernel
theorem dX0_mixStateInto_35 : decode cX0_mixStateInto 35 = .ok (.lstore_n 1, 1) := by decide +kernel
theorem dX0_mixStateInto_36 : decode cX0_mixStateInto 36 = .ok (.lload_n 1, 1) := by decide +kernel
theorem dX0_mixStateInto_37 : decode cX0_mixStateInto 37 = .ok (.aload_n 0, 1) := by decide +kernel
theorem dX0_mixStateInto_38 : decode cX0_mixStateInto 38 = .ok (.getfield 26, 3) := by decide +kernel
theorem dX0_mixStateInto_41 : decode cX0_mixStateInto 41 = .ok (.invokestatic 67, 3) := by decide +kernel
theorem dX0_mixStateInto_44 : decode cX0_mixStateInto 44 = .ok (.lreturn, 1) := by decide +kernel
set_option maxRecDepth 20000 in
theorem ggX0_mixLatestReadingInto_X3_mix : GoodIn wsX0_mixLatestReadingInto wsX3_mix := goodIn_r _ [6, 7] (by decide +kernel) (by decide +kernel)
set_option maxRecDepth 20000 in
theorem gX0_mixLatestReadingInto_X3_mix_n67 : GoodIn wsX0_mixLatestReadingInto (wsX3_mix) := ggX0_mixLatestReadingInto_X3_mix
theorem dX0_mixLatestReadingInto_0 : decode cX0_mixLatestReadingInto 0 = .ok (.lload_n 1, 1) := by decide +kernel
theorem dX0_mixLatestReadingInto_1 : decode cX0_mixLatestReadingInto 1 = .ok (.aload_n 0, 1) := by decide +kernel
theorem dX0_mixLatestReadingInto_2 : decode cX0_mixLatestReadingInto 2 = .ok (.getfield 31, 3) := by decide +kernel
theorem dX0_mixLatestReadingInto_5 : decode cX0_mixLatestReadingInto 5 = .ok (.invokestatic 67, 3) := by decide +kernel
theorem dX0_mixLatestReadingInto_8 : decode cX0_mixLatestReadingInto 8 = .ok (.lstore_n 1, 1) := by decide +kernel
theorem dX0_mixLatestReadingInto_9 : decode cX0_mixLatestReadingInto 9 = .ok (.lload_n 1, 1) := by decide +kernel
theorem dX0_mixLatestReadingInto_10 : decode cX0_mixLatestReadingInto 10 = .ok (.aload_n 0, 1) := by decide +kernel
theorem dX0_mixLatestReadingInto_11 : decode cX0_mixLatestReadingInto 11 = .ok (.getfield 34, 3) := by decide +kernel
theorem dX0_mixLatestReadingInto_14 : decode cX0_mixLatestReadingInto 14 = .ok (.invokestatic 67, 3) := by decide +kernel
theorem dX0_mixLatestReadingInto_17 : decode cX0_mixLatestReadingInto 17 = .ok (.lstore_n 1, 1) := by decide +kernel
theorem dX0_mixLatestReadingInto_18 : decode cX0_mixLatestReadingInto 18 = .ok (.lload_n 1, 1) := by decide +kernel
theorem dX0_mixLatestReadingInto_19 : decode cX0_mixLatestReadingInto 19 = .ok (.aload_n 0, 1) := by decide +kernel
theorem dX0_mixLatestReadingInto_20 : decode cX0_mixLatestReadingInto 20 = .ok (.getfield 37, 3) := by decide +kernel
theorem dX0_mixLatestReadingInto_23 : decode cX0_mixLatestReadingInto 23 = .ok (.invokestatic 67, 3) := by decide +kernel
end
section
theorem dX0_mixLatestReadingInto_26 : decode cX0_mixLatestReadingInto 26 = .ok (.lreturn, 1) := by decide +kernel
theorem dX1_init_0 : decode cX1_init 0 = .ok (.aload_n 0, 1) := by decide +kernel
theorem dX1_init_1 : decode cX1_init 1 = .ok (.invokespecial 3, 3) := by decide +kernel
theorem dX1_init_4 : decode cX1_init 4 = .ok (.aload_n 0, 1) := by decide +kernel
theorem dX1_init_5 : decode cX1_init 5 = .ok (.bipush 24, 2) := by decide +kernel
theorem dX1_init_7 : decode cX1_init 7 = .ok (.newarray .int, 2) := by decide +kernel
theorem dX1_init_9 : decode cX1_init 9 = .ok (.putfield 9, 3) := by decide +kernel
theorem dX1_init_12 : decode cX1_init 12 = .ok (.aload_n 0, 1) := by decide +kernel
theorem dX1_init_13 : decode cX1_init 13 = .ok (.bipush 24, 2) := by decide +kernel
theorem dX1_init_15 : decode cX1_init 15 = .ok (.newarray .int, 2) := by decide +kernel
theorem dX1_init_17 : decode cX1_init 17 = .ok (.putfield 15, 3) := by decide +kernel
theorem dX1_init_20 : decode cX1_init 20 = .ok (.aload_n 0, 1) := by decide +kernel
theorem dX1_init_21 : decode cX1_init 21 = .ok (.iconst 0, 1) := by decide +kernel
theorem dX1_init_22 : decode cX1_init 22 = .ok (.putfield 18, 3) := by decide +kernel
theorem dX1_init_25 : decode cX1_init 25 = .ok (.return_, 1) := by decide +kernel
set_option maxRecDepth 20000 in
theorem ggX1_append_X1_dropOldest : GoodIn wsX1_append wsX1_dropOldest := goodIn_r _ [8, 2, 3, 1, 9, 10, 11] (by decide +kernel) (by decide +kernel)
set_option maxRecDepth 20000 in
theorem gX1_append_X1_dropOldest : GoodIn wsX1_append (wsV RX1 22 RX1 yX1_dropOldest wsX1_dropOldest) := goodIn_app (goodIn_of _ (by decide +kernel)) ggX1_append_X1_dropOldest
theorem dX1_append_0 : decode cX1_append 0 = .ok (.aload_n 0, 1) := by decide +kernel
theorem dX1_append_1 : decode cX1_append 1 = .ok (.getfield 18, 3) := by decide +kernel
theorem dX1_append_4 : decode cX1_append 4 = .ok (.bipush 24, 2) := by decide +kernel
theorem dX1_append_6 : decode cX1_append 6 = .ok (.if_icmp .lt 7, 3) := by decide +kernel
theorem dX1_append_9 : decode cX1_append 9 = .ok (.aload_n 0, 1) := by decide +kernel
theorem dX1_append_10 : decode cX1_append 10 = .ok (.invokevirtual 22, 3) := by decide +kernel
theorem dX1_append_13 : decode cX1_append 13 = .ok (.aload_n 0, 1) := by decide +kernel
theorem dX1_append_14 : decode cX1_append 14 = .ok (.getfield 18, 3) := by decide +kernel
theorem dX1_append_17 : decode cX1_append 17 = .ok (.ifCond .lt 42, 3) := by decide +kernel
theorem dX1_append_20 : decode cX1_append 20 = .ok (.aload_n 0, 1) := by decide +kernel
theorem dX1_append_21 : decode cX1_append 21 = .ok (.getfield 18, 3) := by decide +kernel
theorem dX1_append_24 : decode cX1_append 24 = .ok (.bipush 24, 2) := by decide +kernel
theorem dX1_append_26 : decode cX1_append 26 = .ok (.if_icmp .ge 33, 3) := by decide +kernel
theorem dX1_append_29 : decode cX1_append 29 = .ok (.aload_n 0, 1) := by decide +kernel
theorem dX1_append_30 : decode cX1_append 30 = .ok (.getfield 9, 3) := by decide +kernel
theorem dX1_append_33 : decode cX1_append 33 = .ok (.aload_n 0, 1) := by decide +kernel
theorem dX1_append_34 : decode cX1_append 34 = .ok (.getfield 18, 3) := by decide +kernel
theorem dX1_append_37 : decode cX1_append 37 = .ok (.iload_n 1, 1) := by decide +kernel
theorem dX1_append_38 : decode cX1_append 38 = .ok (.iastore, 1) := by decide +kernel
theorem dX1_append_39 : decode cX1_append 39 = .ok (.aload_n 0, 1) := by decide +kernel
theorem dX1_append_40 : decode cX1_append 40 = .ok (.getfield 15, 3) := by decide +kernel
theorem dX1_append_43 : decode cX1_append 43 = .ok (.aload_n 0, 1) := by decide +kernel
theorem dX1_append_44 : decode cX1_append 44 = .ok (.getfield 18, 3) := by decide +kernel
theorem dX1_append_47 : decode cX1_append 47 = .ok (.iload_n 2, 1) := by decide +kernel
theorem dX1_append_48 : decode cX1_append 48 = .ok (.iastore, 1) := by decide +kernel
theorem dX1_append_49 : decode cX1_append 49 = .ok (.aload_n 0, 1) := by decide +kernel
theorem dX1_append_50 : decode cX1_append 50 = .ok (.dup, 1) := by decide +kernel
theorem dX1_append_51 : decode cX1_append 51 = .ok (.getfield 18, 3) := by decide +kernel
theorem dX1_append_54 : decode cX1_append 54 = .ok (.iconst 1, 1) := by decide +kernel
theorem dX1_append_55 : decode cX1_append 55 = .ok (.iadd, 1) := by decide +kernel
theorem dX1_append_56 : decode cX1_append 56 = .ok (.putfield 18, 3) := by decide +kernel
theorem dX1_append_59 : decode cX1_append 59 = .ok (.return_, 1) := by decide +kernel
theorem dX1_dropOldest_0 : decode cX1_dropOldest 0 = .ok (.iconst 1, 1) := by decide +kernel
theorem dX1_dropOldest_1 : decode cX1_dropOldest 1 = .ok (.istore_n 1, 1) := by decide +kernel
theorem dX1_dropOldest_2 : decode cX1_dropOldest 2 = .ok (.iload_n 1, 1) := by decide +kernel
theorem dX1_dropOldest_3 : decode cX1_dropOldest 3 = .ok (.bipush 24, 2) := by decide +kernel
theorem dX1_dropOldest_5 : decode cX1_dropOldest 5 = .ok (.if_icmp .ge 37, 3) := by decide +kernel
theorem dX1_dropOldest_8 : decode cX1_dropOldest 8 = .ok (.aload_n 0, 1) := by decide +kernel
theorem dX1_dropOldest_9 : decode cX1_dropOldest 9 = .ok (.getfield 9, 3) := by decide +kernel
theorem dX1_dropOldest_12 : decode cX1_dropOldest 12 = .ok (.iload_n 1, 1) := by decide +kernel
theorem dX1_dropOldest_13 : decode cX1_dropOldest 13 = .ok (.iconst 1, 1) := by decide +kernel
theorem dX1_dropOldest_14 : decode cX1_dropOldest 14 = .ok (.isub, 1) := by decide +kernel
theorem dX1_dropOldest_15 : decode cX1_dropOldest 15 = .ok (.aload_n 0, 1) := by decide +kernel
theorem dX1_dropOldest_16 : decode cX1_dropOldest 16 = .ok (.getfield 9, 3) := by decide +kernel
theorem dX1_dropOldest_19 : decode cX1_dropOldest 19 = .ok (.iload_n 1, 1) := by decide +kernel
theorem dX1_dropOldest_20 : decode cX1_dropOldest 20 = .ok (.iaload, 1) := by decide +kernel
theorem dX1_dropOldest_21 : decode cX1_dropOldest 21 = .ok (.iastore, 1) := by decide +kernel
theorem dX1_dropOldest_22 : decode cX1_dropOldest 22 = .ok (.aload_n 0, 1) := by decide +kernel
theorem dX1_dropOldest_23 : decode cX1_dropOldest 23 = .ok (.getfield 15, 3) := by decide +kernel
theorem dX1_dropOldest_26 : decode cX1_dropOldest 26 = .ok (.iload_n 1, 1) := by decide +kernel
theorem dX1_dropOldest_27 : decode cX1_dropOldest 27 = .ok (.iconst 1, 1) := by decide +kernel
theorem dX1_dropOldest_28 : decode cX1_dropOldest 28 = .ok (.isub, 1) := by decide +kernel
theorem dX1_dropOldest_29 : decode cX1_dropOldest 29 = .ok (.aload_n 0, 1) := by decide +kernel
theorem dX1_dropOldest_30 : decode cX1_dropOldest 30 = .ok (.getfield 15, 3) := by decide +kernel
theorem dX1_dropOldest_33 : decode cX1_dropOldest 33 = .ok (.iload_n 1, 1) := by decide +kernel
theorem dX1_dropOldest_34 : decode cX1_dropOldest 34 = .ok (.iaload, 1) := by decide +kernel
theorem dX1_dropOldest_35 : decode cX1_dropOldest 35 = .ok (.iastore, 1) := by decide +kernel
theorem dX1_dropOldest_36 : decode cX1_dropOldest 36 = .ok (.iinc 1 1, 3) := by decide +kernel
theorem dX1_dropOldest_39 : decode cX1_dropOldest 39 = .ok (.goto (-37), 3) := by decide +kernel
theorem dX1_dropOldest_42 : decode cX1_dropOldest 42 = .ok (.aload_n 0, 1) := by decide +kernel
theorem dX1_dropOldest_43 : decode cX1_dropOldest 43 = .ok (.bipush 23, 2) := by decide +kernel
theorem dX1_dropOldest_45 : decode cX1_dropOldest 45 = .ok (.putfield 18, 3) := by decide +kernel
theorem dX1_dropOldest_48 : decode cX1_dropOldest 48 = .ok (.return_, 1) := by decide +kernel
theorem dX1_hasReading_0 : decode cX1_hasReading 0 = .ok (.iconst 0, 1) := by decide +kernel
theorem dX1_hasReading_1 : decode cX1_hasReading 1 = .ok (.istore_n 1, 1) := by decide +kernel
theorem dX1_hasReading_2 : decode cX1_hasReading 2 = .ok (.iload_n 1, 1) := by decide +kernel
theorem dX1_hasReading_3 : decode cX1_hasReading 3 = .ok (.aload_n 0, 1) := by decide +kernel
theorem dX1_hasReading_4 : decode cX1_hasReading 4 = .ok (.getfield 18, 3) := by decide +kernel
theorem dX1_hasReading_7 : decode cX1_hasReading 7 = .ok (.if_icmp .ge 27, 3) := by decide +kernel
theorem dX1_hasReading_10 : decode cX1_hasReading 10 = .ok (.iload_n 1, 1) := by decide +kernel
theorem dX1_hasReading_11 : decode cX1_hasReading 11 = .ok (.bipush 24, 2) := by decide +kernel
theorem dX1_hasReading_13 : decode cX1_hasReading 13 = .ok (.if_icmp .ge 21, 3) := by decide +kernel
theorem dX1_hasReading_16 : decode cX1_hasReading 16 = .ok (.aload_n 0, 1) := by decide +kernel
theorem dX1_hasReading_17 : decode cX1_hasReading 17 = .ok (.getfield 9, 3) := by decide +kernel
theorem dX1_hasReading_20 : decode cX1_hasReading 20 = .ok (.iload_n 1, 1) := by decide +kernel
theorem dX1_hasReading_21 : decode cX1_hasReading 21 = .ok (.iaload, 1) := by decide +kernel
theorem dX1_hasReading_22 : decode cX1_hasReading 22 = .ok (.iconst (-1), 1) := by decide +kernel
theorem dX1_hasReading_23 : decode cX1_hasReading 23 = .ok (.if_icmp .eq 5, 3) := by decide +kernel
theorem dX1_hasReading_26 : decode cX1_hasReading 26 = .ok (.iconst 1, 1) := by decide +kernel
theorem dX1_hasReading_27 : decode cX1_hasReading 27 = .ok (.ireturn, 1) := by decide +kernel
theorem dX1_hasReading_28 : decode cX1_hasReading 28 = .ok (.iinc 1 1, 3) := by decide +kernel
theorem dX1_hasReading_31 : decode cX1_hasReading 31 = .ok (.goto (-29), 3) := by decide +kernel
theorem dX1_hasReading_34 : decode cX1_hasReading 34 = .ok (.iconst 0, 1) := by decide +kernel
theorem dX1_hasReading_35 : decode cX1_hasReading 35 = .ok (.ireturn, 1) := by decide +kernel
set_option maxRecDepth 20000 in
theorem ggX1_copyFrom_X3_copyRow : GoodIn wsX1_copyFrom wsX3_copyRow := goodIn_r _ [6] (by decide +kernel) (by decide +kernel)
set_option maxRecDepth 20000 in
theorem gX1_copyFrom_X3_copyRow_n25 : GoodIn wsX1_copyFrom (wsX3_copyRow) := ggX1_copyFrom_X3_copyRow
theorem dX1_copyFrom_0 : decode cX1_copyFrom 0 = .ok (.aload_n 1, 1) := by decide +kernel
theorem dX1_copyFrom_1 : decode cX1_copyFrom 1 = .ok (.getfield 9, 3) := by decide +kernel
theorem dX1_copyFrom_4 : decode cX1_copyFrom 4 = .ok (.aload_n 0, 1) := by decide +kernel
theorem dX1_copyFrom_5 : decode cX1_copyFrom 5 = .ok (.getfield 9, 3) := by decide +kernel
theorem dX1_copyFrom_8 : decode cX1_copyFrom 8 = .ok (.invokestatic 25, 3) := by decide +kernel
theorem dX1_copyFrom_11 : decode cX1_copyFrom 11 = .ok (.aload_n 1, 1) := by decide +kernel
theorem dX1_copyFrom_12 : decode cX1_copyFrom 12 = .ok (.getfield 15, 3) := by decide +kernel
theorem dX1_copyFrom_15 : decode cX1_copyFrom 15 = .ok (.aload_n 0, 1) := by decide +kernel
theorem dX1_copyFrom_16 : decode cX1_copyFrom 16 = .ok (.getfield 15, 3) := by decide +kernel
theorem dX1_copyFrom_19 : decode cX1_copyFrom 19 = .ok (.invokestatic 25, 3) := by decide +kernel
theorem dX1_copyFrom_22 : decode cX1_copyFrom 22 = .ok (.aload_n 0, 1) := by decide +kernel
theorem dX1_copyFrom_23 : decode cX1_copyFrom 23 = .ok (.aload_n 1, 1) := by decide +kernel
theorem dX1_copyFrom_24 : decode cX1_copyFrom 24 = .ok (.getfield 18, 3) := by decide +kernel
theorem dX1_copyFrom_27 : decode cX1_copyFrom 27 = .ok (.putfield 18, 3) := by decide +kernel
theorem dX1_copyFrom_30 : decode cX1_copyFrom 30 = .ok (.return_, 1) := by decide +kernel
set_option maxRecDepth 20000 in
theorem ggX1_mixInto_X3_mix : GoodIn wsX1_mixInto wsX3_mix := goodIn_r _ [6, 7] (by decide +kernel) (by decide +kernel)
set_option maxRecDepth 20000 in
theorem gX1_mixInto_X3_mix_n29 : GoodIn wsX1_mixInto (wsX3_mix) := ggX1_mixInto_X3_mix
theorem dX1_mixInto_0 : decode cX1_mixInto 0 = .ok (.iconst 0, 1) := by decide +kernel
theorem dX1_mixInto_1 : decode cX1_mixInto 1 = .ok (.istore_n 3, 1) := by decide +kernel
theorem dX1_mixInto_2 : decode cX1_mixInto 2 = .ok (.iload_n 3, 1) := by decide +kernel
theorem dX1_mixInto_3 : decode cX1_mixInto 3 = .ok (.aload_n 0, 1) := by decide +kernel
theorem dX1_mixInto_4 : decode cX1_mixInto 4 = .ok (.getfield 18, 3) := by decide +kernel
theorem dX1_mixInto_7 : decode cX1_mixInto 7 = .ok (.if_icmp .ge 39, 3) := by decide +kernel
theorem dX1_mixInto_10 : decode cX1_mixInto 10 = .ok (.iload_n 3, 1) := by decide +kernel
theorem dX1_mixInto_11 : decode cX1_mixInto 11 = .ok (.bipush 24, 2) := by decide +kernel
theorem dX1_mixInto_13 : decode cX1_mixInto 13 = .ok (.if_icmp .ge 33, 3) := by decide +kernel
theorem dX1_mixInto_16 : decode cX1_mixInto 16 = .ok (.lload_n 1, 1) := by decide +kernel
theorem dX1_mixInto_17 : decode cX1_mixInto 17 = .ok (.aload_n 0, 1) := by decide +kernel
theorem dX1_mixInto_18 : decode cX1_mixInto 18 = .ok (.getfield 9, 3) := by decide +kernel
theorem dX1_mixInto_21 : decode cX1_mixInto 21 = .ok (.iload_n 3, 1) := by decide +kernel
theorem dX1_mixInto_22 : decode cX1_mixInto 22 = .ok (.iaload, 1) := by decide +kernel
theorem dX1_mixInto_23 : decode cX1_mixInto 23 = .ok (.i2l, 1) := by decide +kernel
theorem dX1_mixInto_24 : decode cX1_mixInto 24 = .ok (.invokestatic 29, 3) := by decide +kernel
theorem dX1_mixInto_27 : decode cX1_mixInto 27 = .ok (.lstore_n 1, 1) := by decide +kernel
theorem dX1_mixInto_28 : decode cX1_mixInto 28 = .ok (.lload_n 1, 1) := by decide +kernel
theorem dX1_mixInto_29 : decode cX1_mixInto 29 = .ok (.aload_n 0, 1) := by decide +kernel
theorem dX1_mixInto_30 : decode cX1_mixInto 30 = .ok (.getfield 15, 3) := by decide +kernel
theorem dX1_mixInto_33 : decode cX1_mixInto 33 = .ok (.iload_n 3, 1) := by decide +kernel
theorem dX1_mixInto_34 : decode cX1_mixInto 34 = .ok (.iaload, 1) := by decide +kernel
theorem dX1_mixInto_35 : decode cX1_mixInto 35 = .ok (.i2l, 1) := by decide +kernel
theorem dX1_mixInto_36 : decode cX1_mixInto 36 = .ok (.invokestatic 29, 3) := by decide +kernel
theorem dX1_mixInto_39 : decode cX1_mixInto 39 = .ok (.lstore_n 1, 1) := by decide +kernel
theorem dX1_mixInto_40 : decode cX1_mixInto 40 = .ok (.iinc 3 1, 3) := by decide +kernel
theorem dX1_mixInto_43 : decode cX1_mixInto 43 = .ok (.goto (-41), 3) := by decide +kernel
theorem dX1_mixInto_46 : decode cX1_mixInto 46 = .ok (.lload_n 1, 1) := by decide +kernel
theorem dX1_mixInto_47 : decode cX1_mixInto 47 = .ok (.lreturn, 1) := by decide +kernel
set_option maxRecDepth 20000 in
theorem ggX2_init_X0_init : GoodIn wsX2_init wsX0_init := goodIn_r _ [22, 23, 2, 3, 24, 25, 26, 27, 28, 29, 30, 31, 32, 33, 40, 41, 42, 43, 44, 45, 46, 47] (by decide +kernel) (by decide +kernel)
set_option maxRecDepth 20000 in
theorem gX2_init_X0_init_n11 : GoodIn wsX2_init (wsX0_init) := ggX2_init_X0_init
set_option maxRecDepth 20000 in
theorem ggX2_init_X1_init : GoodIn wsX2_init wsX1_init := goodIn_r _ [35, 36, 2, 3, 11, 37, 38, 39, 58, 59, 60] (by decide +kernel) (by decide +kernel)
set_option maxRecDepth 20000 in
theorem gX2_init_X1_init_n46 : GoodIn wsX2_init (wsX1_init) := ggX2_init_X1_init
theorem dX2_init_0 : decode cX2_init 0 = .ok (.aload_n 0, 1) := by decide +kernel
theorem dX2_init_1 : decode cX2_init 1 = .ok (.invokespecial 3, 3) := by decide +kernel
theorem dX2_init_4 : decode cX2_init 4 = .ok (.aload_n 0, 1) := by decide +kernel
theorem dX2_init_5 : decode cX2_init 5 = .ok (.new 9, 3) := by decide +kernel
theorem dX2_init_8 : decode cX2_init 8 = .ok (.dup, 1) := by decide +kernel
theorem dX2_init_9 : decode cX2_init 9 = .ok (.invokespecial 11, 3) := by decide +kernel
theorem dX2_init_12 : decode cX2_init 12 = .ok (.putfield 12, 3) := by decide +kernel
theorem dX2_init_15 : decode cX2_init 15 = .ok (.aload_n 0, 1) := by decide +kernel
theorem dX2_init_16 : decode cX2_init 16 = .ok (.iconst 0, 1) := by decide +kernel
theorem dX2_init_17 : decode cX2_init 17 = .ok (.putfield 18, 3) := by decide +kernel
theorem dX2_init_20 : decode cX2_init 20 = .ok (.aload_n 0, 1) := by decide +kernel
theorem dX2_init_21 : decode cX2_init 21 = .ok (.bipush 64, 2) := by decide +kernel
theorem dX2_init_23 : decode cX2_init 23 = .ok (.putfield 22, 3) := by decide +kernel
theorem dX2_init_26 : decode cX2_init 26 = .ok (.aload_n 0, 1) := by decide +kernel
theorem dX2_init_27 : decode cX2_init 27 = .ok (.bipush 9, 2) := by decide +kernel
theorem dX2_init_29 : decode cX2_init 29 = .ok (.putfield 25, 3) := by decide +kernel
theorem dX2_init_32 : decode cX2_init 32 = .ok (.aload_n 0, 1) := by decide +kernel
theorem dX2_init_33 : decode cX2_init 33 = .ok (.iconst 4, 1) := by decide +kernel
theorem dX2_init_34 : decode cX2_init 34 = .ok (.newarray .int, 2) := by decide +kernel
theorem dX2_init_36 : decode cX2_init 36 = .ok (.putfield 28, 3) := by decide +kernel
theorem dX2_init_39 : decode cX2_init 39 = .ok (.aload_n 0, 1) := by decide +kernel
theorem dX2_init_40 : decode cX2_init 40 = .ok (.iconst 4, 1) := by decide +kernel
theorem dX2_init_41 : decode cX2_init 41 = .ok (.newarray .int, 2) := by decide +kernel
theorem dX2_init_43 : decode cX2_init 43 = .ok (.putfield 32, 3) := by decide +kernel
theorem dX2_init_46 : decode cX2_init 46 = .ok (.aload_n 0, 1) := by decide +kernel
theorem dX2_init_47 : decode cX2_init 47 = .ok (.iconst 0, 1) := by decide +kernel
theorem dX2_init_48 : decode cX2_init 48 = .ok (.putfield 35, 3) := by decide +kernel
theorem dX2_init_51 : decode cX2_init 51 = .ok (.aload_n 0, 1) := by decide +kernel
theorem dX2_init_52 : decode cX2_init 52 = .ok (.iconst 0, 1) := by decide +kernel
theorem dX2_init_53 : decode cX2_init 53 = .ok (.putfield 38, 3) := by decide +kernel
theorem dX2_init_56 : decode cX2_init 56 = .ok (.aload_n 0, 1) := by decide +kernel
theorem dX2_init_57 : decode cX2_init 57 = .ok (.iconst 0, 1) := by decide +kernel
theorem dX2_init_58 : decode cX2_init 58 = .ok (.putfield 41, 3) := by decide +kernel
theorem dX2_init_61 : decode cX2_init 61 = .ok (.aload_n 0, 1) := by decide +kernel
theorem dX2_init_62 : decode cX2_init 62 = .ok (.new 44, 3) := by decide +kernel
theorem dX2_init_65 : decode cX2_init 65 = .ok (.dup, 1) := by decide +kernel
theorem dX2_init_66 : decode cX2_init 66 = .ok (.invokespecial 46, 3) := by decide +kernel
theorem dX2_init_69 : decode cX2_init 69 = .ok (.putfield 47, 3) := by decide +kernel
theorem dX2_init_72 : decode cX2_init 72 = .ok (.iconst 0, 1) := by decide +kernel
theorem dX2_init_73 : decode cX2_init 73 = .ok (.istore_n 1, 1) := by decide +kernel
theorem dX2_init_74 : decode cX2_init 74 = .ok (.iload_n 1, 1) := by decide +kernel
theorem dX2_init_75 : decode cX2_init 75 = .ok (.iconst 4, 1) := by decide +kernel
theorem dX2_init_76 : decode cX2_init 76 = .ok (.if_icmp .ge 25, 3) := by decide +kernel
theorem dX2_init_79 : decode cX2_init 79 = .ok (.aload_n 0, 1) := by decide +kernel
theorem dX2_init_80 : decode cX2_init 80 = .ok (.getfield 28, 3) := by decide +kernel
theorem dX2_init_83 : decode cX2_init 83 = .ok (.iload_n 1, 1) := by decide +kernel
theorem dX2_init_84 : decode cX2_init 84 = .ok (.iconst 0, 1) := by decide +kernel
theorem dX2_init_85 : decode cX2_init 85 = .ok (.iastore, 1) := by decide +kernel
theorem dX2_init_86 : decode cX2_init 86 = .ok (.aload_n 0, 1) := by decide +kernel
theorem dX2_init_87 : decode cX2_init 87 = .ok (.getfield 32, 3) := by decide +kernel
theorem dX2_init_90 : decode cX2_init 90 = .ok (.iload_n 1, 1) := by decide +kernel
theorem dX2_init_91 : decode cX2_init 91 = .ok (.sipush 4096, 3) := by decide +kernel
theorem dX2_init_94 : decode cX2_init 94 = .ok (.iastore, 1) := by decide +kernel
theorem dX2_init_95 : decode cX2_init 95 = .ok (.iinc 1 1, 3) := by decide +kernel
theorem dX2_init_98 : decode cX2_init 98 = .ok (.goto (-24), 3) := by decide +kernel
theorem dX2_init_101 : decode cX2_init 101 = .ok (.return_, 1) := by decide +kernel
set_option maxRecDepth 20000 in
theorem ggX2_copyFrom_X0_copyFrom : GoodIn wsX2_copyFrom wsX0_copyFrom := goodIn_r _ [14, 15, 16, 17, 18, 19, 20, 21, 22, 43, 44, 45, 46, 47, 48, 49, 50] (by decide +kernel) (by decide +kernel)
set_option maxRecDepth 20000 in
theorem gX2_copyFrom_X0_copyFrom_n51 : GoodIn wsX2_copyFrom (wsX0_copyFrom) := ggX2_copyFrom_X0_copyFrom
set_option maxRecDepth 20000 in
theorem ggX2_copyFrom_X3_copyRow : GoodIn wsX2_copyFrom wsX3_copyRow := goodIn_r _ [25] (by decide +kernel) (by decide +kernel)
set_option maxRecDepth 20000 in
theorem gX2_copyFrom_X3_copyRow_n55 : GoodIn wsX2_copyFrom (wsX3_copyRow) := ggX2_copyFrom_X3_copyRow
set_option maxRecDepth 20000 in
theorem ggX2_copyFrom_X1_copyFrom : GoodIn wsX2_copyFrom wsX1_copyFrom := goodIn_r _ [29, 30, 31, 32, 23, 24, 25, 51, 52, 53] (by decide +kernel) (by decide +kernel)
set_option maxRecDepth 20000 in
theorem gX2_copyFrom_X1_copyFrom_n59 : GoodIn wsX2_copyFrom (wsX1_copyFrom) := ggX2_copyFrom_X1_copyFrom
theorem dX2_copyFrom_0 : decode cX2_copyFrom 0 = .ok (.aload_n 0, 1) := by decide +kernel
theorem dX2_copyFrom_1 : decode cX2_copyFrom 1 = .ok (.getfield 12, 3) := by decide +kernel
theorem dX2_copyFrom_4 : decode cX2_copyFrom 4 = .ok (.aload_n 1, 1) := by decide +kernel
theorem dX2_copyFrom_5 : decode cX2_copyFrom 5 = .ok (.getfield 12, 3) := by decide +kernel
theorem dX2_copyFrom_8 : decode cX2_copyFrom 8 = .ok (.invokevirtual 51, 3) := by decide +kernel
theorem dX2_copyFrom_11 : decode cX2_copyFrom 11 = .ok (.aload_n 0, 1) := by decide +kernel
theorem dX2_copyFrom_12 : decode cX2_copyFrom 12 = .ok (.aload_n 1, 1) := by decide +kernel
theorem dX2_copyFrom_13 : decode cX2_copyFrom 13 = .ok (.getfield 18, 3) := by decide +kernel
theorem dX2_copyFrom_16 : decode cX2_copyFrom 16 = .ok (.putfield 18, 3) := by decide +kernel
theorem dX2_copyFrom_19 : decode cX2_copyFrom 19 = .ok (.aload_n 0, 1) := by decide +kernel
theorem dX2_copyFrom_20 : decode cX2_copyFrom 20 = .ok (.aload_n 1, 1) := by decide +kernel
theorem dX2_copyFrom_21 : decode cX2_copyFrom 21 = .ok (.getfield 22, 3) := by decide +kernel
theorem dX2_copyFrom_24 : decode cX2_copyFrom 24 = .ok (.putfield 22, 3) := by decide +kernel
theorem dX2_copyFrom_27 : decode cX2_copyFrom 27 = .ok (.aload_n 0, 1) := by decide +kernel
theorem dX2_copyFrom_28 : decode cX2_copyFrom 28 = .ok (.aload_n 1, 1) := by decide +kernel
theorem dX2_copyFrom_29 : decode cX2_copyFrom 29 = .ok (.getfield 25, 3) := by decide +kernel
theorem dX2_copyFrom_32 : decode cX2_copyFrom 32 = .ok (.putfield 25, 3) := by decide +kernel
theorem dX2_copyFrom_35 : decode cX2_copyFrom 35 = .ok (.aload_n 1, 1) := by decide +kernel
theorem dX2_copyFrom_36 : decode cX2_copyFrom 36 = .ok (.getfield 28, 3) := by decide +kernel
theorem dX2_copyFrom_39 : decode cX2_copyFrom 39 = .ok (.aload_n 0, 1) := by decide +kernel
theorem dX2_copyFrom_40 : decode cX2_copyFrom 40 = .ok (.getfield 28, 3) := by decide +kernel
theorem dX2_copyFrom_43 : decode cX2_copyFrom 43 = .ok (.invokestatic 55, 3) := by decide +kernel
theorem dX2_copyFrom_46 : decode cX2_copyFrom 46 = .ok (.aload_n 1, 1) := by decide +kernel
theorem dX2_copyFrom_47 : decode cX2_copyFrom 47 = .ok (.getfield 32, 3) := by decide +kernel
theorem dX2_copyFrom_50 : decode cX2_copyFrom 50 = .ok (.aload_n 0, 1) := by decide +kernel
theorem dX2_copyFrom_51 : decode cX2_copyFrom 51 = .ok (.getfield 32, 3) := by decide +kernel
theorem dX2_copyFrom_54 : decode cX2_copyFrom 54 = .ok (.invokestatic 55, 3) := by decide +kernel
theorem dX2_copyFrom_57 : decode cX2_copyFrom 57 = .ok (.aload_n 0, 1) := by decide +kernel
theorem dX2_copyFrom_58 : decode cX2_copyFrom 58 = .ok (.aload_n 1, 1) := by decide +kernel
theorem dX2_copyFrom_59 : decode cX2_copyFrom 59 = .ok (.getfield 35, 3) := by decide +kernel
theorem dX2_copyFrom_62 : decode cX2_copyFrom 62 = .ok (.putfield 35, 3) := by decide +kernel
theorem dX2_copyFrom_65 : decode cX2_copyFrom 65 = .ok (.aload_n 0, 1) := by decide +kernel
theorem dX2_copyFrom_66 : decode cX2_copyFrom 66 = .ok (.aload_n 1, 1) := by decide +kernel
theorem dX2_copyFrom_67 : decode cX2_copyFrom 67 = .ok (.getfield 38, 3) := by decide +kernel
theorem dX2_copyFrom_70 : decode cX2_copyFrom 70 = .ok (.putfield 38, 3) := by decide +kernel
theorem dX2_copyFrom_73 : decode cX2_copyFrom 73 = .ok (.aload_n 0, 1) := by decide +kernel
theorem dX2_copyFrom_74 : decode cX2_copyFrom 74 = .ok (.aload_n 1, 1) := by decide +kernel
theorem dX2_copyFrom_75 : decode cX2_copyFrom 75 = .ok (.getfield 41, 3) := by decide +kernel
theorem dX2_copyFrom_78 : decode cX2_copyFrom 78 = .ok (.putfield 41, 3) := by decide +kernel
theorem dX2_copyFrom_81 : decode cX2_copyFrom 81 = .ok (.aload_n 0, 1) := by decide +kernel
theorem dX2_copyFrom_82 : decode cX2_copyFrom 82 = .ok (.getfield 47, 3) := by decide +kernel
theorem dX2_copyFrom_85 : decode cX2_copyFrom 85 = .ok (.aload_n 1, 1) := by decide +kernel
theorem dX2_copyFrom_86 : decode cX2_copyFrom 86 = .ok (.getfield 47, 3) := by decide +kernel
theorem dX2_copyFrom_89 : decode cX2_copyFrom 89 = .ok (.invokevirtual 59, 3) := by decide +kernel
theorem dX2_copyFrom_92 : decode cX2_copyFrom 92 = .ok (.return_, 1) := by decide +kernel
set_option maxRecDepth 20000 in
theorem ggX2_mixInto_X0_mixStateInto : GoodIn wsX2_mixInto wsX0_mixStateInto := goodIn_r _ [14, 15, 16, 17, 18, 19, 20, 21, 22, 23, 50, 51, 52, 53, 54, 55, 56, 57] (by decide +kernel) (by decide +kernel)
set_option maxRecDepth 20000 in
theorem gX2_mixInto_X0_mixStateInto_n62 : GoodIn wsX2_mixInto (wsX0_mixStateInto) := ggX2_mixInto_X0_mixStateInto
set_option maxRecDepth 20000 in
theorem ggX2_mixInto_X3_mix : GoodIn wsX2_mixInto wsX3_mix := goodIn_r _ [22, 23] (by decide +kernel) (by decide +kernel)
set_option maxRecDepth 20000 in
theorem gX2_mixInto_X3_mix_n66 : GoodIn wsX2_mixInto (wsX3_mix) := ggX2_mixInto_X3_mix
set_option maxRecDepth 20000 in
theorem ggX2_mixInto_X0_mixLatestReadingInto : GoodIn wsX2_mixInto wsX0_mixLatestReadingInto := goodIn_r _ [26, 27, 28, 29, 20, 21, 22, 23, 50, 51, 52, 53, 54, 55, 56, 57] (by decide +kernel) (by decide +kernel)
set_option maxRecDepth 20000 in
theorem gX2_mixInto_X0_mixLatestReadingInto_n70 : GoodIn wsX2_mixInto (wsX0_mixLatestReadingInto) := ggX2_mixInto_X0_mixLatestReadingInto
set_option maxRecDepth 20000 in
theorem ggX2_mixInto_X1_mixInto : GoodIn wsX2_mixInto wsX1_mixInto := goodIn_r _ [33, 34, 35, 36, 20, 21, 22, 23, 47, 48, 49] (by decide +kernel) (by decide +kernel)
set_option maxRecDepth 20000 in
theorem gX2_mixInto_X1_mixInto_n76 : GoodIn wsX2_mixInto (wsX1_mixInto) := ggX2_mixInto_X1_mixInto
theorem dX2_mixInto_0 : decode cX2_mixInto 0 = .ok (.aload_n 0, 1) := by decide +kernel
theorem dX2_mixInto_1 : decode cX2_mixInto 1 = .ok (.getfield 12, 3) := by decide +kernel
theorem dX2_mixInto_4 : decode cX2_mixInto 4 = .ok (.lload_n 1, 1) := by decide +kernel
theorem dX2_mixInto_5 : decode cX2_mixInto 5 = .ok (.invokevirtual 62, 3) := by decide +kernel
theorem dX2_mixInto_8 : decode cX2_mixInto 8 = .ok (.lstore_n 1, 1) := by decide +kernel
theorem dX2_mixInto_9 : decode cX2_mixInto 9 = .ok (.lload_n 1, 1) := by decide +kernel
theorem dX2_mixInto_10 : decode cX2_mixInto 10 = .ok (.aload_n 0, 1) := by decide +kernel
theorem dX2_mixInto_11 : decode cX2_mixInto 11 = .ok (.getfield 18, 3) := by decide +kernel
theorem dX2_mixInto_14 : decode cX2_mixInto 14 = .ok (.i2l, 1) := by decide +kernel
theorem dX2_mixInto_15 : decode cX2_mixInto 15 = .ok (.invokestatic 66, 3) := by decide +kernel
theorem dX2_mixInto_18 : decode cX2_mixInto 18 = .ok (.lstore_n 1, 1) := by decide +kernel
theorem dX2_mixInto_19 : decode cX2_mixInto 19 = .ok (.lload_n 1, 1) := by decide +kernel
theorem dX2_mixInto_20 : decode cX2_mixInto 20 = .ok (.aload_n 0, 1) := by decide +kernel
theorem dX2_mixInto_21 : decode cX2_mixInto 21 = .ok (.getfield 22, 3) := by decide +kernel
theorem dX2_mixInto_24 : decode cX2_mixInto 24 = .ok (.i2l, 1) := by decide +kernel
theorem dX2_mixInto_25 : decode cX2_mixInto 25 = .ok (.invokestatic 66, 3) := by decide +kernel
theorem dX2_mixInto_28 : decode cX2_mixInto 28 = .ok (.lstore_n 1, 1) := by decide +kernel
theorem dX2_mixInto_29 : decode cX2_mixInto 29 = .ok (.lload_n 1, 1) := by decide +kernel
theorem dX2_mixInto_30 : decode cX2_mixInto 30 = .ok (.aload_n 0, 1) := by decide +kernel
theorem dX2_mixInto_31 : decode cX2_mixInto 31 = .ok (.getfield 25, 3) := by decide +kernel
theorem dX2_mixInto_34 : decode cX2_mixInto 34 = .ok (.i2l, 1) := by decide +kernel
theorem dX2_mixInto_35 : decode cX2_mixInto 35 = .ok (.invokestatic 66, 3) := by decide +kernel
theorem dX2_mixInto_38 : decode cX2_mixInto 38 = .ok (.lstore_n 1, 1) := by decide +kernel
theorem dX2_mixInto_39 : decode cX2_mixInto 39 = .ok (.iconst 0, 1) := by decide +kernel
theorem dX2_mixInto_40 : decode cX2_mixInto 40 = .ok (.istore_n 3, 1) := by decide +kernel
theorem dX2_mixInto_41 : decode cX2_mixInto 41 = .ok (.iload_n 3, 1) := by decide +kernel
theorem dX2_mixInto_42 : decode cX2_mixInto 42 = .ok (.iconst 4, 1) := by decide +kernel
theorem dX2_mixInto_43 : decode cX2_mixInto 43 = .ok (.if_icmp .ge 33, 3) := by decide +kernel
theorem dX2_mixInto_46 : decode cX2_mixInto 46 = .ok (.lload_n 1, 1) := by decide +kernel
theorem dX2_mixInto_47 : decode cX2_mixInto 47 = .ok (.aload_n 0, 1) := by decide +kernel
theorem dX2_mixInto_48 : decode cX2_mixInto 48 = .ok (.getfield 28, 3) := by decide +kernel
theorem dX2_mixInto_51 : decode cX2_mixInto 51 = .ok (.iload_n 3, 1) := by decide +kernel
theorem dX2_mixInto_52 : decode cX2_mixInto 52 = .ok (.iaload, 1) := by decide +kernel
theorem dX2_mixInto_53 : decode cX2_mixInto 53 = .ok (.i2l, 1) := by decide +kernel
theorem dX2_mixInto_54 : decode cX2_mixInto 54 = .ok (.invokestatic 66, 3) := by decide +kernel
theorem dX2_mixInto_57 : decode cX2_mixInto 57 = .ok (.lstore_n 1, 1) := by decide +kernel
theorem dX2_mixInto_58 : decode cX2_mixInto 58 = .ok (.lload_n 1, 1) := by decide +kernel
theorem dX2_mixInto_59 : decode cX2_mixInto 59 = .ok (.aload_n 0, 1) := by decide +kernel
theorem dX2_mixInto_60 : decode cX2_mixInto 60 = .ok (.getfield 32, 3) := by decide +kernel
theorem dX2_mixInto_63 : decode cX2_mixInto 63 = .ok (.iload_n 3, 1) := by decide +kernel
theorem dX2_mixInto_64 : decode cX2_mixInto 64 = .ok (.iaload, 1) := by decide +kernel
theorem dX2_mixInto_65 : decode cX2_mixInto 65 = .ok (.i2l, 1) := by decide +kernel
theorem dX2_mixInto_66 : decode cX2_mixInto 66 = .ok (.invokestatic 66, 3) := by decide +kernel
theorem dX2_mixInto_69 : decode cX2_mixInto 69 = .ok (.lstore_n 1, 1) := by decide +kernel
theorem dX2_mixInto_70 : decode cX2_mixInto 70 = .ok (.iinc 3 1, 3) := by decide +kernel
theorem dX2_mixInto_73 : decode cX2_mixInto 73 = .ok (.goto (-32), 3) := by decide +kernel
theorem dX2_mixInto_76 : decode cX2_mixInto 76 = .ok (.aload_n 0, 1) := by decide +kernel
theorem dX2_mixInto_77 : decode cX2_mixInto 77 = .ok (.getfield 12, 3) := by decide +kernel
theorem dX2_mixInto_80 : decode cX2_mixInto 80 = .ok (.lload_n 1, 1) := by decide +kernel
theorem dX2_mixInto_81 : decode cX2_mixInto 81 = .ok (.invokevirtual 70, 3) := by decide +kernel
theorem dX2_mixInto_84 : decode cX2_mixInto 84 = .ok (.lstore_n 1, 1) := by decide +kernel
theorem dX2_mixInto_85 : decode cX2_mixInto 85 = .ok (.lload_n 1, 1) := by decide +kernel
theorem dX2_mixInto_86 : decode cX2_mixInto 86 = .ok (.aload_n 0, 1) := by decide +kernel
theorem dX2_mixInto_87 : decode cX2_mixInto 87 = .ok (.getfield 35, 3) := by decide +kernel
theorem dX2_mixInto_90 : decode cX2_mixInto 90 = .ok (.i2l, 1) := by decide +kernel
theorem dX2_mixInto_91 : decode cX2_mixInto 91 = .ok (.invokestatic 66, 3) := by decide +kernel
theorem dX2_mixInto_94 : decode cX2_mixInto 94 = .ok (.lstore_n 1, 1) := by decide +kernel
theorem dX2_mixInto_95 : decode cX2_mixInto 95 = .ok (.lload_n 1, 1) := by decide +kernel
theorem dX2_mixInto_96 : decode cX2_mixInto 96 = .ok (.aload_n 0, 1) := by decide +kernel
theorem dX2_mixInto_97 : decode cX2_mixInto 97 = .ok (.getfield 38, 3) := by decide +kernel
theorem dX2_mixInto_100 : decode cX2_mixInto 100 = .ok (.i2l, 1) := by decide +kernel
theorem dX2_mixInto_101 : decode cX2_mixInto 101 = .ok (.invokestatic 66, 3) := by decide +kernel
theorem dX2_mixInto_104 : decode cX2_mixInto 104 = .ok (.lstore_n 1, 1) := by decide +kernel
theorem dX2_mixInto_105 : decode cX2_mixInto 105 = .ok (.lload_n 1, 1) := by decide +kernel
theorem dX2_mixInto_106 : decode cX2_mixInto 106 = .ok (.aload_n 0, 1) := by decide +kernel
theorem dX2_mixInto_107 : decode cX2_mixInto 107 = .ok (.getfield 41, 3) := by decide +kernel
theorem dX2_mixInto_110 : decode cX2_mixInto 110 = .ok (.i2l, 1) := by decide +kernel
theorem dX2_mixInto_111 : decode cX2_mixInto 111 = .ok (.invokestatic 66, 3) := by decide +kernel
theorem dX2_mixInto_114 : decode cX2_mixInto 114 = .ok (.lstore_n 1, 1) := by decide +kernel
theorem dX2_mixInto_115 : decode cX2_mixInto 115 = .ok (.lload_n 1, 1) := by decide +kernel
theorem dX2_mixInto_116 : decode cX2_mixInto 116 = .ok (.aload_n 0, 1) := by decide +kernel
theorem dX2_mixInto_117 : decode cX2_mixInto 117 = .ok (.getfield 47, 3) := by decide +kernel
theorem dX2_mixInto_120 : decode cX2_mixInto 120 = .ok (.getfield 73, 3) := by decide +kernel
theorem dX2_mixInto_123 : decode cX2_mixInto 123 = .ok (.i2l, 1) := by decide +kernel
theorem dX2_mixInto_124 : decode cX2_mixInto 124 = .ok (.invokestatic 66, 3) := by decide +kernel
theorem dX2_mixInto_127 : decode cX2_mixInto 127 = .ok (.lstore_n 1, 1) := by decide +kernel
theorem dX2_mixInto_128 : decode cX2_mixInto 128 = .ok (.aload_n 0, 1) := by decide +kernel
theorem dX2_mixInto_129 : decode cX2_mixInto 129 = .ok (.getfield 47, 3) := by decide +kernel
theorem dX2_mixInto_132 : decode cX2_mixInto 132 = .ok (.lload_n 1, 1) := by decide +kernel
theorem dX2_mixInto_133 : decode cX2_mixInto 133 = .ok (.invokevirtual 76, 3) := by decide +kernel
theorem dX2_mixInto_136 : decode cX2_mixInto 136 = .ok (.lreturn, 1) := by decide +kernel
set_option maxRecDepth 20000 in
theorem ggX3_init_X2_init : GoodIn wsX3_init wsX2_init := goodIn_r _ [17, 18, 2, 3, 19, 13, 14, 20, 21, 22, 23, 10, 24, 25, 26, 27, 28, 29, 30, 31, 32, 33, 34, 35, 36, 37, 38, 39, 40, 41, 42, 43, 44, 45, 46, 47, 48, 49, 50, 51, 67, 68, 69, 70, 71, 72, 73, 74, 52, 53, 54, 55, 56, 57, 58, 59, 60, 61, 75, 76, 77] (by decide +kernel) (by decide +kernel)
end
section
set_option maxRecDepth 20000 in
theorem gX3_init_X2_init_n9 : GoodIn wsX3_init (wsX2_init) := ggX3_init_X2_init
set_option maxRecDepth 20000 in
theorem ggX3_init_X0_init : GoodIn wsX3_init wsX0_init := goodIn_r _ [34, 35, 2, 3, 36, 37, 38, 39, 40, 41, 42, 43, 44, 45, 67, 68, 69, 70, 71, 72, 73, 74] (by decide +kernel) (by decide +kernel)
set_option maxRecDepth 20000 in
theorem gX3_init_X0_init_n30 : GoodIn wsX3_init (wsX0_init) := ggX3_init_X0_init
theorem dX3_init_0 : decode cX3_init 0 = .ok (.aload_n 0, 1) := by decide +kernel
theorem dX3_init_1 : decode cX3_init 1 = .ok (.invokespecial 1, 3) := by decide +kernel
theorem dX3_init_4 : decode cX3_init 4 = .ok (.aload_n 0, 1) := by decide +kernel
theorem dX3_init_5 : decode cX3_init 5 = .ok (.new 7, 3) := by decide +kernel
theorem dX3_init_8 : decode cX3_init 8 = .ok (.dup, 1) := by decide +kernel
theorem dX3_init_9 : decode cX3_init 9 = .ok (.invokespecial 9, 3) := by decide +kernel
theorem dX3_init_12 : decode cX3_init 12 = .ok (.putfield 10, 3) := by decide +kernel
theorem dX3_init_15 : decode cX3_init 15 = .ok (.aload_n 0, 1) := by decide +kernel
theorem dX3_init_16 : decode cX3_init 16 = .ok (.iconst 4, 1) := by decide +kernel
theorem dX3_init_17 : decode cX3_init 17 = .ok (.anewarray 7, 3) := by decide +kernel
theorem dX3_init_20 : decode cX3_init 20 = .ok (.putfield 16, 3) := by decide +kernel
theorem dX3_init_23 : decode cX3_init 23 = .ok (.aload_n 0, 1) := by decide +kernel
theorem dX3_init_24 : decode cX3_init 24 = .ok (.iconst 0, 1) := by decide +kernel
theorem dX3_init_25 : decode cX3_init 25 = .ok (.putfield 20, 3) := by decide +kernel
theorem dX3_init_28 : decode cX3_init 28 = .ok (.aload_n 0, 1) := by decide +kernel
theorem dX3_init_29 : decode cX3_init 29 = .ok (.iconst 3, 1) := by decide +kernel
theorem dX3_init_30 : decode cX3_init 30 = .ok (.newarray .int, 2) := by decide +kernel
theorem dX3_init_32 : decode cX3_init 32 = .ok (.putfield 24, 3) := by decide +kernel
theorem dX3_init_35 : decode cX3_init 35 = .ok (.aload_n 0, 1) := by decide +kernel
theorem dX3_init_36 : decode cX3_init 36 = .ok (.new 28, 3) := by decide +kernel
theorem dX3_init_39 : decode cX3_init 39 = .ok (.dup, 1) := by decide +kernel
theorem dX3_init_40 : decode cX3_init 40 = .ok (.invokespecial 30, 3) := by decide +kernel
theorem dX3_init_43 : decode cX3_init 43 = .ok (.putfield 31, 3) := by decide +kernel
theorem dX3_init_46 : decode cX3_init 46 = .ok (.iconst 0, 1) := by decide +kernel
theorem dX3_init_47 : decode cX3_init 47 = .ok (.istore_n 1, 1) := by decide +kernel
theorem dX3_init_48 : decode cX3_init 48 = .ok (.iload_n 1, 1) := by decide +kernel
theorem dX3_init_49 : decode cX3_init 49 = .ok (.aload_n 0, 1) := by decide +kernel
theorem dX3_init_50 : decode cX3_init 50 = .ok (.getfield 16, 3) := by decide +kernel
theorem dX3_init_53 : decode cX3_init 53 = .ok (.arraylength, 1) := by decide +kernel
theorem dX3_init_54 : decode cX3_init 54 = .ok (.if_icmp .ge 22, 3) := by decide +kernel
theorem dX3_init_57 : decode cX3_init 57 = .ok (.aload_n 0, 1) := by decide +kernel
theorem dX3_init_58 : decode cX3_init 58 = .ok (.getfield 16, 3) := by decide +kernel
theorem dX3_init_61 : decode cX3_init 61 = .ok (.iload_n 1, 1) := by decide +kernel
theorem dX3_init_62 : decode cX3_init 62 = .ok (.new 7, 3) := by decide +kernel
theorem dX3_init_65 : decode cX3_init 65 = .ok (.dup, 1) := by decide +kernel
theorem dX3_init_66 : decode cX3_init 66 = .ok (.invokespecial 9, 3) := by decide +kernel
theorem dX3_init_69 : decode cX3_init 69 = .ok (.aastore, 1) := by decide +kernel
theorem dX3_init_70 : decode cX3_init 70 = .ok (.iinc 1 1, 3) := by decide +kernel
theorem dX3_init_73 : decode cX3_init 73 = .ok (.goto (-25), 3) := by decide +kernel
theorem dX3_init_76 : decode cX3_init 76 = .ok (.return_, 1) := by decide +kernel
set_option maxRecDepth 20000 in
theorem ggX3_reset_X3_isOutside : GoodIn wsX3_reset wsX3_isOutside := goodIn_r _ [10] (by decide +kernel) (by decide +kernel)
set_option maxRecDepth 20000 in
theorem gX3_reset_X3_isOutside : GoodIn wsX3_reset (va_wsS RX3 37 yX3_isOutside wsX3_isOutside) := goodIn_app (goodIn_of _ (by decide +kernel)) ggX3_reset_X3_isOutside
set_option maxRecDepth 20000 in
theorem ggX3_reset_X3_fail : GoodIn wsX3_reset wsX3_fail := goodIn_r _ [14, 5, 15, 65, 66, 67, 68, 69] (by decide +kernel) (by decide +kernel)
set_option maxRecDepth 20000 in
theorem gX3_reset_X3_fail : GoodIn wsX3_reset (wsV RX3 44 RX3 yX3_fail wsX3_fail) := goodIn_app (goodIn_of _ (by decide +kernel)) ggX3_reset_X3_fail
set_option maxRecDepth 20000 in
theorem ggX3_reset_X3_save : GoodIn wsX3_reset wsX3_save := goodIn_r _ [19, 20, 21, 6, 22, 23, 24, 9, 25, 26, 27, 28, 29, 30, 31, 32, 33, 34, 35, 36, 37, 38, 39, 40, 41, 42, 43, 44, 45, 46, 47, 48, 49, 50, 51, 52, 53, 54, 55, 56, 57, 58, 59, 60, 65, 66, 67, 68, 69, 70, 71, 72, 73, 74, 75, 76, 77, 78, 79, 83, 84, 85, 86, 87, 88, 89, 90, 80, 81, 82] (by decide +kernel) (by decide +kernel)
set_option maxRecDepth 20000 in
theorem gX3_reset_X3_save : GoodIn wsX3_reset (wsV RX3 48 RX3 yX3_save wsX3_save) := goodIn_app (goodIn_of _ (by decide +kernel)) ggX3_reset_X3_save
set_option maxRecDepth 20000 in
theorem ggX3_reset_X0_startFrom : GoodIn wsX3_reset wsX0_startFrom := goodIn_r _ [63, 44, 45, 46, 47, 48, 64, 49, 50, 51, 83, 84, 85, 86, 87, 88, 89, 90] (by decide +kernel) (by decide +kernel)
set_option maxRecDepth 20000 in
theorem gX3_reset_X0_startFrom_n63 : GoodIn wsX3_reset (wsX0_startFrom) := ggX3_reset_X0_startFrom
theorem dX3_reset_0 : decode cX3_reset 0 = .ok (.iload_n 1, 1) := by decide +kernel
theorem dX3_reset_1 : decode cX3_reset 1 = .ok (.ldc 35, 2) := by decide +kernel
theorem dX3_reset_3 : decode cX3_reset 3 = .ok (.ldc 36, 2) := by decide +kernel
theorem dX3_reset_5 : decode cX3_reset 5 = .ok (.invokestatic 37, 3) := by decide +kernel
theorem dX3_reset_8 : decode cX3_reset 8 = .ok (.ifCond .ne 35, 3) := by decide +kernel
theorem dX3_reset_11 : decode cX3_reset 11 = .ok (.iload_n 2, 1) := by decide +kernel
theorem dX3_reset_12 : decode cX3_reset 12 = .ok (.ldc 41, 2) := by decide +kernel
theorem dX3_reset_14 : decode cX3_reset 14 = .ok (.ldc 42, 2) := by decide +kernel
theorem dX3_reset_16 : decode cX3_reset 16 = .ok (.invokestatic 37, 3) := by decide +kernel
theorem dX3_reset_19 : decode cX3_reset 19 = .ok (.ifCond .ne 24, 3) := by decide +kernel
theorem dX3_reset_22 : decode cX3_reset 22 = .ok (.iload_n 3, 1) := by decide +kernel
theorem dX3_reset_23 : decode cX3_reset 23 = .ok (.iconst 0, 1) := by decide +kernel
theorem dX3_reset_24 : decode cX3_reset 24 = .ok (.ldc 36, 2) := by decide +kernel
theorem dX3_reset_26 : decode cX3_reset 26 = .ok (.invokestatic 37, 3) := by decide +kernel
theorem dX3_reset_29 : decode cX3_reset 29 = .ok (.ifCond .ne 14, 3) := by decide +kernel
theorem dX3_reset_32 : decode cX3_reset 32 = .ok (.iload 4, 2) := by decide +kernel
theorem dX3_reset_34 : decode cX3_reset 34 = .ok (.iconst 0, 1) := by decide +kernel
theorem dX3_reset_35 : decode cX3_reset 35 = .ok (.ldc 36, 2) := by decide +kernel
theorem dX3_reset_37 : decode cX3_reset 37 = .ok (.invokestatic 37, 3) := by decide +kernel
theorem dX3_reset_40 : decode cX3_reset 40 = .ok (.ifCond .eq 10, 3) := by decide +kernel
theorem dX3_reset_43 : decode cX3_reset 43 = .ok (.aload_n 0, 1) := by decide +kernel
theorem dX3_reset_44 : decode cX3_reset 44 = .ok (.ldc 43, 2) := by decide +kernel
theorem dX3_reset_46 : decode cX3_reset 46 = .ok (.invokevirtual 44, 3) := by decide +kernel
theorem dX3_reset_49 : decode cX3_reset 49 = .ok (.ireturn, 1) := by decide +kernel
theorem dX3_reset_50 : decode cX3_reset 50 = .ok (.aload_n 0, 1) := by decide +kernel
theorem dX3_reset_51 : decode cX3_reset 51 = .ok (.invokevirtual 48, 3) := by decide +kernel
theorem dX3_reset_54 : decode cX3_reset 54 = .ok (.aload_n 0, 1) := by decide +kernel
theorem dX3_reset_55 : decode cX3_reset 55 = .ok (.getfield 10, 3) := by decide +kernel
theorem dX3_reset_58 : decode cX3_reset 58 = .ok (.getfield 51, 3) := by decide +kernel
theorem dX3_reset_61 : decode cX3_reset 61 = .ok (.getfield 55, 3) := by decide +kernel
theorem dX3_reset_64 : decode cX3_reset 64 = .ok (.istore 5, 2) := by decide +kernel
theorem dX3_reset_66 : decode cX3_reset 66 = .ok (.aload_n 0, 1) := by decide +kernel
theorem dX3_reset_67 : decode cX3_reset 67 = .ok (.getfield 10, 3) := by decide +kernel
theorem dX3_reset_70 : decode cX3_reset 70 = .ok (.getfield 60, 3) := by decide +kernel
theorem dX3_reset_73 : decode cX3_reset 73 = .ok (.iload_n 1, 1) := by decide +kernel
theorem dX3_reset_74 : decode cX3_reset 74 = .ok (.iload_n 2, 1) := by decide +kernel
theorem dX3_reset_75 : decode cX3_reset 75 = .ok (.iload_n 3, 1) := by decide +kernel
theorem dX3_reset_76 : decode cX3_reset 76 = .ok (.iload 4, 2) := by decide +kernel
theorem dX3_reset_78 : decode cX3_reset 78 = .ok (.invokevirtual 63, 3) := by decide +kernel
theorem dX3_reset_81 : decode cX3_reset 81 = .ok (.aload_n 0, 1) := by decide +kernel
theorem dX3_reset_82 : decode cX3_reset 82 = .ok (.getfield 10, 3) := by decide +kernel
theorem dX3_reset_85 : decode cX3_reset 85 = .ok (.getfield 51, 3) := by decide +kernel
theorem dX3_reset_88 : decode cX3_reset 88 = .ok (.iconst 0, 1) := by decide +kernel
theorem dX3_reset_89 : decode cX3_reset 89 = .ok (.putfield 55, 3) := by decide +kernel
theorem dX3_reset_92 : decode cX3_reset 92 = .ok (.aload_n 0, 1) := by decide +kernel
theorem dX3_reset_93 : decode cX3_reset 93 = .ok (.getfield 10, 3) := by decide +kernel
theorem dX3_reset_96 : decode cX3_reset 96 = .ok (.iconst 0, 1) := by decide +kernel
theorem dX3_reset_97 : decode cX3_reset 97 = .ok (.putfield 67, 3) := by decide +kernel
theorem dX3_reset_100 : decode cX3_reset 100 = .ok (.aload_n 0, 1) := by decide +kernel
theorem dX3_reset_101 : decode cX3_reset 101 = .ok (.getfield 10, 3) := by decide +kernel
theorem dX3_reset_104 : decode cX3_reset 104 = .ok (.iconst 0, 1) := by decide +kernel
theorem dX3_reset_105 : decode cX3_reset 105 = .ok (.putfield 70, 3) := by decide +kernel
theorem dX3_reset_108 : decode cX3_reset 108 = .ok (.aload_n 0, 1) := by decide +kernel
theorem dX3_reset_109 : decode cX3_reset 109 = .ok (.getfield 10, 3) := by decide +kernel
theorem dX3_reset_112 : decode cX3_reset 112 = .ok (.iconst 0, 1) := by decide +kernel
theorem dX3_reset_113 : decode cX3_reset 113 = .ok (.putfield 73, 3) := by decide +kernel
theorem dX3_reset_116 : decode cX3_reset 116 = .ok (.iload 5, 2) := by decide +kernel
theorem dX3_reset_118 : decode cX3_reset 118 = .ok (.ireturn, 1) := by decide +kernel
set_option maxRecDepth 20000 in
theorem ggX3_setProcessNoise_X3_isOutside : GoodIn wsX3_setProcessNoise wsX3_isOutside := goodIn_r _ [7] (by decide +kernel) (by decide +kernel)
set_option maxRecDepth 20000 in
theorem gX3_setProcessNoise_X3_isOutside : GoodIn wsX3_setProcessNoise (va_wsS RX3 37 yX3_isOutside wsX3_isOutside) := goodIn_app (goodIn_of _ (by decide +kernel)) ggX3_setProcessNoise_X3_isOutside
set_option maxRecDepth 20000 in
theorem ggX3_setProcessNoise_X3_fail : GoodIn wsX3_setProcessNoise wsX3_fail := goodIn_r _ [11, 2, 12, 58, 59, 60, 61, 62] (by decide +kernel) (by decide +kernel)
set_option maxRecDepth 20000 in
theorem gX3_setProcessNoise_X3_fail : GoodIn wsX3_setProcessNoise (wsV RX3 44 RX3 yX3_fail wsX3_fail) := goodIn_app (goodIn_of _ (by decide +kernel)) ggX3_setProcessNoise_X3_fail
set_option maxRecDepth 20000 in
theorem ggX3_setProcessNoise_X3_save : GoodIn wsX3_setProcessNoise wsX3_save := goodIn_r _ [16, 17, 18, 3, 19, 20, 21, 6, 22, 23, 24, 25, 26, 27, 28, 29, 30, 31, 32, 33, 34, 35, 36, 37, 38, 39, 40, 41, 42, 43, 44, 45, 46, 47, 48, 49, 50, 51, 52, 53, 54, 55, 56, 57, 58, 59, 60, 61, 62, 63, 64, 65, 66, 67, 68, 69, 70, 71, 72, 73, 74, 75, 76, 77, 78, 79, 80, 81, 82, 83] (by decide +kernel) (by decide +kernel)
set_option maxRecDepth 20000 in
theorem gX3_setProcessNoise_X3_save : GoodIn wsX3_setProcessNoise (wsV RX3 48 RX3 yX3_save wsX3_save) := goodIn_app (goodIn_of _ (by decide +kernel)) ggX3_setProcessNoise_X3_save
theorem dX3_setProcessNoise_0 : decode cX3_setProcessNoise 0 = .ok (.iload_n 1, 1) := by decide +kernel
theorem dX3_setProcessNoise_1 : decode cX3_setProcessNoise 1 = .ok (.iconst 0, 1) := by decide +kernel
theorem dX3_setProcessNoise_2 : decode cX3_setProcessNoise 2 = .ok (.ldc 42, 2) := by decide +kernel
theorem dX3_setProcessNoise_4 : decode cX3_setProcessNoise 4 = .ok (.invokestatic 37, 3) := by decide +kernel
theorem dX3_setProcessNoise_7 : decode cX3_setProcessNoise 7 = .ok (.ifCond .ne 13, 3) := by decide +kernel
theorem dX3_setProcessNoise_10 : decode cX3_setProcessNoise 10 = .ok (.iload_n 2, 1) := by decide +kernel
theorem dX3_setProcessNoise_11 : decode cX3_setProcessNoise 11 = .ok (.iconst 0, 1) := by decide +kernel
theorem dX3_setProcessNoise_12 : decode cX3_setProcessNoise 12 = .ok (.ldc 42, 2) := by decide +kernel
theorem dX3_setProcessNoise_14 : decode cX3_setProcessNoise 14 = .ok (.invokestatic 37, 3) := by decide +kernel
theorem dX3_setProcessNoise_17 : decode cX3_setProcessNoise 17 = .ok (.ifCond .eq 10, 3) := by decide +kernel
theorem dX3_setProcessNoise_20 : decode cX3_setProcessNoise 20 = .ok (.aload_n 0, 1) := by decide +kernel
theorem dX3_setProcessNoise_21 : decode cX3_setProcessNoise 21 = .ok (.ldc 43, 2) := by decide +kernel
theorem dX3_setProcessNoise_23 : decode cX3_setProcessNoise 23 = .ok (.invokevirtual 44, 3) := by decide +kernel
theorem dX3_setProcessNoise_26 : decode cX3_setProcessNoise 26 = .ok (.ireturn, 1) := by decide +kernel
theorem dX3_setProcessNoise_27 : decode cX3_setProcessNoise 27 = .ok (.aload_n 0, 1) := by decide +kernel
theorem dX3_setProcessNoise_28 : decode cX3_setProcessNoise 28 = .ok (.invokevirtual 48, 3) := by decide +kernel
theorem dX3_setProcessNoise_31 : decode cX3_setProcessNoise 31 = .ok (.aload_n 0, 1) := by decide +kernel
theorem dX3_setProcessNoise_32 : decode cX3_setProcessNoise 32 = .ok (.getfield 10, 3) := by decide +kernel
theorem dX3_setProcessNoise_35 : decode cX3_setProcessNoise 35 = .ok (.getfield 76, 3) := by decide +kernel
theorem dX3_setProcessNoise_38 : decode cX3_setProcessNoise 38 = .ok (.istore_n 3, 1) := by decide +kernel
theorem dX3_setProcessNoise_39 : decode cX3_setProcessNoise 39 = .ok (.aload_n 0, 1) := by decide +kernel
theorem dX3_setProcessNoise_40 : decode cX3_setProcessNoise 40 = .ok (.getfield 10, 3) := by decide +kernel
theorem dX3_setProcessNoise_43 : decode cX3_setProcessNoise 43 = .ok (.iload_n 1, 1) := by decide +kernel
theorem dX3_setProcessNoise_44 : decode cX3_setProcessNoise 44 = .ok (.putfield 79, 3) := by decide +kernel
theorem dX3_setProcessNoise_47 : decode cX3_setProcessNoise 47 = .ok (.aload_n 0, 1) := by decide +kernel
theorem dX3_setProcessNoise_48 : decode cX3_setProcessNoise 48 = .ok (.getfield 10, 3) := by decide +kernel
theorem dX3_setProcessNoise_51 : decode cX3_setProcessNoise 51 = .ok (.iload_n 2, 1) := by decide +kernel
theorem dX3_setProcessNoise_52 : decode cX3_setProcessNoise 52 = .ok (.putfield 76, 3) := by decide +kernel
theorem dX3_setProcessNoise_55 : decode cX3_setProcessNoise 55 = .ok (.iload_n 3, 1) := by decide +kernel
theorem dX3_setProcessNoise_56 : decode cX3_setProcessNoise 56 = .ok (.ireturn, 1) := by decide +kernel
set_option maxRecDepth 20000 in
theorem ggX3_setSensor_X3_isSensor : GoodIn wsX3_setSensor wsX3_isSensor := goodIn_r _ [7, 8, 9, 6, 10] (by decide +kernel) (by decide +kernel)
set_option maxRecDepth 20000 in
theorem gX3_setSensor_X3_isSensor : GoodIn wsX3_setSensor (va_wsS RX3 82 yX3_isSensor wsX3_isSensor) := goodIn_app (goodIn_of _ (by decide +kernel)) ggX3_setSensor_X3_isSensor
set_option maxRecDepth 20000 in
theorem ggX3_setSensor_X3_isKind : GoodIn wsX3_setSensor wsX3_isKind := goodIn_r _ [13] (by decide +kernel) (by decide +kernel)
set_option maxRecDepth 20000 in
theorem gX3_setSensor_X3_isKind : GoodIn wsX3_setSensor (va_wsS RX3 86 yX3_isKind wsX3_isKind) := goodIn_app (goodIn_of _ (by decide +kernel)) ggX3_setSensor_X3_isKind
set_option maxRecDepth 20000 in
theorem ggX3_setSensor_X3_isOutside : GoodIn wsX3_setSensor wsX3_isOutside := goodIn_r _ [10] (by decide +kernel) (by decide +kernel)
set_option maxRecDepth 20000 in
theorem gX3_setSensor_X3_isOutside : GoodIn wsX3_setSensor (va_wsS RX3 37 yX3_isOutside wsX3_isOutside) := goodIn_app (goodIn_of _ (by decide +kernel)) ggX3_setSensor_X3_isOutside
set_option maxRecDepth 20000 in
theorem ggX3_setSensor_X3_fail : GoodIn wsX3_setSensor wsX3_fail := goodIn_r _ [17, 2, 18, 64, 65, 66, 67, 68] (by decide +kernel) (by decide +kernel)
set_option maxRecDepth 20000 in
theorem gX3_setSensor_X3_fail : GoodIn wsX3_setSensor (wsV RX3 44 RX3 yX3_fail wsX3_fail) := goodIn_app (goodIn_of _ (by decide +kernel)) ggX3_setSensor_X3_fail
set_option maxRecDepth 20000 in
theorem ggX3_setSensor_X3_save : GoodIn wsX3_setSensor wsX3_save := goodIn_r _ [22, 23, 24, 3, 25, 26, 27, 6, 28, 29, 30, 31, 32, 33, 34, 35, 36, 37, 38, 39, 40, 41, 42, 43, 44, 45, 46, 47, 48, 49, 50, 51, 52, 53, 54, 55, 56, 57, 58, 59, 60, 61, 62, 63, 64, 65, 66, 67, 68, 69, 70, 71, 72, 73, 74, 75, 76, 77, 78, 79, 80, 81, 82, 83, 84, 85, 86, 87, 88, 89] (by decide +kernel) (by decide +kernel)
set_option maxRecDepth 20000 in
theorem gX3_setSensor_X3_save : GoodIn wsX3_setSensor (wsV RX3 48 RX3 yX3_save wsX3_save) := goodIn_app (goodIn_of _ (by decide +kernel)) ggX3_setSensor_X3_save
theorem dX3_setSensor_0 : decode cX3_setSensor 0 = .ok (.iload_n 1, 1) := by decide +kernel
theorem dX3_setSensor_1 : decode cX3_setSensor 1 = .ok (.invokestatic 82, 3) := by decide +kernel
theorem dX3_setSensor_4 : decode cX3_setSensor 4 = .ok (.ifCond .eq 20, 3) := by decide +kernel
theorem dX3_setSensor_7 : decode cX3_setSensor 7 = .ok (.iload_n 2, 1) := by decide +kernel
theorem dX3_setSensor_8 : decode cX3_setSensor 8 = .ok (.invokestatic 86, 3) := by decide +kernel
theorem dX3_setSensor_11 : decode cX3_setSensor 11 = .ok (.ifCond .eq 13, 3) := by decide +kernel
theorem dX3_setSensor_14 : decode cX3_setSensor 14 = .ok (.iload_n 3, 1) := by decide +kernel
theorem dX3_setSensor_15 : decode cX3_setSensor 15 = .ok (.iconst 1, 1) := by decide +kernel
theorem dX3_setSensor_16 : decode cX3_setSensor 16 = .ok (.ldc 36, 2) := by decide +kernel
theorem dX3_setSensor_18 : decode cX3_setSensor 18 = .ok (.invokestatic 37, 3) := by decide +kernel
theorem dX3_setSensor_21 : decode cX3_setSensor 21 = .ok (.ifCond .eq 10, 3) := by decide +kernel
theorem dX3_setSensor_24 : decode cX3_setSensor 24 = .ok (.aload_n 0, 1) := by decide +kernel
theorem dX3_setSensor_25 : decode cX3_setSensor 25 = .ok (.ldc 43, 2) := by decide +kernel
theorem dX3_setSensor_27 : decode cX3_setSensor 27 = .ok (.invokevirtual 44, 3) := by decide +kernel
theorem dX3_setSensor_30 : decode cX3_setSensor 30 = .ok (.ireturn, 1) := by decide +kernel
theorem dX3_setSensor_31 : decode cX3_setSensor 31 = .ok (.aload_n 0, 1) := by decide +kernel
theorem dX3_setSensor_32 : decode cX3_setSensor 32 = .ok (.invokevirtual 48, 3) := by decide +kernel
theorem dX3_setSensor_35 : decode cX3_setSensor 35 = .ok (.aload_n 0, 1) := by decide +kernel
theorem dX3_setSensor_36 : decode cX3_setSensor 36 = .ok (.getfield 10, 3) := by decide +kernel
theorem dX3_setSensor_39 : decode cX3_setSensor 39 = .ok (.getfield 89, 3) := by decide +kernel
theorem dX3_setSensor_42 : decode cX3_setSensor 42 = .ok (.iload_n 1, 1) := by decide +kernel
theorem dX3_setSensor_43 : decode cX3_setSensor 43 = .ok (.iaload, 1) := by decide +kernel
theorem dX3_setSensor_44 : decode cX3_setSensor 44 = .ok (.istore 4, 2) := by decide +kernel
theorem dX3_setSensor_46 : decode cX3_setSensor 46 = .ok (.aload_n 0, 1) := by decide +kernel
theorem dX3_setSensor_47 : decode cX3_setSensor 47 = .ok (.getfield 10, 3) := by decide +kernel
theorem dX3_setSensor_50 : decode cX3_setSensor 50 = .ok (.getfield 92, 3) := by decide +kernel
theorem dX3_setSensor_53 : decode cX3_setSensor 53 = .ok (.iload_n 1, 1) := by decide +kernel
theorem dX3_setSensor_54 : decode cX3_setSensor 54 = .ok (.iload_n 2, 1) := by decide +kernel
theorem dX3_setSensor_55 : decode cX3_setSensor 55 = .ok (.iastore, 1) := by decide +kernel
theorem dX3_setSensor_56 : decode cX3_setSensor 56 = .ok (.aload_n 0, 1) := by decide +kernel
theorem dX3_setSensor_57 : decode cX3_setSensor 57 = .ok (.getfield 10, 3) := by decide +kernel
theorem dX3_setSensor_60 : decode cX3_setSensor 60 = .ok (.getfield 89, 3) := by decide +kernel
theorem dX3_setSensor_63 : decode cX3_setSensor 63 = .ok (.iload_n 1, 1) := by decide +kernel
theorem dX3_setSensor_64 : decode cX3_setSensor 64 = .ok (.iload_n 3, 1) := by decide +kernel
theorem dX3_setSensor_65 : decode cX3_setSensor 65 = .ok (.iastore, 1) := by decide +kernel
theorem dX3_setSensor_66 : decode cX3_setSensor 66 = .ok (.iload 4, 2) := by decide +kernel
theorem dX3_setSensor_68 : decode cX3_setSensor 68 = .ok (.ireturn, 1) := by decide +kernel
set_option maxRecDepth 20000 in
theorem ggX3_setGate_X3_isOutside : GoodIn wsX3_setGate wsX3_isOutside := goodIn_r _ [6] (by decide +kernel) (by decide +kernel)
set_option maxRecDepth 20000 in
theorem gX3_setGate_X3_isOutside : GoodIn wsX3_setGate (va_wsS RX3 37 yX3_isOutside wsX3_isOutside) := goodIn_app (goodIn_of _ (by decide +kernel)) ggX3_setGate_X3_isOutside
set_option maxRecDepth 20000 in
theorem ggX3_setGate_X3_fail : GoodIn wsX3_setGate wsX3_fail := goodIn_r _ [10, 1, 11, 57, 58, 59, 60, 61] (by decide +kernel) (by decide +kernel)
set_option maxRecDepth 20000 in
theorem gX3_setGate_X3_fail : GoodIn wsX3_setGate (wsV RX3 44 RX3 yX3_fail wsX3_fail) := goodIn_app (goodIn_of _ (by decide +kernel)) ggX3_setGate_X3_fail
set_option maxRecDepth 20000 in
theorem ggX3_setGate_X3_save : GoodIn wsX3_setGate wsX3_save := goodIn_r _ [15, 16, 17, 2, 18, 19, 20, 5, 21, 22, 23, 24, 25, 26, 27, 28, 29, 30, 31, 32, 33, 34, 35, 36, 37, 38, 39, 40, 41, 42, 43, 44, 45, 46, 47, 48, 49, 50, 51, 52, 53, 54, 55, 56, 57, 58, 59, 60, 61, 62, 63, 64, 65, 66, 67, 68, 69, 70, 71, 72, 73, 74, 75, 76, 77, 78, 79, 80, 81, 82] (by decide +kernel) (by decide +kernel)
set_option maxRecDepth 20000 in
theorem gX3_setGate_X3_save : GoodIn wsX3_setGate (wsV RX3 48 RX3 yX3_save wsX3_save) := goodIn_app (goodIn_of _ (by decide +kernel)) ggX3_setGate_X3_save
theorem dX3_setGate_0 : decode cX3_setGate 0 = .ok (.iload_n 1, 1) := by decide +kernel
theorem dX3_setGate_1 : decode cX3_setGate 1 = .ok (.iconst 0, 1) := by decide +kernel
theorem dX3_setGate_2 : decode cX3_setGate 2 = .ok (.bipush 25, 2) := by decide +kernel
theorem dX3_setGate_4 : decode cX3_setGate 4 = .ok (.invokestatic 37, 3) := by decide +kernel
theorem dX3_setGate_7 : decode cX3_setGate 7 = .ok (.ifCond .eq 10, 3) := by decide +kernel
theorem dX3_setGate_10 : decode cX3_setGate 10 = .ok (.aload_n 0, 1) := by decide +kernel
theorem dX3_setGate_11 : decode cX3_setGate 11 = .ok (.ldc 43, 2) := by decide +kernel
theorem dX3_setGate_13 : decode cX3_setGate 13 = .ok (.invokevirtual 44, 3) := by decide +kernel
theorem dX3_setGate_16 : decode cX3_setGate 16 = .ok (.ireturn, 1) := by decide +kernel
theorem dX3_setGate_17 : decode cX3_setGate 17 = .ok (.aload_n 0, 1) := by decide +kernel
theorem dX3_setGate_18 : decode cX3_setGate 18 = .ok (.invokevirtual 48, 3) := by decide +kernel
theorem dX3_setGate_21 : decode cX3_setGate 21 = .ok (.aload_n 0, 1) := by decide +kernel
theorem dX3_setGate_22 : decode cX3_setGate 22 = .ok (.getfield 10, 3) := by decide +kernel
theorem dX3_setGate_25 : decode cX3_setGate 25 = .ok (.getfield 95, 3) := by decide +kernel
theorem dX3_setGate_28 : decode cX3_setGate 28 = .ok (.istore_n 2, 1) := by decide +kernel
theorem dX3_setGate_29 : decode cX3_setGate 29 = .ok (.aload_n 0, 1) := by decide +kernel
theorem dX3_setGate_30 : decode cX3_setGate 30 = .ok (.getfield 10, 3) := by decide +kernel
theorem dX3_setGate_33 : decode cX3_setGate 33 = .ok (.iload_n 1, 1) := by decide +kernel
theorem dX3_setGate_34 : decode cX3_setGate 34 = .ok (.putfield 95, 3) := by decide +kernel
theorem dX3_setGate_37 : decode cX3_setGate 37 = .ok (.iload_n 2, 1) := by decide +kernel
theorem dX3_setGate_38 : decode cX3_setGate 38 = .ok (.ireturn, 1) := by decide +kernel
set_option maxRecDepth 20000 in
theorem ggX3_predict_X3_isOutside : GoodIn wsX3_predict wsX3_isOutside := goodIn_r _ [10] (by decide +kernel) (by decide +kernel)
set_option maxRecDepth 20000 in
theorem gX3_predict_X3_isOutside : GoodIn wsX3_predict (va_wsS RX3 37 yX3_isOutside wsX3_isOutside) := goodIn_app (goodIn_of _ (by decide +kernel)) ggX3_predict_X3_isOutside
set_option maxRecDepth 20000 in
theorem ggX3_predict_X3_fail : GoodIn wsX3_predict wsX3_fail := goodIn_r _ [14, 3, 15, 84, 85, 86, 87, 88] (by decide +kernel) (by decide +kernel)
set_option maxRecDepth 20000 in
theorem gX3_predict_X3_fail : GoodIn wsX3_predict (wsV RX3 44 RX3 yX3_fail wsX3_fail) := goodIn_app (goodIn_of _ (by decide +kernel)) ggX3_predict_X3_fail
set_option maxRecDepth 20000 in
theorem ggX3_predict_X0_copyFrom : GoodIn wsX3_predict wsX0_copyFrom := goodIn_r _ [19, 20, 21, 22, 23, 24, 25, 26, 27, 99, 100, 101, 102, 103, 104, 105, 106] (by decide +kernel) (by decide +kernel)
set_option maxRecDepth 20000 in
theorem gX3_predict_X0_copyFrom_n98 : GoodIn wsX3_predict (wsX0_copyFrom) := ggX3_predict_X0_copyFrom
set_option maxRecDepth 20000 in
theorem ggX3_predict_X0_advance : GoodIn wsX3_predict wsX0_advance := goodIn_r _ [30, 20, 21, 22, 31, 23, 24, 32, 33, 34, 17, 35, 36, 37, 38, 39, 40, 9, 41, 42, 43, 99, 100, 101, 102, 103, 104, 105, 106] (by decide +kernel) (by decide +kernel)
set_option maxRecDepth 20000 in
theorem gX3_predict_X0_advance_n102 : GoodIn wsX3_predict (wsX0_advance) := ggX3_predict_X0_advance
set_option maxRecDepth 20000 in
theorem ggX3_predict_X3_save : GoodIn wsX3_predict wsX3_save := goodIn_r _ [47, 48, 49, 5, 50, 51, 52, 9, 53, 54, 55, 56, 57, 58, 59, 60, 61, 62, 63, 64, 65, 66, 67, 16, 17, 18, 19, 20, 21, 22, 23, 24, 25, 26, 27, 68, 69, 70, 71, 72, 73, 74, 75, 76, 84, 85, 86, 87, 88, 89, 90, 91, 92, 93, 94, 95, 96, 97, 98, 99, 100, 101, 102, 103, 104, 105, 106, 107, 108, 109] (by decide +kernel) (by decide +kernel)
set_option maxRecDepth 20000 in
theorem gX3_predict_X3_save : GoodIn wsX3_predict (wsV RX3 48 RX3 yX3_save wsX3_save) := goodIn_app (goodIn_of _ (by decide +kernel)) ggX3_predict_X3_save
set_option maxRecDepth 20000 in
theorem ggX3_predict_X1_append : GoodIn wsX3_predict wsX1_append := goodIn_r _ [79, 76, 74, 75, 80, 81, 82, 71, 83, 107, 108, 109] (by decide +kernel) (by decide +kernel)
set_option maxRecDepth 20000 in
theorem gX3_predict_X1_append_n107 : GoodIn wsX3_predict (wsX1_append) := ggX3_predict_X1_append
theorem dX3_predict_0 : decode cX3_predict 0 = .ok (.iload_n 1, 1) := by decide +kernel
theorem dX3_predict_1 : decode cX3_predict 1 = .ok (.ldc 41, 2) := by decide +kernel
theorem dX3_predict_3 : decode cX3_predict 3 = .ok (.ldc 42, 2) := by decide +kernel
theorem dX3_predict_5 : decode cX3_predict 5 = .ok (.invokestatic 37, 3) := by decide +kernel
theorem dX3_predict_8 : decode cX3_predict 8 = .ok (.ifCond .eq 10, 3) := by decide +kernel
theorem dX3_predict_11 : decode cX3_predict 11 = .ok (.aload_n 0, 1) := by decide +kernel
theorem dX3_predict_12 : decode cX3_predict 12 = .ok (.ldc 43, 2) := by decide +kernel
theorem dX3_predict_14 : decode cX3_predict 14 = .ok (.invokevirtual 44, 3) := by decide +kernel
theorem dX3_predict_17 : decode cX3_predict 17 = .ok (.ireturn, 1) := by decide +kernel
theorem dX3_predict_18 : decode cX3_predict 18 = .ok (.aload_n 0, 1) := by decide +kernel
theorem dX3_predict_19 : decode cX3_predict 19 = .ok (.getfield 31, 3) := by decide +kernel
theorem dX3_predict_22 : decode cX3_predict 22 = .ok (.aload_n 0, 1) := by decide +kernel
theorem dX3_predict_23 : decode cX3_predict 23 = .ok (.getfield 10, 3) := by decide +kernel
theorem dX3_predict_26 : decode cX3_predict 26 = .ok (.getfield 60, 3) := by decide +kernel
theorem dX3_predict_29 : decode cX3_predict 29 = .ok (.invokevirtual 98, 3) := by decide +kernel
theorem dX3_predict_32 : decode cX3_predict 32 = .ok (.aload_n 0, 1) := by decide +kernel
theorem dX3_predict_33 : decode cX3_predict 33 = .ok (.getfield 31, 3) := by decide +kernel
theorem dX3_predict_36 : decode cX3_predict 36 = .ok (.iload_n 1, 1) := by decide +kernel
theorem dX3_predict_37 : decode cX3_predict 37 = .ok (.i2l, 1) := by decide +kernel
theorem dX3_predict_38 : decode cX3_predict 38 = .ok (.aload_n 0, 1) := by decide +kernel
theorem dX3_predict_39 : decode cX3_predict 39 = .ok (.getfield 10, 3) := by decide +kernel
theorem dX3_predict_42 : decode cX3_predict 42 = .ok (.getfield 79, 3) := by decide +kernel
theorem dX3_predict_45 : decode cX3_predict 45 = .ok (.i2l, 1) := by decide +kernel
theorem dX3_predict_46 : decode cX3_predict 46 = .ok (.aload_n 0, 1) := by decide +kernel
theorem dX3_predict_47 : decode cX3_predict 47 = .ok (.getfield 10, 3) := by decide +kernel
theorem dX3_predict_50 : decode cX3_predict 50 = .ok (.getfield 76, 3) := by decide +kernel
theorem dX3_predict_53 : decode cX3_predict 53 = .ok (.i2l, 1) := by decide +kernel
theorem dX3_predict_54 : decode cX3_predict 54 = .ok (.invokevirtual 102, 3) := by decide +kernel
theorem dX3_predict_57 : decode cX3_predict 57 = .ok (.ifCond .ne 10, 3) := by decide +kernel
theorem dX3_predict_60 : decode cX3_predict 60 = .ok (.aload_n 0, 1) := by decide +kernel
theorem dX3_predict_61 : decode cX3_predict 61 = .ok (.ldc 106, 2) := by decide +kernel
theorem dX3_predict_63 : decode cX3_predict 63 = .ok (.invokevirtual 44, 3) := by decide +kernel
theorem dX3_predict_66 : decode cX3_predict 66 = .ok (.ireturn, 1) := by decide +kernel
theorem dX3_predict_67 : decode cX3_predict 67 = .ok (.aload_n 0, 1) := by decide +kernel
theorem dX3_predict_68 : decode cX3_predict 68 = .ok (.invokevirtual 48, 3) := by decide +kernel
theorem dX3_predict_71 : decode cX3_predict 71 = .ok (.aload_n 0, 1) := by decide +kernel
theorem dX3_predict_72 : decode cX3_predict 72 = .ok (.getfield 10, 3) := by decide +kernel
theorem dX3_predict_75 : decode cX3_predict 75 = .ok (.getfield 60, 3) := by decide +kernel
theorem dX3_predict_78 : decode cX3_predict 78 = .ok (.aload_n 0, 1) := by decide +kernel
theorem dX3_predict_79 : decode cX3_predict 79 = .ok (.getfield 31, 3) := by decide +kernel
theorem dX3_predict_82 : decode cX3_predict 82 = .ok (.invokevirtual 98, 3) := by decide +kernel
theorem dX3_predict_85 : decode cX3_predict 85 = .ok (.aload_n 0, 1) := by decide +kernel
theorem dX3_predict_86 : decode cX3_predict 86 = .ok (.getfield 10, 3) := by decide +kernel
theorem dX3_predict_89 : decode cX3_predict 89 = .ok (.getfield 51, 3) := by decide +kernel
theorem dX3_predict_92 : decode cX3_predict 92 = .ok (.iconst (-1), 1) := by decide +kernel
theorem dX3_predict_93 : decode cX3_predict 93 = .ok (.iload_n 1, 1) := by decide +kernel
theorem dX3_predict_94 : decode cX3_predict 94 = .ok (.invokevirtual 107, 3) := by decide +kernel
theorem dX3_predict_97 : decode cX3_predict 97 = .ok (.aload_n 0, 1) := by decide +kernel
theorem dX3_predict_98 : decode cX3_predict 98 = .ok (.getfield 10, 3) := by decide +kernel
theorem dX3_predict_101 : decode cX3_predict 101 = .ok (.getfield 60, 3) := by decide +kernel
theorem dX3_predict_104 : decode cX3_predict 104 = .ok (.getfield 111, 3) := by decide +kernel
theorem dX3_predict_107 : decode cX3_predict 107 = .ok (.l2i, 1) := by decide +kernel
theorem dX3_predict_108 : decode cX3_predict 108 = .ok (.ireturn, 1) := by decide +kernel
set_option maxRecDepth 20000 in
theorem ggX3_correct_X3_isSensor : GoodIn wsX3_correct wsX3_isSensor := goodIn_r _ [10, 11, 12, 9, 13] (by decide +kernel) (by decide +kernel)
set_option maxRecDepth 20000 in
theorem gX3_correct_X3_isSensor : GoodIn wsX3_correct (va_wsS RX3 82 yX3_isSensor wsX3_isSensor) := goodIn_app (goodIn_of _ (by decide +kernel)) ggX3_correct_X3_isSensor
set_option maxRecDepth 20000 in
theorem ggX3_correct_X3_isOutside : GoodIn wsX3_correct wsX3_isOutside := goodIn_r _ [13] (by decide +kernel) (by decide +kernel)
set_option maxRecDepth 20000 in
theorem gX3_correct_X3_isOutside : GoodIn wsX3_correct (va_wsS RX3 37 yX3_isOutside wsX3_isOutside) := goodIn_app (goodIn_of _ (by decide +kernel)) ggX3_correct_X3_isOutside
set_option maxRecDepth 20000 in
theorem ggX3_correct_X3_fail : GoodIn wsX3_correct wsX3_fail := goodIn_r _ [17, 3, 18, 103, 104, 105, 106, 107] (by decide +kernel) (by decide +kernel)
set_option maxRecDepth 20000 in
theorem gX3_correct_X3_fail : GoodIn wsX3_correct (wsV RX3 44 RX3 yX3_fail wsX3_fail) := goodIn_app (goodIn_of _ (by decide +kernel)) ggX3_correct_X3_fail
set_option maxRecDepth 20000 in
theorem ggX3_correct_X0_copyFrom : GoodIn wsX3_correct wsX0_copyFrom := goodIn_r _ [22, 23, 24, 25, 26, 27, 28, 29, 30, 118, 119, 120, 121, 122, 123, 124, 125] (by decide +kernel) (by decide +kernel)
set_option maxRecDepth 20000 in
theorem gX3_correct_X0_copyFrom_n98 : GoodIn wsX3_correct (wsX0_copyFrom) := ggX3_correct_X0_copyFrom
set_option maxRecDepth 20000 in
theorem ggX3_correct_X0_take : GoodIn wsX3_correct wsX0_take := goodIn_r _ [33, 25, 26, 27, 34, 28, 35, 23, 24, 29, 30, 36, 37, 38, 20, 39, 40, 9, 41, 42, 43, 44, 45, 46, 47, 48, 49, 50, 51, 52, 53, 54, 55, 56, 57, 58, 59, 60, 61, 62, 118, 119, 120, 121, 122, 123, 124, 125] (by decide +kernel) (by decide +kernel)
set_option maxRecDepth 20000 in
theorem gX3_correct_X0_take_n115 : GoodIn wsX3_correct (wsX0_take) := ggX3_correct_X0_take
set_option maxRecDepth 20000 in
theorem ggX3_correct_X3_save : GoodIn wsX3_correct wsX3_save := goodIn_r _ [66, 67, 68, 5, 69, 70, 71, 9, 72, 73, 74, 75, 76, 77, 78, 79, 80, 81, 82, 83, 84, 85, 86, 19, 20, 21, 22, 23, 24, 25, 26, 27, 28, 29, 30, 87, 88, 89, 90, 91, 92, 93, 94, 95, 103, 104, 105, 106, 107, 108, 109, 110, 111, 112, 113, 114, 115, 116, 117, 118, 119, 120, 121, 122, 123, 124, 125, 126, 127, 128] (by decide +kernel) (by decide +kernel)
set_option maxRecDepth 20000 in
theorem gX3_correct_X3_save : GoodIn wsX3_correct (wsV RX3 48 RX3 yX3_save wsX3_save) := goodIn_app (goodIn_of _ (by decide +kernel)) ggX3_correct_X3_save
set_option maxRecDepth 20000 in
theorem ggX3_correct_X1_append : GoodIn wsX3_correct wsX1_append := goodIn_r _ [98, 95, 93, 94, 99, 100, 101, 90, 102, 126, 127, 128] (by decide +kernel) (by decide +kernel)
set_option maxRecDepth 20000 in
theorem gX3_correct_X1_append_n107 : GoodIn wsX3_correct (wsX1_append) := ggX3_correct_X1_append
theorem dX3_correct_0 : decode cX3_correct 0 = .ok (.iload_n 1, 1) := by decide +kernel
theorem dX3_correct_1 : decode cX3_correct 1 = .ok (.invokestatic 82, 3) := by decide +kernel
theorem dX3_correct_4 : decode cX3_correct 4 = .ok (.ifCond .eq 14, 3) := by decide +kernel
theorem dX3_correct_7 : decode cX3_correct 7 = .ok (.iload_n 2, 1) := by decide +kernel
theorem dX3_correct_8 : decode cX3_correct 8 = .ok (.ldc 35, 2) := by decide +kernel
theorem dX3_correct_10 : decode cX3_correct 10 = .ok (.ldc 36, 2) := by decide +kernel
theorem dX3_correct_12 : decode cX3_correct 12 = .ok (.invokestatic 37, 3) := by decide +kernel
theorem dX3_correct_15 : decode cX3_correct 15 = .ok (.ifCond .eq 10, 3) := by decide +kernel
theorem dX3_correct_18 : decode cX3_correct 18 = .ok (.aload_n 0, 1) := by decide +kernel
theorem dX3_correct_19 : decode cX3_correct 19 = .ok (.ldc 43, 2) := by decide +kernel
theorem dX3_correct_21 : decode cX3_correct 21 = .ok (.invokevirtual 44, 3) := by decide +kernel
theorem dX3_correct_24 : decode cX3_correct 24 = .ok (.ireturn, 1) := by decide +kernel
theorem dX3_correct_25 : decode cX3_correct 25 = .ok (.aload_n 0, 1) := by decide +kernel
theorem dX3_correct_26 : decode cX3_correct 26 = .ok (.getfield 31, 3) := by decide +kernel
theorem dX3_correct_29 : decode cX3_correct 29 = .ok (.aload_n 0, 1) := by decide +kernel
theorem dX3_correct_30 : decode cX3_correct 30 = .ok (.getfield 10, 3) := by decide +kernel
theorem dX3_correct_33 : decode cX3_correct 33 = .ok (.getfield 60, 3) := by decide +kernel
theorem dX3_correct_36 : decode cX3_correct 36 = .ok (.invokevirtual 98, 3) := by decide +kernel
theorem dX3_correct_39 : decode cX3_correct 39 = .ok (.aload_n 0, 1) := by decide +kernel
theorem dX3_correct_40 : decode cX3_correct 40 = .ok (.getfield 31, 3) := by decide +kernel
theorem dX3_correct_43 : decode cX3_correct 43 = .ok (.iload_n 2, 1) := by decide +kernel
theorem dX3_correct_44 : decode cX3_correct 44 = .ok (.i2l, 1) := by decide +kernel
theorem dX3_correct_45 : decode cX3_correct 45 = .ok (.aload_n 0, 1) := by decide +kernel
theorem dX3_correct_46 : decode cX3_correct 46 = .ok (.getfield 10, 3) := by decide +kernel
theorem dX3_correct_49 : decode cX3_correct 49 = .ok (.getfield 92, 3) := by decide +kernel
theorem dX3_correct_52 : decode cX3_correct 52 = .ok (.iload_n 1, 1) := by decide +kernel
theorem dX3_correct_53 : decode cX3_correct 53 = .ok (.iaload, 1) := by decide +kernel
theorem dX3_correct_54 : decode cX3_correct 54 = .ok (.aload_n 0, 1) := by decide +kernel
theorem dX3_correct_55 : decode cX3_correct 55 = .ok (.getfield 10, 3) := by decide +kernel
theorem dX3_correct_58 : decode cX3_correct 58 = .ok (.getfield 89, 3) := by decide +kernel
theorem dX3_correct_61 : decode cX3_correct 61 = .ok (.iload_n 1, 1) := by decide +kernel
theorem dX3_correct_62 : decode cX3_correct 62 = .ok (.iaload, 1) := by decide +kernel
theorem dX3_correct_63 : decode cX3_correct 63 = .ok (.i2l, 1) := by decide +kernel
theorem dX3_correct_64 : decode cX3_correct 64 = .ok (.aload_n 0, 1) := by decide +kernel
theorem dX3_correct_65 : decode cX3_correct 65 = .ok (.getfield 10, 3) := by decide +kernel
theorem dX3_correct_68 : decode cX3_correct 68 = .ok (.getfield 95, 3) := by decide +kernel
theorem dX3_correct_71 : decode cX3_correct 71 = .ok (.i2l, 1) := by decide +kernel
theorem dX3_correct_72 : decode cX3_correct 72 = .ok (.invokevirtual 115, 3) := by decide +kernel
theorem dX3_correct_75 : decode cX3_correct 75 = .ok (.istore_n 3, 1) := by decide +kernel
theorem dX3_correct_76 : decode cX3_correct 76 = .ok (.iload_n 3, 1) := by decide +kernel
theorem dX3_correct_77 : decode cX3_correct 77 = .ok (.ldc 106, 2) := by decide +kernel
theorem dX3_correct_79 : decode cX3_correct 79 = .ok (.if_icmp .ne 10, 3) := by decide +kernel
theorem dX3_correct_82 : decode cX3_correct 82 = .ok (.aload_n 0, 1) := by decide +kernel
theorem dX3_correct_83 : decode cX3_correct 83 = .ok (.ldc 106, 2) := by decide +kernel
theorem dX3_correct_85 : decode cX3_correct 85 = .ok (.invokevirtual 44, 3) := by decide +kernel
theorem dX3_correct_88 : decode cX3_correct 88 = .ok (.ireturn, 1) := by decide +kernel
theorem dX3_correct_89 : decode cX3_correct 89 = .ok (.aload_n 0, 1) := by decide +kernel
theorem dX3_correct_90 : decode cX3_correct 90 = .ok (.invokevirtual 48, 3) := by decide +kernel
theorem dX3_correct_93 : decode cX3_correct 93 = .ok (.aload_n 0, 1) := by decide +kernel
theorem dX3_correct_94 : decode cX3_correct 94 = .ok (.getfield 10, 3) := by decide +kernel
theorem dX3_correct_97 : decode cX3_correct 97 = .ok (.getfield 60, 3) := by decide +kernel
theorem dX3_correct_100 : decode cX3_correct 100 = .ok (.aload_n 0, 1) := by decide +kernel
end
section
theorem dX3_correct_101 : decode cX3_correct 101 = .ok (.getfield 31, 3) := by decide +kernel
theorem dX3_correct_104 : decode cX3_correct 104 = .ok (.invokevirtual 98, 3) := by decide +kernel
theorem dX3_correct_107 : decode cX3_correct 107 = .ok (.aload_n 0, 1) := by decide +kernel
theorem dX3_correct_108 : decode cX3_correct 108 = .ok (.getfield 10, 3) := by decide +kernel
theorem dX3_correct_111 : decode cX3_correct 111 = .ok (.getfield 51, 3) := by decide +kernel
theorem dX3_correct_114 : decode cX3_correct 114 = .ok (.iload_n 1, 1) := by decide +kernel
theorem dX3_correct_115 : decode cX3_correct 115 = .ok (.iload_n 2, 1) := by decide +kernel
theorem dX3_correct_116 : decode cX3_correct 116 = .ok (.invokevirtual 107, 3) := by decide +kernel
theorem dX3_correct_119 : decode cX3_correct 119 = .ok (.iload_n 3, 1) := by decide +kernel
theorem dX3_correct_120 : decode cX3_correct 120 = .ok (.iconst 1, 1) := by decide +kernel
theorem dX3_correct_121 : decode cX3_correct 121 = .ok (.if_icmp .ne 19, 3) := by decide +kernel
theorem dX3_correct_124 : decode cX3_correct 124 = .ok (.aload_n 0, 1) := by decide +kernel
theorem dX3_correct_125 : decode cX3_correct 125 = .ok (.getfield 10, 3) := by decide +kernel
theorem dX3_correct_128 : decode cX3_correct 128 = .ok (.dup, 1) := by decide +kernel
theorem dX3_correct_129 : decode cX3_correct 129 = .ok (.getfield 67, 3) := by decide +kernel
theorem dX3_correct_132 : decode cX3_correct 132 = .ok (.iconst 1, 1) := by decide +kernel
theorem dX3_correct_133 : decode cX3_correct 133 = .ok (.iadd, 1) := by decide +kernel
theorem dX3_correct_134 : decode cX3_correct 134 = .ok (.putfield 67, 3) := by decide +kernel
theorem dX3_correct_137 : decode cX3_correct 137 = .ok (.goto 16, 3) := by decide +kernel
theorem dX3_correct_140 : decode cX3_correct 140 = .ok (.aload_n 0, 1) := by decide +kernel
theorem dX3_correct_141 : decode cX3_correct 141 = .ok (.getfield 10, 3) := by decide +kernel
theorem dX3_correct_144 : decode cX3_correct 144 = .ok (.dup, 1) := by decide +kernel
theorem dX3_correct_145 : decode cX3_correct 145 = .ok (.getfield 70, 3) := by decide +kernel
theorem dX3_correct_148 : decode cX3_correct 148 = .ok (.iconst 1, 1) := by decide +kernel
theorem dX3_correct_149 : decode cX3_correct 149 = .ok (.iadd, 1) := by decide +kernel
theorem dX3_correct_150 : decode cX3_correct 150 = .ok (.putfield 70, 3) := by decide +kernel
theorem dX3_correct_153 : decode cX3_correct 153 = .ok (.iload_n 3, 1) := by decide +kernel
theorem dX3_correct_154 : decode cX3_correct 154 = .ok (.ireturn, 1) := by decide +kernel
set_option maxRecDepth 20000 in
theorem ggX3_miss_X3_isSensor : GoodIn wsX3_miss wsX3_isSensor := goodIn_r _ [6, 7, 8, 5, 9] (by decide +kernel) (by decide +kernel)
set_option maxRecDepth 20000 in
theorem gX3_miss_X3_isSensor : GoodIn wsX3_miss (va_wsS RX3 82 yX3_isSensor wsX3_isSensor) := goodIn_app (goodIn_of _ (by decide +kernel)) ggX3_miss_X3_isSensor
set_option maxRecDepth 20000 in
theorem ggX3_miss_X3_fail : GoodIn wsX3_miss wsX3_fail := goodIn_r _ [13, 1, 14, 60, 61, 62, 63, 64] (by decide +kernel) (by decide +kernel)
set_option maxRecDepth 20000 in
theorem gX3_miss_X3_fail : GoodIn wsX3_miss (wsV RX3 44 RX3 yX3_fail wsX3_fail) := goodIn_app (goodIn_of _ (by decide +kernel)) ggX3_miss_X3_fail
set_option maxRecDepth 20000 in
theorem ggX3_miss_X3_save : GoodIn wsX3_miss wsX3_save := goodIn_r _ [18, 19, 20, 2, 21, 22, 23, 5, 24, 25, 26, 27, 28, 29, 30, 31, 32, 33, 34, 35, 36, 37, 38, 39, 40, 41, 42, 43, 44, 45, 46, 47, 48, 49, 50, 51, 52, 53, 54, 55, 56, 57, 58, 59, 60, 61, 62, 63, 64, 65, 66, 67, 68, 69, 70, 71, 72, 73, 74, 75, 76, 77, 78, 79, 80, 81, 82, 83, 84, 85] (by decide +kernel) (by decide +kernel)
set_option maxRecDepth 20000 in
theorem gX3_miss_X3_save : GoodIn wsX3_miss (wsV RX3 48 RX3 yX3_save wsX3_save) := goodIn_app (goodIn_of _ (by decide +kernel)) ggX3_miss_X3_save
theorem dX3_miss_0 : decode cX3_miss 0 = .ok (.iload_n 1, 1) := by decide +kernel
theorem dX3_miss_1 : decode cX3_miss 1 = .ok (.invokestatic 82, 3) := by decide +kernel
theorem dX3_miss_4 : decode cX3_miss 4 = .ok (.ifCond .ne 10, 3) := by decide +kernel
theorem dX3_miss_7 : decode cX3_miss 7 = .ok (.aload_n 0, 1) := by decide +kernel
theorem dX3_miss_8 : decode cX3_miss 8 = .ok (.ldc 43, 2) := by decide +kernel
theorem dX3_miss_10 : decode cX3_miss 10 = .ok (.invokevirtual 44, 3) := by decide +kernel
theorem dX3_miss_13 : decode cX3_miss 13 = .ok (.ireturn, 1) := by decide +kernel
theorem dX3_miss_14 : decode cX3_miss 14 = .ok (.aload_n 0, 1) := by decide +kernel
theorem dX3_miss_15 : decode cX3_miss 15 = .ok (.invokevirtual 48, 3) := by decide +kernel
theorem dX3_miss_18 : decode cX3_miss 18 = .ok (.aload_n 0, 1) := by decide +kernel
theorem dX3_miss_19 : decode cX3_miss 19 = .ok (.getfield 10, 3) := by decide +kernel
theorem dX3_miss_22 : decode cX3_miss 22 = .ok (.dup, 1) := by decide +kernel
theorem dX3_miss_23 : decode cX3_miss 23 = .ok (.getfield 73, 3) := by decide +kernel
theorem dX3_miss_26 : decode cX3_miss 26 = .ok (.iconst 1, 1) := by decide +kernel
theorem dX3_miss_27 : decode cX3_miss 27 = .ok (.iadd, 1) := by decide +kernel
theorem dX3_miss_28 : decode cX3_miss 28 = .ok (.putfield 73, 3) := by decide +kernel
theorem dX3_miss_31 : decode cX3_miss 31 = .ok (.aload_n 0, 1) := by decide +kernel
theorem dX3_miss_32 : decode cX3_miss 32 = .ok (.getfield 10, 3) := by decide +kernel
theorem dX3_miss_35 : decode cX3_miss 35 = .ok (.getfield 73, 3) := by decide +kernel
theorem dX3_miss_38 : decode cX3_miss 38 = .ok (.ireturn, 1) := by decide +kernel
theorem dX3_level_0 : decode cX3_level 0 = .ok (.aload_n 0, 1) := by decide +kernel
theorem dX3_level_1 : decode cX3_level 1 = .ok (.getfield 10, 3) := by decide +kernel
theorem dX3_level_4 : decode cX3_level 4 = .ok (.getfield 60, 3) := by decide +kernel
theorem dX3_level_7 : decode cX3_level 7 = .ok (.getfield 111, 3) := by decide +kernel
theorem dX3_level_10 : decode cX3_level 10 = .ok (.l2i, 1) := by decide +kernel
theorem dX3_level_11 : decode cX3_level 11 = .ok (.ireturn, 1) := by decide +kernel
theorem dX3_flow_0 : decode cX3_flow 0 = .ok (.aload_n 0, 1) := by decide +kernel
theorem dX3_flow_1 : decode cX3_flow 1 = .ok (.getfield 10, 3) := by decide +kernel
theorem dX3_flow_4 : decode cX3_flow 4 = .ok (.getfield 60, 3) := by decide +kernel
theorem dX3_flow_7 : decode cX3_flow 7 = .ok (.getfield 119, 3) := by decide +kernel
theorem dX3_flow_10 : decode cX3_flow 10 = .ok (.l2i, 1) := by decide +kernel
theorem dX3_flow_11 : decode cX3_flow 11 = .ok (.ireturn, 1) := by decide +kernel
theorem dX3_levelVariance_0 : decode cX3_levelVariance 0 = .ok (.aload_n 0, 1) := by decide +kernel
theorem dX3_levelVariance_1 : decode cX3_levelVariance 1 = .ok (.getfield 10, 3) := by decide +kernel
theorem dX3_levelVariance_4 : decode cX3_levelVariance 4 = .ok (.getfield 60, 3) := by decide +kernel
theorem dX3_levelVariance_7 : decode cX3_levelVariance 7 = .ok (.getfield 122, 3) := by decide +kernel
theorem dX3_levelVariance_10 : decode cX3_levelVariance 10 = .ok (.l2i, 1) := by decide +kernel
theorem dX3_levelVariance_11 : decode cX3_levelVariance 11 = .ok (.ireturn, 1) := by decide +kernel
theorem dX3_covariance_0 : decode cX3_covariance 0 = .ok (.aload_n 0, 1) := by decide +kernel
theorem dX3_covariance_1 : decode cX3_covariance 1 = .ok (.getfield 10, 3) := by decide +kernel
theorem dX3_covariance_4 : decode cX3_covariance 4 = .ok (.getfield 60, 3) := by decide +kernel
theorem dX3_covariance_7 : decode cX3_covariance 7 = .ok (.getfield 125, 3) := by decide +kernel
theorem dX3_covariance_10 : decode cX3_covariance 10 = .ok (.l2i, 1) := by decide +kernel
theorem dX3_covariance_11 : decode cX3_covariance 11 = .ok (.ireturn, 1) := by decide +kernel
theorem dX3_flowVariance_0 : decode cX3_flowVariance 0 = .ok (.aload_n 0, 1) := by decide +kernel
theorem dX3_flowVariance_1 : decode cX3_flowVariance 1 = .ok (.getfield 10, 3) := by decide +kernel
theorem dX3_flowVariance_4 : decode cX3_flowVariance 4 = .ok (.getfield 60, 3) := by decide +kernel
theorem dX3_flowVariance_7 : decode cX3_flowVariance 7 = .ok (.getfield 128, 3) := by decide +kernel
theorem dX3_flowVariance_10 : decode cX3_flowVariance 10 = .ok (.l2i, 1) := by decide +kernel
theorem dX3_flowVariance_11 : decode cX3_flowVariance 11 = .ok (.ireturn, 1) := by decide +kernel
theorem dX3_innovation_0 : decode cX3_innovation 0 = .ok (.aload_n 0, 1) := by decide +kernel
theorem dX3_innovation_1 : decode cX3_innovation 1 = .ok (.getfield 10, 3) := by decide +kernel
theorem dX3_innovation_4 : decode cX3_innovation 4 = .ok (.getfield 60, 3) := by decide +kernel
theorem dX3_innovation_7 : decode cX3_innovation 7 = .ok (.getfield 131, 3) := by decide +kernel
theorem dX3_innovation_10 : decode cX3_innovation 10 = .ok (.l2i, 1) := by decide +kernel
theorem dX3_innovation_11 : decode cX3_innovation 11 = .ok (.ireturn, 1) := by decide +kernel
theorem dX3_levelGain_0 : decode cX3_levelGain 0 = .ok (.aload_n 0, 1) := by decide +kernel
theorem dX3_levelGain_1 : decode cX3_levelGain 1 = .ok (.getfield 10, 3) := by decide +kernel
theorem dX3_levelGain_4 : decode cX3_levelGain 4 = .ok (.getfield 60, 3) := by decide +kernel
theorem dX3_levelGain_7 : decode cX3_levelGain 7 = .ok (.getfield 134, 3) := by decide +kernel
theorem dX3_levelGain_10 : decode cX3_levelGain 10 = .ok (.l2i, 1) := by decide +kernel
theorem dX3_levelGain_11 : decode cX3_levelGain 11 = .ok (.ireturn, 1) := by decide +kernel
theorem dX3_flowGain_0 : decode cX3_flowGain 0 = .ok (.aload_n 0, 1) := by decide +kernel
theorem dX3_flowGain_1 : decode cX3_flowGain 1 = .ok (.getfield 10, 3) := by decide +kernel
theorem dX3_flowGain_4 : decode cX3_flowGain 4 = .ok (.getfield 60, 3) := by decide +kernel
theorem dX3_flowGain_7 : decode cX3_flowGain 7 = .ok (.getfield 137, 3) := by decide +kernel
theorem dX3_flowGain_10 : decode cX3_flowGain 10 = .ok (.l2i, 1) := by decide +kernel
theorem dX3_flowGain_11 : decode cX3_flowGain 11 = .ok (.ireturn, 1) := by decide +kernel
theorem dX3_accepted_0 : decode cX3_accepted 0 = .ok (.aload_n 0, 1) := by decide +kernel
theorem dX3_accepted_1 : decode cX3_accepted 1 = .ok (.getfield 10, 3) := by decide +kernel
theorem dX3_accepted_4 : decode cX3_accepted 4 = .ok (.getfield 67, 3) := by decide +kernel
theorem dX3_accepted_7 : decode cX3_accepted 7 = .ok (.ireturn, 1) := by decide +kernel
theorem dX3_rejected_0 : decode cX3_rejected 0 = .ok (.aload_n 0, 1) := by decide +kernel
theorem dX3_rejected_1 : decode cX3_rejected 1 = .ok (.getfield 10, 3) := by decide +kernel
theorem dX3_rejected_4 : decode cX3_rejected 4 = .ok (.getfield 70, 3) := by decide +kernel
theorem dX3_rejected_7 : decode cX3_rejected 7 = .ok (.ireturn, 1) := by decide +kernel
theorem dX3_missed_0 : decode cX3_missed 0 = .ok (.aload_n 0, 1) := by decide +kernel
theorem dX3_missed_1 : decode cX3_missed 1 = .ok (.getfield 10, 3) := by decide +kernel
theorem dX3_missed_4 : decode cX3_missed 4 = .ok (.getfield 73, 3) := by decide +kernel
theorem dX3_missed_7 : decode cX3_missed 7 = .ok (.ireturn, 1) := by decide +kernel
theorem dX3_historyLength_0 : decode cX3_historyLength 0 = .ok (.aload_n 0, 1) := by decide +kernel
theorem dX3_historyLength_1 : decode cX3_historyLength 1 = .ok (.getfield 10, 3) := by decide +kernel
theorem dX3_historyLength_4 : decode cX3_historyLength 4 = .ok (.getfield 51, 3) := by decide +kernel
theorem dX3_historyLength_7 : decode cX3_historyLength 7 = .ok (.getfield 55, 3) := by decide +kernel
theorem dX3_historyLength_10 : decode cX3_historyLength 10 = .ok (.ireturn, 1) := by decide +kernel
set_option maxRecDepth 20000 in
theorem ggX3_forecast_X3_isOutside : GoodIn wsX3_forecast wsX3_isOutside := goodIn_r _ [7] (by decide +kernel) (by decide +kernel)
set_option maxRecDepth 20000 in
theorem gX3_forecast_X3_isOutside : GoodIn wsX3_forecast (va_wsS RX3 37 yX3_isOutside wsX3_isOutside) := goodIn_app (goodIn_of _ (by decide +kernel)) ggX3_forecast_X3_isOutside
set_option maxRecDepth 20000 in
theorem ggX3_forecast_X3_fail : GoodIn wsX3_forecast wsX3_fail := goodIn_r _ [11, 1, 12, 46, 47, 48, 49, 50] (by decide +kernel) (by decide +kernel)
set_option maxRecDepth 20000 in
theorem gX3_forecast_X3_fail : GoodIn wsX3_forecast (wsV RX3 44 RX3 yX3_fail wsX3_fail) := goodIn_app (goodIn_of _ (by decide +kernel)) ggX3_forecast_X3_fail
set_option maxRecDepth 20000 in
theorem ggX3_forecast_X3_runPredictions : GoodIn wsX3_forecast wsX3_runPredictions := goodIn_r _ [16, 2, 17, 18, 19, 20, 21, 22, 23, 24, 25, 26, 27, 28, 29, 30, 31, 32, 33, 34, 35, 36, 37, 38, 39, 40, 41, 42, 6, 43, 44, 45, 46, 47, 48, 49, 50, 59, 60, 61, 62, 63, 64, 65, 66, 67, 68, 51, 52, 53, 54, 55, 56, 57, 58] (by decide +kernel) (by decide +kernel)
set_option maxRecDepth 20000 in
theorem gX3_forecast_X3_runPredictions : GoodIn wsX3_forecast (wsV RX3 140 RX3 yX3_runPredictions wsX3_runPredictions) := goodIn_app (goodIn_of _ (by decide +kernel)) ggX3_forecast_X3_runPredictions
theorem dX3_forecast_0 : decode cX3_forecast 0 = .ok (.iload_n 1, 1) := by decide +kernel
theorem dX3_forecast_1 : decode cX3_forecast 1 = .ok (.iconst 0, 1) := by decide +kernel
theorem dX3_forecast_2 : decode cX3_forecast 2 = .ok (.bipush 100, 2) := by decide +kernel
theorem dX3_forecast_4 : decode cX3_forecast 4 = .ok (.invokestatic 37, 3) := by decide +kernel
theorem dX3_forecast_7 : decode cX3_forecast 7 = .ok (.ifCond .eq 10, 3) := by decide +kernel
theorem dX3_forecast_10 : decode cX3_forecast 10 = .ok (.aload_n 0, 1) := by decide +kernel
theorem dX3_forecast_11 : decode cX3_forecast 11 = .ok (.ldc 43, 2) := by decide +kernel
theorem dX3_forecast_13 : decode cX3_forecast 13 = .ok (.invokevirtual 44, 3) := by decide +kernel
theorem dX3_forecast_16 : decode cX3_forecast 16 = .ok (.ireturn, 1) := by decide +kernel
theorem dX3_forecast_17 : decode cX3_forecast 17 = .ok (.aload_n 0, 1) := by decide +kernel
theorem dX3_forecast_18 : decode cX3_forecast 18 = .ok (.iload_n 1, 1) := by decide +kernel
theorem dX3_forecast_19 : decode cX3_forecast 19 = .ok (.invokevirtual 140, 3) := by decide +kernel
theorem dX3_forecast_22 : decode cX3_forecast 22 = .ok (.ifCond .eq 14, 3) := by decide +kernel
theorem dX3_forecast_25 : decode cX3_forecast 25 = .ok (.aload_n 0, 1) := by decide +kernel
theorem dX3_forecast_26 : decode cX3_forecast 26 = .ok (.getfield 31, 3) := by decide +kernel
theorem dX3_forecast_29 : decode cX3_forecast 29 = .ok (.getfield 111, 3) := by decide +kernel
theorem dX3_forecast_32 : decode cX3_forecast 32 = .ok (.l2i, 1) := by decide +kernel
theorem dX3_forecast_33 : decode cX3_forecast 33 = .ok (.goto 9, 3) := by decide +kernel
theorem dX3_forecast_36 : decode cX3_forecast 36 = .ok (.aload_n 0, 1) := by decide +kernel
theorem dX3_forecast_37 : decode cX3_forecast 37 = .ok (.ldc 106, 2) := by decide +kernel
theorem dX3_forecast_39 : decode cX3_forecast 39 = .ok (.invokevirtual 44, 3) := by decide +kernel
theorem dX3_forecast_42 : decode cX3_forecast 42 = .ok (.ireturn, 1) := by decide +kernel
set_option maxRecDepth 20000 in
theorem ggX3_forecastVariance_X3_isOutside : GoodIn wsX3_forecastVariance wsX3_isOutside := goodIn_r _ [7] (by decide +kernel) (by decide +kernel)
set_option maxRecDepth 20000 in
theorem gX3_forecastVariance_X3_isOutside : GoodIn wsX3_forecastVariance (va_wsS RX3 37 yX3_isOutside wsX3_isOutside) := goodIn_app (goodIn_of _ (by decide +kernel)) ggX3_forecastVariance_X3_isOutside
set_option maxRecDepth 20000 in
theorem ggX3_forecastVariance_X3_fail : GoodIn wsX3_forecastVariance wsX3_fail := goodIn_r _ [11, 1, 12, 46, 47, 48, 49, 50] (by decide +kernel) (by decide +kernel)
set_option maxRecDepth 20000 in
theorem gX3_forecastVariance_X3_fail : GoodIn wsX3_forecastVariance (wsV RX3 44 RX3 yX3_fail wsX3_fail) := goodIn_app (goodIn_of _ (by decide +kernel)) ggX3_forecastVariance_X3_fail
set_option maxRecDepth 20000 in
theorem ggX3_forecastVariance_X3_runPredictions : GoodIn wsX3_forecastVariance wsX3_runPredictions := goodIn_r _ [16, 2, 17, 18, 19, 20, 21, 22, 23, 24, 25, 26, 27, 28, 29, 30, 31, 32, 33, 34, 35, 36, 37, 38, 39, 40, 41, 42, 6, 43, 44, 45, 46, 47, 48, 49, 50, 59, 60, 61, 62, 63, 64, 65, 66, 67, 68, 51, 52, 53, 54, 55, 56, 57, 58] (by decide +kernel) (by decide +kernel)
set_option maxRecDepth 20000 in
theorem gX3_forecastVariance_X3_runPredictions : GoodIn wsX3_forecastVariance (wsV RX3 140 RX3 yX3_runPredictions wsX3_runPredictions) := goodIn_app (goodIn_of _ (by decide +kernel)) ggX3_forecastVariance_X3_runPredictions
theorem dX3_forecastVariance_0 : decode cX3_forecastVariance 0 = .ok (.iload_n 1, 1) := by decide +kernel
theorem dX3_forecastVariance_1 : decode cX3_forecastVariance 1 = .ok (.iconst 0, 1) := by decide +kernel
theorem dX3_forecastVariance_2 : decode cX3_forecastVariance 2 = .ok (.bipush 100, 2) := by decide +kernel
theorem dX3_forecastVariance_4 : decode cX3_forecastVariance 4 = .ok (.invokestatic 37, 3) := by decide +kernel
theorem dX3_forecastVariance_7 : decode cX3_forecastVariance 7 = .ok (.ifCond .eq 10, 3) := by decide +kernel
theorem dX3_forecastVariance_10 : decode cX3_forecastVariance 10 = .ok (.aload_n 0, 1) := by decide +kernel
theorem dX3_forecastVariance_11 : decode cX3_forecastVariance 11 = .ok (.ldc 43, 2) := by decide +kernel
theorem dX3_forecastVariance_13 : decode cX3_forecastVariance 13 = .ok (.invokevirtual 44, 3) := by decide +kernel
theorem dX3_forecastVariance_16 : decode cX3_forecastVariance 16 = .ok (.ireturn, 1) := by decide +kernel
theorem dX3_forecastVariance_17 : decode cX3_forecastVariance 17 = .ok (.aload_n 0, 1) := by decide +kernel
theorem dX3_forecastVariance_18 : decode cX3_forecastVariance 18 = .ok (.iload_n 1, 1) := by decide +kernel
theorem dX3_forecastVariance_19 : decode cX3_forecastVariance 19 = .ok (.invokevirtual 140, 3) := by decide +kernel
theorem dX3_forecastVariance_22 : decode cX3_forecastVariance 22 = .ok (.ifCond .eq 14, 3) := by decide +kernel
theorem dX3_forecastVariance_25 : decode cX3_forecastVariance 25 = .ok (.aload_n 0, 1) := by decide +kernel
theorem dX3_forecastVariance_26 : decode cX3_forecastVariance 26 = .ok (.getfield 31, 3) := by decide +kernel
theorem dX3_forecastVariance_29 : decode cX3_forecastVariance 29 = .ok (.getfield 122, 3) := by decide +kernel
theorem dX3_forecastVariance_32 : decode cX3_forecastVariance 32 = .ok (.l2i, 1) := by decide +kernel
theorem dX3_forecastVariance_33 : decode cX3_forecastVariance 33 = .ok (.goto 9, 3) := by decide +kernel
theorem dX3_forecastVariance_36 : decode cX3_forecastVariance 36 = .ok (.aload_n 0, 1) := by decide +kernel
theorem dX3_forecastVariance_37 : decode cX3_forecastVariance 37 = .ok (.ldc 106, 2) := by decide +kernel
theorem dX3_forecastVariance_39 : decode cX3_forecastVariance 39 = .ok (.invokevirtual 44, 3) := by decide +kernel
theorem dX3_forecastVariance_42 : decode cX3_forecastVariance 42 = .ok (.ireturn, 1) := by decide +kernel
set_option maxRecDepth 20000 in
theorem ggX3_stepsTo_X3_isOutside : GoodIn wsX3_stepsTo wsX3_isOutside := goodIn_r _ [10] (by decide +kernel) (by decide +kernel)
set_option maxRecDepth 20000 in
theorem gX3_stepsTo_X3_isOutside : GoodIn wsX3_stepsTo (va_wsS RX3 37 yX3_isOutside wsX3_isOutside) := goodIn_app (goodIn_of _ (by decide +kernel)) ggX3_stepsTo_X3_isOutside
set_option maxRecDepth 20000 in
theorem ggX3_stepsTo_X3_fail : GoodIn wsX3_stepsTo wsX3_fail := goodIn_r _ [14, 3, 15, 44, 45, 46, 47, 48] (by decide +kernel) (by decide +kernel)
set_option maxRecDepth 20000 in
theorem gX3_stepsTo_X3_fail : GoodIn wsX3_stepsTo (wsV RX3 44 RX3 yX3_fail wsX3_fail) := goodIn_app (goodIn_of _ (by decide +kernel)) ggX3_stepsTo_X3_fail
set_option maxRecDepth 20000 in
theorem ggX3_stepsTo_X0_copyFrom : GoodIn wsX3_stepsTo wsX0_copyFrom := goodIn_r _ [19, 20, 21, 22, 23, 24, 25, 26, 27, 59, 60, 61, 62, 63, 64, 65, 66] (by decide +kernel) (by decide +kernel)
set_option maxRecDepth 20000 in
theorem gX3_stepsTo_X0_copyFrom_n98 : GoodIn wsX3_stepsTo (wsX0_copyFrom) := ggX3_stepsTo_X0_copyFrom
set_option maxRecDepth 20000 in
theorem ggX3_stepsTo_X0_advance : GoodIn wsX3_stepsTo wsX0_advance := goodIn_r _ [30, 20, 21, 22, 31, 23, 24, 32, 33, 34, 17, 35, 36, 37, 38, 39, 40, 9, 41, 42, 43, 59, 60, 61, 62, 63, 64, 65, 66] (by decide +kernel) (by decide +kernel)
set_option maxRecDepth 20000 in
theorem gX3_stepsTo_X0_advance_n102 : GoodIn wsX3_stepsTo (wsX0_advance) := ggX3_stepsTo_X0_advance
theorem dX3_stepsTo_0 : decode cX3_stepsTo 0 = .ok (.iload_n 1, 1) := by decide +kernel
theorem dX3_stepsTo_1 : decode cX3_stepsTo 1 = .ok (.ldc 35, 2) := by decide +kernel
theorem dX3_stepsTo_3 : decode cX3_stepsTo 3 = .ok (.ldc 36, 2) := by decide +kernel
theorem dX3_stepsTo_5 : decode cX3_stepsTo 5 = .ok (.invokestatic 37, 3) := by decide +kernel
theorem dX3_stepsTo_8 : decode cX3_stepsTo 8 = .ok (.ifCond .eq 10, 3) := by decide +kernel
theorem dX3_stepsTo_11 : decode cX3_stepsTo 11 = .ok (.aload_n 0, 1) := by decide +kernel
theorem dX3_stepsTo_12 : decode cX3_stepsTo 12 = .ok (.ldc 43, 2) := by decide +kernel
theorem dX3_stepsTo_14 : decode cX3_stepsTo 14 = .ok (.invokevirtual 44, 3) := by decide +kernel
theorem dX3_stepsTo_17 : decode cX3_stepsTo 17 = .ok (.ireturn, 1) := by decide +kernel
theorem dX3_stepsTo_18 : decode cX3_stepsTo 18 = .ok (.aload_n 0, 1) := by decide +kernel
theorem dX3_stepsTo_19 : decode cX3_stepsTo 19 = .ok (.getfield 31, 3) := by decide +kernel
theorem dX3_stepsTo_22 : decode cX3_stepsTo 22 = .ok (.aload_n 0, 1) := by decide +kernel
theorem dX3_stepsTo_23 : decode cX3_stepsTo 23 = .ok (.getfield 10, 3) := by decide +kernel
theorem dX3_stepsTo_26 : decode cX3_stepsTo 26 = .ok (.getfield 60, 3) := by decide +kernel
theorem dX3_stepsTo_29 : decode cX3_stepsTo 29 = .ok (.invokevirtual 98, 3) := by decide +kernel
theorem dX3_stepsTo_32 : decode cX3_stepsTo 32 = .ok (.aload_n 0, 1) := by decide +kernel
theorem dX3_stepsTo_33 : decode cX3_stepsTo 33 = .ok (.getfield 31, 3) := by decide +kernel
theorem dX3_stepsTo_36 : decode cX3_stepsTo 36 = .ok (.getfield 111, 3) := by decide +kernel
theorem dX3_stepsTo_39 : decode cX3_stepsTo 39 = .ok (.iload_n 1, 1) := by decide +kernel
theorem dX3_stepsTo_40 : decode cX3_stepsTo 40 = .ok (.i2l, 1) := by decide +kernel
theorem dX3_stepsTo_41 : decode cX3_stepsTo 41 = .ok (.lcmp, 1) := by decide +kernel
theorem dX3_stepsTo_42 : decode cX3_stepsTo 42 = .ok (.ifCond .ge 7, 3) := by decide +kernel
theorem dX3_stepsTo_45 : decode cX3_stepsTo 45 = .ok (.iconst 1, 1) := by decide +kernel
theorem dX3_stepsTo_46 : decode cX3_stepsTo 46 = .ok (.goto 4, 3) := by decide +kernel
theorem dX3_stepsTo_49 : decode cX3_stepsTo 49 = .ok (.iconst 0, 1) := by decide +kernel
theorem dX3_stepsTo_50 : decode cX3_stepsTo 50 = .ok (.istore_n 2, 1) := by decide +kernel
theorem dX3_stepsTo_51 : decode cX3_stepsTo 51 = .ok (.iconst 0, 1) := by decide +kernel
theorem dX3_stepsTo_52 : decode cX3_stepsTo 52 = .ok (.istore_n 3, 1) := by decide +kernel
theorem dX3_stepsTo_53 : decode cX3_stepsTo 53 = .ok (.iload_n 3, 1) := by decide +kernel
theorem dX3_stepsTo_54 : decode cX3_stepsTo 54 = .ok (.bipush 100, 2) := by decide +kernel
theorem dX3_stepsTo_56 : decode cX3_stepsTo 56 = .ok (.if_icmp .gt 74, 3) := by decide +kernel
theorem dX3_stepsTo_59 : decode cX3_stepsTo 59 = .ok (.iload_n 2, 1) := by decide +kernel
theorem dX3_stepsTo_60 : decode cX3_stepsTo 60 = .ok (.ifCond .eq 19, 3) := by decide +kernel
theorem dX3_stepsTo_63 : decode cX3_stepsTo 63 = .ok (.aload_n 0, 1) := by decide +kernel
theorem dX3_stepsTo_64 : decode cX3_stepsTo 64 = .ok (.getfield 31, 3) := by decide +kernel
theorem dX3_stepsTo_67 : decode cX3_stepsTo 67 = .ok (.getfield 111, 3) := by decide +kernel
theorem dX3_stepsTo_70 : decode cX3_stepsTo 70 = .ok (.iload_n 1, 1) := by decide +kernel
theorem dX3_stepsTo_71 : decode cX3_stepsTo 71 = .ok (.i2l, 1) := by decide +kernel
theorem dX3_stepsTo_72 : decode cX3_stepsTo 72 = .ok (.lcmp, 1) := by decide +kernel
theorem dX3_stepsTo_73 : decode cX3_stepsTo 73 = .ok (.ifCond .lt 21, 3) := by decide +kernel
theorem dX3_stepsTo_76 : decode cX3_stepsTo 76 = .ok (.goto 16, 3) := by decide +kernel
theorem dX3_stepsTo_79 : decode cX3_stepsTo 79 = .ok (.aload_n 0, 1) := by decide +kernel
theorem dX3_stepsTo_80 : decode cX3_stepsTo 80 = .ok (.getfield 31, 3) := by decide +kernel
theorem dX3_stepsTo_83 : decode cX3_stepsTo 83 = .ok (.getfield 111, 3) := by decide +kernel
theorem dX3_stepsTo_86 : decode cX3_stepsTo 86 = .ok (.iload_n 1, 1) := by decide +kernel
theorem dX3_stepsTo_87 : decode cX3_stepsTo 87 = .ok (.i2l, 1) := by decide +kernel
theorem dX3_stepsTo_88 : decode cX3_stepsTo 88 = .ok (.lcmp, 1) := by decide +kernel
theorem dX3_stepsTo_89 : decode cX3_stepsTo 89 = .ok (.ifCond .gt 5, 3) := by decide +kernel
theorem dX3_stepsTo_92 : decode cX3_stepsTo 92 = .ok (.iload_n 3, 1) := by decide +kernel
theorem dX3_stepsTo_93 : decode cX3_stepsTo 93 = .ok (.ireturn, 1) := by decide +kernel
theorem dX3_stepsTo_94 : decode cX3_stepsTo 94 = .ok (.aload_n 0, 1) := by decide +kernel
theorem dX3_stepsTo_95 : decode cX3_stepsTo 95 = .ok (.getfield 31, 3) := by decide +kernel
theorem dX3_stepsTo_98 : decode cX3_stepsTo 98 = .ok (.lconst 0, 1) := by decide +kernel
theorem dX3_stepsTo_99 : decode cX3_stepsTo 99 = .ok (.aload_n 0, 1) := by decide +kernel
theorem dX3_stepsTo_100 : decode cX3_stepsTo 100 = .ok (.getfield 10, 3) := by decide +kernel
theorem dX3_stepsTo_103 : decode cX3_stepsTo 103 = .ok (.getfield 79, 3) := by decide +kernel
theorem dX3_stepsTo_106 : decode cX3_stepsTo 106 = .ok (.i2l, 1) := by decide +kernel
theorem dX3_stepsTo_107 : decode cX3_stepsTo 107 = .ok (.aload_n 0, 1) := by decide +kernel
theorem dX3_stepsTo_108 : decode cX3_stepsTo 108 = .ok (.getfield 10, 3) := by decide +kernel
theorem dX3_stepsTo_111 : decode cX3_stepsTo 111 = .ok (.getfield 76, 3) := by decide +kernel
theorem dX3_stepsTo_114 : decode cX3_stepsTo 114 = .ok (.i2l, 1) := by decide +kernel
theorem dX3_stepsTo_115 : decode cX3_stepsTo 115 = .ok (.invokevirtual 102, 3) := by decide +kernel
theorem dX3_stepsTo_118 : decode cX3_stepsTo 118 = .ok (.ifCond .ne 6, 3) := by decide +kernel
theorem dX3_stepsTo_121 : decode cX3_stepsTo 121 = .ok (.ldc 143, 2) := by decide +kernel
theorem dX3_stepsTo_123 : decode cX3_stepsTo 123 = .ok (.ireturn, 1) := by decide +kernel
theorem dX3_stepsTo_124 : decode cX3_stepsTo 124 = .ok (.iinc 3 1, 3) := by decide +kernel
theorem dX3_stepsTo_127 : decode cX3_stepsTo 127 = .ok (.goto (-74), 3) := by decide +kernel
theorem dX3_stepsTo_130 : decode cX3_stepsTo 130 = .ok (.ldc 143, 2) := by decide +kernel
theorem dX3_stepsTo_132 : decode cX3_stepsTo 132 = .ok (.ireturn, 1) := by decide +kernel
set_option maxRecDepth 20000 in
theorem ggX3_steadyCycles_X3_isSensor : GoodIn wsX3_steadyCycles wsX3_isSensor := goodIn_r _ [6, 7, 8, 5, 9] (by decide +kernel) (by decide +kernel)
set_option maxRecDepth 20000 in
theorem gX3_steadyCycles_X3_isSensor : GoodIn wsX3_steadyCycles (va_wsS RX3 82 yX3_isSensor wsX3_isSensor) := goodIn_app (goodIn_of _ (by decide +kernel)) ggX3_steadyCycles_X3_isSensor
set_option maxRecDepth 20000 in
theorem ggX3_steadyCycles_X3_fail : GoodIn wsX3_steadyCycles wsX3_fail := goodIn_r _ [13, 1, 14, 70, 71, 72, 73, 74] (by decide +kernel) (by decide +kernel)
set_option maxRecDepth 20000 in
theorem gX3_steadyCycles_X3_fail : GoodIn wsX3_steadyCycles (wsV RX3 44 RX3 yX3_fail wsX3_fail) := goodIn_app (goodIn_of _ (by decide +kernel)) ggX3_steadyCycles_X3_fail
set_option maxRecDepth 20000 in
theorem ggX3_steadyCycles_X3_runCyclesUntilSteady : GoodIn wsX3_steadyCycles wsX3_runCyclesUntilSteady := goodIn_r _ [18, 19, 2, 20, 21, 22, 23, 24, 25, 26, 27, 28, 29, 30, 31, 32, 33, 34, 35, 36, 37, 38, 39, 40, 41, 42, 43, 44, 45, 46, 5, 47, 48, 49, 50, 51, 52, 53, 54, 55, 56, 57, 58, 59, 60, 61, 62, 63, 64, 65, 66, 67, 68, 69, 70, 71, 72, 73, 74, 75, 76, 77, 78, 79, 80, 81, 82, 83, 84, 85, 86, 87, 88, 89, 90, 91, 92] (by decide +kernel) (by decide +kernel)
set_option maxRecDepth 20000 in
theorem gX3_steadyCycles_X3_runCyclesUntilSteady : GoodIn wsX3_steadyCycles (wsV RX3 144 RX3 yX3_runCyclesUntilSteady wsX3_runCyclesUntilSteady) := goodIn_app (goodIn_of _ (by decide +kernel)) ggX3_steadyCycles_X3_runCyclesUntilSteady
theorem dX3_steadyCycles_0 : decode cX3_steadyCycles 0 = .ok (.iload_n 1, 1) := by decide +kernel
theorem dX3_steadyCycles_1 : decode cX3_steadyCycles 1 = .ok (.invokestatic 82, 3) := by decide +kernel
theorem dX3_steadyCycles_4 : decode cX3_steadyCycles 4 = .ok (.ifCond .ne 10, 3) := by decide +kernel
theorem dX3_steadyCycles_7 : decode cX3_steadyCycles 7 = .ok (.aload_n 0, 1) := by decide +kernel
theorem dX3_steadyCycles_8 : decode cX3_steadyCycles 8 = .ok (.ldc 43, 2) := by decide +kernel
theorem dX3_steadyCycles_10 : decode cX3_steadyCycles 10 = .ok (.invokevirtual 44, 3) := by decide +kernel
theorem dX3_steadyCycles_13 : decode cX3_steadyCycles 13 = .ok (.ireturn, 1) := by decide +kernel
theorem dX3_steadyCycles_14 : decode cX3_steadyCycles 14 = .ok (.aload_n 0, 1) := by decide +kernel
theorem dX3_steadyCycles_15 : decode cX3_steadyCycles 15 = .ok (.aload_n 0, 1) := by decide +kernel
theorem dX3_steadyCycles_16 : decode cX3_steadyCycles 16 = .ok (.getfield 10, 3) := by decide +kernel
theorem dX3_steadyCycles_19 : decode cX3_steadyCycles 19 = .ok (.getfield 92, 3) := by decide +kernel
theorem dX3_steadyCycles_22 : decode cX3_steadyCycles 22 = .ok (.iload_n 1, 1) := by decide +kernel
theorem dX3_steadyCycles_23 : decode cX3_steadyCycles 23 = .ok (.iaload, 1) := by decide +kernel
theorem dX3_steadyCycles_24 : decode cX3_steadyCycles 24 = .ok (.aload_n 0, 1) := by decide +kernel
theorem dX3_steadyCycles_25 : decode cX3_steadyCycles 25 = .ok (.getfield 10, 3) := by decide +kernel
theorem dX3_steadyCycles_28 : decode cX3_steadyCycles 28 = .ok (.getfield 89, 3) := by decide +kernel
theorem dX3_steadyCycles_31 : decode cX3_steadyCycles 31 = .ok (.iload_n 1, 1) := by decide +kernel
theorem dX3_steadyCycles_32 : decode cX3_steadyCycles 32 = .ok (.iaload, 1) := by decide +kernel
theorem dX3_steadyCycles_33 : decode cX3_steadyCycles 33 = .ok (.invokevirtual 144, 3) := by decide +kernel
theorem dX3_steadyCycles_36 : decode cX3_steadyCycles 36 = .ok (.ireturn, 1) := by decide +kernel
set_option maxRecDepth 20000 in
theorem ggX3_steadyGain_X3_isSensor : GoodIn wsX3_steadyGain wsX3_isSensor := goodIn_r _ [8, 9, 10, 7, 11] (by decide +kernel) (by decide +kernel)
set_option maxRecDepth 20000 in
theorem gX3_steadyGain_X3_isSensor : GoodIn wsX3_steadyGain (va_wsS RX3 82 yX3_isSensor wsX3_isSensor) := goodIn_app (goodIn_of _ (by decide +kernel)) ggX3_steadyGain_X3_isSensor
set_option maxRecDepth 20000 in
theorem ggX3_steadyGain_X3_isKind : GoodIn wsX3_steadyGain wsX3_isKind := goodIn_r _ [14] (by decide +kernel) (by decide +kernel)
set_option maxRecDepth 20000 in
theorem gX3_steadyGain_X3_isKind : GoodIn wsX3_steadyGain (va_wsS RX3 86 yX3_isKind wsX3_isKind) := goodIn_app (goodIn_of _ (by decide +kernel)) ggX3_steadyGain_X3_isKind
set_option maxRecDepth 20000 in
theorem ggX3_steadyGain_X3_fail : GoodIn wsX3_steadyGain wsX3_fail := goodIn_r _ [18, 1, 19, 73, 74, 75, 76, 77] (by decide +kernel) (by decide +kernel)
set_option maxRecDepth 20000 in
theorem gX3_steadyGain_X3_fail : GoodIn wsX3_steadyGain (wsV RX3 44 RX3 yX3_fail wsX3_fail) := goodIn_app (goodIn_of _ (by decide +kernel)) ggX3_steadyGain_X3_fail
set_option maxRecDepth 20000 in
theorem ggX3_steadyGain_X3_runCyclesUntilSteady : GoodIn wsX3_steadyGain wsX3_runCyclesUntilSteady := goodIn_r _ [23, 4, 2, 24, 3, 25, 26, 27, 28, 29, 30, 31, 32, 33, 34, 35, 36, 37, 38, 39, 40, 41, 42, 43, 44, 45, 46, 47, 48, 49, 7, 50, 51, 52, 53, 54, 55, 56, 57, 58, 59, 60, 61, 62, 63, 64, 65, 66, 67, 68, 69, 70, 71, 72, 73, 74, 75, 76, 77, 78, 79, 80, 81, 82, 83, 84, 85, 86, 87, 88, 89, 90, 91, 92, 93, 94, 95] (by decide +kernel) (by decide +kernel)
set_option maxRecDepth 20000 in
theorem gX3_steadyGain_X3_runCyclesUntilSteady : GoodIn wsX3_steadyGain (wsV RX3 144 RX3 yX3_runCyclesUntilSteady wsX3_runCyclesUntilSteady) := goodIn_app (goodIn_of _ (by decide +kernel)) ggX3_steadyGain_X3_runCyclesUntilSteady
theorem dX3_steadyGain_0 : decode cX3_steadyGain 0 = .ok (.iload_n 1, 1) := by decide +kernel
theorem dX3_steadyGain_1 : decode cX3_steadyGain 1 = .ok (.invokestatic 82, 3) := by decide +kernel
theorem dX3_steadyGain_4 : decode cX3_steadyGain 4 = .ok (.ifCond .eq 10, 3) := by decide +kernel
theorem dX3_steadyGain_7 : decode cX3_steadyGain 7 = .ok (.iload_n 2, 1) := by decide +kernel
theorem dX3_steadyGain_8 : decode cX3_steadyGain 8 = .ok (.invokestatic 86, 3) := by decide +kernel
theorem dX3_steadyGain_11 : decode cX3_steadyGain 11 = .ok (.ifCond .ne 10, 3) := by decide +kernel
theorem dX3_steadyGain_14 : decode cX3_steadyGain 14 = .ok (.aload_n 0, 1) := by decide +kernel
theorem dX3_steadyGain_15 : decode cX3_steadyGain 15 = .ok (.ldc 43, 2) := by decide +kernel
theorem dX3_steadyGain_17 : decode cX3_steadyGain 17 = .ok (.invokevirtual 44, 3) := by decide +kernel
theorem dX3_steadyGain_20 : decode cX3_steadyGain 20 = .ok (.ireturn, 1) := by decide +kernel
theorem dX3_steadyGain_21 : decode cX3_steadyGain 21 = .ok (.aload_n 0, 1) := by decide +kernel
theorem dX3_steadyGain_22 : decode cX3_steadyGain 22 = .ok (.aload_n 0, 1) := by decide +kernel
theorem dX3_steadyGain_23 : decode cX3_steadyGain 23 = .ok (.getfield 10, 3) := by decide +kernel
theorem dX3_steadyGain_26 : decode cX3_steadyGain 26 = .ok (.getfield 92, 3) := by decide +kernel
theorem dX3_steadyGain_29 : decode cX3_steadyGain 29 = .ok (.iload_n 1, 1) := by decide +kernel
theorem dX3_steadyGain_30 : decode cX3_steadyGain 30 = .ok (.iaload, 1) := by decide +kernel
theorem dX3_steadyGain_31 : decode cX3_steadyGain 31 = .ok (.aload_n 0, 1) := by decide +kernel
theorem dX3_steadyGain_32 : decode cX3_steadyGain 32 = .ok (.getfield 10, 3) := by decide +kernel
theorem dX3_steadyGain_35 : decode cX3_steadyGain 35 = .ok (.getfield 89, 3) := by decide +kernel
theorem dX3_steadyGain_38 : decode cX3_steadyGain 38 = .ok (.iload_n 1, 1) := by decide +kernel
theorem dX3_steadyGain_39 : decode cX3_steadyGain 39 = .ok (.iaload, 1) := by decide +kernel
theorem dX3_steadyGain_40 : decode cX3_steadyGain 40 = .ok (.invokevirtual 144, 3) := by decide +kernel
theorem dX3_steadyGain_43 : decode cX3_steadyGain 43 = .ok (.istore_n 3, 1) := by decide +kernel
theorem dX3_steadyGain_44 : decode cX3_steadyGain 44 = .ok (.iload_n 3, 1) := by decide +kernel
theorem dX3_steadyGain_45 : decode cX3_steadyGain 45 = .ok (.ldc 143, 2) := by decide +kernel
theorem dX3_steadyGain_47 : decode cX3_steadyGain 47 = .ok (.if_icmp .ne 6, 3) := by decide +kernel
theorem dX3_steadyGain_50 : decode cX3_steadyGain 50 = .ok (.ldc 143, 2) := by decide +kernel
theorem dX3_steadyGain_52 : decode cX3_steadyGain 52 = .ok (.ireturn, 1) := by decide +kernel
theorem dX3_steadyGain_53 : decode cX3_steadyGain 53 = .ok (.iload_n 2, 1) := by decide +kernel
theorem dX3_steadyGain_54 : decode cX3_steadyGain 54 = .ok (.ifCond .ne 13, 3) := by decide +kernel
theorem dX3_steadyGain_57 : decode cX3_steadyGain 57 = .ok (.aload_n 0, 1) := by decide +kernel
theorem dX3_steadyGain_58 : decode cX3_steadyGain 58 = .ok (.getfield 31, 3) := by decide +kernel
theorem dX3_steadyGain_61 : decode cX3_steadyGain 61 = .ok (.getfield 134, 3) := by decide +kernel
theorem dX3_steadyGain_64 : decode cX3_steadyGain 64 = .ok (.goto 10, 3) := by decide +kernel
theorem dX3_steadyGain_67 : decode cX3_steadyGain 67 = .ok (.aload_n 0, 1) := by decide +kernel
theorem dX3_steadyGain_68 : decode cX3_steadyGain 68 = .ok (.getfield 31, 3) := by decide +kernel
theorem dX3_steadyGain_71 : decode cX3_steadyGain 71 = .ok (.getfield 137, 3) := by decide +kernel
theorem dX3_steadyGain_74 : decode cX3_steadyGain 74 = .ok (.l2i, 1) := by decide +kernel
theorem dX3_steadyGain_75 : decode cX3_steadyGain 75 = .ok (.ireturn, 1) := by decide +kernel
set_option maxRecDepth 20000 in
theorem ggX3_replayError_X3_isOutside : GoodIn wsX3_replayError wsX3_isOutside := goodIn_r _ [9] (by decide +kernel) (by decide +kernel)
set_option maxRecDepth 20000 in
theorem gX3_replayError_X3_isOutside : GoodIn wsX3_replayError (va_wsS RX3 37 yX3_isOutside wsX3_isOutside) := goodIn_app (goodIn_of _ (by decide +kernel)) ggX3_replayError_X3_isOutside
set_option maxRecDepth 20000 in
theorem ggX3_replayError_X3_fail : GoodIn wsX3_replayError wsX3_fail := goodIn_r _ [13, 2, 14, 81, 82, 83, 84, 85] (by decide +kernel) (by decide +kernel)
set_option maxRecDepth 20000 in
theorem gX3_replayError_X3_fail : GoodIn wsX3_replayError (wsV RX3 44 RX3 yX3_fail wsX3_fail) := goodIn_app (goodIn_of _ (by decide +kernel)) ggX3_replayError_X3_fail
set_option maxRecDepth 20000 in
theorem ggX3_replayError_X1_hasReading : GoodIn wsX3_replayError wsX1_hasReading := goodIn_r _ [18, 19, 20, 96, 97, 98] (by decide +kernel) (by decide +kernel)
set_option maxRecDepth 20000 in
theorem gX3_replayError_X1_hasReading_n148 : GoodIn wsX3_replayError (wsX1_hasReading) := ggX3_replayError_X1_hasReading
set_option maxRecDepth 20000 in
theorem ggX3_replayError_X3_runReplay : GoodIn wsX3_replayError wsX3_runReplay := goodIn_r _ [24, 25, 3, 5, 26, 27, 28, 29, 30, 31, 32, 33, 34, 35, 36, 37, 38, 39, 40, 41, 42, 43, 8, 44, 6, 7, 9, 45, 46, 47, 48, 49, 50, 51, 52, 53, 54, 55, 56, 57, 58, 59, 60, 61, 62, 63, 64, 65, 66, 67, 68, 69, 70, 71, 72, 73, 74, 75, 76, 77, 78, 79, 80, 81, 82, 83, 84, 85, 86, 87, 88, 89, 90, 91, 92, 93, 94, 95, 96, 97, 98, 99, 100, 101, 102, 103, 104, 105, 106] (by decide +kernel) (by decide +kernel)
set_option maxRecDepth 20000 in
theorem gX3_replayError_X3_runReplay : GoodIn wsX3_replayError (wsV RX3 153 RX3 yX3_runReplay wsX3_runReplay) := goodIn_app (goodIn_of _ (by decide +kernel)) ggX3_replayError_X3_runReplay
theorem dX3_replayError_0 : decode cX3_replayError 0 = .ok (.iload_n 1, 1) := by decide +kernel
theorem dX3_replayError_1 : decode cX3_replayError 1 = .ok (.iconst 0, 1) := by decide +kernel
theorem dX3_replayError_2 : decode cX3_replayError 2 = .ok (.ldc 42, 2) := by decide +kernel
theorem dX3_replayError_4 : decode cX3_replayError 4 = .ok (.invokestatic 37, 3) := by decide +kernel
theorem dX3_replayError_7 : decode cX3_replayError 7 = .ok (.ifCond .eq 10, 3) := by decide +kernel
theorem dX3_replayError_10 : decode cX3_replayError 10 = .ok (.aload_n 0, 1) := by decide +kernel
theorem dX3_replayError_11 : decode cX3_replayError 11 = .ok (.ldc 43, 2) := by decide +kernel
theorem dX3_replayError_13 : decode cX3_replayError 13 = .ok (.invokevirtual 44, 3) := by decide +kernel
theorem dX3_replayError_16 : decode cX3_replayError 16 = .ok (.ireturn, 1) := by decide +kernel
theorem dX3_replayError_17 : decode cX3_replayError 17 = .ok (.aload_n 0, 1) := by decide +kernel
theorem dX3_replayError_18 : decode cX3_replayError 18 = .ok (.getfield 10, 3) := by decide +kernel
theorem dX3_replayError_21 : decode cX3_replayError 21 = .ok (.getfield 51, 3) := by decide +kernel
theorem dX3_replayError_24 : decode cX3_replayError 24 = .ok (.invokevirtual 148, 3) := by decide +kernel
theorem dX3_replayError_27 : decode cX3_replayError 27 = .ok (.ifCond .ne 10, 3) := by decide +kernel
theorem dX3_replayError_30 : decode cX3_replayError 30 = .ok (.aload_n 0, 1) := by decide +kernel
theorem dX3_replayError_31 : decode cX3_replayError 31 = .ok (.ldc 152, 2) := by decide +kernel
theorem dX3_replayError_33 : decode cX3_replayError 33 = .ok (.invokevirtual 44, 3) := by decide +kernel
end
section
theorem dX3_replayError_36 : decode cX3_replayError 36 = .ok (.ireturn, 1) := by decide +kernel
theorem dX3_replayError_37 : decode cX3_replayError 37 = .ok (.aload_n 0, 1) := by decide +kernel
theorem dX3_replayError_38 : decode cX3_replayError 38 = .ok (.iload_n 1, 1) := by decide +kernel
theorem dX3_replayError_39 : decode cX3_replayError 39 = .ok (.invokevirtual 153, 3) := by decide +kernel
theorem dX3_replayError_42 : decode cX3_replayError 42 = .ok (.istore_n 2, 1) := by decide +kernel
theorem dX3_replayError_43 : decode cX3_replayError 43 = .ok (.iload_n 2, 1) := by decide +kernel
theorem dX3_replayError_44 : decode cX3_replayError 44 = .ok (.ldc 106, 2) := by decide +kernel
theorem dX3_replayError_46 : decode cX3_replayError 46 = .ok (.if_icmp .ne 12, 3) := by decide +kernel
theorem dX3_replayError_49 : decode cX3_replayError 49 = .ok (.aload_n 0, 1) := by decide +kernel
theorem dX3_replayError_50 : decode cX3_replayError 50 = .ok (.ldc 106, 2) := by decide +kernel
theorem dX3_replayError_52 : decode cX3_replayError 52 = .ok (.invokevirtual 44, 3) := by decide +kernel
theorem dX3_replayError_55 : decode cX3_replayError 55 = .ok (.goto 4, 3) := by decide +kernel
theorem dX3_replayError_58 : decode cX3_replayError 58 = .ok (.iload_n 2, 1) := by decide +kernel
theorem dX3_replayError_59 : decode cX3_replayError 59 = .ok (.ireturn, 1) := by decide +kernel
set_option maxRecDepth 20000 in
theorem ggX3_bestFlowNoise_X1_hasReading : GoodIn wsX3_bestFlowNoise wsX1_hasReading := goodIn_r _ [10, 11, 12, 98, 99, 100] (by decide +kernel) (by decide +kernel)
set_option maxRecDepth 20000 in
theorem gX3_bestFlowNoise_X1_hasReading_n148 : GoodIn wsX3_bestFlowNoise (wsX1_hasReading) := ggX3_bestFlowNoise_X1_hasReading
set_option maxRecDepth 20000 in
theorem ggX3_bestFlowNoise_X3_fail : GoodIn wsX3_bestFlowNoise wsX3_fail := goodIn_r _ [17, 18, 19, 83, 84, 85, 86, 87] (by decide +kernel) (by decide +kernel)
set_option maxRecDepth 20000 in
theorem gX3_bestFlowNoise_X3_fail : GoodIn wsX3_bestFlowNoise (wsV RX3 44 RX3 yX3_fail wsX3_fail) := goodIn_app (goodIn_of _ (by decide +kernel)) ggX3_bestFlowNoise_X3_fail
set_option maxRecDepth 20000 in
theorem ggX3_bestFlowNoise_X3_runReplay : GoodIn wsX3_bestFlowNoise wsX3_runReplay := goodIn_r _ [23, 24, 1, 6, 25, 26, 27, 28, 29, 30, 31, 32, 33, 34, 35, 36, 37, 38, 39, 40, 41, 42, 16, 43, 44, 45, 46, 47, 48, 49, 50, 51, 52, 53, 54, 55, 56, 57, 58, 59, 60, 61, 62, 63, 64, 65, 66, 67, 68, 69, 70, 71, 72, 73, 74, 75, 76, 77, 78, 79, 80, 81, 82, 83, 84, 85, 86, 87, 88, 89, 90, 91, 92, 93, 94, 95, 96, 97, 98, 99, 100, 101, 102, 103, 104, 105, 106, 107, 108] (by decide +kernel) (by decide +kernel)
set_option maxRecDepth 20000 in
theorem gX3_bestFlowNoise_X3_runReplay : GoodIn wsX3_bestFlowNoise (wsV RX3 153 RX3 yX3_runReplay wsX3_runReplay) := goodIn_app (goodIn_of _ (by decide +kernel)) ggX3_bestFlowNoise_X3_runReplay
theorem dX3_bestFlowNoise_0 : decode cX3_bestFlowNoise 0 = .ok (.aload_n 0, 1) := by decide +kernel
theorem dX3_bestFlowNoise_1 : decode cX3_bestFlowNoise 1 = .ok (.getfield 10, 3) := by decide +kernel
theorem dX3_bestFlowNoise_4 : decode cX3_bestFlowNoise 4 = .ok (.getfield 51, 3) := by decide +kernel
theorem dX3_bestFlowNoise_7 : decode cX3_bestFlowNoise 7 = .ok (.invokevirtual 148, 3) := by decide +kernel
theorem dX3_bestFlowNoise_10 : decode cX3_bestFlowNoise 10 = .ok (.ifCond .ne 10, 3) := by decide +kernel
theorem dX3_bestFlowNoise_13 : decode cX3_bestFlowNoise 13 = .ok (.aload_n 0, 1) := by decide +kernel
theorem dX3_bestFlowNoise_14 : decode cX3_bestFlowNoise 14 = .ok (.ldc 152, 2) := by decide +kernel
theorem dX3_bestFlowNoise_16 : decode cX3_bestFlowNoise 16 = .ok (.invokevirtual 44, 3) := by decide +kernel
theorem dX3_bestFlowNoise_19 : decode cX3_bestFlowNoise 19 = .ok (.ireturn, 1) := by decide +kernel
theorem dX3_bestFlowNoise_20 : decode cX3_bestFlowNoise 20 = .ok (.ldc 143, 2) := by decide +kernel
theorem dX3_bestFlowNoise_22 : decode cX3_bestFlowNoise 22 = .ok (.istore_n 1, 1) := by decide +kernel
theorem dX3_bestFlowNoise_23 : decode cX3_bestFlowNoise 23 = .ok (.ldc2_w 156, 3) := by decide +kernel
theorem dX3_bestFlowNoise_26 : decode cX3_bestFlowNoise 26 = .ok (.lstore_n 2, 1) := by decide +kernel
theorem dX3_bestFlowNoise_27 : decode cX3_bestFlowNoise 27 = .ok (.iconst 0, 1) := by decide +kernel
theorem dX3_bestFlowNoise_28 : decode cX3_bestFlowNoise 28 = .ok (.istore 4, 2) := by decide +kernel
theorem dX3_bestFlowNoise_30 : decode cX3_bestFlowNoise 30 = .ok (.iload 4, 2) := by decide +kernel
theorem dX3_bestFlowNoise_32 : decode cX3_bestFlowNoise 32 = .ok (.getstatic 158, 3) := by decide +kernel
theorem dX3_bestFlowNoise_35 : decode cX3_bestFlowNoise 35 = .ok (.arraylength, 1) := by decide +kernel
theorem dX3_bestFlowNoise_36 : decode cX3_bestFlowNoise 36 = .ok (.if_icmp .ge 47, 3) := by decide +kernel
theorem dX3_bestFlowNoise_39 : decode cX3_bestFlowNoise 39 = .ok (.aload_n 0, 1) := by decide +kernel
theorem dX3_bestFlowNoise_40 : decode cX3_bestFlowNoise 40 = .ok (.getstatic 158, 3) := by decide +kernel
theorem dX3_bestFlowNoise_43 : decode cX3_bestFlowNoise 43 = .ok (.iload 4, 2) := by decide +kernel
theorem dX3_bestFlowNoise_45 : decode cX3_bestFlowNoise 45 = .ok (.iaload, 1) := by decide +kernel
theorem dX3_bestFlowNoise_46 : decode cX3_bestFlowNoise 46 = .ok (.invokevirtual 153, 3) := by decide +kernel
theorem dX3_bestFlowNoise_49 : decode cX3_bestFlowNoise 49 = .ok (.istore 5, 2) := by decide +kernel
theorem dX3_bestFlowNoise_51 : decode cX3_bestFlowNoise 51 = .ok (.iload 5, 2) := by decide +kernel
theorem dX3_bestFlowNoise_53 : decode cX3_bestFlowNoise 53 = .ok (.ldc 106, 2) := by decide +kernel
theorem dX3_bestFlowNoise_55 : decode cX3_bestFlowNoise 55 = .ok (.if_icmp .eq 22, 3) := by decide +kernel
theorem dX3_bestFlowNoise_58 : decode cX3_bestFlowNoise 58 = .ok (.iload 5, 2) := by decide +kernel
theorem dX3_bestFlowNoise_60 : decode cX3_bestFlowNoise 60 = .ok (.i2l, 1) := by decide +kernel
theorem dX3_bestFlowNoise_61 : decode cX3_bestFlowNoise 61 = .ok (.lload_n 2, 1) := by decide +kernel
theorem dX3_bestFlowNoise_62 : decode cX3_bestFlowNoise 62 = .ok (.lcmp, 1) := by decide +kernel
theorem dX3_bestFlowNoise_63 : decode cX3_bestFlowNoise 63 = .ok (.ifCond .ge 14, 3) := by decide +kernel
theorem dX3_bestFlowNoise_66 : decode cX3_bestFlowNoise 66 = .ok (.getstatic 158, 3) := by decide +kernel
theorem dX3_bestFlowNoise_69 : decode cX3_bestFlowNoise 69 = .ok (.iload 4, 2) := by decide +kernel
theorem dX3_bestFlowNoise_71 : decode cX3_bestFlowNoise 71 = .ok (.iaload, 1) := by decide +kernel
theorem dX3_bestFlowNoise_72 : decode cX3_bestFlowNoise 72 = .ok (.istore_n 1, 1) := by decide +kernel
theorem dX3_bestFlowNoise_73 : decode cX3_bestFlowNoise 73 = .ok (.iload 5, 2) := by decide +kernel
theorem dX3_bestFlowNoise_75 : decode cX3_bestFlowNoise 75 = .ok (.i2l, 1) := by decide +kernel
theorem dX3_bestFlowNoise_76 : decode cX3_bestFlowNoise 76 = .ok (.lstore_n 2, 1) := by decide +kernel
theorem dX3_bestFlowNoise_77 : decode cX3_bestFlowNoise 77 = .ok (.iinc 4 1, 3) := by decide +kernel
theorem dX3_bestFlowNoise_80 : decode cX3_bestFlowNoise 80 = .ok (.goto (-50), 3) := by decide +kernel
theorem dX3_bestFlowNoise_83 : decode cX3_bestFlowNoise 83 = .ok (.iload_n 1, 1) := by decide +kernel
theorem dX3_bestFlowNoise_84 : decode cX3_bestFlowNoise 84 = .ok (.ireturn, 1) := by decide +kernel
set_option maxRecDepth 20000 in
theorem ggX3_undo_X3_fail : GoodIn wsX3_undo wsX3_fail := goodIn_r _ [9, 10, 11, 47, 48, 49, 50, 51] (by decide +kernel) (by decide +kernel)
set_option maxRecDepth 20000 in
theorem gX3_undo_X3_fail : GoodIn wsX3_undo (wsV RX3 44 RX3 yX3_fail wsX3_fail) := goodIn_app (goodIn_of _ (by decide +kernel)) ggX3_undo_X3_fail
set_option maxRecDepth 20000 in
theorem ggX3_undo_X2_copyFrom : GoodIn wsX3_undo wsX2_copyFrom := goodIn_r _ [15, 16, 17, 18, 19, 20, 21, 22, 23, 24, 25, 26, 27, 28, 29, 30, 31, 32, 33, 34, 35, 36, 37, 38, 8, 39, 40, 41, 42, 43, 44, 45, 46, 52, 53, 54, 55, 56, 57, 58, 59, 60, 61, 62, 63, 64, 65, 66, 67, 68, 69, 70, 71, 72] (by decide +kernel) (by decide +kernel)
set_option maxRecDepth 20000 in
theorem gX3_undo_X2_copyFrom_n161 : GoodIn wsX3_undo (wsX2_copyFrom) := ggX3_undo_X2_copyFrom
theorem dX3_undo_0 : decode cX3_undo 0 = .ok (.aload_n 0, 1) := by decide +kernel
theorem dX3_undo_1 : decode cX3_undo 1 = .ok (.getfield 20, 3) := by decide +kernel
theorem dX3_undo_4 : decode cX3_undo 4 = .ok (.ifCond .le 15, 3) := by decide +kernel
theorem dX3_undo_7 : decode cX3_undo 7 = .ok (.aload_n 0, 1) := by decide +kernel
theorem dX3_undo_8 : decode cX3_undo 8 = .ok (.getfield 20, 3) := by decide +kernel
theorem dX3_undo_11 : decode cX3_undo 11 = .ok (.aload_n 0, 1) := by decide +kernel
theorem dX3_undo_12 : decode cX3_undo 12 = .ok (.getfield 16, 3) := by decide +kernel
theorem dX3_undo_15 : decode cX3_undo 15 = .ok (.arraylength, 1) := by decide +kernel
theorem dX3_undo_16 : decode cX3_undo 16 = .ok (.if_icmp .le 10, 3) := by decide +kernel
theorem dX3_undo_19 : decode cX3_undo 19 = .ok (.aload_n 0, 1) := by decide +kernel
theorem dX3_undo_20 : decode cX3_undo 20 = .ok (.ldc 152, 2) := by decide +kernel
theorem dX3_undo_22 : decode cX3_undo 22 = .ok (.invokevirtual 44, 3) := by decide +kernel
theorem dX3_undo_25 : decode cX3_undo 25 = .ok (.ireturn, 1) := by decide +kernel
theorem dX3_undo_26 : decode cX3_undo 26 = .ok (.aload_n 0, 1) := by decide +kernel
theorem dX3_undo_27 : decode cX3_undo 27 = .ok (.dup, 1) := by decide +kernel
theorem dX3_undo_28 : decode cX3_undo 28 = .ok (.getfield 20, 3) := by decide +kernel
theorem dX3_undo_31 : decode cX3_undo 31 = .ok (.iconst 1, 1) := by decide +kernel
theorem dX3_undo_32 : decode cX3_undo 32 = .ok (.isub, 1) := by decide +kernel
theorem dX3_undo_33 : decode cX3_undo 33 = .ok (.putfield 20, 3) := by decide +kernel
theorem dX3_undo_36 : decode cX3_undo 36 = .ok (.aload_n 0, 1) := by decide +kernel
theorem dX3_undo_37 : decode cX3_undo 37 = .ok (.getfield 10, 3) := by decide +kernel
theorem dX3_undo_40 : decode cX3_undo 40 = .ok (.aload_n 0, 1) := by decide +kernel
theorem dX3_undo_41 : decode cX3_undo 41 = .ok (.getfield 16, 3) := by decide +kernel
theorem dX3_undo_44 : decode cX3_undo 44 = .ok (.aload_n 0, 1) := by decide +kernel
theorem dX3_undo_45 : decode cX3_undo 45 = .ok (.getfield 20, 3) := by decide +kernel
theorem dX3_undo_48 : decode cX3_undo 48 = .ok (.aaload, 1) := by decide +kernel
theorem dX3_undo_49 : decode cX3_undo 49 = .ok (.invokevirtual 161, 3) := by decide +kernel
theorem dX3_undo_52 : decode cX3_undo 52 = .ok (.aload_n 0, 1) := by decide +kernel
theorem dX3_undo_53 : decode cX3_undo 53 = .ok (.getfield 20, 3) := by decide +kernel
theorem dX3_undo_56 : decode cX3_undo 56 = .ok (.ireturn, 1) := by decide +kernel
set_option maxRecDepth 20000 in
theorem ggX3_errorCount_X3_isOutside : GoodIn wsX3_errorCount wsX3_isOutside := goodIn_r _ [6] (by decide +kernel) (by decide +kernel)
set_option maxRecDepth 20000 in
theorem gX3_errorCount_X3_isOutside : GoodIn wsX3_errorCount (va_wsS RX3 37 yX3_isOutside wsX3_isOutside) := goodIn_app (goodIn_of _ (by decide +kernel)) ggX3_errorCount_X3_isOutside
set_option maxRecDepth 20000 in
theorem ggX3_errorCount_X3_fail : GoodIn wsX3_errorCount wsX3_fail := goodIn_r _ [10, 1, 2, 11, 12, 13, 14, 15] (by decide +kernel) (by decide +kernel)
set_option maxRecDepth 20000 in
theorem gX3_errorCount_X3_fail : GoodIn wsX3_errorCount (wsV RX3 44 RX3 yX3_fail wsX3_fail) := goodIn_app (goodIn_of _ (by decide +kernel)) ggX3_errorCount_X3_fail
theorem dX3_errorCount_0 : decode cX3_errorCount 0 = .ok (.iload_n 1, 1) := by decide +kernel
theorem dX3_errorCount_1 : decode cX3_errorCount 1 = .ok (.iconst 0, 1) := by decide +kernel
theorem dX3_errorCount_2 : decode cX3_errorCount 2 = .ok (.iconst 2, 1) := by decide +kernel
theorem dX3_errorCount_3 : decode cX3_errorCount 3 = .ok (.invokestatic 37, 3) := by decide +kernel
theorem dX3_errorCount_6 : decode cX3_errorCount 6 = .ok (.ifCond .eq 10, 3) := by decide +kernel
theorem dX3_errorCount_9 : decode cX3_errorCount 9 = .ok (.aload_n 0, 1) := by decide +kernel
theorem dX3_errorCount_10 : decode cX3_errorCount 10 = .ok (.ldc 43, 2) := by decide +kernel
theorem dX3_errorCount_12 : decode cX3_errorCount 12 = .ok (.invokevirtual 44, 3) := by decide +kernel
theorem dX3_errorCount_15 : decode cX3_errorCount 15 = .ok (.ireturn, 1) := by decide +kernel
theorem dX3_errorCount_16 : decode cX3_errorCount 16 = .ok (.aload_n 0, 1) := by decide +kernel
theorem dX3_errorCount_17 : decode cX3_errorCount 17 = .ok (.getfield 24, 3) := by decide +kernel
theorem dX3_errorCount_20 : decode cX3_errorCount 20 = .ok (.iload_n 1, 1) := by decide +kernel
theorem dX3_errorCount_21 : decode cX3_errorCount 21 = .ok (.iaload, 1) := by decide +kernel
theorem dX3_errorCount_22 : decode cX3_errorCount 22 = .ok (.ireturn, 1) := by decide +kernel
set_option maxRecDepth 20000 in
theorem ggX3_digest_X3_mix : GoodIn wsX3_digest wsX3_mix := goodIn_r _ [8, 9] (by decide +kernel) (by decide +kernel)
set_option maxRecDepth 20000 in
theorem gX3_digest_X3_mix : GoodIn wsX3_digest (va_wsS RX3 166 yX3_mix wsX3_mix) := goodIn_app (goodIn_of _ (by decide +kernel)) ggX3_digest_X3_mix
set_option maxRecDepth 20000 in
theorem ggX3_digest_X2_mixInto : GoodIn wsX3_digest wsX2_mixInto := goodIn_r _ [13, 14, 15, 16, 17, 18, 19, 20, 21, 22, 23, 24, 25, 26, 27, 28, 29, 30, 31, 32, 6, 7, 8, 9, 33, 34, 35, 36, 37, 38, 39, 40, 41, 42, 43, 44, 45, 51, 52, 53, 54, 55, 56, 57, 58, 59, 60, 61, 62, 63, 64, 65, 66, 67, 68, 69, 70, 71] (by decide +kernel) (by decide +kernel)
set_option maxRecDepth 20000 in
theorem gX3_digest_X2_mixInto_n170 : GoodIn wsX3_digest (wsX2_mixInto) := ggX3_digest_X2_mixInto
theorem dX3_digest_0 : decode cX3_digest 0 = .ok (.ldc2_w 164, 3) := by decide +kernel
theorem dX3_digest_3 : decode cX3_digest 3 = .ok (.lstore_n 1, 1) := by decide +kernel
theorem dX3_digest_4 : decode cX3_digest 4 = .ok (.iconst 0, 1) := by decide +kernel
theorem dX3_digest_5 : decode cX3_digest 5 = .ok (.istore_n 3, 1) := by decide +kernel
theorem dX3_digest_6 : decode cX3_digest 6 = .ok (.iload_n 3, 1) := by decide +kernel
theorem dX3_digest_7 : decode cX3_digest 7 = .ok (.aload_n 0, 1) := by decide +kernel
theorem dX3_digest_8 : decode cX3_digest 8 = .ok (.getfield 24, 3) := by decide +kernel
theorem dX3_digest_11 : decode cX3_digest 11 = .ok (.arraylength, 1) := by decide +kernel
theorem dX3_digest_12 : decode cX3_digest 12 = .ok (.if_icmp .ge 21, 3) := by decide +kernel
theorem dX3_digest_15 : decode cX3_digest 15 = .ok (.lload_n 1, 1) := by decide +kernel
theorem dX3_digest_16 : decode cX3_digest 16 = .ok (.aload_n 0, 1) := by decide +kernel
theorem dX3_digest_17 : decode cX3_digest 17 = .ok (.getfield 24, 3) := by decide +kernel
theorem dX3_digest_20 : decode cX3_digest 20 = .ok (.iload_n 3, 1) := by decide +kernel
theorem dX3_digest_21 : decode cX3_digest 21 = .ok (.iaload, 1) := by decide +kernel
theorem dX3_digest_22 : decode cX3_digest 22 = .ok (.i2l, 1) := by decide +kernel
theorem dX3_digest_23 : decode cX3_digest 23 = .ok (.invokestatic 166, 3) := by decide +kernel
theorem dX3_digest_26 : decode cX3_digest 26 = .ok (.lstore_n 1, 1) := by decide +kernel
theorem dX3_digest_27 : decode cX3_digest 27 = .ok (.iinc 3 1, 3) := by decide +kernel
theorem dX3_digest_30 : decode cX3_digest 30 = .ok (.goto (-24), 3) := by decide +kernel
theorem dX3_digest_33 : decode cX3_digest 33 = .ok (.lload_n 1, 1) := by decide +kernel
theorem dX3_digest_34 : decode cX3_digest 34 = .ok (.aload_n 0, 1) := by decide +kernel
theorem dX3_digest_35 : decode cX3_digest 35 = .ok (.getfield 20, 3) := by decide +kernel
theorem dX3_digest_38 : decode cX3_digest 38 = .ok (.i2l, 1) := by decide +kernel
theorem dX3_digest_39 : decode cX3_digest 39 = .ok (.invokestatic 166, 3) := by decide +kernel
theorem dX3_digest_42 : decode cX3_digest 42 = .ok (.lstore_n 1, 1) := by decide +kernel
theorem dX3_digest_43 : decode cX3_digest 43 = .ok (.aload_n 0, 1) := by decide +kernel
theorem dX3_digest_44 : decode cX3_digest 44 = .ok (.getfield 10, 3) := by decide +kernel
theorem dX3_digest_47 : decode cX3_digest 47 = .ok (.lload_n 1, 1) := by decide +kernel
theorem dX3_digest_48 : decode cX3_digest 48 = .ok (.invokevirtual 170, 3) := by decide +kernel
theorem dX3_digest_51 : decode cX3_digest 51 = .ok (.lreturn, 1) := by decide +kernel
theorem dX3_isOutside_0 : decode cX3_isOutside 0 = .ok (.iload_n 0, 1) := by decide +kernel
theorem dX3_isOutside_1 : decode cX3_isOutside 1 = .ok (.iload_n 1, 1) := by decide +kernel
theorem dX3_isOutside_2 : decode cX3_isOutside 2 = .ok (.if_icmp .lt 8, 3) := by decide +kernel
theorem dX3_isOutside_5 : decode cX3_isOutside 5 = .ok (.iload_n 0, 1) := by decide +kernel
theorem dX3_isOutside_6 : decode cX3_isOutside 6 = .ok (.iload_n 2, 1) := by decide +kernel
theorem dX3_isOutside_7 : decode cX3_isOutside 7 = .ok (.if_icmp .le 7, 3) := by decide +kernel
theorem dX3_isOutside_10 : decode cX3_isOutside 10 = .ok (.iconst 1, 1) := by decide +kernel
theorem dX3_isOutside_11 : decode cX3_isOutside 11 = .ok (.goto 4, 3) := by decide +kernel
theorem dX3_isOutside_14 : decode cX3_isOutside 14 = .ok (.iconst 0, 1) := by decide +kernel
theorem dX3_isOutside_15 : decode cX3_isOutside 15 = .ok (.ireturn, 1) := by decide +kernel
set_option maxRecDepth 20000 in
theorem ggX3_isSensor_X3_isOutside : GoodIn wsX3_isSensor wsX3_isOutside := goodIn_r _ [4] (by decide +kernel) (by decide +kernel)
set_option maxRecDepth 20000 in
theorem gX3_isSensor_X3_isOutside : GoodIn wsX3_isSensor (va_wsS RX3 37 yX3_isOutside wsX3_isOutside) := goodIn_app (goodIn_of _ (by decide +kernel)) ggX3_isSensor_X3_isOutside
theorem dX3_isSensor_0 : decode cX3_isSensor 0 = .ok (.iload_n 0, 1) := by decide +kernel
theorem dX3_isSensor_1 : decode cX3_isSensor 1 = .ok (.iconst 0, 1) := by decide +kernel
theorem dX3_isSensor_2 : decode cX3_isSensor 2 = .ok (.iconst 3, 1) := by decide +kernel
theorem dX3_isSensor_3 : decode cX3_isSensor 3 = .ok (.invokestatic 37, 3) := by decide +kernel
theorem dX3_isSensor_6 : decode cX3_isSensor 6 = .ok (.ifCond .ne 7, 3) := by decide +kernel
theorem dX3_isSensor_9 : decode cX3_isSensor 9 = .ok (.iconst 1, 1) := by decide +kernel
theorem dX3_isSensor_10 : decode cX3_isSensor 10 = .ok (.goto 4, 3) := by decide +kernel
theorem dX3_isSensor_13 : decode cX3_isSensor 13 = .ok (.iconst 0, 1) := by decide +kernel
theorem dX3_isSensor_14 : decode cX3_isSensor 14 = .ok (.ireturn, 1) := by decide +kernel
theorem dX3_isKind_0 : decode cX3_isKind 0 = .ok (.iload_n 0, 1) := by decide +kernel
theorem dX3_isKind_1 : decode cX3_isKind 1 = .ok (.ifCond .eq 8, 3) := by decide +kernel
theorem dX3_isKind_4 : decode cX3_isKind 4 = .ok (.iload_n 0, 1) := by decide +kernel
theorem dX3_isKind_5 : decode cX3_isKind 5 = .ok (.iconst 1, 1) := by decide +kernel
theorem dX3_isKind_6 : decode cX3_isKind 6 = .ok (.if_icmp .ne 7, 3) := by decide +kernel
theorem dX3_isKind_9 : decode cX3_isKind 9 = .ok (.iconst 1, 1) := by decide +kernel
theorem dX3_isKind_10 : decode cX3_isKind 10 = .ok (.goto 4, 3) := by decide +kernel
theorem dX3_isKind_13 : decode cX3_isKind 13 = .ok (.iconst 0, 1) := by decide +kernel
theorem dX3_isKind_14 : decode cX3_isKind 14 = .ok (.ireturn, 1) := by decide +kernel
theorem dX3_isInLimit_0 : decode cX3_isInLimit 0 = .ok (.lload_n 0, 1) := by decide +kernel
theorem dX3_isInLimit_1 : decode cX3_isInLimit 1 = .ok (.ldc2_w 174, 3) := by decide +kernel
theorem dX3_isInLimit_4 : decode cX3_isInLimit 4 = .ok (.lcmp, 1) := by decide +kernel
theorem dX3_isInLimit_5 : decode cX3_isInLimit 5 = .ok (.ifCond .lt 15, 3) := by decide +kernel
theorem dX3_isInLimit_8 : decode cX3_isInLimit 8 = .ok (.lload_n 0, 1) := by decide +kernel
theorem dX3_isInLimit_9 : decode cX3_isInLimit 9 = .ok (.ldc2_w 176, 3) := by decide +kernel
theorem dX3_isInLimit_12 : decode cX3_isInLimit 12 = .ok (.lcmp, 1) := by decide +kernel
theorem dX3_isInLimit_13 : decode cX3_isInLimit 13 = .ok (.ifCond .gt 7, 3) := by decide +kernel
theorem dX3_isInLimit_16 : decode cX3_isInLimit 16 = .ok (.iconst 1, 1) := by decide +kernel
theorem dX3_isInLimit_17 : decode cX3_isInLimit 17 = .ok (.goto 4, 3) := by decide +kernel
theorem dX3_isInLimit_20 : decode cX3_isInLimit 20 = .ok (.iconst 0, 1) := by decide +kernel
theorem dX3_isInLimit_21 : decode cX3_isInLimit 21 = .ok (.ireturn, 1) := by decide +kernel
set_option maxRecDepth 20000 in
theorem ggX3_times_J9_floorDiv_f86c9 : GoodIn wsX3_times wsJ9_floorDiv_f86c9 := goodIn_r _ [6] (by decide +kernel) (by decide +kernel)
set_option maxRecDepth 20000 in
theorem gX3_times_J9_floorDiv_f86c9 : GoodIn wsX3_times (va_wsS RX3 182 yJ9_floorDiv_f86c9 wsJ9_floorDiv_f86c9) := goodIn_app (goodIn_of _ (by decide +kernel)) ggX3_times_J9_floorDiv_f86c9
theorem dX3_times_0 : decode cX3_times 0 = .ok (.lload_n 0, 1) := by decide +kernel
theorem dX3_times_1 : decode cX3_times 1 = .ok (.lload_n 2, 1) := by decide +kernel
theorem dX3_times_2 : decode cX3_times 2 = .ok (.lmul, 1) := by decide +kernel
theorem dX3_times_3 : decode cX3_times 3 = .ok (.ldc2_w 178, 3) := by decide +kernel
theorem dX3_times_6 : decode cX3_times 6 = .ok (.ladd, 1) := by decide +kernel
theorem dX3_times_7 : decode cX3_times 7 = .ok (.ldc2_w 180, 3) := by decide +kernel
theorem dX3_times_10 : decode cX3_times 10 = .ok (.invokestatic 182, 3) := by decide +kernel
theorem dX3_times_13 : decode cX3_times 13 = .ok (.lreturn, 1) := by decide +kernel
set_option maxRecDepth 20000 in
theorem ggX3_dividedBy_J9_floorDiv_f86c9 : GoodIn wsX3_dividedBy wsJ9_floorDiv_f86c9 := goodIn_r _ [6] (by decide +kernel) (by decide +kernel)
set_option maxRecDepth 20000 in
theorem gX3_dividedBy_J9_floorDiv_f86c9 : GoodIn wsX3_dividedBy (va_wsS RX3 182 yJ9_floorDiv_f86c9 wsJ9_floorDiv_f86c9) := goodIn_app (goodIn_of _ (by decide +kernel)) ggX3_dividedBy_J9_floorDiv_f86c9
theorem dX3_dividedBy_0 : decode cX3_dividedBy 0 = .ok (.lload_n 2, 1) := by decide +kernel
theorem dX3_dividedBy_1 : decode cX3_dividedBy 1 = .ok (.lconst 0, 1) := by decide +kernel
theorem dX3_dividedBy_2 : decode cX3_dividedBy 2 = .ok (.lcmp, 1) := by decide +kernel
theorem dX3_dividedBy_3 : decode cX3_dividedBy 3 = .ok (.ifCond .gt 5, 3) := by decide +kernel
theorem dX3_dividedBy_6 : decode cX3_dividedBy 6 = .ok (.lconst 0, 1) := by decide +kernel
theorem dX3_dividedBy_7 : decode cX3_dividedBy 7 = .ok (.lreturn, 1) := by decide +kernel
theorem dX3_dividedBy_8 : decode cX3_dividedBy 8 = .ok (.lload_n 0, 1) := by decide +kernel
theorem dX3_dividedBy_9 : decode cX3_dividedBy 9 = .ok (.ldc2_w 180, 3) := by decide +kernel
theorem dX3_dividedBy_12 : decode cX3_dividedBy 12 = .ok (.lmul, 1) := by decide +kernel
theorem dX3_dividedBy_13 : decode cX3_dividedBy 13 = .ok (.lload_n 2, 1) := by decide +kernel
theorem dX3_dividedBy_14 : decode cX3_dividedBy 14 = .ok (.ldc2_w 187, 3) := by decide +kernel
theorem dX3_dividedBy_17 : decode cX3_dividedBy 17 = .ok (.ldiv, 1) := by decide +kernel
theorem dX3_dividedBy_18 : decode cX3_dividedBy 18 = .ok (.ladd, 1) := by decide +kernel
theorem dX3_dividedBy_19 : decode cX3_dividedBy 19 = .ok (.lload_n 2, 1) := by decide +kernel
theorem dX3_dividedBy_20 : decode cX3_dividedBy 20 = .ok (.invokestatic 182, 3) := by decide +kernel
theorem dX3_dividedBy_23 : decode cX3_dividedBy 23 = .ok (.lreturn, 1) := by decide +kernel
theorem dX3_mix_0 : decode cX3_mix 0 = .ok (.ldc2_w 189, 3) := by decide +kernel
theorem dX3_mix_3 : decode cX3_mix 3 = .ok (.lload_n 0, 1) := by decide +kernel
theorem dX3_mix_4 : decode cX3_mix 4 = .ok (.lmul, 1) := by decide +kernel
theorem dX3_mix_5 : decode cX3_mix 5 = .ok (.lload_n 2, 1) := by decide +kernel
theorem dX3_mix_6 : decode cX3_mix 6 = .ok (.ladd, 1) := by decide +kernel
theorem dX3_mix_7 : decode cX3_mix 7 = .ok (.lreturn, 1) := by decide +kernel
theorem dX3_copyRow_0 : decode cX3_copyRow 0 = .ok (.iconst 0, 1) := by decide +kernel
theorem dX3_copyRow_1 : decode cX3_copyRow 1 = .ok (.istore_n 2, 1) := by decide +kernel
theorem dX3_copyRow_2 : decode cX3_copyRow 2 = .ok (.iload_n 2, 1) := by decide +kernel
theorem dX3_copyRow_3 : decode cX3_copyRow 3 = .ok (.aload_n 0, 1) := by decide +kernel
theorem dX3_copyRow_4 : decode cX3_copyRow 4 = .ok (.arraylength, 1) := by decide +kernel
theorem dX3_copyRow_5 : decode cX3_copyRow 5 = .ok (.if_icmp .ge 21, 3) := by decide +kernel
theorem dX3_copyRow_8 : decode cX3_copyRow 8 = .ok (.iload_n 2, 1) := by decide +kernel
theorem dX3_copyRow_9 : decode cX3_copyRow 9 = .ok (.aload_n 1, 1) := by decide +kernel
theorem dX3_copyRow_10 : decode cX3_copyRow 10 = .ok (.arraylength, 1) := by decide +kernel
theorem dX3_copyRow_11 : decode cX3_copyRow 11 = .ok (.if_icmp .ge 15, 3) := by decide +kernel
theorem dX3_copyRow_14 : decode cX3_copyRow 14 = .ok (.aload_n 1, 1) := by decide +kernel
theorem dX3_copyRow_15 : decode cX3_copyRow 15 = .ok (.iload_n 2, 1) := by decide +kernel
theorem dX3_copyRow_16 : decode cX3_copyRow 16 = .ok (.aload_n 0, 1) := by decide +kernel
theorem dX3_copyRow_17 : decode cX3_copyRow 17 = .ok (.iload_n 2, 1) := by decide +kernel
theorem dX3_copyRow_18 : decode cX3_copyRow 18 = .ok (.iaload, 1) := by decide +kernel
theorem dX3_copyRow_19 : decode cX3_copyRow 19 = .ok (.iastore, 1) := by decide +kernel
theorem dX3_copyRow_20 : decode cX3_copyRow 20 = .ok (.iinc 2 1, 3) := by decide +kernel
theorem dX3_copyRow_23 : decode cX3_copyRow 23 = .ok (.goto (-21), 3) := by decide +kernel
theorem dX3_copyRow_26 : decode cX3_copyRow 26 = .ok (.return_, 1) := by decide +kernel
theorem dX3_fail_0 : decode cX3_fail 0 = .ok (.ldc 43, 2) := by decide +kernel
theorem dX3_fail_2 : decode cX3_fail 2 = .ok (.iload_n 1, 1) := by decide +kernel
theorem dX3_fail_3 : decode cX3_fail 3 = .ok (.isub, 1) := by decide +kernel
theorem dX3_fail_4 : decode cX3_fail 4 = .ok (.istore_n 2, 1) := by decide +kernel
theorem dX3_fail_5 : decode cX3_fail 5 = .ok (.iload_n 2, 1) := by decide +kernel
theorem dX3_fail_6 : decode cX3_fail 6 = .ok (.ifCond .lt 22, 3) := by decide +kernel
theorem dX3_fail_9 : decode cX3_fail 9 = .ok (.iload_n 2, 1) := by decide +kernel
theorem dX3_fail_10 : decode cX3_fail 10 = .ok (.aload_n 0, 1) := by decide +kernel
theorem dX3_fail_11 : decode cX3_fail 11 = .ok (.getfield 24, 3) := by decide +kernel
theorem dX3_fail_14 : decode cX3_fail 14 = .ok (.arraylength, 1) := by decide +kernel
theorem dX3_fail_15 : decode cX3_fail 15 = .ok (.if_icmp .ge 13, 3) := by decide +kernel
theorem dX3_fail_18 : decode cX3_fail 18 = .ok (.aload_n 0, 1) := by decide +kernel
theorem dX3_fail_19 : decode cX3_fail 19 = .ok (.getfield 24, 3) := by decide +kernel
theorem dX3_fail_22 : decode cX3_fail 22 = .ok (.iload_n 2, 1) := by decide +kernel
theorem dX3_fail_23 : decode cX3_fail 23 = .ok (.dup2, 1) := by decide +kernel
theorem dX3_fail_24 : decode cX3_fail 24 = .ok (.iaload, 1) := by decide +kernel
theorem dX3_fail_25 : decode cX3_fail 25 = .ok (.iconst 1, 1) := by decide +kernel
theorem dX3_fail_26 : decode cX3_fail 26 = .ok (.iadd, 1) := by decide +kernel
theorem dX3_fail_27 : decode cX3_fail 27 = .ok (.iastore, 1) := by decide +kernel
theorem dX3_fail_28 : decode cX3_fail 28 = .ok (.iload_n 1, 1) := by decide +kernel
theorem dX3_fail_29 : decode cX3_fail 29 = .ok (.ireturn, 1) := by decide +kernel
set_option maxRecDepth 20000 in
theorem ggX3_save_X3_dropOldestSaved : GoodIn wsX3_save wsX3_dropOldestSaved := goodIn_r _ [8, 2, 1, 44, 45, 46, 47, 48] (by decide +kernel) (by decide +kernel)
set_option maxRecDepth 20000 in
theorem gX3_save_X3_dropOldestSaved : GoodIn wsX3_save (wsV RX3 191 RX3 yX3_dropOldestSaved wsX3_dropOldestSaved) := goodIn_app (goodIn_of _ (by decide +kernel)) ggX3_save_X3_dropOldestSaved
set_option maxRecDepth 20000 in
theorem ggX3_save_X2_copyFrom : GoodIn wsX3_save wsX2_copyFrom := goodIn_r _ [12, 13, 14, 15, 16, 17, 18, 19, 20, 21, 22, 23, 24, 25, 26, 27, 28, 29, 30, 31, 32, 33, 34, 35, 7, 36, 37, 38, 39, 40, 41, 42, 43, 49, 50, 51, 52, 53, 54, 55, 56, 57, 58, 59, 60, 61, 62, 63, 64, 65, 66, 67, 68, 69] (by decide +kernel) (by decide +kernel)
set_option maxRecDepth 20000 in
theorem gX3_save_X2_copyFrom_n161 : GoodIn wsX3_save (wsX2_copyFrom) := ggX3_save_X2_copyFrom
theorem dX3_save_0 : decode cX3_save 0 = .ok (.aload_n 0, 1) := by decide +kernel
theorem dX3_save_1 : decode cX3_save 1 = .ok (.getfield 20, 3) := by decide +kernel
theorem dX3_save_4 : decode cX3_save 4 = .ok (.aload_n 0, 1) := by decide +kernel
theorem dX3_save_5 : decode cX3_save 5 = .ok (.getfield 16, 3) := by decide +kernel
theorem dX3_save_8 : decode cX3_save 8 = .ok (.arraylength, 1) := by decide +kernel
theorem dX3_save_9 : decode cX3_save 9 = .ok (.if_icmp .lt 7, 3) := by decide +kernel
theorem dX3_save_12 : decode cX3_save 12 = .ok (.aload_n 0, 1) := by decide +kernel
theorem dX3_save_13 : decode cX3_save 13 = .ok (.invokevirtual 191, 3) := by decide +kernel
theorem dX3_save_16 : decode cX3_save 16 = .ok (.aload_n 0, 1) := by decide +kernel
theorem dX3_save_17 : decode cX3_save 17 = .ok (.getfield 20, 3) := by decide +kernel
theorem dX3_save_20 : decode cX3_save 20 = .ok (.ifCond .lt 41, 3) := by decide +kernel
theorem dX3_save_23 : decode cX3_save 23 = .ok (.aload_n 0, 1) := by decide +kernel
theorem dX3_save_24 : decode cX3_save 24 = .ok (.getfield 20, 3) := by decide +kernel
theorem dX3_save_27 : decode cX3_save 27 = .ok (.aload_n 0, 1) := by decide +kernel
theorem dX3_save_28 : decode cX3_save 28 = .ok (.getfield 16, 3) := by decide +kernel
theorem dX3_save_31 : decode cX3_save 31 = .ok (.arraylength, 1) := by decide +kernel
theorem dX3_save_32 : decode cX3_save 32 = .ok (.if_icmp .ge 29, 3) := by decide +kernel
theorem dX3_save_35 : decode cX3_save 35 = .ok (.aload_n 0, 1) := by decide +kernel
theorem dX3_save_36 : decode cX3_save 36 = .ok (.getfield 16, 3) := by decide +kernel
theorem dX3_save_39 : decode cX3_save 39 = .ok (.aload_n 0, 1) := by decide +kernel
theorem dX3_save_40 : decode cX3_save 40 = .ok (.getfield 20, 3) := by decide +kernel
theorem dX3_save_43 : decode cX3_save 43 = .ok (.aaload, 1) := by decide +kernel
theorem dX3_save_44 : decode cX3_save 44 = .ok (.aload_n 0, 1) := by decide +kernel
theorem dX3_save_45 : decode cX3_save 45 = .ok (.getfield 10, 3) := by decide +kernel
theorem dX3_save_48 : decode cX3_save 48 = .ok (.invokevirtual 161, 3) := by decide +kernel
theorem dX3_save_51 : decode cX3_save 51 = .ok (.aload_n 0, 1) := by decide +kernel
theorem dX3_save_52 : decode cX3_save 52 = .ok (.dup, 1) := by decide +kernel
theorem dX3_save_53 : decode cX3_save 53 = .ok (.getfield 20, 3) := by decide +kernel
theorem dX3_save_56 : decode cX3_save 56 = .ok (.iconst 1, 1) := by decide +kernel
theorem dX3_save_57 : decode cX3_save 57 = .ok (.iadd, 1) := by decide +kernel
theorem dX3_save_58 : decode cX3_save 58 = .ok (.putfield 20, 3) := by decide +kernel
theorem dX3_save_61 : decode cX3_save 61 = .ok (.return_, 1) := by decide +kernel
theorem dX3_dropOldestSaved_0 : decode cX3_dropOldestSaved 0 = .ok (.aload_n 0, 1) := by decide +kernel
theorem dX3_dropOldestSaved_1 : decode cX3_dropOldestSaved 1 = .ok (.getfield 16, 3) := by decide +kernel
theorem dX3_dropOldestSaved_4 : decode cX3_dropOldestSaved 4 = .ok (.iconst 0, 1) := by decide +kernel
theorem dX3_dropOldestSaved_5 : decode cX3_dropOldestSaved 5 = .ok (.aaload, 1) := by decide +kernel
theorem dX3_dropOldestSaved_6 : decode cX3_dropOldestSaved 6 = .ok (.astore_n 1, 1) := by decide +kernel
theorem dX3_dropOldestSaved_7 : decode cX3_dropOldestSaved 7 = .ok (.iconst 1, 1) := by decide +kernel
theorem dX3_dropOldestSaved_8 : decode cX3_dropOldestSaved 8 = .ok (.istore_n 2, 1) := by decide +kernel
theorem dX3_dropOldestSaved_9 : decode cX3_dropOldestSaved 9 = .ok (.iload_n 2, 1) := by decide +kernel
theorem dX3_dropOldestSaved_10 : decode cX3_dropOldestSaved 10 = .ok (.aload_n 0, 1) := by decide +kernel
theorem dX3_dropOldestSaved_11 : decode cX3_dropOldestSaved 11 = .ok (.getfield 16, 3) := by decide +kernel
theorem dX3_dropOldestSaved_14 : decode cX3_dropOldestSaved 14 = .ok (.arraylength, 1) := by decide +kernel
theorem dX3_dropOldestSaved_15 : decode cX3_dropOldestSaved 15 = .ok (.if_icmp .ge 23, 3) := by decide +kernel
theorem dX3_dropOldestSaved_18 : decode cX3_dropOldestSaved 18 = .ok (.aload_n 0, 1) := by decide +kernel
theorem dX3_dropOldestSaved_19 : decode cX3_dropOldestSaved 19 = .ok (.getfield 16, 3) := by decide +kernel
theorem dX3_dropOldestSaved_22 : decode cX3_dropOldestSaved 22 = .ok (.iload_n 2, 1) := by decide +kernel
theorem dX3_dropOldestSaved_23 : decode cX3_dropOldestSaved 23 = .ok (.iconst 1, 1) := by decide +kernel
theorem dX3_dropOldestSaved_24 : decode cX3_dropOldestSaved 24 = .ok (.isub, 1) := by decide +kernel
theorem dX3_dropOldestSaved_25 : decode cX3_dropOldestSaved 25 = .ok (.aload_n 0, 1) := by decide +kernel
theorem dX3_dropOldestSaved_26 : decode cX3_dropOldestSaved 26 = .ok (.getfield 16, 3) := by decide +kernel
theorem dX3_dropOldestSaved_29 : decode cX3_dropOldestSaved 29 = .ok (.iload_n 2, 1) := by decide +kernel
theorem dX3_dropOldestSaved_30 : decode cX3_dropOldestSaved 30 = .ok (.aaload, 1) := by decide +kernel
theorem dX3_dropOldestSaved_31 : decode cX3_dropOldestSaved 31 = .ok (.aastore, 1) := by decide +kernel
theorem dX3_dropOldestSaved_32 : decode cX3_dropOldestSaved 32 = .ok (.iinc 2 1, 3) := by decide +kernel
theorem dX3_dropOldestSaved_35 : decode cX3_dropOldestSaved 35 = .ok (.goto (-26), 3) := by decide +kernel
theorem dX3_dropOldestSaved_38 : decode cX3_dropOldestSaved 38 = .ok (.aload_n 0, 1) := by decide +kernel
theorem dX3_dropOldestSaved_39 : decode cX3_dropOldestSaved 39 = .ok (.getfield 16, 3) := by decide +kernel
theorem dX3_dropOldestSaved_42 : decode cX3_dropOldestSaved 42 = .ok (.aload_n 0, 1) := by decide +kernel
theorem dX3_dropOldestSaved_43 : decode cX3_dropOldestSaved 43 = .ok (.getfield 16, 3) := by decide +kernel
theorem dX3_dropOldestSaved_46 : decode cX3_dropOldestSaved 46 = .ok (.arraylength, 1) := by decide +kernel
theorem dX3_dropOldestSaved_47 : decode cX3_dropOldestSaved 47 = .ok (.iconst 1, 1) := by decide +kernel
theorem dX3_dropOldestSaved_48 : decode cX3_dropOldestSaved 48 = .ok (.isub, 1) := by decide +kernel
theorem dX3_dropOldestSaved_49 : decode cX3_dropOldestSaved 49 = .ok (.aload_n 1, 1) := by decide +kernel
theorem dX3_dropOldestSaved_50 : decode cX3_dropOldestSaved 50 = .ok (.aastore, 1) := by decide +kernel
theorem dX3_dropOldestSaved_51 : decode cX3_dropOldestSaved 51 = .ok (.aload_n 0, 1) := by decide +kernel
theorem dX3_dropOldestSaved_52 : decode cX3_dropOldestSaved 52 = .ok (.aload_n 0, 1) := by decide +kernel
theorem dX3_dropOldestSaved_53 : decode cX3_dropOldestSaved 53 = .ok (.getfield 16, 3) := by decide +kernel
theorem dX3_dropOldestSaved_56 : decode cX3_dropOldestSaved 56 = .ok (.arraylength, 1) := by decide +kernel
theorem dX3_dropOldestSaved_57 : decode cX3_dropOldestSaved 57 = .ok (.iconst 1, 1) := by decide +kernel
theorem dX3_dropOldestSaved_58 : decode cX3_dropOldestSaved 58 = .ok (.isub, 1) := by decide +kernel
theorem dX3_dropOldestSaved_59 : decode cX3_dropOldestSaved 59 = .ok (.putfield 20, 3) := by decide +kernel
theorem dX3_dropOldestSaved_62 : decode cX3_dropOldestSaved 62 = .ok (.return_, 1) := by decide +kernel
set_option maxRecDepth 20000 in
theorem ggX3_runPredictions_X0_copyFrom : GoodIn wsX3_runPredictions wsX0_copyFrom := goodIn_r _ [6, 7, 8, 9, 10, 11, 12, 13, 14, 47, 48, 49, 50, 51, 52, 53, 54] (by decide +kernel) (by decide +kernel)
set_option maxRecDepth 20000 in
theorem gX3_runPredictions_X0_copyFrom_n98 : GoodIn wsX3_runPredictions (wsX0_copyFrom) := ggX3_runPredictions_X0_copyFrom
set_option maxRecDepth 20000 in
theorem ggX3_runPredictions_X0_advance : GoodIn wsX3_runPredictions wsX0_advance := goodIn_r _ [17, 7, 8, 9, 18, 10, 11, 19, 20, 21, 4, 22, 23, 24, 25, 26, 27, 28, 29, 30, 31, 47, 48, 49, 50, 51, 52, 53, 54] (by decide +kernel) (by decide +kernel)
set_option maxRecDepth 20000 in
theorem gX3_runPredictions_X0_advance_n102 : GoodIn wsX3_runPredictions (wsX0_advance) := ggX3_runPredictions_X0_advance
theorem dX3_runPredictions_0 : decode cX3_runPredictions 0 = .ok (.aload_n 0, 1) := by decide +kernel
theorem dX3_runPredictions_1 : decode cX3_runPredictions 1 = .ok (.getfield 31, 3) := by decide +kernel
theorem dX3_runPredictions_4 : decode cX3_runPredictions 4 = .ok (.aload_n 0, 1) := by decide +kernel
end
section
theorem dX3_runPredictions_5 : decode cX3_runPredictions 5 = .ok (.getfield 10, 3) := by decide +kernel
theorem dX3_runPredictions_8 : decode cX3_runPredictions 8 = .ok (.getfield 60, 3) := by decide +kernel
theorem dX3_runPredictions_11 : decode cX3_runPredictions 11 = .ok (.invokevirtual 98, 3) := by decide +kernel
theorem dX3_runPredictions_14 : decode cX3_runPredictions 14 = .ok (.iconst 0, 1) := by decide +kernel
theorem dX3_runPredictions_15 : decode cX3_runPredictions 15 = .ok (.istore_n 2, 1) := by decide +kernel
theorem dX3_runPredictions_16 : decode cX3_runPredictions 16 = .ok (.iload_n 2, 1) := by decide +kernel
theorem dX3_runPredictions_17 : decode cX3_runPredictions 17 = .ok (.iload_n 1, 1) := by decide +kernel
theorem dX3_runPredictions_18 : decode cX3_runPredictions 18 = .ok (.if_icmp .ge 38, 3) := by decide +kernel
theorem dX3_runPredictions_21 : decode cX3_runPredictions 21 = .ok (.aload_n 0, 1) := by decide +kernel
theorem dX3_runPredictions_22 : decode cX3_runPredictions 22 = .ok (.getfield 31, 3) := by decide +kernel
theorem dX3_runPredictions_25 : decode cX3_runPredictions 25 = .ok (.lconst 0, 1) := by decide +kernel
theorem dX3_runPredictions_26 : decode cX3_runPredictions 26 = .ok (.aload_n 0, 1) := by decide +kernel
theorem dX3_runPredictions_27 : decode cX3_runPredictions 27 = .ok (.getfield 10, 3) := by decide +kernel
theorem dX3_runPredictions_30 : decode cX3_runPredictions 30 = .ok (.getfield 79, 3) := by decide +kernel
theorem dX3_runPredictions_33 : decode cX3_runPredictions 33 = .ok (.i2l, 1) := by decide +kernel
theorem dX3_runPredictions_34 : decode cX3_runPredictions 34 = .ok (.aload_n 0, 1) := by decide +kernel
theorem dX3_runPredictions_35 : decode cX3_runPredictions 35 = .ok (.getfield 10, 3) := by decide +kernel
theorem dX3_runPredictions_38 : decode cX3_runPredictions 38 = .ok (.getfield 76, 3) := by decide +kernel
theorem dX3_runPredictions_41 : decode cX3_runPredictions 41 = .ok (.i2l, 1) := by decide +kernel
theorem dX3_runPredictions_42 : decode cX3_runPredictions 42 = .ok (.invokevirtual 102, 3) := by decide +kernel
theorem dX3_runPredictions_45 : decode cX3_runPredictions 45 = .ok (.ifCond .ne 5, 3) := by decide +kernel
theorem dX3_runPredictions_48 : decode cX3_runPredictions 48 = .ok (.iconst 0, 1) := by decide +kernel
theorem dX3_runPredictions_49 : decode cX3_runPredictions 49 = .ok (.ireturn, 1) := by decide +kernel
theorem dX3_runPredictions_50 : decode cX3_runPredictions 50 = .ok (.iinc 2 1, 3) := by decide +kernel
theorem dX3_runPredictions_53 : decode cX3_runPredictions 53 = .ok (.goto (-37), 3) := by decide +kernel
theorem dX3_runPredictions_56 : decode cX3_runPredictions 56 = .ok (.iconst 1, 1) := by decide +kernel
theorem dX3_runPredictions_57 : decode cX3_runPredictions 57 = .ok (.ireturn, 1) := by decide +kernel
set_option maxRecDepth 20000 in
theorem ggX3_runCyclesUntilSteady_X0_copyFrom : GoodIn wsX3_runCyclesUntilSteady wsX0_copyFrom := goodIn_r _ [8, 9, 10, 11, 12, 13, 14, 15, 16, 69, 70, 71, 72, 73, 74, 75, 76] (by decide +kernel) (by decide +kernel)
set_option maxRecDepth 20000 in
theorem gX3_runCyclesUntilSteady_X0_copyFrom_n98 : GoodIn wsX3_runCyclesUntilSteady (wsX0_copyFrom) := ggX3_runCyclesUntilSteady_X0_copyFrom
set_option maxRecDepth 20000 in
theorem ggX3_runCyclesUntilSteady_X0_advance : GoodIn wsX3_runCyclesUntilSteady wsX0_advance := goodIn_r _ [19, 9, 10, 11, 20, 12, 13, 21, 22, 23, 6, 24, 25, 26, 27, 28, 29, 30, 31, 32, 33, 69, 70, 71, 72, 73, 74, 75, 76] (by decide +kernel) (by decide +kernel)
set_option maxRecDepth 20000 in
theorem gX3_runCyclesUntilSteady_X0_advance_n102 : GoodIn wsX3_runCyclesUntilSteady (wsX0_advance) := ggX3_runCyclesUntilSteady_X0_advance
set_option maxRecDepth 20000 in
theorem ggX3_runCyclesUntilSteady_X0_mean : GoodIn wsX3_runCyclesUntilSteady wsX0_mean := goodIn_r _ [36, 9, 10, 69, 70, 71, 72, 73, 74, 75, 76] (by decide +kernel) (by decide +kernel)
set_option maxRecDepth 20000 in
theorem gX3_runCyclesUntilSteady_X0_mean_n194 : GoodIn wsX3_runCyclesUntilSteady (wsX0_mean) := ggX3_runCyclesUntilSteady_X0_mean
set_option maxRecDepth 20000 in
theorem ggX3_runCyclesUntilSteady_X0_take : GoodIn wsX3_runCyclesUntilSteady wsX0_take := goodIn_r _ [39, 11, 12, 13, 40, 14, 41, 9, 10, 15, 16, 42, 34, 35, 6, 36, 43, 30, 44, 45, 46, 47, 48, 49, 50, 29, 31, 32, 33, 51, 52, 53, 21, 22, 23, 24, 25, 26, 27, 28, 69, 70, 71, 72, 73, 74, 75, 76] (by decide +kernel) (by decide +kernel)
set_option maxRecDepth 20000 in
theorem gX3_runCyclesUntilSteady_X0_take_n115 : GoodIn wsX3_runCyclesUntilSteady (wsX0_take) := ggX3_runCyclesUntilSteady_X0_take
theorem dX3_runCyclesUntilSteady_0 : decode cX3_runCyclesUntilSteady 0 = .ok (.aload_n 0, 1) := by decide +kernel
theorem dX3_runCyclesUntilSteady_1 : decode cX3_runCyclesUntilSteady 1 = .ok (.getfield 31, 3) := by decide +kernel
theorem dX3_runCyclesUntilSteady_4 : decode cX3_runCyclesUntilSteady 4 = .ok (.aload_n 0, 1) := by decide +kernel
theorem dX3_runCyclesUntilSteady_5 : decode cX3_runCyclesUntilSteady 5 = .ok (.getfield 10, 3) := by decide +kernel
theorem dX3_runCyclesUntilSteady_8 : decode cX3_runCyclesUntilSteady 8 = .ok (.getfield 60, 3) := by decide +kernel
theorem dX3_runCyclesUntilSteady_11 : decode cX3_runCyclesUntilSteady 11 = .ok (.invokevirtual 98, 3) := by decide +kernel
theorem dX3_runCyclesUntilSteady_14 : decode cX3_runCyclesUntilSteady 14 = .ok (.iconst 1, 1) := by decide +kernel
theorem dX3_runCyclesUntilSteady_15 : decode cX3_runCyclesUntilSteady 15 = .ok (.istore_n 3, 1) := by decide +kernel
theorem dX3_runCyclesUntilSteady_16 : decode cX3_runCyclesUntilSteady 16 = .ok (.iload_n 3, 1) := by decide +kernel
theorem dX3_runCyclesUntilSteady_17 : decode cX3_runCyclesUntilSteady 17 = .ok (.sipush 300, 3) := by decide +kernel
theorem dX3_runCyclesUntilSteady_20 : decode cX3_runCyclesUntilSteady 20 = .ok (.if_icmp .gt 131, 3) := by decide +kernel
theorem dX3_runCyclesUntilSteady_23 : decode cX3_runCyclesUntilSteady 23 = .ok (.aload_n 0, 1) := by decide +kernel
theorem dX3_runCyclesUntilSteady_24 : decode cX3_runCyclesUntilSteady 24 = .ok (.getfield 31, 3) := by decide +kernel
theorem dX3_runCyclesUntilSteady_27 : decode cX3_runCyclesUntilSteady 27 = .ok (.getfield 122, 3) := by decide +kernel
theorem dX3_runCyclesUntilSteady_30 : decode cX3_runCyclesUntilSteady 30 = .ok (.lstore 4, 2) := by decide +kernel
theorem dX3_runCyclesUntilSteady_32 : decode cX3_runCyclesUntilSteady 32 = .ok (.aload_n 0, 1) := by decide +kernel
theorem dX3_runCyclesUntilSteady_33 : decode cX3_runCyclesUntilSteady 33 = .ok (.getfield 31, 3) := by decide +kernel
theorem dX3_runCyclesUntilSteady_36 : decode cX3_runCyclesUntilSteady 36 = .ok (.getfield 125, 3) := by decide +kernel
theorem dX3_runCyclesUntilSteady_39 : decode cX3_runCyclesUntilSteady 39 = .ok (.lstore 6, 2) := by decide +kernel
theorem dX3_runCyclesUntilSteady_41 : decode cX3_runCyclesUntilSteady 41 = .ok (.aload_n 0, 1) := by decide +kernel
theorem dX3_runCyclesUntilSteady_42 : decode cX3_runCyclesUntilSteady 42 = .ok (.getfield 31, 3) := by decide +kernel
theorem dX3_runCyclesUntilSteady_45 : decode cX3_runCyclesUntilSteady 45 = .ok (.getfield 128, 3) := by decide +kernel
theorem dX3_runCyclesUntilSteady_48 : decode cX3_runCyclesUntilSteady 48 = .ok (.lstore 8, 2) := by decide +kernel
theorem dX3_runCyclesUntilSteady_50 : decode cX3_runCyclesUntilSteady 50 = .ok (.aload_n 0, 1) := by decide +kernel
theorem dX3_runCyclesUntilSteady_51 : decode cX3_runCyclesUntilSteady 51 = .ok (.getfield 31, 3) := by decide +kernel
theorem dX3_runCyclesUntilSteady_54 : decode cX3_runCyclesUntilSteady 54 = .ok (.lconst 0, 1) := by decide +kernel
theorem dX3_runCyclesUntilSteady_55 : decode cX3_runCyclesUntilSteady 55 = .ok (.aload_n 0, 1) := by decide +kernel
theorem dX3_runCyclesUntilSteady_56 : decode cX3_runCyclesUntilSteady 56 = .ok (.getfield 10, 3) := by decide +kernel
theorem dX3_runCyclesUntilSteady_59 : decode cX3_runCyclesUntilSteady 59 = .ok (.getfield 79, 3) := by decide +kernel
theorem dX3_runCyclesUntilSteady_62 : decode cX3_runCyclesUntilSteady 62 = .ok (.i2l, 1) := by decide +kernel
theorem dX3_runCyclesUntilSteady_63 : decode cX3_runCyclesUntilSteady 63 = .ok (.aload_n 0, 1) := by decide +kernel
theorem dX3_runCyclesUntilSteady_64 : decode cX3_runCyclesUntilSteady 64 = .ok (.getfield 10, 3) := by decide +kernel
theorem dX3_runCyclesUntilSteady_67 : decode cX3_runCyclesUntilSteady 67 = .ok (.getfield 76, 3) := by decide +kernel
theorem dX3_runCyclesUntilSteady_70 : decode cX3_runCyclesUntilSteady 70 = .ok (.i2l, 1) := by decide +kernel
theorem dX3_runCyclesUntilSteady_71 : decode cX3_runCyclesUntilSteady 71 = .ok (.invokevirtual 102, 3) := by decide +kernel
theorem dX3_runCyclesUntilSteady_74 : decode cX3_runCyclesUntilSteady 74 = .ok (.ifCond .eq 27, 3) := by decide +kernel
theorem dX3_runCyclesUntilSteady_77 : decode cX3_runCyclesUntilSteady 77 = .ok (.aload_n 0, 1) := by decide +kernel
theorem dX3_runCyclesUntilSteady_78 : decode cX3_runCyclesUntilSteady 78 = .ok (.getfield 31, 3) := by decide +kernel
theorem dX3_runCyclesUntilSteady_81 : decode cX3_runCyclesUntilSteady 81 = .ok (.aload_n 0, 1) := by decide +kernel
theorem dX3_runCyclesUntilSteady_82 : decode cX3_runCyclesUntilSteady 82 = .ok (.getfield 31, 3) := by decide +kernel
theorem dX3_runCyclesUntilSteady_85 : decode cX3_runCyclesUntilSteady 85 = .ok (.iload_n 1, 1) := by decide +kernel
theorem dX3_runCyclesUntilSteady_86 : decode cX3_runCyclesUntilSteady 86 = .ok (.invokevirtual 194, 3) := by decide +kernel
theorem dX3_runCyclesUntilSteady_89 : decode cX3_runCyclesUntilSteady 89 = .ok (.iload_n 1, 1) := by decide +kernel
theorem dX3_runCyclesUntilSteady_90 : decode cX3_runCyclesUntilSteady 90 = .ok (.iload_n 2, 1) := by decide +kernel
theorem dX3_runCyclesUntilSteady_91 : decode cX3_runCyclesUntilSteady 91 = .ok (.i2l, 1) := by decide +kernel
theorem dX3_runCyclesUntilSteady_92 : decode cX3_runCyclesUntilSteady 92 = .ok (.lconst 0, 1) := by decide +kernel
theorem dX3_runCyclesUntilSteady_93 : decode cX3_runCyclesUntilSteady 93 = .ok (.invokevirtual 115, 3) := by decide +kernel
theorem dX3_runCyclesUntilSteady_96 : decode cX3_runCyclesUntilSteady 96 = .ok (.ldc 106, 2) := by decide +kernel
theorem dX3_runCyclesUntilSteady_98 : decode cX3_runCyclesUntilSteady 98 = .ok (.if_icmp .ne 6, 3) := by decide +kernel
theorem dX3_runCyclesUntilSteady_101 : decode cX3_runCyclesUntilSteady 101 = .ok (.ldc 143, 2) := by decide +kernel
theorem dX3_runCyclesUntilSteady_103 : decode cX3_runCyclesUntilSteady 103 = .ok (.ireturn, 1) := by decide +kernel
theorem dX3_runCyclesUntilSteady_104 : decode cX3_runCyclesUntilSteady 104 = .ok (.aload_n 0, 1) := by decide +kernel
theorem dX3_runCyclesUntilSteady_105 : decode cX3_runCyclesUntilSteady 105 = .ok (.getfield 31, 3) := by decide +kernel
theorem dX3_runCyclesUntilSteady_108 : decode cX3_runCyclesUntilSteady 108 = .ok (.getfield 122, 3) := by decide +kernel
theorem dX3_runCyclesUntilSteady_111 : decode cX3_runCyclesUntilSteady 111 = .ok (.lload 4, 2) := by decide +kernel
theorem dX3_runCyclesUntilSteady_113 : decode cX3_runCyclesUntilSteady 113 = .ok (.lcmp, 1) := by decide +kernel
theorem dX3_runCyclesUntilSteady_114 : decode cX3_runCyclesUntilSteady 114 = .ok (.ifCond .ne 31, 3) := by decide +kernel
theorem dX3_runCyclesUntilSteady_117 : decode cX3_runCyclesUntilSteady 117 = .ok (.aload_n 0, 1) := by decide +kernel
theorem dX3_runCyclesUntilSteady_118 : decode cX3_runCyclesUntilSteady 118 = .ok (.getfield 31, 3) := by decide +kernel
theorem dX3_runCyclesUntilSteady_121 : decode cX3_runCyclesUntilSteady 121 = .ok (.getfield 125, 3) := by decide +kernel
theorem dX3_runCyclesUntilSteady_124 : decode cX3_runCyclesUntilSteady 124 = .ok (.lload 6, 2) := by decide +kernel
theorem dX3_runCyclesUntilSteady_126 : decode cX3_runCyclesUntilSteady 126 = .ok (.lcmp, 1) := by decide +kernel
theorem dX3_runCyclesUntilSteady_127 : decode cX3_runCyclesUntilSteady 127 = .ok (.ifCond .ne 18, 3) := by decide +kernel
theorem dX3_runCyclesUntilSteady_130 : decode cX3_runCyclesUntilSteady 130 = .ok (.aload_n 0, 1) := by decide +kernel
theorem dX3_runCyclesUntilSteady_131 : decode cX3_runCyclesUntilSteady 131 = .ok (.getfield 31, 3) := by decide +kernel
theorem dX3_runCyclesUntilSteady_134 : decode cX3_runCyclesUntilSteady 134 = .ok (.getfield 128, 3) := by decide +kernel
theorem dX3_runCyclesUntilSteady_137 : decode cX3_runCyclesUntilSteady 137 = .ok (.lload 8, 2) := by decide +kernel
theorem dX3_runCyclesUntilSteady_139 : decode cX3_runCyclesUntilSteady 139 = .ok (.lcmp, 1) := by decide +kernel
theorem dX3_runCyclesUntilSteady_140 : decode cX3_runCyclesUntilSteady 140 = .ok (.ifCond .ne 5, 3) := by decide +kernel
theorem dX3_runCyclesUntilSteady_143 : decode cX3_runCyclesUntilSteady 143 = .ok (.iload_n 3, 1) := by decide +kernel
theorem dX3_runCyclesUntilSteady_144 : decode cX3_runCyclesUntilSteady 144 = .ok (.ireturn, 1) := by decide +kernel
theorem dX3_runCyclesUntilSteady_145 : decode cX3_runCyclesUntilSteady 145 = .ok (.iinc 3 1, 3) := by decide +kernel
theorem dX3_runCyclesUntilSteady_148 : decode cX3_runCyclesUntilSteady 148 = .ok (.goto (-132), 3) := by decide +kernel
theorem dX3_runCyclesUntilSteady_151 : decode cX3_runCyclesUntilSteady 151 = .ok (.ldc 143, 2) := by decide +kernel
theorem dX3_runCyclesUntilSteady_153 : decode cX3_runCyclesUntilSteady 153 = .ok (.ireturn, 1) := by decide +kernel
set_option maxRecDepth 20000 in
theorem ggX3_runReplay_X0_copyFrom : GoodIn wsX3_runReplay wsX0_copyFrom := goodIn_r _ [11, 12, 13, 14, 15, 16, 17, 18, 19, 81, 82, 83, 84, 85, 86, 87, 88] (by decide +kernel) (by decide +kernel)
set_option maxRecDepth 20000 in
theorem gX3_runReplay_X0_copyFrom_n98 : GoodIn wsX3_runReplay (wsX0_copyFrom) := ggX3_runReplay_X0_copyFrom
set_option maxRecDepth 20000 in
theorem ggX3_runReplay_X3_isSensor : GoodIn wsX3_runReplay wsX3_isSensor := goodIn_r _ [23, 24, 25, 22, 26] (by decide +kernel) (by decide +kernel)
set_option maxRecDepth 20000 in
theorem gX3_runReplay_X3_isSensor : GoodIn wsX3_runReplay (va_wsS RX3 82 yX3_isSensor wsX3_isSensor) := goodIn_app (goodIn_of _ (by decide +kernel)) ggX3_runReplay_X3_isSensor
set_option maxRecDepth 20000 in
theorem ggX3_runReplay_X0_take : GoodIn wsX3_runReplay wsX0_take := goodIn_r _ [29, 14, 15, 16, 30, 17, 31, 12, 13, 18, 19, 32, 33, 34, 9, 35, 36, 22, 37, 38, 39, 40, 41, 42, 43, 44, 45, 46, 47, 48, 49, 50, 51, 52, 53, 54, 55, 56, 6, 57, 81, 82, 83, 84, 85, 86, 87, 88] (by decide +kernel) (by decide +kernel)
set_option maxRecDepth 20000 in
theorem gX3_runReplay_X0_take_n115 : GoodIn wsX3_runReplay (wsX0_take) := ggX3_runReplay_X0_take
set_option maxRecDepth 20000 in
theorem ggX3_runReplay_X0_advance : GoodIn wsX3_runReplay wsX0_advance := goodIn_r _ [60, 12, 13, 14, 61, 15, 16, 51, 52, 53, 9, 54, 55, 56, 6, 57, 44, 22, 45, 46, 47, 81, 82, 83, 84, 85, 86, 87, 88] (by decide +kernel) (by decide +kernel)
set_option maxRecDepth 20000 in
theorem gX3_runReplay_X0_advance_n102 : GoodIn wsX3_runReplay (wsX0_advance) := ggX3_runReplay_X0_advance
set_option maxRecDepth 20000 in
theorem ggX3_runReplay_X3_isInLimit : GoodIn wsX3_runReplay wsX3_isInLimit := goodIn_r _ [45, 46, 47] (by decide +kernel) (by decide +kernel)
set_option maxRecDepth 20000 in
theorem gX3_runReplay_X3_isInLimit : GoodIn wsX3_runReplay (va_wsS RX3 207 yX3_isInLimit wsX3_isInLimit) := goodIn_app (goodIn_of _ (by decide +kernel)) ggX3_runReplay_X3_isInLimit
theorem dX3_runReplay_0 : decode cX3_runReplay 0 = .ok (.aload_n 0, 1) := by decide +kernel
theorem dX3_runReplay_1 : decode cX3_runReplay 1 = .ok (.getfield 31, 3) := by decide +kernel
theorem dX3_runReplay_4 : decode cX3_runReplay 4 = .ok (.aload_n 0, 1) := by decide +kernel
theorem dX3_runReplay_5 : decode cX3_runReplay 5 = .ok (.getfield 10, 3) := by decide +kernel
theorem dX3_runReplay_8 : decode cX3_runReplay 8 = .ok (.getfield 60, 3) := by decide +kernel
theorem dX3_runReplay_11 : decode cX3_runReplay 11 = .ok (.invokevirtual 98, 3) := by decide +kernel
theorem dX3_runReplay_14 : decode cX3_runReplay 14 = .ok (.lconst 0, 1) := by decide +kernel
theorem dX3_runReplay_15 : decode cX3_runReplay 15 = .ok (.lstore_n 2, 1) := by decide +kernel
theorem dX3_runReplay_16 : decode cX3_runReplay 16 = .ok (.iconst 0, 1) := by decide +kernel
theorem dX3_runReplay_17 : decode cX3_runReplay 17 = .ok (.istore 4, 2) := by decide +kernel
theorem dX3_runReplay_19 : decode cX3_runReplay 19 = .ok (.iload 4, 2) := by decide +kernel
theorem dX3_runReplay_21 : decode cX3_runReplay 21 = .ok (.aload_n 0, 1) := by decide +kernel
theorem dX3_runReplay_22 : decode cX3_runReplay 22 = .ok (.getfield 10, 3) := by decide +kernel
theorem dX3_runReplay_25 : decode cX3_runReplay 25 = .ok (.getfield 51, 3) := by decide +kernel
theorem dX3_runReplay_28 : decode cX3_runReplay 28 = .ok (.getfield 55, 3) := by decide +kernel
theorem dX3_runReplay_31 : decode cX3_runReplay 31 = .ok (.if_icmp .ge 140, 3) := by decide +kernel
theorem dX3_runReplay_34 : decode cX3_runReplay 34 = .ok (.iload 4, 2) := by decide +kernel
theorem dX3_runReplay_36 : decode cX3_runReplay 36 = .ok (.bipush 24, 2) := by decide +kernel
theorem dX3_runReplay_38 : decode cX3_runReplay 38 = .ok (.if_icmp .ge 133, 3) := by decide +kernel
theorem dX3_runReplay_41 : decode cX3_runReplay 41 = .ok (.aload_n 0, 1) := by decide +kernel
theorem dX3_runReplay_42 : decode cX3_runReplay 42 = .ok (.getfield 10, 3) := by decide +kernel
theorem dX3_runReplay_45 : decode cX3_runReplay 45 = .ok (.getfield 51, 3) := by decide +kernel
theorem dX3_runReplay_48 : decode cX3_runReplay 48 = .ok (.getfield 198, 3) := by decide +kernel
theorem dX3_runReplay_51 : decode cX3_runReplay 51 = .ok (.iload 4, 2) := by decide +kernel
theorem dX3_runReplay_53 : decode cX3_runReplay 53 = .ok (.iaload, 1) := by decide +kernel
theorem dX3_runReplay_54 : decode cX3_runReplay 54 = .ok (.istore 5, 2) := by decide +kernel
theorem dX3_runReplay_56 : decode cX3_runReplay 56 = .ok (.aload_n 0, 1) := by decide +kernel
theorem dX3_runReplay_57 : decode cX3_runReplay 57 = .ok (.getfield 10, 3) := by decide +kernel
theorem dX3_runReplay_60 : decode cX3_runReplay 60 = .ok (.getfield 51, 3) := by decide +kernel
theorem dX3_runReplay_63 : decode cX3_runReplay 63 = .ok (.getfield 201, 3) := by decide +kernel
theorem dX3_runReplay_66 : decode cX3_runReplay 66 = .ok (.iload 4, 2) := by decide +kernel
theorem dX3_runReplay_68 : decode cX3_runReplay 68 = .ok (.iaload, 1) := by decide +kernel
theorem dX3_runReplay_69 : decode cX3_runReplay 69 = .ok (.istore 6, 2) := by decide +kernel
theorem dX3_runReplay_71 : decode cX3_runReplay 71 = .ok (.iload 5, 2) := by decide +kernel
theorem dX3_runReplay_73 : decode cX3_runReplay 73 = .ok (.invokestatic 82, 3) := by decide +kernel
theorem dX3_runReplay_76 : decode cX3_runReplay 76 = .ok (.ifCond .eq 63, 3) := by decide +kernel
theorem dX3_runReplay_79 : decode cX3_runReplay 79 = .ok (.aload_n 0, 1) := by decide +kernel
theorem dX3_runReplay_80 : decode cX3_runReplay 80 = .ok (.getfield 31, 3) := by decide +kernel
theorem dX3_runReplay_83 : decode cX3_runReplay 83 = .ok (.iload 6, 2) := by decide +kernel
theorem dX3_runReplay_85 : decode cX3_runReplay 85 = .ok (.i2l, 1) := by decide +kernel
theorem dX3_runReplay_86 : decode cX3_runReplay 86 = .ok (.aload_n 0, 1) := by decide +kernel
theorem dX3_runReplay_87 : decode cX3_runReplay 87 = .ok (.getfield 10, 3) := by decide +kernel
theorem dX3_runReplay_90 : decode cX3_runReplay 90 = .ok (.getfield 92, 3) := by decide +kernel
theorem dX3_runReplay_93 : decode cX3_runReplay 93 = .ok (.iload 5, 2) := by decide +kernel
theorem dX3_runReplay_95 : decode cX3_runReplay 95 = .ok (.iaload, 1) := by decide +kernel
theorem dX3_runReplay_96 : decode cX3_runReplay 96 = .ok (.aload_n 0, 1) := by decide +kernel
theorem dX3_runReplay_97 : decode cX3_runReplay 97 = .ok (.getfield 10, 3) := by decide +kernel
theorem dX3_runReplay_100 : decode cX3_runReplay 100 = .ok (.getfield 89, 3) := by decide +kernel
theorem dX3_runReplay_103 : decode cX3_runReplay 103 = .ok (.iload 5, 2) := by decide +kernel
theorem dX3_runReplay_105 : decode cX3_runReplay 105 = .ok (.iaload, 1) := by decide +kernel
theorem dX3_runReplay_106 : decode cX3_runReplay 106 = .ok (.i2l, 1) := by decide +kernel
theorem dX3_runReplay_107 : decode cX3_runReplay 107 = .ok (.lconst 0, 1) := by decide +kernel
theorem dX3_runReplay_108 : decode cX3_runReplay 108 = .ok (.invokevirtual 115, 3) := by decide +kernel
theorem dX3_runReplay_111 : decode cX3_runReplay 111 = .ok (.istore 7, 2) := by decide +kernel
theorem dX3_runReplay_113 : decode cX3_runReplay 113 = .ok (.iload 7, 2) := by decide +kernel
theorem dX3_runReplay_115 : decode cX3_runReplay 115 = .ok (.ldc 106, 2) := by decide +kernel
theorem dX3_runReplay_117 : decode cX3_runReplay 117 = .ok (.if_icmp .ne 6, 3) := by decide +kernel
theorem dX3_runReplay_120 : decode cX3_runReplay 120 = .ok (.ldc 106, 2) := by decide +kernel
theorem dX3_runReplay_122 : decode cX3_runReplay 122 = .ok (.ireturn, 1) := by decide +kernel
theorem dX3_runReplay_123 : decode cX3_runReplay 123 = .ok (.lload_n 2, 1) := by decide +kernel
theorem dX3_runReplay_124 : decode cX3_runReplay 124 = .ok (.aload_n 0, 1) := by decide +kernel
theorem dX3_runReplay_125 : decode cX3_runReplay 125 = .ok (.getfield 31, 3) := by decide +kernel
theorem dX3_runReplay_128 : decode cX3_runReplay 128 = .ok (.getfield 131, 3) := by decide +kernel
theorem dX3_runReplay_131 : decode cX3_runReplay 131 = .ok (.invokestatic 204, 3) := by decide +kernel
theorem dX3_runReplay_134 : decode cX3_runReplay 134 = .ok (.ladd, 1) := by decide +kernel
theorem dX3_runReplay_135 : decode cX3_runReplay 135 = .ok (.lstore_n 2, 1) := by decide +kernel
theorem dX3_runReplay_136 : decode cX3_runReplay 136 = .ok (.goto 29, 3) := by decide +kernel
theorem dX3_runReplay_139 : decode cX3_runReplay 139 = .ok (.aload_n 0, 1) := by decide +kernel
theorem dX3_runReplay_140 : decode cX3_runReplay 140 = .ok (.getfield 31, 3) := by decide +kernel
theorem dX3_runReplay_143 : decode cX3_runReplay 143 = .ok (.iload 6, 2) := by decide +kernel
theorem dX3_runReplay_145 : decode cX3_runReplay 145 = .ok (.i2l, 1) := by decide +kernel
theorem dX3_runReplay_146 : decode cX3_runReplay 146 = .ok (.aload_n 0, 1) := by decide +kernel
theorem dX3_runReplay_147 : decode cX3_runReplay 147 = .ok (.getfield 10, 3) := by decide +kernel
theorem dX3_runReplay_150 : decode cX3_runReplay 150 = .ok (.getfield 79, 3) := by decide +kernel
theorem dX3_runReplay_153 : decode cX3_runReplay 153 = .ok (.i2l, 1) := by decide +kernel
theorem dX3_runReplay_154 : decode cX3_runReplay 154 = .ok (.iload_n 1, 1) := by decide +kernel
theorem dX3_runReplay_155 : decode cX3_runReplay 155 = .ok (.i2l, 1) := by decide +kernel
theorem dX3_runReplay_156 : decode cX3_runReplay 156 = .ok (.invokevirtual 102, 3) := by decide +kernel
theorem dX3_runReplay_159 : decode cX3_runReplay 159 = .ok (.ifCond .ne 6, 3) := by decide +kernel
theorem dX3_runReplay_162 : decode cX3_runReplay 162 = .ok (.ldc 106, 2) := by decide +kernel
theorem dX3_runReplay_164 : decode cX3_runReplay 164 = .ok (.ireturn, 1) := by decide +kernel
theorem dX3_runReplay_165 : decode cX3_runReplay 165 = .ok (.iinc 4 1, 3) := by decide +kernel
theorem dX3_runReplay_168 : decode cX3_runReplay 168 = .ok (.goto (-149), 3) := by decide +kernel
theorem dX3_runReplay_171 : decode cX3_runReplay 171 = .ok (.lload_n 2, 1) := by decide +kernel
theorem dX3_runReplay_172 : decode cX3_runReplay 172 = .ok (.invokestatic 207, 3) := by decide +kernel
theorem dX3_runReplay_175 : decode cX3_runReplay 175 = .ok (.ifCond .eq 8, 3) := by decide +kernel
theorem dX3_runReplay_178 : decode cX3_runReplay 178 = .ok (.lload_n 2, 1) := by decide +kernel
theorem dX3_runReplay_179 : decode cX3_runReplay 179 = .ok (.l2i, 1) := by decide +kernel
theorem dX3_runReplay_180 : decode cX3_runReplay 180 = .ok (.goto 5, 3) := by decide +kernel
theorem dX3_runReplay_183 : decode cX3_runReplay 183 = .ok (.ldc 106, 2) := by decide +kernel
theorem dX3_runReplay_185 : decode cX3_runReplay 185 = .ok (.ireturn, 1) := by decide +kernel
set_option maxRecDepth 20000 in
theorem ggX4_init_X4_forget : GoodIn wsX4_init wsX4_forget := goodIn_r _ [14, 5, 15, 16, 17, 18, 19, 20, 21, 22, 23, 24] (by decide +kernel) (by decide +kernel)
set_option maxRecDepth 20000 in
theorem gX4_init_X4_forget : GoodIn wsX4_init (wsV RX4 23 RX4 yX4_forget wsX4_forget) := goodIn_app (goodIn_of _ (by decide +kernel)) ggX4_init_X4_forget
theorem dX4_init_0 : decode cX4_init 0 = .ok (.aload_n 0, 1) := by decide +kernel
theorem dX4_init_1 : decode cX4_init 1 = .ok (.invokespecial 1, 3) := by decide +kernel
theorem dX4_init_4 : decode cX4_init 4 = .ok (.aload_n 0, 1) := by decide +kernel
theorem dX4_init_5 : decode cX4_init 5 = .ok (.bipush 71, 2) := by decide +kernel
theorem dX4_init_7 : decode cX4_init 7 = .ok (.newarray .int, 2) := by decide +kernel
theorem dX4_init_9 : decode cX4_init 9 = .ok (.putfield 7, 3) := by decide +kernel
theorem dX4_init_12 : decode cX4_init 12 = .ok (.aload_n 0, 1) := by decide +kernel
theorem dX4_init_13 : decode cX4_init 13 = .ok (.sipush 284, 3) := by decide +kernel
theorem dX4_init_16 : decode cX4_init 16 = .ok (.newarray .int, 2) := by decide +kernel
theorem dX4_init_18 : decode cX4_init 18 = .ok (.putfield 13, 3) := by decide +kernel
theorem dX4_init_21 : decode cX4_init 21 = .ok (.aload_n 0, 1) := by decide +kernel
theorem dX4_init_22 : decode cX4_init 22 = .ok (.iconst 3, 1) := by decide +kernel
theorem dX4_init_23 : decode cX4_init 23 = .ok (.newarray .int, 2) := by decide +kernel
theorem dX4_init_25 : decode cX4_init 25 = .ok (.putfield 16, 3) := by decide +kernel
theorem dX4_init_28 : decode cX4_init 28 = .ok (.aload_n 0, 1) := by decide +kernel
theorem dX4_init_29 : decode cX4_init 29 = .ok (.iconst 5, 1) := by decide +kernel
theorem dX4_init_30 : decode cX4_init 30 = .ok (.newarray .long, 2) := by decide +kernel
theorem dX4_init_32 : decode cX4_init 32 = .ok (.putfield 19, 3) := by decide +kernel
theorem dX4_init_35 : decode cX4_init 35 = .ok (.aload_n 0, 1) := by decide +kernel
theorem dX4_init_36 : decode cX4_init 36 = .ok (.getfield 7, 3) := by decide +kernel
theorem dX4_init_39 : decode cX4_init 39 = .ok (.iconst 2, 1) := by decide +kernel
theorem dX4_init_40 : decode cX4_init 40 = .ok (.sipush 4096, 3) := by decide +kernel
theorem dX4_init_43 : decode cX4_init 43 = .ok (.iastore, 1) := by decide +kernel
theorem dX4_init_44 : decode cX4_init 44 = .ok (.aload_n 0, 1) := by decide +kernel
theorem dX4_init_45 : decode cX4_init 45 = .ok (.getfield 7, 3) := by decide +kernel
theorem dX4_init_48 : decode cX4_init 48 = .ok (.iconst 4, 1) := by decide +kernel
theorem dX4_init_49 : decode cX4_init 49 = .ok (.sipush 4096, 3) := by decide +kernel
theorem dX4_init_52 : decode cX4_init 52 = .ok (.iastore, 1) := by decide +kernel
theorem dX4_init_53 : decode cX4_init 53 = .ok (.aload_n 0, 1) := by decide +kernel
theorem dX4_init_54 : decode cX4_init 54 = .ok (.getfield 7, 3) := by decide +kernel
theorem dX4_init_57 : decode cX4_init 57 = .ok (.bipush 6, 2) := by decide +kernel
theorem dX4_init_59 : decode cX4_init 59 = .ok (.bipush 64, 2) := by decide +kernel
theorem dX4_init_61 : decode cX4_init 61 = .ok (.iastore, 1) := by decide +kernel
theorem dX4_init_62 : decode cX4_init 62 = .ok (.aload_n 0, 1) := by decide +kernel
theorem dX4_init_63 : decode cX4_init 63 = .ok (.getfield 7, 3) := by decide +kernel
theorem dX4_init_66 : decode cX4_init 66 = .ok (.bipush 7, 2) := by decide +kernel
theorem dX4_init_68 : decode cX4_init 68 = .ok (.bipush 9, 2) := by decide +kernel
theorem dX4_init_70 : decode cX4_init 70 = .ok (.iastore, 1) := by decide +kernel
theorem dX4_init_71 : decode cX4_init 71 = .ok (.iconst 0, 1) := by decide +kernel
theorem dX4_init_72 : decode cX4_init 72 = .ok (.istore_n 1, 1) := by decide +kernel
theorem dX4_init_73 : decode cX4_init 73 = .ok (.iload_n 1, 1) := by decide +kernel
theorem dX4_init_74 : decode cX4_init 74 = .ok (.iconst 4, 1) := by decide +kernel
theorem dX4_init_75 : decode cX4_init 75 = .ok (.if_icmp .ge 21, 3) := by decide +kernel
theorem dX4_init_78 : decode cX4_init 78 = .ok (.aload_n 0, 1) := by decide +kernel
theorem dX4_init_79 : decode cX4_init 79 = .ok (.getfield 7, 3) := by decide +kernel
theorem dX4_init_82 : decode cX4_init 82 = .ok (.bipush 12, 2) := by decide +kernel
theorem dX4_init_84 : decode cX4_init 84 = .ok (.iload_n 1, 1) := by decide +kernel
theorem dX4_init_85 : decode cX4_init 85 = .ok (.iadd, 1) := by decide +kernel
theorem dX4_init_86 : decode cX4_init 86 = .ok (.sipush 4096, 3) := by decide +kernel
theorem dX4_init_89 : decode cX4_init 89 = .ok (.iastore, 1) := by decide +kernel
theorem dX4_init_90 : decode cX4_init 90 = .ok (.iinc 1 1, 3) := by decide +kernel
theorem dX4_init_93 : decode cX4_init 93 = .ok (.goto (-20), 3) := by decide +kernel
theorem dX4_init_96 : decode cX4_init 96 = .ok (.aload_n 0, 1) := by decide +kernel
theorem dX4_init_97 : decode cX4_init 97 = .ok (.invokevirtual 23, 3) := by decide +kernel
theorem dX4_init_100 : decode cX4_init 100 = .ok (.return_, 1) := by decide +kernel
theorem dX4_in_0 : decode cX4_in 0 = .ok (.iload_n 0, 1) := by decide +kernel
theorem dX4_in_1 : decode cX4_in 1 = .ok (.iload_n 1, 1) := by decide +kernel
theorem dX4_in_2 : decode cX4_in 2 = .ok (.if_icmp .lt 12, 3) := by decide +kernel
theorem dX4_in_5 : decode cX4_in 5 = .ok (.iload_n 0, 1) := by decide +kernel
theorem dX4_in_6 : decode cX4_in 6 = .ok (.iload_n 2, 1) := by decide +kernel
theorem dX4_in_7 : decode cX4_in 7 = .ok (.if_icmp .gt 7, 3) := by decide +kernel
theorem dX4_in_10 : decode cX4_in 10 = .ok (.iconst 1, 1) := by decide +kernel
theorem dX4_in_11 : decode cX4_in 11 = .ok (.goto 4, 3) := by decide +kernel
theorem dX4_in_14 : decode cX4_in 14 = .ok (.iconst 0, 1) := by decide +kernel
theorem dX4_in_15 : decode cX4_in 15 = .ok (.ireturn, 1) := by decide +kernel
theorem dX4_fail_0 : decode cX4_fail 0 = .ok (.aload_n 0, 1) := by decide +kernel
theorem dX4_fail_1 : decode cX4_fail 1 = .ok (.getfield 16, 3) := by decide +kernel
theorem dX4_fail_4 : decode cX4_fail 4 = .ok (.ldc 26, 2) := by decide +kernel
theorem dX4_fail_6 : decode cX4_fail 6 = .ok (.iload_n 1, 1) := by decide +kernel
theorem dX4_fail_7 : decode cX4_fail 7 = .ok (.isub, 1) := by decide +kernel
theorem dX4_fail_8 : decode cX4_fail 8 = .ok (.dup2, 1) := by decide +kernel
theorem dX4_fail_9 : decode cX4_fail 9 = .ok (.iaload, 1) := by decide +kernel
theorem dX4_fail_10 : decode cX4_fail 10 = .ok (.iconst 1, 1) := by decide +kernel
theorem dX4_fail_11 : decode cX4_fail 11 = .ok (.iadd, 1) := by decide +kernel
theorem dX4_fail_12 : decode cX4_fail 12 = .ok (.iastore, 1) := by decide +kernel
theorem dX4_fail_13 : decode cX4_fail 13 = .ok (.iload_n 1, 1) := by decide +kernel
theorem dX4_fail_14 : decode cX4_fail 14 = .ok (.ireturn, 1) := by decide +kernel
theorem dX4_forget_0 : decode cX4_forget 0 = .ok (.aload_n 0, 1) := by decide +kernel
theorem dX4_forget_1 : decode cX4_forget 1 = .ok (.getfield 7, 3) := by decide +kernel
theorem dX4_forget_4 : decode cX4_forget 4 = .ok (.bipush 16, 2) := by decide +kernel
theorem dX4_forget_6 : decode cX4_forget 6 = .ok (.ldc 27, 2) := by decide +kernel
theorem dX4_forget_8 : decode cX4_forget 8 = .ok (.iastore, 1) := by decide +kernel
theorem dX4_forget_9 : decode cX4_forget 9 = .ok (.aload_n 0, 1) := by decide +kernel
theorem dX4_forget_10 : decode cX4_forget 10 = .ok (.getfield 7, 3) := by decide +kernel
theorem dX4_forget_13 : decode cX4_forget 13 = .ok (.bipush 17, 2) := by decide +kernel
theorem dX4_forget_15 : decode cX4_forget 15 = .ok (.ldc 27, 2) := by decide +kernel
theorem dX4_forget_17 : decode cX4_forget 17 = .ok (.iastore, 1) := by decide +kernel
theorem dX4_forget_18 : decode cX4_forget 18 = .ok (.aload_n 0, 1) := by decide +kernel
theorem dX4_forget_19 : decode cX4_forget 19 = .ok (.getfield 7, 3) := by decide +kernel
theorem dX4_forget_22 : decode cX4_forget 22 = .ok (.bipush 18, 2) := by decide +kernel
theorem dX4_forget_24 : decode cX4_forget 24 = .ok (.ldc 27, 2) := by decide +kernel
theorem dX4_forget_26 : decode cX4_forget 26 = .ok (.iastore, 1) := by decide +kernel
theorem dX4_forget_27 : decode cX4_forget 27 = .ok (.aload_n 0, 1) := by decide +kernel
theorem dX4_forget_28 : decode cX4_forget 28 = .ok (.getfield 7, 3) := by decide +kernel
theorem dX4_forget_31 : decode cX4_forget 31 = .ok (.bipush 19, 2) := by decide +kernel
theorem dX4_forget_33 : decode cX4_forget 33 = .ok (.iconst 0, 1) := by decide +kernel
theorem dX4_forget_34 : decode cX4_forget 34 = .ok (.iastore, 1) := by decide +kernel
theorem dX4_forget_35 : decode cX4_forget 35 = .ok (.aload_n 0, 1) := by decide +kernel
theorem dX4_forget_36 : decode cX4_forget 36 = .ok (.getfield 7, 3) := by decide +kernel
theorem dX4_forget_39 : decode cX4_forget 39 = .ok (.bipush 20, 2) := by decide +kernel
theorem dX4_forget_41 : decode cX4_forget 41 = .ok (.iconst 0, 1) := by decide +kernel
theorem dX4_forget_42 : decode cX4_forget 42 = .ok (.iastore, 1) := by decide +kernel
theorem dX4_forget_43 : decode cX4_forget 43 = .ok (.aload_n 0, 1) := by decide +kernel
theorem dX4_forget_44 : decode cX4_forget 44 = .ok (.getfield 7, 3) := by decide +kernel
theorem dX4_forget_47 : decode cX4_forget 47 = .ok (.bipush 21, 2) := by decide +kernel
theorem dX4_forget_49 : decode cX4_forget 49 = .ok (.iconst 0, 1) := by decide +kernel
theorem dX4_forget_50 : decode cX4_forget 50 = .ok (.iastore, 1) := by decide +kernel
theorem dX4_forget_51 : decode cX4_forget 51 = .ok (.aload_n 0, 1) := by decide +kernel
theorem dX4_forget_52 : decode cX4_forget 52 = .ok (.getfield 7, 3) := by decide +kernel
theorem dX4_forget_55 : decode cX4_forget 55 = .ok (.bipush 22, 2) := by decide +kernel
theorem dX4_forget_57 : decode cX4_forget 57 = .ok (.iconst 0, 1) := by decide +kernel
theorem dX4_forget_58 : decode cX4_forget 58 = .ok (.iastore, 1) := by decide +kernel
theorem dX4_forget_59 : decode cX4_forget 59 = .ok (.bipush 23, 2) := by decide +kernel
theorem dX4_forget_61 : decode cX4_forget 61 = .ok (.istore_n 1, 1) := by decide +kernel
theorem dX4_forget_62 : decode cX4_forget 62 = .ok (.iload_n 1, 1) := by decide +kernel
theorem dX4_forget_63 : decode cX4_forget 63 = .ok (.bipush 71, 2) := by decide +kernel
theorem dX4_forget_65 : decode cX4_forget 65 = .ok (.if_icmp .ge 16, 3) := by decide +kernel
theorem dX4_forget_68 : decode cX4_forget 68 = .ok (.aload_n 0, 1) := by decide +kernel
theorem dX4_forget_69 : decode cX4_forget 69 = .ok (.getfield 7, 3) := by decide +kernel
theorem dX4_forget_72 : decode cX4_forget 72 = .ok (.iload_n 1, 1) := by decide +kernel
theorem dX4_forget_73 : decode cX4_forget 73 = .ok (.iconst 0, 1) := by decide +kernel
theorem dX4_forget_74 : decode cX4_forget 74 = .ok (.iastore, 1) := by decide +kernel
theorem dX4_forget_75 : decode cX4_forget 75 = .ok (.iinc 1 1, 3) := by decide +kernel
theorem dX4_forget_78 : decode cX4_forget 78 = .ok (.goto (-16), 3) := by decide +kernel
theorem dX4_forget_81 : decode cX4_forget 81 = .ok (.return_, 1) := by decide +kernel
theorem dX4_note_0 : decode cX4_note 0 = .ok (.aload_n 0, 1) := by decide +kernel
theorem dX4_note_1 : decode cX4_note 1 = .ok (.getfield 28, 3) := by decide +kernel
theorem dX4_note_4 : decode cX4_note 4 = .ok (.iconst 4, 1) := by decide +kernel
theorem dX4_note_5 : decode cX4_note 5 = .ok (.if_icmp .ne 43, 3) := by decide +kernel
theorem dX4_note_8 : decode cX4_note 8 = .ok (.iconst 0, 1) := by decide +kernel
theorem dX4_note_9 : decode cX4_note 9 = .ok (.istore_n 1, 1) := by decide +kernel
theorem dX4_note_10 : decode cX4_note 10 = .ok (.iload_n 1, 1) := by decide +kernel
theorem dX4_note_11 : decode cX4_note 11 = .ok (.sipush 213, 3) := by decide +kernel
theorem dX4_note_14 : decode cX4_note 14 = .ok (.if_icmp .ge 24, 3) := by decide +kernel
theorem dX4_note_17 : decode cX4_note 17 = .ok (.aload_n 0, 1) := by decide +kernel
theorem dX4_note_18 : decode cX4_note 18 = .ok (.getfield 13, 3) := by decide +kernel
theorem dX4_note_21 : decode cX4_note 21 = .ok (.iload_n 1, 1) := by decide +kernel
end
section
theorem dX4_note_22 : decode cX4_note 22 = .ok (.aload_n 0, 1) := by decide +kernel
theorem dX4_note_23 : decode cX4_note 23 = .ok (.getfield 13, 3) := by decide +kernel
theorem dX4_note_26 : decode cX4_note 26 = .ok (.iload_n 1, 1) := by decide +kernel
theorem dX4_note_27 : decode cX4_note 27 = .ok (.bipush 71, 2) := by decide +kernel
theorem dX4_note_29 : decode cX4_note 29 = .ok (.iadd, 1) := by decide +kernel
theorem dX4_note_30 : decode cX4_note 30 = .ok (.iaload, 1) := by decide +kernel
theorem dX4_note_31 : decode cX4_note 31 = .ok (.iastore, 1) := by decide +kernel
theorem dX4_note_32 : decode cX4_note 32 = .ok (.iinc 1 1, 3) := by decide +kernel
theorem dX4_note_35 : decode cX4_note 35 = .ok (.goto (-25), 3) := by decide +kernel
theorem dX4_note_38 : decode cX4_note 38 = .ok (.aload_n 0, 1) := by decide +kernel
theorem dX4_note_39 : decode cX4_note 39 = .ok (.dup, 1) := by decide +kernel
theorem dX4_note_40 : decode cX4_note 40 = .ok (.getfield 28, 3) := by decide +kernel
theorem dX4_note_43 : decode cX4_note 43 = .ok (.iconst 1, 1) := by decide +kernel
theorem dX4_note_44 : decode cX4_note 44 = .ok (.isub, 1) := by decide +kernel
theorem dX4_note_45 : decode cX4_note 45 = .ok (.putfield 28, 3) := by decide +kernel
theorem dX4_note_48 : decode cX4_note 48 = .ok (.iconst 0, 1) := by decide +kernel
theorem dX4_note_49 : decode cX4_note 49 = .ok (.istore_n 1, 1) := by decide +kernel
theorem dX4_note_50 : decode cX4_note 50 = .ok (.iload_n 1, 1) := by decide +kernel
theorem dX4_note_51 : decode cX4_note 51 = .ok (.bipush 71, 2) := by decide +kernel
theorem dX4_note_53 : decode cX4_note 53 = .ok (.if_icmp .ge 29, 3) := by decide +kernel
theorem dX4_note_56 : decode cX4_note 56 = .ok (.aload_n 0, 1) := by decide +kernel
theorem dX4_note_57 : decode cX4_note 57 = .ok (.getfield 13, 3) := by decide +kernel
theorem dX4_note_60 : decode cX4_note 60 = .ok (.bipush 71, 2) := by decide +kernel
theorem dX4_note_62 : decode cX4_note 62 = .ok (.aload_n 0, 1) := by decide +kernel
theorem dX4_note_63 : decode cX4_note 63 = .ok (.getfield 28, 3) := by decide +kernel
theorem dX4_note_66 : decode cX4_note 66 = .ok (.imul, 1) := by decide +kernel
theorem dX4_note_67 : decode cX4_note 67 = .ok (.iload_n 1, 1) := by decide +kernel
theorem dX4_note_68 : decode cX4_note 68 = .ok (.iadd, 1) := by decide +kernel
theorem dX4_note_69 : decode cX4_note 69 = .ok (.aload_n 0, 1) := by decide +kernel
theorem dX4_note_70 : decode cX4_note 70 = .ok (.getfield 7, 3) := by decide +kernel
theorem dX4_note_73 : decode cX4_note 73 = .ok (.iload_n 1, 1) := by decide +kernel
theorem dX4_note_74 : decode cX4_note 74 = .ok (.iaload, 1) := by decide +kernel
theorem dX4_note_75 : decode cX4_note 75 = .ok (.iastore, 1) := by decide +kernel
theorem dX4_note_76 : decode cX4_note 76 = .ok (.iinc 1 1, 3) := by decide +kernel
theorem dX4_note_79 : decode cX4_note 79 = .ok (.goto (-29), 3) := by decide +kernel
theorem dX4_note_82 : decode cX4_note 82 = .ok (.aload_n 0, 1) := by decide +kernel
theorem dX4_note_83 : decode cX4_note 83 = .ok (.dup, 1) := by decide +kernel
theorem dX4_note_84 : decode cX4_note 84 = .ok (.getfield 28, 3) := by decide +kernel
theorem dX4_note_87 : decode cX4_note 87 = .ok (.iconst 1, 1) := by decide +kernel
theorem dX4_note_88 : decode cX4_note 88 = .ok (.iadd, 1) := by decide +kernel
theorem dX4_note_89 : decode cX4_note 89 = .ok (.putfield 28, 3) := by decide +kernel
theorem dX4_note_92 : decode cX4_note 92 = .ok (.return_, 1) := by decide +kernel
theorem dX4_down_0 : decode cX4_down 0 = .ok (.lload_n 0, 1) := by decide +kernel
theorem dX4_down_1 : decode cX4_down 1 = .ok (.lload_n 2, 1) := by decide +kernel
theorem dX4_down_2 : decode cX4_down 2 = .ok (.ldiv, 1) := by decide +kernel
theorem dX4_down_3 : decode cX4_down 3 = .ok (.lstore 4, 2) := by decide +kernel
theorem dX4_down_5 : decode cX4_down 5 = .ok (.lload_n 0, 1) := by decide +kernel
theorem dX4_down_6 : decode cX4_down 6 = .ok (.lload_n 2, 1) := by decide +kernel
theorem dX4_down_7 : decode cX4_down 7 = .ok (.lrem, 1) := by decide +kernel
theorem dX4_down_8 : decode cX4_down 8 = .ok (.lconst 0, 1) := by decide +kernel
theorem dX4_down_9 : decode cX4_down 9 = .ok (.lcmp, 1) := by decide +kernel
theorem dX4_down_10 : decode cX4_down 10 = .ok (.ifCond .ge 10, 3) := by decide +kernel
theorem dX4_down_13 : decode cX4_down 13 = .ok (.lload 4, 2) := by decide +kernel
theorem dX4_down_15 : decode cX4_down 15 = .ok (.lconst 1, 1) := by decide +kernel
theorem dX4_down_16 : decode cX4_down 16 = .ok (.lsub, 1) := by decide +kernel
theorem dX4_down_17 : decode cX4_down 17 = .ok (.goto 5, 3) := by decide +kernel
theorem dX4_down_20 : decode cX4_down 20 = .ok (.lload 4, 2) := by decide +kernel
theorem dX4_down_22 : decode cX4_down 22 = .ok (.lreturn, 1) := by decide +kernel
set_option maxRecDepth 20000 in
theorem ggX4_mul_X4_down : GoodIn wsX4_mul wsX4_down := goodIn_r _ [6] (by decide +kernel) (by decide +kernel)
set_option maxRecDepth 20000 in
theorem gX4_mul_X4_down : GoodIn wsX4_mul (va_wsS RX4 36 yX4_down wsX4_down) := goodIn_app (goodIn_of _ (by decide +kernel)) ggX4_mul_X4_down
theorem dX4_mul_0 : decode cX4_mul 0 = .ok (.lload_n 0, 1) := by decide +kernel
theorem dX4_mul_1 : decode cX4_mul 1 = .ok (.lload_n 2, 1) := by decide +kernel
theorem dX4_mul_2 : decode cX4_mul 2 = .ok (.lmul, 1) := by decide +kernel
theorem dX4_mul_3 : decode cX4_mul 3 = .ok (.ldc2_w 32, 3) := by decide +kernel
theorem dX4_mul_6 : decode cX4_mul 6 = .ok (.ladd, 1) := by decide +kernel
theorem dX4_mul_7 : decode cX4_mul 7 = .ok (.ldc2_w 34, 3) := by decide +kernel
theorem dX4_mul_10 : decode cX4_mul 10 = .ok (.invokestatic 36, 3) := by decide +kernel
theorem dX4_mul_13 : decode cX4_mul 13 = .ok (.lreturn, 1) := by decide +kernel
set_option maxRecDepth 20000 in
theorem ggX4_div_X4_down : GoodIn wsX4_div wsX4_down := goodIn_r _ [6] (by decide +kernel) (by decide +kernel)
set_option maxRecDepth 20000 in
theorem gX4_div_X4_down : GoodIn wsX4_div (va_wsS RX4 36 yX4_down wsX4_down) := goodIn_app (goodIn_of _ (by decide +kernel)) ggX4_div_X4_down
theorem dX4_div_0 : decode cX4_div 0 = .ok (.lload_n 0, 1) := by decide +kernel
theorem dX4_div_1 : decode cX4_div 1 = .ok (.ldc2_w 34, 3) := by decide +kernel
theorem dX4_div_4 : decode cX4_div 4 = .ok (.lmul, 1) := by decide +kernel
theorem dX4_div_5 : decode cX4_div 5 = .ok (.lload_n 2, 1) := by decide +kernel
theorem dX4_div_6 : decode cX4_div 6 = .ok (.ldc2_w 40, 3) := by decide +kernel
theorem dX4_div_9 : decode cX4_div 9 = .ok (.invokestatic 36, 3) := by decide +kernel
theorem dX4_div_12 : decode cX4_div 12 = .ok (.ladd, 1) := by decide +kernel
theorem dX4_div_13 : decode cX4_div 13 = .ok (.lload_n 2, 1) := by decide +kernel
theorem dX4_div_14 : decode cX4_div 14 = .ok (.invokestatic 36, 3) := by decide +kernel
theorem dX4_div_17 : decode cX4_div 17 = .ok (.lreturn, 1) := by decide +kernel
theorem dX4_isIn_0 : decode cX4_isIn 0 = .ok (.lload_n 0, 1) := by decide +kernel
theorem dX4_isIn_1 : decode cX4_isIn 1 = .ok (.ldc2_w 42, 3) := by decide +kernel
theorem dX4_isIn_4 : decode cX4_isIn 4 = .ok (.lcmp, 1) := by decide +kernel
theorem dX4_isIn_5 : decode cX4_isIn 5 = .ok (.ifCond .lt 15, 3) := by decide +kernel
theorem dX4_isIn_8 : decode cX4_isIn 8 = .ok (.lload_n 0, 1) := by decide +kernel
theorem dX4_isIn_9 : decode cX4_isIn 9 = .ok (.ldc2_w 44, 3) := by decide +kernel
theorem dX4_isIn_12 : decode cX4_isIn 12 = .ok (.lcmp, 1) := by decide +kernel
theorem dX4_isIn_13 : decode cX4_isIn 13 = .ok (.ifCond .gt 7, 3) := by decide +kernel
theorem dX4_isIn_16 : decode cX4_isIn 16 = .ok (.iconst 1, 1) := by decide +kernel
theorem dX4_isIn_17 : decode cX4_isIn 17 = .ok (.goto 4, 3) := by decide +kernel
theorem dX4_isIn_20 : decode cX4_isIn 20 = .ok (.iconst 0, 1) := by decide +kernel
theorem dX4_isIn_21 : decode cX4_isIn 21 = .ok (.ireturn, 1) := by decide +kernel
theorem dX4_take_0 : decode cX4_take 0 = .ok (.iconst 0, 1) := by decide +kernel
theorem dX4_take_1 : decode cX4_take 1 = .ok (.istore_n 1, 1) := by decide +kernel
theorem dX4_take_2 : decode cX4_take 2 = .ok (.iload_n 1, 1) := by decide +kernel
theorem dX4_take_3 : decode cX4_take 3 = .ok (.iconst 5, 1) := by decide +kernel
theorem dX4_take_4 : decode cX4_take 4 = .ok (.if_icmp .ge 22, 3) := by decide +kernel
theorem dX4_take_7 : decode cX4_take 7 = .ok (.aload_n 0, 1) := by decide +kernel
theorem dX4_take_8 : decode cX4_take 8 = .ok (.getfield 19, 3) := by decide +kernel
theorem dX4_take_11 : decode cX4_take 11 = .ok (.iload_n 1, 1) := by decide +kernel
theorem dX4_take_12 : decode cX4_take 12 = .ok (.aload_n 0, 1) := by decide +kernel
theorem dX4_take_13 : decode cX4_take 13 = .ok (.getfield 7, 3) := by decide +kernel
theorem dX4_take_16 : decode cX4_take 16 = .ok (.iload_n 1, 1) := by decide +kernel
theorem dX4_take_17 : decode cX4_take 17 = .ok (.iaload, 1) := by decide +kernel
theorem dX4_take_18 : decode cX4_take 18 = .ok (.i2l, 1) := by decide +kernel
theorem dX4_take_19 : decode cX4_take 19 = .ok (.lastore, 1) := by decide +kernel
theorem dX4_take_20 : decode cX4_take 20 = .ok (.iinc 1 1, 3) := by decide +kernel
theorem dX4_take_23 : decode cX4_take 23 = .ok (.goto (-21), 3) := by decide +kernel
theorem dX4_take_26 : decode cX4_take 26 = .ok (.return_, 1) := by decide +kernel
theorem dX4_put_0 : decode cX4_put 0 = .ok (.iconst 0, 1) := by decide +kernel
theorem dX4_put_1 : decode cX4_put 1 = .ok (.istore_n 1, 1) := by decide +kernel
theorem dX4_put_2 : decode cX4_put 2 = .ok (.iload_n 1, 1) := by decide +kernel
theorem dX4_put_3 : decode cX4_put 3 = .ok (.iconst 5, 1) := by decide +kernel
theorem dX4_put_4 : decode cX4_put 4 = .ok (.if_icmp .ge 22, 3) := by decide +kernel
theorem dX4_put_7 : decode cX4_put 7 = .ok (.aload_n 0, 1) := by decide +kernel
theorem dX4_put_8 : decode cX4_put 8 = .ok (.getfield 7, 3) := by decide +kernel
theorem dX4_put_11 : decode cX4_put 11 = .ok (.iload_n 1, 1) := by decide +kernel
theorem dX4_put_12 : decode cX4_put 12 = .ok (.aload_n 0, 1) := by decide +kernel
theorem dX4_put_13 : decode cX4_put 13 = .ok (.getfield 19, 3) := by decide +kernel
theorem dX4_put_16 : decode cX4_put 16 = .ok (.iload_n 1, 1) := by decide +kernel
theorem dX4_put_17 : decode cX4_put 17 = .ok (.laload, 1) := by decide +kernel
theorem dX4_put_18 : decode cX4_put 18 = .ok (.l2i, 1) := by decide +kernel
theorem dX4_put_19 : decode cX4_put 19 = .ok (.iastore, 1) := by decide +kernel
theorem dX4_put_20 : decode cX4_put 20 = .ok (.iinc 1 1, 3) := by decide +kernel
theorem dX4_put_23 : decode cX4_put 23 = .ok (.goto (-21), 3) := by decide +kernel
theorem dX4_put_26 : decode cX4_put 26 = .ok (.return_, 1) := by decide +kernel
set_option maxRecDepth 20000 in
theorem ggX4_predicts_X4_isIn : GoodIn wsX4_predicts wsX4_isIn := goodIn_r _ [7, 8, 9] (by decide +kernel) (by decide +kernel)
set_option maxRecDepth 20000 in
theorem gX4_predicts_X4_isIn : GoodIn wsX4_predicts (va_wsS RX4 46 yX4_isIn wsX4_isIn) := goodIn_app (goodIn_of _ (by decide +kernel)) ggX4_predicts_X4_isIn
theorem dX4_predicts_0 : decode cX4_predicts 0 = .ok (.aload_n 0, 1) := by decide +kernel
theorem dX4_predicts_1 : decode cX4_predicts 1 = .ok (.getfield 19, 3) := by decide +kernel
theorem dX4_predicts_4 : decode cX4_predicts 4 = .ok (.iconst 0, 1) := by decide +kernel
theorem dX4_predicts_5 : decode cX4_predicts 5 = .ok (.laload, 1) := by decide +kernel
theorem dX4_predicts_6 : decode cX4_predicts 6 = .ok (.aload_n 0, 1) := by decide +kernel
theorem dX4_predicts_7 : decode cX4_predicts 7 = .ok (.getfield 19, 3) := by decide +kernel
theorem dX4_predicts_10 : decode cX4_predicts 10 = .ok (.iconst 1, 1) := by decide +kernel
theorem dX4_predicts_11 : decode cX4_predicts 11 = .ok (.laload, 1) := by decide +kernel
theorem dX4_predicts_12 : decode cX4_predicts 12 = .ok (.ladd, 1) := by decide +kernel
theorem dX4_predicts_13 : decode cX4_predicts 13 = .ok (.iload_n 1, 1) := by decide +kernel
theorem dX4_predicts_14 : decode cX4_predicts 14 = .ok (.i2l, 1) := by decide +kernel
theorem dX4_predicts_15 : decode cX4_predicts 15 = .ok (.ladd, 1) := by decide +kernel
theorem dX4_predicts_16 : decode cX4_predicts 16 = .ok (.lstore_n 3, 1) := by decide +kernel
theorem dX4_predicts_17 : decode cX4_predicts 17 = .ok (.aload_n 0, 1) := by decide +kernel
theorem dX4_predicts_18 : decode cX4_predicts 18 = .ok (.getfield 19, 3) := by decide +kernel
theorem dX4_predicts_21 : decode cX4_predicts 21 = .ok (.iconst 2, 1) := by decide +kernel
theorem dX4_predicts_22 : decode cX4_predicts 22 = .ok (.laload, 1) := by decide +kernel
theorem dX4_predicts_23 : decode cX4_predicts 23 = .ok (.ldc2_w 40, 3) := by decide +kernel
theorem dX4_predicts_26 : decode cX4_predicts 26 = .ok (.aload_n 0, 1) := by decide +kernel
theorem dX4_predicts_27 : decode cX4_predicts 27 = .ok (.getfield 19, 3) := by decide +kernel
theorem dX4_predicts_30 : decode cX4_predicts 30 = .ok (.iconst 3, 1) := by decide +kernel
theorem dX4_predicts_31 : decode cX4_predicts 31 = .ok (.laload, 1) := by decide +kernel
theorem dX4_predicts_32 : decode cX4_predicts 32 = .ok (.lmul, 1) := by decide +kernel
theorem dX4_predicts_33 : decode cX4_predicts 33 = .ok (.ladd, 1) := by decide +kernel
theorem dX4_predicts_34 : decode cX4_predicts 34 = .ok (.aload_n 0, 1) := by decide +kernel
theorem dX4_predicts_35 : decode cX4_predicts 35 = .ok (.getfield 19, 3) := by decide +kernel
theorem dX4_predicts_38 : decode cX4_predicts 38 = .ok (.iconst 4, 1) := by decide +kernel
theorem dX4_predicts_39 : decode cX4_predicts 39 = .ok (.laload, 1) := by decide +kernel
theorem dX4_predicts_40 : decode cX4_predicts 40 = .ok (.ladd, 1) := by decide +kernel
theorem dX4_predicts_41 : decode cX4_predicts 41 = .ok (.aload_n 0, 1) := by decide +kernel
theorem dX4_predicts_42 : decode cX4_predicts 42 = .ok (.getfield 7, 3) := by decide +kernel
theorem dX4_predicts_45 : decode cX4_predicts 45 = .ok (.iconst 5, 1) := by decide +kernel
theorem dX4_predicts_46 : decode cX4_predicts 46 = .ok (.iaload, 1) := by decide +kernel
theorem dX4_predicts_47 : decode cX4_predicts 47 = .ok (.i2l, 1) := by decide +kernel
theorem dX4_predicts_48 : decode cX4_predicts 48 = .ok (.ladd, 1) := by decide +kernel
theorem dX4_predicts_49 : decode cX4_predicts 49 = .ok (.lstore 5, 2) := by decide +kernel
theorem dX4_predicts_51 : decode cX4_predicts 51 = .ok (.aload_n 0, 1) := by decide +kernel
theorem dX4_predicts_52 : decode cX4_predicts 52 = .ok (.getfield 19, 3) := by decide +kernel
theorem dX4_predicts_55 : decode cX4_predicts 55 = .ok (.iconst 3, 1) := by decide +kernel
theorem dX4_predicts_56 : decode cX4_predicts 56 = .ok (.laload, 1) := by decide +kernel
theorem dX4_predicts_57 : decode cX4_predicts 57 = .ok (.aload_n 0, 1) := by decide +kernel
theorem dX4_predicts_58 : decode cX4_predicts 58 = .ok (.getfield 19, 3) := by decide +kernel
theorem dX4_predicts_61 : decode cX4_predicts 61 = .ok (.iconst 4, 1) := by decide +kernel
theorem dX4_predicts_62 : decode cX4_predicts 62 = .ok (.laload, 1) := by decide +kernel
theorem dX4_predicts_63 : decode cX4_predicts 63 = .ok (.ladd, 1) := by decide +kernel
theorem dX4_predicts_64 : decode cX4_predicts 64 = .ok (.lstore 7, 2) := by decide +kernel
theorem dX4_predicts_66 : decode cX4_predicts 66 = .ok (.aload_n 0, 1) := by decide +kernel
theorem dX4_predicts_67 : decode cX4_predicts 67 = .ok (.getfield 19, 3) := by decide +kernel
theorem dX4_predicts_70 : decode cX4_predicts 70 = .ok (.iconst 4, 1) := by decide +kernel
theorem dX4_predicts_71 : decode cX4_predicts 71 = .ok (.laload, 1) := by decide +kernel
theorem dX4_predicts_72 : decode cX4_predicts 72 = .ok (.iload_n 2, 1) := by decide +kernel
theorem dX4_predicts_73 : decode cX4_predicts 73 = .ok (.i2l, 1) := by decide +kernel
theorem dX4_predicts_74 : decode cX4_predicts 74 = .ok (.ladd, 1) := by decide +kernel
theorem dX4_predicts_75 : decode cX4_predicts 75 = .ok (.lstore 9, 2) := by decide +kernel
theorem dX4_predicts_77 : decode cX4_predicts 77 = .ok (.lload 5, 2) := by decide +kernel
theorem dX4_predicts_79 : decode cX4_predicts 79 = .ok (.lconst 0, 1) := by decide +kernel
theorem dX4_predicts_80 : decode cX4_predicts 80 = .ok (.lcmp, 1) := by decide +kernel
theorem dX4_predicts_81 : decode cX4_predicts 81 = .ok (.ifCond .ge 7, 3) := by decide +kernel
theorem dX4_predicts_84 : decode cX4_predicts 84 = .ok (.lconst 0, 1) := by decide +kernel
theorem dX4_predicts_85 : decode cX4_predicts 85 = .ok (.goto 5, 3) := by decide +kernel
theorem dX4_predicts_88 : decode cX4_predicts 88 = .ok (.lload 5, 2) := by decide +kernel
theorem dX4_predicts_90 : decode cX4_predicts 90 = .ok (.lstore 5, 2) := by decide +kernel
theorem dX4_predicts_92 : decode cX4_predicts 92 = .ok (.lload_n 3, 1) := by decide +kernel
theorem dX4_predicts_93 : decode cX4_predicts 93 = .ok (.invokestatic 46, 3) := by decide +kernel
theorem dX4_predicts_96 : decode cX4_predicts 96 = .ok (.ifCond .eq 27, 3) := by decide +kernel
theorem dX4_predicts_99 : decode cX4_predicts 99 = .ok (.lload 5, 2) := by decide +kernel
theorem dX4_predicts_101 : decode cX4_predicts 101 = .ok (.invokestatic 46, 3) := by decide +kernel
theorem dX4_predicts_104 : decode cX4_predicts 104 = .ok (.ifCond .eq 19, 3) := by decide +kernel
theorem dX4_predicts_107 : decode cX4_predicts 107 = .ok (.lload 7, 2) := by decide +kernel
theorem dX4_predicts_109 : decode cX4_predicts 109 = .ok (.invokestatic 46, 3) := by decide +kernel
theorem dX4_predicts_112 : decode cX4_predicts 112 = .ok (.ifCond .eq 11, 3) := by decide +kernel
theorem dX4_predicts_115 : decode cX4_predicts 115 = .ok (.lload 9, 2) := by decide +kernel
theorem dX4_predicts_117 : decode cX4_predicts 117 = .ok (.invokestatic 46, 3) := by decide +kernel
theorem dX4_predicts_120 : decode cX4_predicts 120 = .ok (.ifCond .ne 5, 3) := by decide +kernel
theorem dX4_predicts_123 : decode cX4_predicts 123 = .ok (.iconst 0, 1) := by decide +kernel
theorem dX4_predicts_124 : decode cX4_predicts 124 = .ok (.ireturn, 1) := by decide +kernel
theorem dX4_predicts_125 : decode cX4_predicts 125 = .ok (.aload_n 0, 1) := by decide +kernel
theorem dX4_predicts_126 : decode cX4_predicts 126 = .ok (.getfield 19, 3) := by decide +kernel
theorem dX4_predicts_129 : decode cX4_predicts 129 = .ok (.iconst 0, 1) := by decide +kernel
theorem dX4_predicts_130 : decode cX4_predicts 130 = .ok (.lload_n 3, 1) := by decide +kernel
theorem dX4_predicts_131 : decode cX4_predicts 131 = .ok (.lastore, 1) := by decide +kernel
theorem dX4_predicts_132 : decode cX4_predicts 132 = .ok (.aload_n 0, 1) := by decide +kernel
theorem dX4_predicts_133 : decode cX4_predicts 133 = .ok (.getfield 19, 3) := by decide +kernel
theorem dX4_predicts_136 : decode cX4_predicts 136 = .ok (.iconst 2, 1) := by decide +kernel
theorem dX4_predicts_137 : decode cX4_predicts 137 = .ok (.lload 5, 2) := by decide +kernel
theorem dX4_predicts_139 : decode cX4_predicts 139 = .ok (.lastore, 1) := by decide +kernel
theorem dX4_predicts_140 : decode cX4_predicts 140 = .ok (.aload_n 0, 1) := by decide +kernel
theorem dX4_predicts_141 : decode cX4_predicts 141 = .ok (.getfield 19, 3) := by decide +kernel
theorem dX4_predicts_144 : decode cX4_predicts 144 = .ok (.iconst 3, 1) := by decide +kernel
theorem dX4_predicts_145 : decode cX4_predicts 145 = .ok (.lload 7, 2) := by decide +kernel
theorem dX4_predicts_147 : decode cX4_predicts 147 = .ok (.lastore, 1) := by decide +kernel
theorem dX4_predicts_148 : decode cX4_predicts 148 = .ok (.aload_n 0, 1) := by decide +kernel
theorem dX4_predicts_149 : decode cX4_predicts 149 = .ok (.getfield 19, 3) := by decide +kernel
theorem dX4_predicts_152 : decode cX4_predicts 152 = .ok (.iconst 4, 1) := by decide +kernel
theorem dX4_predicts_153 : decode cX4_predicts 153 = .ok (.lload 9, 2) := by decide +kernel
theorem dX4_predicts_155 : decode cX4_predicts 155 = .ok (.lastore, 1) := by decide +kernel
theorem dX4_predicts_156 : decode cX4_predicts 156 = .ok (.iconst 1, 1) := by decide +kernel
theorem dX4_predicts_157 : decode cX4_predicts 157 = .ok (.ireturn, 1) := by decide +kernel
set_option maxRecDepth 20000 in
theorem ggX4_corrects_X4_div : GoodIn wsX4_corrects wsX4_div := goodIn_r _ [10, 4, 11, 12, 13, 9, 14] (by decide +kernel) (by decide +kernel)
set_option maxRecDepth 20000 in
theorem gX4_corrects_X4_div : GoodIn wsX4_corrects (va_wsS RX4 54 yX4_div wsX4_div) := goodIn_app (goodIn_of _ (by decide +kernel)) ggX4_corrects_X4_div
set_option maxRecDepth 20000 in
theorem ggX4_corrects_X4_isIn : GoodIn wsX4_corrects wsX4_isIn := goodIn_r _ [17, 18, 19] (by decide +kernel) (by decide +kernel)
set_option maxRecDepth 20000 in
theorem gX4_corrects_X4_isIn : GoodIn wsX4_corrects (va_wsS RX4 46 yX4_isIn wsX4_isIn) := goodIn_app (goodIn_of _ (by decide +kernel)) ggX4_corrects_X4_isIn
set_option maxRecDepth 20000 in
theorem ggX4_corrects_X4_mul : GoodIn wsX4_corrects wsX4_mul := goodIn_r _ [22, 23, 4, 12, 13, 9, 14] (by decide +kernel) (by decide +kernel)
set_option maxRecDepth 20000 in
theorem gX4_corrects_X4_mul : GoodIn wsX4_corrects (va_wsS RX4 57 yX4_mul wsX4_mul) := goodIn_app (goodIn_of _ (by decide +kernel)) ggX4_corrects_X4_mul
theorem dX4_corrects_0 : decode cX4_corrects 0 = .ok (.aload_n 0, 1) := by decide +kernel
theorem dX4_corrects_1 : decode cX4_corrects 1 = .ok (.getfield 7, 3) := by decide +kernel
theorem dX4_corrects_4 : decode cX4_corrects 4 = .ok (.bipush 8, 2) := by decide +kernel
theorem dX4_corrects_6 : decode cX4_corrects 6 = .ok (.iload_n 1, 1) := by decide +kernel
theorem dX4_corrects_7 : decode cX4_corrects 7 = .ok (.iadd, 1) := by decide +kernel
theorem dX4_corrects_8 : decode cX4_corrects 8 = .ok (.iaload, 1) := by decide +kernel
theorem dX4_corrects_9 : decode cX4_corrects 9 = .ok (.ifCond .ne 7, 3) := by decide +kernel
theorem dX4_corrects_12 : decode cX4_corrects 12 = .ok (.iconst 1, 1) := by decide +kernel
theorem dX4_corrects_13 : decode cX4_corrects 13 = .ok (.goto 4, 3) := by decide +kernel
theorem dX4_corrects_16 : decode cX4_corrects 16 = .ok (.iconst 0, 1) := by decide +kernel
theorem dX4_corrects_17 : decode cX4_corrects 17 = .ok (.istore 5, 2) := by decide +kernel
theorem dX4_corrects_19 : decode cX4_corrects 19 = .ok (.lload_n 2, 1) := by decide +kernel
theorem dX4_corrects_20 : decode cX4_corrects 20 = .ok (.iload 5, 2) := by decide +kernel
theorem dX4_corrects_22 : decode cX4_corrects 22 = .ok (.ifCond .eq 12, 3) := by decide +kernel
theorem dX4_corrects_25 : decode cX4_corrects 25 = .ok (.aload_n 0, 1) := by decide +kernel
theorem dX4_corrects_26 : decode cX4_corrects 26 = .ok (.getfield 19, 3) := by decide +kernel
theorem dX4_corrects_29 : decode cX4_corrects 29 = .ok (.iconst 0, 1) := by decide +kernel
theorem dX4_corrects_30 : decode cX4_corrects 30 = .ok (.laload, 1) := by decide +kernel
theorem dX4_corrects_31 : decode cX4_corrects 31 = .ok (.goto 9, 3) := by decide +kernel
theorem dX4_corrects_34 : decode cX4_corrects 34 = .ok (.aload_n 0, 1) := by decide +kernel
theorem dX4_corrects_35 : decode cX4_corrects 35 = .ok (.getfield 19, 3) := by decide +kernel
theorem dX4_corrects_38 : decode cX4_corrects 38 = .ok (.iconst 1, 1) := by decide +kernel
theorem dX4_corrects_39 : decode cX4_corrects 39 = .ok (.laload, 1) := by decide +kernel
theorem dX4_corrects_40 : decode cX4_corrects 40 = .ok (.lsub, 1) := by decide +kernel
theorem dX4_corrects_41 : decode cX4_corrects 41 = .ok (.lstore 6, 2) := by decide +kernel
theorem dX4_corrects_43 : decode cX4_corrects 43 = .ok (.iload 5, 2) := by decide +kernel
theorem dX4_corrects_45 : decode cX4_corrects 45 = .ok (.ifCond .eq 12, 3) := by decide +kernel
theorem dX4_corrects_48 : decode cX4_corrects 48 = .ok (.aload_n 0, 1) := by decide +kernel
theorem dX4_corrects_49 : decode cX4_corrects 49 = .ok (.getfield 19, 3) := by decide +kernel
theorem dX4_corrects_52 : decode cX4_corrects 52 = .ok (.iconst 2, 1) := by decide +kernel
theorem dX4_corrects_53 : decode cX4_corrects 53 = .ok (.laload, 1) := by decide +kernel
theorem dX4_corrects_54 : decode cX4_corrects 54 = .ok (.goto 9, 3) := by decide +kernel
theorem dX4_corrects_57 : decode cX4_corrects 57 = .ok (.aload_n 0, 1) := by decide +kernel
theorem dX4_corrects_58 : decode cX4_corrects 58 = .ok (.getfield 19, 3) := by decide +kernel
theorem dX4_corrects_61 : decode cX4_corrects 61 = .ok (.iconst 4, 1) := by decide +kernel
theorem dX4_corrects_62 : decode cX4_corrects 62 = .ok (.laload, 1) := by decide +kernel
theorem dX4_corrects_63 : decode cX4_corrects 63 = .ok (.aload_n 0, 1) := by decide +kernel
theorem dX4_corrects_64 : decode cX4_corrects 64 = .ok (.getfield 7, 3) := by decide +kernel
theorem dX4_corrects_67 : decode cX4_corrects 67 = .ok (.bipush 12, 2) := by decide +kernel
theorem dX4_corrects_69 : decode cX4_corrects 69 = .ok (.iload_n 1, 1) := by decide +kernel
theorem dX4_corrects_70 : decode cX4_corrects 70 = .ok (.iadd, 1) := by decide +kernel
theorem dX4_corrects_71 : decode cX4_corrects 71 = .ok (.iaload, 1) := by decide +kernel
theorem dX4_corrects_72 : decode cX4_corrects 72 = .ok (.i2l, 1) := by decide +kernel
theorem dX4_corrects_73 : decode cX4_corrects 73 = .ok (.ladd, 1) := by decide +kernel
theorem dX4_corrects_74 : decode cX4_corrects 74 = .ok (.lstore 8, 2) := by decide +kernel
theorem dX4_corrects_76 : decode cX4_corrects 76 = .ok (.aload_n 0, 1) := by decide +kernel
theorem dX4_corrects_77 : decode cX4_corrects 77 = .ok (.lload 6, 2) := by decide +kernel
theorem dX4_corrects_79 : decode cX4_corrects 79 = .ok (.putfield 50, 3) := by decide +kernel
theorem dX4_corrects_82 : decode cX4_corrects 82 = .ok (.iload 4, 2) := by decide +kernel
theorem dX4_corrects_84 : decode cX4_corrects 84 = .ok (.ifCond .eq 24, 3) := by decide +kernel
theorem dX4_corrects_87 : decode cX4_corrects 87 = .ok (.lload 6, 2) := by decide +kernel
theorem dX4_corrects_89 : decode cX4_corrects 89 = .ok (.lload 6, 2) := by decide +kernel
theorem dX4_corrects_91 : decode cX4_corrects 91 = .ok (.lmul, 1) := by decide +kernel
theorem dX4_corrects_92 : decode cX4_corrects 92 = .ok (.iload 4, 2) := by decide +kernel
theorem dX4_corrects_94 : decode cX4_corrects 94 = .ok (.i2l, 1) := by decide +kernel
theorem dX4_corrects_95 : decode cX4_corrects 95 = .ok (.lload 8, 2) := by decide +kernel
theorem dX4_corrects_97 : decode cX4_corrects 97 = .ok (.lmul, 1) := by decide +kernel
theorem dX4_corrects_98 : decode cX4_corrects 98 = .ok (.ldc2_w 34, 3) := by decide +kernel
theorem dX4_corrects_101 : decode cX4_corrects 101 = .ok (.lmul, 1) := by decide +kernel
theorem dX4_corrects_102 : decode cX4_corrects 102 = .ok (.lcmp, 1) := by decide +kernel
theorem dX4_corrects_103 : decode cX4_corrects 103 = .ok (.ifCond .le 5, 3) := by decide +kernel
theorem dX4_corrects_106 : decode cX4_corrects 106 = .ok (.iconst 0, 1) := by decide +kernel
theorem dX4_corrects_107 : decode cX4_corrects 107 = .ok (.ireturn, 1) := by decide +kernel
theorem dX4_corrects_108 : decode cX4_corrects 108 = .ok (.iload 5, 2) := by decide +kernel
theorem dX4_corrects_110 : decode cX4_corrects 110 = .ok (.ifCond .eq 12, 3) := by decide +kernel
theorem dX4_corrects_113 : decode cX4_corrects 113 = .ok (.aload_n 0, 1) := by decide +kernel
theorem dX4_corrects_114 : decode cX4_corrects 114 = .ok (.getfield 19, 3) := by decide +kernel
theorem dX4_corrects_117 : decode cX4_corrects 117 = .ok (.iconst 2, 1) := by decide +kernel
theorem dX4_corrects_118 : decode cX4_corrects 118 = .ok (.laload, 1) := by decide +kernel
theorem dX4_corrects_119 : decode cX4_corrects 119 = .ok (.goto 9, 3) := by decide +kernel
theorem dX4_corrects_122 : decode cX4_corrects 122 = .ok (.aload_n 0, 1) := by decide +kernel
theorem dX4_corrects_123 : decode cX4_corrects 123 = .ok (.getfield 19, 3) := by decide +kernel
theorem dX4_corrects_126 : decode cX4_corrects 126 = .ok (.iconst 3, 1) := by decide +kernel
theorem dX4_corrects_127 : decode cX4_corrects 127 = .ok (.laload, 1) := by decide +kernel
theorem dX4_corrects_128 : decode cX4_corrects 128 = .ok (.lload 8, 2) := by decide +kernel
theorem dX4_corrects_130 : decode cX4_corrects 130 = .ok (.invokestatic 54, 3) := by decide +kernel
theorem dX4_corrects_133 : decode cX4_corrects 133 = .ok (.lstore 10, 2) := by decide +kernel
theorem dX4_corrects_135 : decode cX4_corrects 135 = .ok (.iload 5, 2) := by decide +kernel
theorem dX4_corrects_137 : decode cX4_corrects 137 = .ok (.ifCond .eq 12, 3) := by decide +kernel
theorem dX4_corrects_140 : decode cX4_corrects 140 = .ok (.aload_n 0, 1) := by decide +kernel
theorem dX4_corrects_141 : decode cX4_corrects 141 = .ok (.getfield 19, 3) := by decide +kernel
theorem dX4_corrects_144 : decode cX4_corrects 144 = .ok (.iconst 3, 1) := by decide +kernel
theorem dX4_corrects_145 : decode cX4_corrects 145 = .ok (.laload, 1) := by decide +kernel
theorem dX4_corrects_146 : decode cX4_corrects 146 = .ok (.goto 9, 3) := by decide +kernel
theorem dX4_corrects_149 : decode cX4_corrects 149 = .ok (.aload_n 0, 1) := by decide +kernel
theorem dX4_corrects_150 : decode cX4_corrects 150 = .ok (.getfield 19, 3) := by decide +kernel
theorem dX4_corrects_153 : decode cX4_corrects 153 = .ok (.iconst 4, 1) := by decide +kernel
theorem dX4_corrects_154 : decode cX4_corrects 154 = .ok (.laload, 1) := by decide +kernel
theorem dX4_corrects_155 : decode cX4_corrects 155 = .ok (.lload 8, 2) := by decide +kernel
theorem dX4_corrects_157 : decode cX4_corrects 157 = .ok (.invokestatic 54, 3) := by decide +kernel
theorem dX4_corrects_160 : decode cX4_corrects 160 = .ok (.lstore 12, 2) := by decide +kernel
theorem dX4_corrects_162 : decode cX4_corrects 162 = .ok (.lload 10, 2) := by decide +kernel
theorem dX4_corrects_164 : decode cX4_corrects 164 = .ok (.invokestatic 46, 3) := by decide +kernel
theorem dX4_corrects_167 : decode cX4_corrects 167 = .ok (.ifCond .eq 11, 3) := by decide +kernel
theorem dX4_corrects_170 : decode cX4_corrects 170 = .ok (.lload 12, 2) := by decide +kernel
theorem dX4_corrects_172 : decode cX4_corrects 172 = .ok (.invokestatic 46, 3) := by decide +kernel
theorem dX4_corrects_175 : decode cX4_corrects 175 = .ok (.ifCond .ne 5, 3) := by decide +kernel
theorem dX4_corrects_178 : decode cX4_corrects 178 = .ok (.iconst (-1), 1) := by decide +kernel
theorem dX4_corrects_179 : decode cX4_corrects 179 = .ok (.ireturn, 1) := by decide +kernel
theorem dX4_corrects_180 : decode cX4_corrects 180 = .ok (.aload_n 0, 1) := by decide +kernel
theorem dX4_corrects_181 : decode cX4_corrects 181 = .ok (.getfield 19, 3) := by decide +kernel
theorem dX4_corrects_184 : decode cX4_corrects 184 = .ok (.iconst 0, 1) := by decide +kernel
theorem dX4_corrects_185 : decode cX4_corrects 185 = .ok (.laload, 1) := by decide +kernel
theorem dX4_corrects_186 : decode cX4_corrects 186 = .ok (.lload 10, 2) := by decide +kernel
theorem dX4_corrects_188 : decode cX4_corrects 188 = .ok (.lload 6, 2) := by decide +kernel
theorem dX4_corrects_190 : decode cX4_corrects 190 = .ok (.invokestatic 57, 3) := by decide +kernel
theorem dX4_corrects_193 : decode cX4_corrects 193 = .ok (.ladd, 1) := by decide +kernel
theorem dX4_corrects_194 : decode cX4_corrects 194 = .ok (.lstore 14, 2) := by decide +kernel
theorem dX4_corrects_196 : decode cX4_corrects 196 = .ok (.aload_n 0, 1) := by decide +kernel
theorem dX4_corrects_197 : decode cX4_corrects 197 = .ok (.getfield 19, 3) := by decide +kernel
theorem dX4_corrects_200 : decode cX4_corrects 200 = .ok (.iconst 1, 1) := by decide +kernel
theorem dX4_corrects_201 : decode cX4_corrects 201 = .ok (.laload, 1) := by decide +kernel
theorem dX4_corrects_202 : decode cX4_corrects 202 = .ok (.lload 12, 2) := by decide +kernel
theorem dX4_corrects_204 : decode cX4_corrects 204 = .ok (.lload 6, 2) := by decide +kernel
theorem dX4_corrects_206 : decode cX4_corrects 206 = .ok (.invokestatic 57, 3) := by decide +kernel
theorem dX4_corrects_209 : decode cX4_corrects 209 = .ok (.ladd, 1) := by decide +kernel
theorem dX4_corrects_210 : decode cX4_corrects 210 = .ok (.lstore 16, 2) := by decide +kernel
theorem dX4_corrects_212 : decode cX4_corrects 212 = .ok (.aload_n 0, 1) := by decide +kernel
end
section
theorem dX4_corrects_213 : decode cX4_corrects 213 = .ok (.getfield 19, 3) := by decide +kernel
theorem dX4_corrects_216 : decode cX4_corrects 216 = .ok (.iconst 2, 1) := by decide +kernel
theorem dX4_corrects_217 : decode cX4_corrects 217 = .ok (.laload, 1) := by decide +kernel
theorem dX4_corrects_218 : decode cX4_corrects 218 = .ok (.lload 10, 2) := by decide +kernel
theorem dX4_corrects_220 : decode cX4_corrects 220 = .ok (.iload 5, 2) := by decide +kernel
theorem dX4_corrects_222 : decode cX4_corrects 222 = .ok (.ifCond .eq 12, 3) := by decide +kernel
theorem dX4_corrects_225 : decode cX4_corrects 225 = .ok (.aload_n 0, 1) := by decide +kernel
theorem dX4_corrects_226 : decode cX4_corrects 226 = .ok (.getfield 19, 3) := by decide +kernel
theorem dX4_corrects_229 : decode cX4_corrects 229 = .ok (.iconst 2, 1) := by decide +kernel
theorem dX4_corrects_230 : decode cX4_corrects 230 = .ok (.laload, 1) := by decide +kernel
theorem dX4_corrects_231 : decode cX4_corrects 231 = .ok (.goto 9, 3) := by decide +kernel
theorem dX4_corrects_234 : decode cX4_corrects 234 = .ok (.aload_n 0, 1) := by decide +kernel
theorem dX4_corrects_235 : decode cX4_corrects 235 = .ok (.getfield 19, 3) := by decide +kernel
theorem dX4_corrects_238 : decode cX4_corrects 238 = .ok (.iconst 3, 1) := by decide +kernel
theorem dX4_corrects_239 : decode cX4_corrects 239 = .ok (.laload, 1) := by decide +kernel
theorem dX4_corrects_240 : decode cX4_corrects 240 = .ok (.invokestatic 57, 3) := by decide +kernel
theorem dX4_corrects_243 : decode cX4_corrects 243 = .ok (.lsub, 1) := by decide +kernel
theorem dX4_corrects_244 : decode cX4_corrects 244 = .ok (.lstore 18, 2) := by decide +kernel
theorem dX4_corrects_246 : decode cX4_corrects 246 = .ok (.aload_n 0, 1) := by decide +kernel
theorem dX4_corrects_247 : decode cX4_corrects 247 = .ok (.getfield 19, 3) := by decide +kernel
theorem dX4_corrects_250 : decode cX4_corrects 250 = .ok (.iconst 3, 1) := by decide +kernel
theorem dX4_corrects_251 : decode cX4_corrects 251 = .ok (.laload, 1) := by decide +kernel
theorem dX4_corrects_252 : decode cX4_corrects 252 = .ok (.lload 10, 2) := by decide +kernel
theorem dX4_corrects_254 : decode cX4_corrects 254 = .ok (.iload 5, 2) := by decide +kernel
theorem dX4_corrects_256 : decode cX4_corrects 256 = .ok (.ifCond .eq 12, 3) := by decide +kernel
theorem dX4_corrects_259 : decode cX4_corrects 259 = .ok (.aload_n 0, 1) := by decide +kernel
theorem dX4_corrects_260 : decode cX4_corrects 260 = .ok (.getfield 19, 3) := by decide +kernel
theorem dX4_corrects_263 : decode cX4_corrects 263 = .ok (.iconst 3, 1) := by decide +kernel
theorem dX4_corrects_264 : decode cX4_corrects 264 = .ok (.laload, 1) := by decide +kernel
theorem dX4_corrects_265 : decode cX4_corrects 265 = .ok (.goto 9, 3) := by decide +kernel
theorem dX4_corrects_268 : decode cX4_corrects 268 = .ok (.aload_n 0, 1) := by decide +kernel
theorem dX4_corrects_269 : decode cX4_corrects 269 = .ok (.getfield 19, 3) := by decide +kernel
theorem dX4_corrects_272 : decode cX4_corrects 272 = .ok (.iconst 4, 1) := by decide +kernel
theorem dX4_corrects_273 : decode cX4_corrects 273 = .ok (.laload, 1) := by decide +kernel
theorem dX4_corrects_274 : decode cX4_corrects 274 = .ok (.invokestatic 57, 3) := by decide +kernel
theorem dX4_corrects_277 : decode cX4_corrects 277 = .ok (.lsub, 1) := by decide +kernel
theorem dX4_corrects_278 : decode cX4_corrects 278 = .ok (.lstore 20, 2) := by decide +kernel
theorem dX4_corrects_280 : decode cX4_corrects 280 = .ok (.aload_n 0, 1) := by decide +kernel
theorem dX4_corrects_281 : decode cX4_corrects 281 = .ok (.getfield 19, 3) := by decide +kernel
theorem dX4_corrects_284 : decode cX4_corrects 284 = .ok (.iconst 4, 1) := by decide +kernel
theorem dX4_corrects_285 : decode cX4_corrects 285 = .ok (.laload, 1) := by decide +kernel
theorem dX4_corrects_286 : decode cX4_corrects 286 = .ok (.lload 12, 2) := by decide +kernel
theorem dX4_corrects_288 : decode cX4_corrects 288 = .ok (.iload 5, 2) := by decide +kernel
theorem dX4_corrects_290 : decode cX4_corrects 290 = .ok (.ifCond .eq 12, 3) := by decide +kernel
theorem dX4_corrects_293 : decode cX4_corrects 293 = .ok (.aload_n 0, 1) := by decide +kernel
theorem dX4_corrects_294 : decode cX4_corrects 294 = .ok (.getfield 19, 3) := by decide +kernel
theorem dX4_corrects_297 : decode cX4_corrects 297 = .ok (.iconst 3, 1) := by decide +kernel
theorem dX4_corrects_298 : decode cX4_corrects 298 = .ok (.laload, 1) := by decide +kernel
theorem dX4_corrects_299 : decode cX4_corrects 299 = .ok (.goto 9, 3) := by decide +kernel
theorem dX4_corrects_302 : decode cX4_corrects 302 = .ok (.aload_n 0, 1) := by decide +kernel
theorem dX4_corrects_303 : decode cX4_corrects 303 = .ok (.getfield 19, 3) := by decide +kernel
theorem dX4_corrects_306 : decode cX4_corrects 306 = .ok (.iconst 4, 1) := by decide +kernel
theorem dX4_corrects_307 : decode cX4_corrects 307 = .ok (.laload, 1) := by decide +kernel
theorem dX4_corrects_308 : decode cX4_corrects 308 = .ok (.invokestatic 57, 3) := by decide +kernel
theorem dX4_corrects_311 : decode cX4_corrects 311 = .ok (.lsub, 1) := by decide +kernel
theorem dX4_corrects_312 : decode cX4_corrects 312 = .ok (.lstore 22, 2) := by decide +kernel
theorem dX4_corrects_314 : decode cX4_corrects 314 = .ok (.lload 18, 2) := by decide +kernel
theorem dX4_corrects_316 : decode cX4_corrects 316 = .ok (.lconst 0, 1) := by decide +kernel
theorem dX4_corrects_317 : decode cX4_corrects 317 = .ok (.lcmp, 1) := by decide +kernel
theorem dX4_corrects_318 : decode cX4_corrects 318 = .ok (.ifCond .ge 7, 3) := by decide +kernel
theorem dX4_corrects_321 : decode cX4_corrects 321 = .ok (.lconst 0, 1) := by decide +kernel
theorem dX4_corrects_322 : decode cX4_corrects 322 = .ok (.goto 5, 3) := by decide +kernel
theorem dX4_corrects_325 : decode cX4_corrects 325 = .ok (.lload 18, 2) := by decide +kernel
theorem dX4_corrects_327 : decode cX4_corrects 327 = .ok (.lstore 18, 2) := by decide +kernel
theorem dX4_corrects_329 : decode cX4_corrects 329 = .ok (.lload 22, 2) := by decide +kernel
theorem dX4_corrects_331 : decode cX4_corrects 331 = .ok (.lconst 0, 1) := by decide +kernel
theorem dX4_corrects_332 : decode cX4_corrects 332 = .ok (.lcmp, 1) := by decide +kernel
theorem dX4_corrects_333 : decode cX4_corrects 333 = .ok (.ifCond .ge 7, 3) := by decide +kernel
theorem dX4_corrects_336 : decode cX4_corrects 336 = .ok (.lconst 0, 1) := by decide +kernel
theorem dX4_corrects_337 : decode cX4_corrects 337 = .ok (.goto 5, 3) := by decide +kernel
theorem dX4_corrects_340 : decode cX4_corrects 340 = .ok (.lload 22, 2) := by decide +kernel
theorem dX4_corrects_342 : decode cX4_corrects 342 = .ok (.lstore 22, 2) := by decide +kernel
theorem dX4_corrects_344 : decode cX4_corrects 344 = .ok (.lload 14, 2) := by decide +kernel
theorem dX4_corrects_346 : decode cX4_corrects 346 = .ok (.invokestatic 46, 3) := by decide +kernel
theorem dX4_corrects_349 : decode cX4_corrects 349 = .ok (.ifCond .eq 35, 3) := by decide +kernel
theorem dX4_corrects_352 : decode cX4_corrects 352 = .ok (.lload 16, 2) := by decide +kernel
theorem dX4_corrects_354 : decode cX4_corrects 354 = .ok (.invokestatic 46, 3) := by decide +kernel
theorem dX4_corrects_357 : decode cX4_corrects 357 = .ok (.ifCond .eq 27, 3) := by decide +kernel
theorem dX4_corrects_360 : decode cX4_corrects 360 = .ok (.lload 18, 2) := by decide +kernel
theorem dX4_corrects_362 : decode cX4_corrects 362 = .ok (.invokestatic 46, 3) := by decide +kernel
theorem dX4_corrects_365 : decode cX4_corrects 365 = .ok (.ifCond .eq 19, 3) := by decide +kernel
theorem dX4_corrects_368 : decode cX4_corrects 368 = .ok (.lload 20, 2) := by decide +kernel
theorem dX4_corrects_370 : decode cX4_corrects 370 = .ok (.invokestatic 46, 3) := by decide +kernel
theorem dX4_corrects_373 : decode cX4_corrects 373 = .ok (.ifCond .eq 11, 3) := by decide +kernel
theorem dX4_corrects_376 : decode cX4_corrects 376 = .ok (.lload 22, 2) := by decide +kernel
theorem dX4_corrects_378 : decode cX4_corrects 378 = .ok (.invokestatic 46, 3) := by decide +kernel
theorem dX4_corrects_381 : decode cX4_corrects 381 = .ok (.ifCond .ne 5, 3) := by decide +kernel
theorem dX4_corrects_384 : decode cX4_corrects 384 = .ok (.iconst (-1), 1) := by decide +kernel
theorem dX4_corrects_385 : decode cX4_corrects 385 = .ok (.ireturn, 1) := by decide +kernel
theorem dX4_corrects_386 : decode cX4_corrects 386 = .ok (.aload_n 0, 1) := by decide +kernel
theorem dX4_corrects_387 : decode cX4_corrects 387 = .ok (.getfield 19, 3) := by decide +kernel
theorem dX4_corrects_390 : decode cX4_corrects 390 = .ok (.iconst 0, 1) := by decide +kernel
theorem dX4_corrects_391 : decode cX4_corrects 391 = .ok (.lload 14, 2) := by decide +kernel
theorem dX4_corrects_393 : decode cX4_corrects 393 = .ok (.lastore, 1) := by decide +kernel
theorem dX4_corrects_394 : decode cX4_corrects 394 = .ok (.aload_n 0, 1) := by decide +kernel
theorem dX4_corrects_395 : decode cX4_corrects 395 = .ok (.getfield 19, 3) := by decide +kernel
theorem dX4_corrects_398 : decode cX4_corrects 398 = .ok (.iconst 1, 1) := by decide +kernel
theorem dX4_corrects_399 : decode cX4_corrects 399 = .ok (.lload 16, 2) := by decide +kernel
theorem dX4_corrects_401 : decode cX4_corrects 401 = .ok (.lastore, 1) := by decide +kernel
theorem dX4_corrects_402 : decode cX4_corrects 402 = .ok (.aload_n 0, 1) := by decide +kernel
theorem dX4_corrects_403 : decode cX4_corrects 403 = .ok (.getfield 19, 3) := by decide +kernel
theorem dX4_corrects_406 : decode cX4_corrects 406 = .ok (.iconst 2, 1) := by decide +kernel
theorem dX4_corrects_407 : decode cX4_corrects 407 = .ok (.lload 18, 2) := by decide +kernel
theorem dX4_corrects_409 : decode cX4_corrects 409 = .ok (.lastore, 1) := by decide +kernel
theorem dX4_corrects_410 : decode cX4_corrects 410 = .ok (.aload_n 0, 1) := by decide +kernel
theorem dX4_corrects_411 : decode cX4_corrects 411 = .ok (.getfield 19, 3) := by decide +kernel
theorem dX4_corrects_414 : decode cX4_corrects 414 = .ok (.iconst 3, 1) := by decide +kernel
theorem dX4_corrects_415 : decode cX4_corrects 415 = .ok (.lload 20, 2) := by decide +kernel
theorem dX4_corrects_417 : decode cX4_corrects 417 = .ok (.lastore, 1) := by decide +kernel
theorem dX4_corrects_418 : decode cX4_corrects 418 = .ok (.aload_n 0, 1) := by decide +kernel
theorem dX4_corrects_419 : decode cX4_corrects 419 = .ok (.getfield 19, 3) := by decide +kernel
theorem dX4_corrects_422 : decode cX4_corrects 422 = .ok (.iconst 4, 1) := by decide +kernel
theorem dX4_corrects_423 : decode cX4_corrects 423 = .ok (.lload 22, 2) := by decide +kernel
theorem dX4_corrects_425 : decode cX4_corrects 425 = .ok (.lastore, 1) := by decide +kernel
theorem dX4_corrects_426 : decode cX4_corrects 426 = .ok (.aload_n 0, 1) := by decide +kernel
theorem dX4_corrects_427 : decode cX4_corrects 427 = .ok (.lload 10, 2) := by decide +kernel
theorem dX4_corrects_429 : decode cX4_corrects 429 = .ok (.putfield 60, 3) := by decide +kernel
theorem dX4_corrects_432 : decode cX4_corrects 432 = .ok (.aload_n 0, 1) := by decide +kernel
theorem dX4_corrects_433 : decode cX4_corrects 433 = .ok (.lload 12, 2) := by decide +kernel
theorem dX4_corrects_435 : decode cX4_corrects 435 = .ok (.putfield 63, 3) := by decide +kernel
theorem dX4_corrects_438 : decode cX4_corrects 438 = .ok (.iconst 1, 1) := by decide +kernel
theorem dX4_corrects_439 : decode cX4_corrects 439 = .ok (.ireturn, 1) := by decide +kernel
set_option maxRecDepth 20000 in
theorem ggX4_reset_X4_in : GoodIn wsX4_reset wsX4_in := goodIn_r _ [10] (by decide +kernel) (by decide +kernel)
set_option maxRecDepth 20000 in
theorem gX4_reset_X4_in : GoodIn wsX4_reset (va_wsS RX4 68 yX4_in wsX4_in) := goodIn_app (goodIn_of _ (by decide +kernel)) ggX4_reset_X4_in
set_option maxRecDepth 20000 in
theorem ggX4_reset_X4_fail : GoodIn wsX4_reset wsX4_fail := goodIn_r _ [14, 15, 5, 27, 28, 29, 30, 31, 32, 33, 34, 35] (by decide +kernel) (by decide +kernel)
set_option maxRecDepth 20000 in
theorem gX4_reset_X4_fail : GoodIn wsX4_reset (wsV RX4 74 RX4 yX4_fail wsX4_fail) := goodIn_app (goodIn_of _ (by decide +kernel)) ggX4_reset_X4_fail
set_option maxRecDepth 20000 in
theorem ggX4_reset_X4_note : GoodIn wsX4_reset wsX4_note := goodIn_r _ [19, 20, 21, 6, 27, 28, 29, 30, 31, 32, 33, 34, 35] (by decide +kernel) (by decide +kernel)
set_option maxRecDepth 20000 in
theorem gX4_reset_X4_note : GoodIn wsX4_reset (wsV RX4 78 RX4 yX4_note wsX4_note) := goodIn_app (goodIn_of _ (by decide +kernel)) ggX4_reset_X4_note
set_option maxRecDepth 20000 in
theorem ggX4_reset_X4_forget : GoodIn wsX4_reset wsX4_forget := goodIn_r _ [25, 6, 26, 27, 28, 29, 30, 31, 32, 33, 34, 35] (by decide +kernel) (by decide +kernel)
set_option maxRecDepth 20000 in
theorem gX4_reset_X4_forget : GoodIn wsX4_reset (wsV RX4 23 RX4 yX4_forget wsX4_forget) := goodIn_app (goodIn_of _ (by decide +kernel)) ggX4_reset_X4_forget
theorem dX4_reset_0 : decode cX4_reset 0 = .ok (.iload_n 1, 1) := by decide +kernel
theorem dX4_reset_1 : decode cX4_reset 1 = .ok (.ldc 66, 2) := by decide +kernel
theorem dX4_reset_3 : decode cX4_reset 3 = .ok (.ldc 67, 2) := by decide +kernel
theorem dX4_reset_5 : decode cX4_reset 5 = .ok (.invokestatic 68, 3) := by decide +kernel
theorem dX4_reset_8 : decode cX4_reset 8 = .ok (.ifCond .eq 35, 3) := by decide +kernel
theorem dX4_reset_11 : decode cX4_reset 11 = .ok (.iload_n 2, 1) := by decide +kernel
theorem dX4_reset_12 : decode cX4_reset 12 = .ok (.ldc 72, 2) := by decide +kernel
theorem dX4_reset_14 : decode cX4_reset 14 = .ok (.ldc 73, 2) := by decide +kernel
theorem dX4_reset_16 : decode cX4_reset 16 = .ok (.invokestatic 68, 3) := by decide +kernel
theorem dX4_reset_19 : decode cX4_reset 19 = .ok (.ifCond .eq 24, 3) := by decide +kernel
theorem dX4_reset_22 : decode cX4_reset 22 = .ok (.iload_n 3, 1) := by decide +kernel
theorem dX4_reset_23 : decode cX4_reset 23 = .ok (.iconst 0, 1) := by decide +kernel
theorem dX4_reset_24 : decode cX4_reset 24 = .ok (.ldc 67, 2) := by decide +kernel
theorem dX4_reset_26 : decode cX4_reset 26 = .ok (.invokestatic 68, 3) := by decide +kernel
theorem dX4_reset_29 : decode cX4_reset 29 = .ok (.ifCond .eq 14, 3) := by decide +kernel
theorem dX4_reset_32 : decode cX4_reset 32 = .ok (.iload 4, 2) := by decide +kernel
theorem dX4_reset_34 : decode cX4_reset 34 = .ok (.iconst 0, 1) := by decide +kernel
theorem dX4_reset_35 : decode cX4_reset 35 = .ok (.ldc 67, 2) := by decide +kernel
theorem dX4_reset_37 : decode cX4_reset 37 = .ok (.invokestatic 68, 3) := by decide +kernel
theorem dX4_reset_40 : decode cX4_reset 40 = .ok (.ifCond .ne 10, 3) := by decide +kernel
theorem dX4_reset_43 : decode cX4_reset 43 = .ok (.aload_n 0, 1) := by decide +kernel
theorem dX4_reset_44 : decode cX4_reset 44 = .ok (.ldc 26, 2) := by decide +kernel
theorem dX4_reset_46 : decode cX4_reset 46 = .ok (.invokevirtual 74, 3) := by decide +kernel
theorem dX4_reset_49 : decode cX4_reset 49 = .ok (.ireturn, 1) := by decide +kernel
theorem dX4_reset_50 : decode cX4_reset 50 = .ok (.aload_n 0, 1) := by decide +kernel
theorem dX4_reset_51 : decode cX4_reset 51 = .ok (.invokevirtual 78, 3) := by decide +kernel
theorem dX4_reset_54 : decode cX4_reset 54 = .ok (.aload_n 0, 1) := by decide +kernel
theorem dX4_reset_55 : decode cX4_reset 55 = .ok (.getfield 7, 3) := by decide +kernel
theorem dX4_reset_58 : decode cX4_reset 58 = .ok (.bipush 22, 2) := by decide +kernel
theorem dX4_reset_60 : decode cX4_reset 60 = .ok (.iaload, 1) := by decide +kernel
theorem dX4_reset_61 : decode cX4_reset 61 = .ok (.istore 5, 2) := by decide +kernel
theorem dX4_reset_63 : decode cX4_reset 63 = .ok (.aload_n 0, 1) := by decide +kernel
theorem dX4_reset_64 : decode cX4_reset 64 = .ok (.getfield 7, 3) := by decide +kernel
theorem dX4_reset_67 : decode cX4_reset 67 = .ok (.iconst 0, 1) := by decide +kernel
theorem dX4_reset_68 : decode cX4_reset 68 = .ok (.iload_n 1, 1) := by decide +kernel
theorem dX4_reset_69 : decode cX4_reset 69 = .ok (.iastore, 1) := by decide +kernel
theorem dX4_reset_70 : decode cX4_reset 70 = .ok (.aload_n 0, 1) := by decide +kernel
theorem dX4_reset_71 : decode cX4_reset 71 = .ok (.getfield 7, 3) := by decide +kernel
theorem dX4_reset_74 : decode cX4_reset 74 = .ok (.iconst 1, 1) := by decide +kernel
theorem dX4_reset_75 : decode cX4_reset 75 = .ok (.iload_n 2, 1) := by decide +kernel
theorem dX4_reset_76 : decode cX4_reset 76 = .ok (.iastore, 1) := by decide +kernel
theorem dX4_reset_77 : decode cX4_reset 77 = .ok (.aload_n 0, 1) := by decide +kernel
theorem dX4_reset_78 : decode cX4_reset 78 = .ok (.getfield 7, 3) := by decide +kernel
theorem dX4_reset_81 : decode cX4_reset 81 = .ok (.iconst 2, 1) := by decide +kernel
theorem dX4_reset_82 : decode cX4_reset 82 = .ok (.iload_n 3, 1) := by decide +kernel
theorem dX4_reset_83 : decode cX4_reset 83 = .ok (.iastore, 1) := by decide +kernel
theorem dX4_reset_84 : decode cX4_reset 84 = .ok (.aload_n 0, 1) := by decide +kernel
theorem dX4_reset_85 : decode cX4_reset 85 = .ok (.getfield 7, 3) := by decide +kernel
theorem dX4_reset_88 : decode cX4_reset 88 = .ok (.iconst 3, 1) := by decide +kernel
theorem dX4_reset_89 : decode cX4_reset 89 = .ok (.iconst 0, 1) := by decide +kernel
theorem dX4_reset_90 : decode cX4_reset 90 = .ok (.iastore, 1) := by decide +kernel
theorem dX4_reset_91 : decode cX4_reset 91 = .ok (.aload_n 0, 1) := by decide +kernel
theorem dX4_reset_92 : decode cX4_reset 92 = .ok (.getfield 7, 3) := by decide +kernel
theorem dX4_reset_95 : decode cX4_reset 95 = .ok (.iconst 4, 1) := by decide +kernel
theorem dX4_reset_96 : decode cX4_reset 96 = .ok (.iload 4, 2) := by decide +kernel
theorem dX4_reset_98 : decode cX4_reset 98 = .ok (.iastore, 1) := by decide +kernel
theorem dX4_reset_99 : decode cX4_reset 99 = .ok (.aload_n 0, 1) := by decide +kernel
theorem dX4_reset_100 : decode cX4_reset 100 = .ok (.invokevirtual 23, 3) := by decide +kernel
theorem dX4_reset_103 : decode cX4_reset 103 = .ok (.iload 5, 2) := by decide +kernel
theorem dX4_reset_105 : decode cX4_reset 105 = .ok (.ireturn, 1) := by decide +kernel
set_option maxRecDepth 20000 in
theorem ggX4_setProcessNoise_X4_in : GoodIn wsX4_setProcessNoise wsX4_in := goodIn_r _ [7] (by decide +kernel) (by decide +kernel)
set_option maxRecDepth 20000 in
theorem gX4_setProcessNoise_X4_in : GoodIn wsX4_setProcessNoise (va_wsS RX4 68 yX4_in wsX4_in) := goodIn_app (goodIn_of _ (by decide +kernel)) ggX4_setProcessNoise_X4_in
set_option maxRecDepth 20000 in
theorem ggX4_setProcessNoise_X4_fail : GoodIn wsX4_setProcessNoise wsX4_fail := goodIn_r _ [11, 12, 2, 19, 20, 21, 22, 23, 24, 25, 26, 27] (by decide +kernel) (by decide +kernel)
set_option maxRecDepth 20000 in
theorem gX4_setProcessNoise_X4_fail : GoodIn wsX4_setProcessNoise (wsV RX4 74 RX4 yX4_fail wsX4_fail) := goodIn_app (goodIn_of _ (by decide +kernel)) ggX4_setProcessNoise_X4_fail
set_option maxRecDepth 20000 in
theorem ggX4_setProcessNoise_X4_note : GoodIn wsX4_setProcessNoise wsX4_note := goodIn_r _ [16, 17, 18, 3, 19, 20, 21, 22, 23, 24, 25, 26, 27] (by decide +kernel) (by decide +kernel)
set_option maxRecDepth 20000 in
theorem gX4_setProcessNoise_X4_note : GoodIn wsX4_setProcessNoise (wsV RX4 78 RX4 yX4_note wsX4_note) := goodIn_app (goodIn_of _ (by decide +kernel)) ggX4_setProcessNoise_X4_note
theorem dX4_setProcessNoise_0 : decode cX4_setProcessNoise 0 = .ok (.iload_n 1, 1) := by decide +kernel
theorem dX4_setProcessNoise_1 : decode cX4_setProcessNoise 1 = .ok (.iconst 0, 1) := by decide +kernel
theorem dX4_setProcessNoise_2 : decode cX4_setProcessNoise 2 = .ok (.ldc 73, 2) := by decide +kernel
theorem dX4_setProcessNoise_4 : decode cX4_setProcessNoise 4 = .ok (.invokestatic 68, 3) := by decide +kernel
theorem dX4_setProcessNoise_7 : decode cX4_setProcessNoise 7 = .ok (.ifCond .eq 13, 3) := by decide +kernel
theorem dX4_setProcessNoise_10 : decode cX4_setProcessNoise 10 = .ok (.iload_n 2, 1) := by decide +kernel
theorem dX4_setProcessNoise_11 : decode cX4_setProcessNoise 11 = .ok (.iconst 0, 1) := by decide +kernel
theorem dX4_setProcessNoise_12 : decode cX4_setProcessNoise 12 = .ok (.ldc 73, 2) := by decide +kernel
theorem dX4_setProcessNoise_14 : decode cX4_setProcessNoise 14 = .ok (.invokestatic 68, 3) := by decide +kernel
theorem dX4_setProcessNoise_17 : decode cX4_setProcessNoise 17 = .ok (.ifCond .ne 10, 3) := by decide +kernel
theorem dX4_setProcessNoise_20 : decode cX4_setProcessNoise 20 = .ok (.aload_n 0, 1) := by decide +kernel
theorem dX4_setProcessNoise_21 : decode cX4_setProcessNoise 21 = .ok (.ldc 26, 2) := by decide +kernel
theorem dX4_setProcessNoise_23 : decode cX4_setProcessNoise 23 = .ok (.invokevirtual 74, 3) := by decide +kernel
theorem dX4_setProcessNoise_26 : decode cX4_setProcessNoise 26 = .ok (.ireturn, 1) := by decide +kernel
theorem dX4_setProcessNoise_27 : decode cX4_setProcessNoise 27 = .ok (.aload_n 0, 1) := by decide +kernel
theorem dX4_setProcessNoise_28 : decode cX4_setProcessNoise 28 = .ok (.invokevirtual 78, 3) := by decide +kernel
theorem dX4_setProcessNoise_31 : decode cX4_setProcessNoise 31 = .ok (.aload_n 0, 1) := by decide +kernel
theorem dX4_setProcessNoise_32 : decode cX4_setProcessNoise 32 = .ok (.getfield 7, 3) := by decide +kernel
theorem dX4_setProcessNoise_35 : decode cX4_setProcessNoise 35 = .ok (.bipush 6, 2) := by decide +kernel
theorem dX4_setProcessNoise_37 : decode cX4_setProcessNoise 37 = .ok (.iaload, 1) := by decide +kernel
theorem dX4_setProcessNoise_38 : decode cX4_setProcessNoise 38 = .ok (.istore_n 3, 1) := by decide +kernel
theorem dX4_setProcessNoise_39 : decode cX4_setProcessNoise 39 = .ok (.aload_n 0, 1) := by decide +kernel
theorem dX4_setProcessNoise_40 : decode cX4_setProcessNoise 40 = .ok (.getfield 7, 3) := by decide +kernel
theorem dX4_setProcessNoise_43 : decode cX4_setProcessNoise 43 = .ok (.iconst 5, 1) := by decide +kernel
theorem dX4_setProcessNoise_44 : decode cX4_setProcessNoise 44 = .ok (.iload_n 1, 1) := by decide +kernel
theorem dX4_setProcessNoise_45 : decode cX4_setProcessNoise 45 = .ok (.iastore, 1) := by decide +kernel
theorem dX4_setProcessNoise_46 : decode cX4_setProcessNoise 46 = .ok (.aload_n 0, 1) := by decide +kernel
theorem dX4_setProcessNoise_47 : decode cX4_setProcessNoise 47 = .ok (.getfield 7, 3) := by decide +kernel
theorem dX4_setProcessNoise_50 : decode cX4_setProcessNoise 50 = .ok (.bipush 6, 2) := by decide +kernel
theorem dX4_setProcessNoise_52 : decode cX4_setProcessNoise 52 = .ok (.iload_n 2, 1) := by decide +kernel
theorem dX4_setProcessNoise_53 : decode cX4_setProcessNoise 53 = .ok (.iastore, 1) := by decide +kernel
theorem dX4_setProcessNoise_54 : decode cX4_setProcessNoise 54 = .ok (.iload_n 3, 1) := by decide +kernel
theorem dX4_setProcessNoise_55 : decode cX4_setProcessNoise 55 = .ok (.ireturn, 1) := by decide +kernel
set_option maxRecDepth 20000 in
theorem ggX4_isSensor_X4_in : GoodIn wsX4_isSensor wsX4_in := goodIn_r _ [4] (by decide +kernel) (by decide +kernel)
set_option maxRecDepth 20000 in
theorem gX4_isSensor_X4_in : GoodIn wsX4_isSensor (va_wsS RX4 68 yX4_in wsX4_in) := goodIn_app (goodIn_of _ (by decide +kernel)) ggX4_isSensor_X4_in
theorem dX4_isSensor_0 : decode cX4_isSensor 0 = .ok (.iload_n 0, 1) := by decide +kernel
theorem dX4_isSensor_1 : decode cX4_isSensor 1 = .ok (.iconst 0, 1) := by decide +kernel
theorem dX4_isSensor_2 : decode cX4_isSensor 2 = .ok (.iconst 3, 1) := by decide +kernel
theorem dX4_isSensor_3 : decode cX4_isSensor 3 = .ok (.invokestatic 68, 3) := by decide +kernel
theorem dX4_isSensor_6 : decode cX4_isSensor 6 = .ok (.ireturn, 1) := by decide +kernel
set_option maxRecDepth 20000 in
theorem ggX4_setSensor_X4_isSensor : GoodIn wsX4_setSensor wsX4_isSensor := goodIn_r _ [7, 8, 9, 6, 10] (by decide +kernel) (by decide +kernel)
set_option maxRecDepth 20000 in
theorem gX4_setSensor_X4_isSensor : GoodIn wsX4_setSensor (va_wsS RX4 81 yX4_isSensor wsX4_isSensor) := goodIn_app (goodIn_of _ (by decide +kernel)) ggX4_setSensor_X4_isSensor
set_option maxRecDepth 20000 in
theorem ggX4_setSensor_X4_in : GoodIn wsX4_setSensor wsX4_in := goodIn_r _ [10] (by decide +kernel) (by decide +kernel)
set_option maxRecDepth 20000 in
theorem gX4_setSensor_X4_in : GoodIn wsX4_setSensor (va_wsS RX4 68 yX4_in wsX4_in) := goodIn_app (goodIn_of _ (by decide +kernel)) ggX4_setSensor_X4_in
set_option maxRecDepth 20000 in
theorem ggX4_setSensor_X4_fail : GoodIn wsX4_setSensor wsX4_fail := goodIn_r _ [14, 15, 2, 22, 23, 24, 25, 26, 27, 28, 29, 30] (by decide +kernel) (by decide +kernel)
set_option maxRecDepth 20000 in
theorem gX4_setSensor_X4_fail : GoodIn wsX4_setSensor (wsV RX4 74 RX4 yX4_fail wsX4_fail) := goodIn_app (goodIn_of _ (by decide +kernel)) ggX4_setSensor_X4_fail
set_option maxRecDepth 20000 in
theorem ggX4_setSensor_X4_note : GoodIn wsX4_setSensor wsX4_note := goodIn_r _ [19, 20, 21, 3, 22, 23, 24, 25, 26, 27, 28, 29, 30] (by decide +kernel) (by decide +kernel)
set_option maxRecDepth 20000 in
theorem gX4_setSensor_X4_note : GoodIn wsX4_setSensor (wsV RX4 78 RX4 yX4_note wsX4_note) := goodIn_app (goodIn_of _ (by decide +kernel)) ggX4_setSensor_X4_note
theorem dX4_setSensor_0 : decode cX4_setSensor 0 = .ok (.iload_n 1, 1) := by decide +kernel
theorem dX4_setSensor_1 : decode cX4_setSensor 1 = .ok (.invokestatic 81, 3) := by decide +kernel
theorem dX4_setSensor_4 : decode cX4_setSensor 4 = .ok (.ifCond .eq 22, 3) := by decide +kernel
theorem dX4_setSensor_7 : decode cX4_setSensor 7 = .ok (.iload_n 2, 1) := by decide +kernel
theorem dX4_setSensor_8 : decode cX4_setSensor 8 = .ok (.iconst 0, 1) := by decide +kernel
theorem dX4_setSensor_9 : decode cX4_setSensor 9 = .ok (.iconst 1, 1) := by decide +kernel
theorem dX4_setSensor_10 : decode cX4_setSensor 10 = .ok (.invokestatic 68, 3) := by decide +kernel
theorem dX4_setSensor_13 : decode cX4_setSensor 13 = .ok (.ifCond .eq 13, 3) := by decide +kernel
theorem dX4_setSensor_16 : decode cX4_setSensor 16 = .ok (.iload_n 3, 1) := by decide +kernel
theorem dX4_setSensor_17 : decode cX4_setSensor 17 = .ok (.iconst 1, 1) := by decide +kernel
theorem dX4_setSensor_18 : decode cX4_setSensor 18 = .ok (.ldc 67, 2) := by decide +kernel
theorem dX4_setSensor_20 : decode cX4_setSensor 20 = .ok (.invokestatic 68, 3) := by decide +kernel
theorem dX4_setSensor_23 : decode cX4_setSensor 23 = .ok (.ifCond .ne 10, 3) := by decide +kernel
theorem dX4_setSensor_26 : decode cX4_setSensor 26 = .ok (.aload_n 0, 1) := by decide +kernel
theorem dX4_setSensor_27 : decode cX4_setSensor 27 = .ok (.ldc 26, 2) := by decide +kernel
theorem dX4_setSensor_29 : decode cX4_setSensor 29 = .ok (.invokevirtual 74, 3) := by decide +kernel
theorem dX4_setSensor_32 : decode cX4_setSensor 32 = .ok (.ireturn, 1) := by decide +kernel
theorem dX4_setSensor_33 : decode cX4_setSensor 33 = .ok (.aload_n 0, 1) := by decide +kernel
theorem dX4_setSensor_34 : decode cX4_setSensor 34 = .ok (.invokevirtual 78, 3) := by decide +kernel
theorem dX4_setSensor_37 : decode cX4_setSensor 37 = .ok (.aload_n 0, 1) := by decide +kernel
theorem dX4_setSensor_38 : decode cX4_setSensor 38 = .ok (.getfield 7, 3) := by decide +kernel
theorem dX4_setSensor_41 : decode cX4_setSensor 41 = .ok (.bipush 12, 2) := by decide +kernel
theorem dX4_setSensor_43 : decode cX4_setSensor 43 = .ok (.iload_n 1, 1) := by decide +kernel
theorem dX4_setSensor_44 : decode cX4_setSensor 44 = .ok (.iadd, 1) := by decide +kernel
theorem dX4_setSensor_45 : decode cX4_setSensor 45 = .ok (.iaload, 1) := by decide +kernel
theorem dX4_setSensor_46 : decode cX4_setSensor 46 = .ok (.istore 4, 2) := by decide +kernel
theorem dX4_setSensor_48 : decode cX4_setSensor 48 = .ok (.aload_n 0, 1) := by decide +kernel
theorem dX4_setSensor_49 : decode cX4_setSensor 49 = .ok (.getfield 7, 3) := by decide +kernel
theorem dX4_setSensor_52 : decode cX4_setSensor 52 = .ok (.bipush 8, 2) := by decide +kernel
theorem dX4_setSensor_54 : decode cX4_setSensor 54 = .ok (.iload_n 1, 1) := by decide +kernel
theorem dX4_setSensor_55 : decode cX4_setSensor 55 = .ok (.iadd, 1) := by decide +kernel
theorem dX4_setSensor_56 : decode cX4_setSensor 56 = .ok (.iload_n 2, 1) := by decide +kernel
theorem dX4_setSensor_57 : decode cX4_setSensor 57 = .ok (.iastore, 1) := by decide +kernel
theorem dX4_setSensor_58 : decode cX4_setSensor 58 = .ok (.aload_n 0, 1) := by decide +kernel
theorem dX4_setSensor_59 : decode cX4_setSensor 59 = .ok (.getfield 7, 3) := by decide +kernel
theorem dX4_setSensor_62 : decode cX4_setSensor 62 = .ok (.bipush 12, 2) := by decide +kernel
theorem dX4_setSensor_64 : decode cX4_setSensor 64 = .ok (.iload_n 1, 1) := by decide +kernel
theorem dX4_setSensor_65 : decode cX4_setSensor 65 = .ok (.iadd, 1) := by decide +kernel
theorem dX4_setSensor_66 : decode cX4_setSensor 66 = .ok (.iload_n 3, 1) := by decide +kernel
theorem dX4_setSensor_67 : decode cX4_setSensor 67 = .ok (.iastore, 1) := by decide +kernel
theorem dX4_setSensor_68 : decode cX4_setSensor 68 = .ok (.iload 4, 2) := by decide +kernel
theorem dX4_setSensor_70 : decode cX4_setSensor 70 = .ok (.ireturn, 1) := by decide +kernel
set_option maxRecDepth 20000 in
theorem ggX4_setGate_X4_in : GoodIn wsX4_setGate wsX4_in := goodIn_r _ [6] (by decide +kernel) (by decide +kernel)
set_option maxRecDepth 20000 in
theorem gX4_setGate_X4_in : GoodIn wsX4_setGate (va_wsS RX4 68 yX4_in wsX4_in) := goodIn_app (goodIn_of _ (by decide +kernel)) ggX4_setGate_X4_in
set_option maxRecDepth 20000 in
theorem ggX4_setGate_X4_fail : GoodIn wsX4_setGate wsX4_fail := goodIn_r _ [10, 11, 1, 18, 19, 20, 21, 22, 23, 24, 25, 26] (by decide +kernel) (by decide +kernel)
set_option maxRecDepth 20000 in
theorem gX4_setGate_X4_fail : GoodIn wsX4_setGate (wsV RX4 74 RX4 yX4_fail wsX4_fail) := goodIn_app (goodIn_of _ (by decide +kernel)) ggX4_setGate_X4_fail
set_option maxRecDepth 20000 in
theorem ggX4_setGate_X4_note : GoodIn wsX4_setGate wsX4_note := goodIn_r _ [15, 16, 17, 2, 18, 19, 20, 21, 22, 23, 24, 25, 26] (by decide +kernel) (by decide +kernel)
set_option maxRecDepth 20000 in
theorem gX4_setGate_X4_note : GoodIn wsX4_setGate (wsV RX4 78 RX4 yX4_note wsX4_note) := goodIn_app (goodIn_of _ (by decide +kernel)) ggX4_setGate_X4_note
theorem dX4_setGate_0 : decode cX4_setGate 0 = .ok (.iload_n 1, 1) := by decide +kernel
theorem dX4_setGate_1 : decode cX4_setGate 1 = .ok (.iconst 0, 1) := by decide +kernel
theorem dX4_setGate_2 : decode cX4_setGate 2 = .ok (.bipush 25, 2) := by decide +kernel
theorem dX4_setGate_4 : decode cX4_setGate 4 = .ok (.invokestatic 68, 3) := by decide +kernel
theorem dX4_setGate_7 : decode cX4_setGate 7 = .ok (.ifCond .ne 10, 3) := by decide +kernel
theorem dX4_setGate_10 : decode cX4_setGate 10 = .ok (.aload_n 0, 1) := by decide +kernel
theorem dX4_setGate_11 : decode cX4_setGate 11 = .ok (.ldc 26, 2) := by decide +kernel
theorem dX4_setGate_13 : decode cX4_setGate 13 = .ok (.invokevirtual 74, 3) := by decide +kernel
theorem dX4_setGate_16 : decode cX4_setGate 16 = .ok (.ireturn, 1) := by decide +kernel
theorem dX4_setGate_17 : decode cX4_setGate 17 = .ok (.aload_n 0, 1) := by decide +kernel
theorem dX4_setGate_18 : decode cX4_setGate 18 = .ok (.invokevirtual 78, 3) := by decide +kernel
theorem dX4_setGate_21 : decode cX4_setGate 21 = .ok (.aload_n 0, 1) := by decide +kernel
theorem dX4_setGate_22 : decode cX4_setGate 22 = .ok (.getfield 7, 3) := by decide +kernel
theorem dX4_setGate_25 : decode cX4_setGate 25 = .ok (.bipush 7, 2) := by decide +kernel
theorem dX4_setGate_27 : decode cX4_setGate 27 = .ok (.iaload, 1) := by decide +kernel
theorem dX4_setGate_28 : decode cX4_setGate 28 = .ok (.istore_n 2, 1) := by decide +kernel
theorem dX4_setGate_29 : decode cX4_setGate 29 = .ok (.aload_n 0, 1) := by decide +kernel
theorem dX4_setGate_30 : decode cX4_setGate 30 = .ok (.getfield 7, 3) := by decide +kernel
theorem dX4_setGate_33 : decode cX4_setGate 33 = .ok (.bipush 7, 2) := by decide +kernel
theorem dX4_setGate_35 : decode cX4_setGate 35 = .ok (.iload_n 1, 1) := by decide +kernel
theorem dX4_setGate_36 : decode cX4_setGate 36 = .ok (.iastore, 1) := by decide +kernel
theorem dX4_setGate_37 : decode cX4_setGate 37 = .ok (.iload_n 2, 1) := by decide +kernel
theorem dX4_setGate_38 : decode cX4_setGate 38 = .ok (.ireturn, 1) := by decide +kernel
theorem dX4_record_0 : decode cX4_record 0 = .ok (.aload_n 0, 1) := by decide +kernel
theorem dX4_record_1 : decode cX4_record 1 = .ok (.getfield 7, 3) := by decide +kernel
theorem dX4_record_4 : decode cX4_record 4 = .ok (.bipush 22, 2) := by decide +kernel
theorem dX4_record_6 : decode cX4_record 6 = .ok (.iaload, 1) := by decide +kernel
theorem dX4_record_7 : decode cX4_record 7 = .ok (.bipush 24, 2) := by decide +kernel
theorem dX4_record_9 : decode cX4_record 9 = .ok (.if_icmp .ne 45, 3) := by decide +kernel
theorem dX4_record_12 : decode cX4_record 12 = .ok (.bipush 23, 2) := by decide +kernel
theorem dX4_record_14 : decode cX4_record 14 = .ok (.istore_n 3, 1) := by decide +kernel
theorem dX4_record_15 : decode cX4_record 15 = .ok (.iload_n 3, 1) := by decide +kernel
theorem dX4_record_16 : decode cX4_record 16 = .ok (.iconst 2, 1) := by decide +kernel
theorem dX4_record_17 : decode cX4_record 17 = .ok (.iadd, 1) := by decide +kernel
theorem dX4_record_18 : decode cX4_record 18 = .ok (.bipush 71, 2) := by decide +kernel
theorem dX4_record_20 : decode cX4_record 20 = .ok (.if_icmp .ge 23, 3) := by decide +kernel
theorem dX4_record_23 : decode cX4_record 23 = .ok (.aload_n 0, 1) := by decide +kernel
theorem dX4_record_24 : decode cX4_record 24 = .ok (.getfield 7, 3) := by decide +kernel
theorem dX4_record_27 : decode cX4_record 27 = .ok (.iload_n 3, 1) := by decide +kernel
theorem dX4_record_28 : decode cX4_record 28 = .ok (.aload_n 0, 1) := by decide +kernel
theorem dX4_record_29 : decode cX4_record 29 = .ok (.getfield 7, 3) := by decide +kernel
theorem dX4_record_32 : decode cX4_record 32 = .ok (.iload_n 3, 1) := by decide +kernel
theorem dX4_record_33 : decode cX4_record 33 = .ok (.iconst 2, 1) := by decide +kernel
theorem dX4_record_34 : decode cX4_record 34 = .ok (.iadd, 1) := by decide +kernel
theorem dX4_record_35 : decode cX4_record 35 = .ok (.iaload, 1) := by decide +kernel
theorem dX4_record_36 : decode cX4_record 36 = .ok (.iastore, 1) := by decide +kernel
theorem dX4_record_37 : decode cX4_record 37 = .ok (.iinc 3 1, 3) := by decide +kernel
theorem dX4_record_40 : decode cX4_record 40 = .ok (.goto (-25), 3) := by decide +kernel
theorem dX4_record_43 : decode cX4_record 43 = .ok (.aload_n 0, 1) := by decide +kernel
theorem dX4_record_44 : decode cX4_record 44 = .ok (.getfield 7, 3) := by decide +kernel
theorem dX4_record_47 : decode cX4_record 47 = .ok (.bipush 22, 2) := by decide +kernel
theorem dX4_record_49 : decode cX4_record 49 = .ok (.dup2, 1) := by decide +kernel
theorem dX4_record_50 : decode cX4_record 50 = .ok (.iaload, 1) := by decide +kernel
theorem dX4_record_51 : decode cX4_record 51 = .ok (.iconst 1, 1) := by decide +kernel
theorem dX4_record_52 : decode cX4_record 52 = .ok (.isub, 1) := by decide +kernel
theorem dX4_record_53 : decode cX4_record 53 = .ok (.iastore, 1) := by decide +kernel
theorem dX4_record_54 : decode cX4_record 54 = .ok (.aload_n 0, 1) := by decide +kernel
theorem dX4_record_55 : decode cX4_record 55 = .ok (.getfield 7, 3) := by decide +kernel
end
section
theorem dX4_record_58 : decode cX4_record 58 = .ok (.bipush 23, 2) := by decide +kernel
theorem dX4_record_60 : decode cX4_record 60 = .ok (.iconst 2, 1) := by decide +kernel
theorem dX4_record_61 : decode cX4_record 61 = .ok (.aload_n 0, 1) := by decide +kernel
theorem dX4_record_62 : decode cX4_record 62 = .ok (.getfield 7, 3) := by decide +kernel
theorem dX4_record_65 : decode cX4_record 65 = .ok (.bipush 22, 2) := by decide +kernel
theorem dX4_record_67 : decode cX4_record 67 = .ok (.iaload, 1) := by decide +kernel
theorem dX4_record_68 : decode cX4_record 68 = .ok (.imul, 1) := by decide +kernel
theorem dX4_record_69 : decode cX4_record 69 = .ok (.iadd, 1) := by decide +kernel
theorem dX4_record_70 : decode cX4_record 70 = .ok (.iload_n 1, 1) := by decide +kernel
theorem dX4_record_71 : decode cX4_record 71 = .ok (.iastore, 1) := by decide +kernel
theorem dX4_record_72 : decode cX4_record 72 = .ok (.aload_n 0, 1) := by decide +kernel
theorem dX4_record_73 : decode cX4_record 73 = .ok (.getfield 7, 3) := by decide +kernel
theorem dX4_record_76 : decode cX4_record 76 = .ok (.bipush 23, 2) := by decide +kernel
theorem dX4_record_78 : decode cX4_record 78 = .ok (.iconst 2, 1) := by decide +kernel
theorem dX4_record_79 : decode cX4_record 79 = .ok (.aload_n 0, 1) := by decide +kernel
theorem dX4_record_80 : decode cX4_record 80 = .ok (.getfield 7, 3) := by decide +kernel
theorem dX4_record_83 : decode cX4_record 83 = .ok (.bipush 22, 2) := by decide +kernel
theorem dX4_record_85 : decode cX4_record 85 = .ok (.iaload, 1) := by decide +kernel
theorem dX4_record_86 : decode cX4_record 86 = .ok (.imul, 1) := by decide +kernel
theorem dX4_record_87 : decode cX4_record 87 = .ok (.iadd, 1) := by decide +kernel
theorem dX4_record_88 : decode cX4_record 88 = .ok (.iconst 1, 1) := by decide +kernel
theorem dX4_record_89 : decode cX4_record 89 = .ok (.iadd, 1) := by decide +kernel
theorem dX4_record_90 : decode cX4_record 90 = .ok (.iload_n 2, 1) := by decide +kernel
theorem dX4_record_91 : decode cX4_record 91 = .ok (.iastore, 1) := by decide +kernel
theorem dX4_record_92 : decode cX4_record 92 = .ok (.aload_n 0, 1) := by decide +kernel
theorem dX4_record_93 : decode cX4_record 93 = .ok (.getfield 7, 3) := by decide +kernel
theorem dX4_record_96 : decode cX4_record 96 = .ok (.bipush 22, 2) := by decide +kernel
theorem dX4_record_98 : decode cX4_record 98 = .ok (.dup2, 1) := by decide +kernel
theorem dX4_record_99 : decode cX4_record 99 = .ok (.iaload, 1) := by decide +kernel
theorem dX4_record_100 : decode cX4_record 100 = .ok (.iconst 1, 1) := by decide +kernel
theorem dX4_record_101 : decode cX4_record 101 = .ok (.iadd, 1) := by decide +kernel
theorem dX4_record_102 : decode cX4_record 102 = .ok (.iastore, 1) := by decide +kernel
theorem dX4_record_103 : decode cX4_record 103 = .ok (.return_, 1) := by decide +kernel
set_option maxRecDepth 20000 in
theorem ggX4_predict_X4_in : GoodIn wsX4_predict wsX4_in := goodIn_r _ [9] (by decide +kernel) (by decide +kernel)
set_option maxRecDepth 20000 in
theorem gX4_predict_X4_in : GoodIn wsX4_predict (va_wsS RX4 68 yX4_in wsX4_in) := goodIn_app (goodIn_of _ (by decide +kernel)) ggX4_predict_X4_in
set_option maxRecDepth 20000 in
theorem ggX4_predict_X4_fail : GoodIn wsX4_predict wsX4_fail := goodIn_r _ [13, 14, 3, 44, 45, 46, 47, 48, 49, 50, 51, 52] (by decide +kernel) (by decide +kernel)
set_option maxRecDepth 20000 in
theorem gX4_predict_X4_fail : GoodIn wsX4_predict (wsV RX4 74 RX4 yX4_fail wsX4_fail) := goodIn_app (goodIn_of _ (by decide +kernel)) ggX4_predict_X4_fail
set_option maxRecDepth 20000 in
theorem ggX4_predict_X4_take : GoodIn wsX4_predict wsX4_take := goodIn_r _ [18, 19, 4, 44, 45, 46, 47, 48, 49, 50, 51, 52] (by decide +kernel) (by decide +kernel)
set_option maxRecDepth 20000 in
theorem gX4_predict_X4_take : GoodIn wsX4_predict (wsV RX4 85 RX4 yX4_take wsX4_take) := goodIn_app (goodIn_of _ (by decide +kernel)) ggX4_predict_X4_take
set_option maxRecDepth 20000 in
theorem ggX4_predict_X4_predicts : GoodIn wsX4_predict wsX4_predicts := goodIn_r _ [23, 19, 24, 4, 25, 26, 8, 27, 28, 29, 44, 45, 46, 47, 48, 49, 50, 51, 52] (by decide +kernel) (by decide +kernel)
set_option maxRecDepth 20000 in
theorem gX4_predict_X4_predicts : GoodIn wsX4_predict (wsV RX4 88 RX4 yX4_predicts wsX4_predicts) := goodIn_app (goodIn_of _ (by decide +kernel)) ggX4_predict_X4_predicts
set_option maxRecDepth 20000 in
theorem ggX4_predict_X4_note : GoodIn wsX4_predict wsX4_note := goodIn_r _ [33, 34, 35, 4, 44, 45, 46, 47, 48, 49, 50, 51, 52] (by decide +kernel) (by decide +kernel)
set_option maxRecDepth 20000 in
theorem gX4_predict_X4_note : GoodIn wsX4_predict (wsV RX4 78 RX4 yX4_note wsX4_note) := goodIn_app (goodIn_of _ (by decide +kernel)) ggX4_predict_X4_note
set_option maxRecDepth 20000 in
theorem ggX4_predict_X4_put : GoodIn wsX4_predict wsX4_put := goodIn_r _ [39, 4, 19, 44, 45, 46, 47, 48, 49, 50, 51, 52] (by decide +kernel) (by decide +kernel)
set_option maxRecDepth 20000 in
theorem gX4_predict_X4_put : GoodIn wsX4_predict (wsV RX4 93 RX4 yX4_put wsX4_put) := goodIn_app (goodIn_of _ (by decide +kernel)) ggX4_predict_X4_put
set_option maxRecDepth 20000 in
theorem ggX4_predict_X4_record : GoodIn wsX4_predict wsX4_record := goodIn_r _ [43, 4, 44, 45, 46, 47, 48, 49, 50, 51, 52] (by decide +kernel) (by decide +kernel)
set_option maxRecDepth 20000 in
theorem gX4_predict_X4_record : GoodIn wsX4_predict (wsV RX4 96 RX4 yX4_record wsX4_record) := goodIn_app (goodIn_of _ (by decide +kernel)) ggX4_predict_X4_record
theorem dX4_predict_0 : decode cX4_predict 0 = .ok (.iload_n 1, 1) := by decide +kernel
theorem dX4_predict_1 : decode cX4_predict 1 = .ok (.ldc 72, 2) := by decide +kernel
theorem dX4_predict_3 : decode cX4_predict 3 = .ok (.ldc 73, 2) := by decide +kernel
theorem dX4_predict_5 : decode cX4_predict 5 = .ok (.invokestatic 68, 3) := by decide +kernel
theorem dX4_predict_8 : decode cX4_predict 8 = .ok (.ifCond .ne 10, 3) := by decide +kernel
theorem dX4_predict_11 : decode cX4_predict 11 = .ok (.aload_n 0, 1) := by decide +kernel
theorem dX4_predict_12 : decode cX4_predict 12 = .ok (.ldc 26, 2) := by decide +kernel
theorem dX4_predict_14 : decode cX4_predict 14 = .ok (.invokevirtual 74, 3) := by decide +kernel
theorem dX4_predict_17 : decode cX4_predict 17 = .ok (.ireturn, 1) := by decide +kernel
theorem dX4_predict_18 : decode cX4_predict 18 = .ok (.aload_n 0, 1) := by decide +kernel
theorem dX4_predict_19 : decode cX4_predict 19 = .ok (.invokevirtual 85, 3) := by decide +kernel
theorem dX4_predict_22 : decode cX4_predict 22 = .ok (.aload_n 0, 1) := by decide +kernel
theorem dX4_predict_23 : decode cX4_predict 23 = .ok (.iload_n 1, 1) := by decide +kernel
theorem dX4_predict_24 : decode cX4_predict 24 = .ok (.aload_n 0, 1) := by decide +kernel
theorem dX4_predict_25 : decode cX4_predict 25 = .ok (.getfield 7, 3) := by decide +kernel
theorem dX4_predict_28 : decode cX4_predict 28 = .ok (.bipush 6, 2) := by decide +kernel
theorem dX4_predict_30 : decode cX4_predict 30 = .ok (.iaload, 1) := by decide +kernel
theorem dX4_predict_31 : decode cX4_predict 31 = .ok (.invokevirtual 88, 3) := by decide +kernel
theorem dX4_predict_34 : decode cX4_predict 34 = .ok (.ifCond .ne 10, 3) := by decide +kernel
theorem dX4_predict_37 : decode cX4_predict 37 = .ok (.aload_n 0, 1) := by decide +kernel
theorem dX4_predict_38 : decode cX4_predict 38 = .ok (.ldc 92, 2) := by decide +kernel
theorem dX4_predict_40 : decode cX4_predict 40 = .ok (.invokevirtual 74, 3) := by decide +kernel
theorem dX4_predict_43 : decode cX4_predict 43 = .ok (.ireturn, 1) := by decide +kernel
theorem dX4_predict_44 : decode cX4_predict 44 = .ok (.aload_n 0, 1) := by decide +kernel
theorem dX4_predict_45 : decode cX4_predict 45 = .ok (.invokevirtual 78, 3) := by decide +kernel
theorem dX4_predict_48 : decode cX4_predict 48 = .ok (.aload_n 0, 1) := by decide +kernel
theorem dX4_predict_49 : decode cX4_predict 49 = .ok (.invokevirtual 93, 3) := by decide +kernel
theorem dX4_predict_52 : decode cX4_predict 52 = .ok (.aload_n 0, 1) := by decide +kernel
theorem dX4_predict_53 : decode cX4_predict 53 = .ok (.iconst (-1), 1) := by decide +kernel
theorem dX4_predict_54 : decode cX4_predict 54 = .ok (.iload_n 1, 1) := by decide +kernel
theorem dX4_predict_55 : decode cX4_predict 55 = .ok (.invokevirtual 96, 3) := by decide +kernel
theorem dX4_predict_58 : decode cX4_predict 58 = .ok (.aload_n 0, 1) := by decide +kernel
theorem dX4_predict_59 : decode cX4_predict 59 = .ok (.getfield 7, 3) := by decide +kernel
theorem dX4_predict_62 : decode cX4_predict 62 = .ok (.iconst 0, 1) := by decide +kernel
theorem dX4_predict_63 : decode cX4_predict 63 = .ok (.iaload, 1) := by decide +kernel
theorem dX4_predict_64 : decode cX4_predict 64 = .ok (.ireturn, 1) := by decide +kernel
set_option maxRecDepth 20000 in
theorem ggX4_correct_X4_isSensor : GoodIn wsX4_correct wsX4_isSensor := goodIn_r _ [12, 13, 14, 11, 15] (by decide +kernel) (by decide +kernel)
set_option maxRecDepth 20000 in
theorem gX4_correct_X4_isSensor : GoodIn wsX4_correct (va_wsS RX4 81 yX4_isSensor wsX4_isSensor) := goodIn_app (goodIn_of _ (by decide +kernel)) ggX4_correct_X4_isSensor
set_option maxRecDepth 20000 in
theorem ggX4_correct_X4_in : GoodIn wsX4_correct wsX4_in := goodIn_r _ [15] (by decide +kernel) (by decide +kernel)
set_option maxRecDepth 20000 in
theorem gX4_correct_X4_in : GoodIn wsX4_correct (va_wsS RX4 68 yX4_in wsX4_in) := goodIn_app (goodIn_of _ (by decide +kernel)) ggX4_correct_X4_in
set_option maxRecDepth 20000 in
theorem ggX4_correct_X4_fail : GoodIn wsX4_correct wsX4_fail := goodIn_r _ [19, 20, 3, 61, 62, 63, 64, 65, 66, 67, 68, 69] (by decide +kernel) (by decide +kernel)
set_option maxRecDepth 20000 in
theorem gX4_correct_X4_fail : GoodIn wsX4_correct (wsV RX4 74 RX4 yX4_fail wsX4_fail) := goodIn_app (goodIn_of _ (by decide +kernel)) ggX4_correct_X4_fail
set_option maxRecDepth 20000 in
theorem ggX4_correct_X4_take : GoodIn wsX4_correct wsX4_take := goodIn_r _ [24, 25, 4, 61, 62, 63, 64, 65, 66, 67, 68, 69] (by decide +kernel) (by decide +kernel)
set_option maxRecDepth 20000 in
theorem gX4_correct_X4_take : GoodIn wsX4_correct (wsV RX4 85 RX4 yX4_take wsX4_take) := goodIn_app (goodIn_of _ (by decide +kernel)) ggX4_correct_X4_take
set_option maxRecDepth 20000 in
theorem ggX4_correct_X4_corrects : GoodIn wsX4_correct wsX4_corrects := goodIn_r _ [29, 4, 25, 6, 30, 7, 8, 31, 32, 11, 33, 34, 35, 36, 37, 38, 39, 40, 41, 42, 43, 44, 45, 46, 61, 62, 63, 64, 65, 66, 67, 68, 69] (by decide +kernel) (by decide +kernel)
set_option maxRecDepth 20000 in
theorem gX4_correct_X4_corrects : GoodIn wsX4_correct (wsV RX4 100 RX4 yX4_corrects wsX4_corrects) := goodIn_app (goodIn_of _ (by decide +kernel)) ggX4_correct_X4_corrects
set_option maxRecDepth 20000 in
theorem ggX4_correct_X4_note : GoodIn wsX4_correct wsX4_note := goodIn_r _ [50, 51, 52, 4, 61, 62, 63, 64, 65, 66, 67, 68, 69] (by decide +kernel) (by decide +kernel)
set_option maxRecDepth 20000 in
theorem gX4_correct_X4_note : GoodIn wsX4_correct (wsV RX4 78 RX4 yX4_note wsX4_note) := goodIn_app (goodIn_of _ (by decide +kernel)) ggX4_correct_X4_note
set_option maxRecDepth 20000 in
theorem ggX4_correct_X4_put : GoodIn wsX4_correct wsX4_put := goodIn_r _ [56, 4, 25, 61, 62, 63, 64, 65, 66, 67, 68, 69] (by decide +kernel) (by decide +kernel)
set_option maxRecDepth 20000 in
theorem gX4_correct_X4_put : GoodIn wsX4_correct (wsV RX4 93 RX4 yX4_put wsX4_put) := goodIn_app (goodIn_of _ (by decide +kernel)) ggX4_correct_X4_put
set_option maxRecDepth 20000 in
theorem ggX4_correct_X4_record : GoodIn wsX4_correct wsX4_record := goodIn_r _ [60, 4, 61, 62, 63, 64, 65, 66, 67, 68, 69] (by decide +kernel) (by decide +kernel)
set_option maxRecDepth 20000 in
theorem gX4_correct_X4_record : GoodIn wsX4_correct (wsV RX4 96 RX4 yX4_record wsX4_record) := goodIn_app (goodIn_of _ (by decide +kernel)) ggX4_correct_X4_record
theorem dX4_correct_0 : decode cX4_correct 0 = .ok (.iload_n 1, 1) := by decide +kernel
theorem dX4_correct_1 : decode cX4_correct 1 = .ok (.invokestatic 81, 3) := by decide +kernel
theorem dX4_correct_4 : decode cX4_correct 4 = .ok (.ifCond .eq 14, 3) := by decide +kernel
theorem dX4_correct_7 : decode cX4_correct 7 = .ok (.iload_n 2, 1) := by decide +kernel
theorem dX4_correct_8 : decode cX4_correct 8 = .ok (.ldc 66, 2) := by decide +kernel
theorem dX4_correct_10 : decode cX4_correct 10 = .ok (.ldc 67, 2) := by decide +kernel
theorem dX4_correct_12 : decode cX4_correct 12 = .ok (.invokestatic 68, 3) := by decide +kernel
theorem dX4_correct_15 : decode cX4_correct 15 = .ok (.ifCond .ne 10, 3) := by decide +kernel
theorem dX4_correct_18 : decode cX4_correct 18 = .ok (.aload_n 0, 1) := by decide +kernel
theorem dX4_correct_19 : decode cX4_correct 19 = .ok (.ldc 26, 2) := by decide +kernel
theorem dX4_correct_21 : decode cX4_correct 21 = .ok (.invokevirtual 74, 3) := by decide +kernel
theorem dX4_correct_24 : decode cX4_correct 24 = .ok (.ireturn, 1) := by decide +kernel
theorem dX4_correct_25 : decode cX4_correct 25 = .ok (.aload_n 0, 1) := by decide +kernel
theorem dX4_correct_26 : decode cX4_correct 26 = .ok (.invokevirtual 85, 3) := by decide +kernel
theorem dX4_correct_29 : decode cX4_correct 29 = .ok (.aload_n 0, 1) := by decide +kernel
theorem dX4_correct_30 : decode cX4_correct 30 = .ok (.iload_n 1, 1) := by decide +kernel
theorem dX4_correct_31 : decode cX4_correct 31 = .ok (.iload_n 2, 1) := by decide +kernel
theorem dX4_correct_32 : decode cX4_correct 32 = .ok (.i2l, 1) := by decide +kernel
theorem dX4_correct_33 : decode cX4_correct 33 = .ok (.aload_n 0, 1) := by decide +kernel
theorem dX4_correct_34 : decode cX4_correct 34 = .ok (.getfield 7, 3) := by decide +kernel
theorem dX4_correct_37 : decode cX4_correct 37 = .ok (.bipush 7, 2) := by decide +kernel
theorem dX4_correct_39 : decode cX4_correct 39 = .ok (.iaload, 1) := by decide +kernel
theorem dX4_correct_40 : decode cX4_correct 40 = .ok (.invokevirtual 100, 3) := by decide +kernel
theorem dX4_correct_43 : decode cX4_correct 43 = .ok (.istore_n 3, 1) := by decide +kernel
theorem dX4_correct_44 : decode cX4_correct 44 = .ok (.iload_n 3, 1) := by decide +kernel
theorem dX4_correct_45 : decode cX4_correct 45 = .ok (.ifCond .ge 10, 3) := by decide +kernel
theorem dX4_correct_48 : decode cX4_correct 48 = .ok (.aload_n 0, 1) := by decide +kernel
theorem dX4_correct_49 : decode cX4_correct 49 = .ok (.ldc 92, 2) := by decide +kernel
theorem dX4_correct_51 : decode cX4_correct 51 = .ok (.invokevirtual 74, 3) := by decide +kernel
theorem dX4_correct_54 : decode cX4_correct 54 = .ok (.ireturn, 1) := by decide +kernel
theorem dX4_correct_55 : decode cX4_correct 55 = .ok (.aload_n 0, 1) := by decide +kernel
theorem dX4_correct_56 : decode cX4_correct 56 = .ok (.invokevirtual 78, 3) := by decide +kernel
theorem dX4_correct_59 : decode cX4_correct 59 = .ok (.aload_n 0, 1) := by decide +kernel
theorem dX4_correct_60 : decode cX4_correct 60 = .ok (.invokevirtual 93, 3) := by decide +kernel
theorem dX4_correct_63 : decode cX4_correct 63 = .ok (.aload_n 0, 1) := by decide +kernel
theorem dX4_correct_64 : decode cX4_correct 64 = .ok (.iload_n 1, 1) := by decide +kernel
theorem dX4_correct_65 : decode cX4_correct 65 = .ok (.iload_n 2, 1) := by decide +kernel
theorem dX4_correct_66 : decode cX4_correct 66 = .ok (.invokevirtual 96, 3) := by decide +kernel
theorem dX4_correct_69 : decode cX4_correct 69 = .ok (.aload_n 0, 1) := by decide +kernel
theorem dX4_correct_70 : decode cX4_correct 70 = .ok (.getfield 7, 3) := by decide +kernel
theorem dX4_correct_73 : decode cX4_correct 73 = .ok (.bipush 16, 2) := by decide +kernel
theorem dX4_correct_75 : decode cX4_correct 75 = .ok (.aload_n 0, 1) := by decide +kernel
theorem dX4_correct_76 : decode cX4_correct 76 = .ok (.getfield 50, 3) := by decide +kernel
theorem dX4_correct_79 : decode cX4_correct 79 = .ok (.l2i, 1) := by decide +kernel
theorem dX4_correct_80 : decode cX4_correct 80 = .ok (.iastore, 1) := by decide +kernel
theorem dX4_correct_81 : decode cX4_correct 81 = .ok (.iload_n 3, 1) := by decide +kernel
theorem dX4_correct_82 : decode cX4_correct 82 = .ok (.iconst 1, 1) := by decide +kernel
theorem dX4_correct_83 : decode cX4_correct 83 = .ok (.if_icmp .ne 41, 3) := by decide +kernel
theorem dX4_correct_86 : decode cX4_correct 86 = .ok (.aload_n 0, 1) := by decide +kernel
theorem dX4_correct_87 : decode cX4_correct 87 = .ok (.getfield 7, 3) := by decide +kernel
theorem dX4_correct_90 : decode cX4_correct 90 = .ok (.bipush 17, 2) := by decide +kernel
theorem dX4_correct_92 : decode cX4_correct 92 = .ok (.aload_n 0, 1) := by decide +kernel
theorem dX4_correct_93 : decode cX4_correct 93 = .ok (.getfield 60, 3) := by decide +kernel
theorem dX4_correct_96 : decode cX4_correct 96 = .ok (.l2i, 1) := by decide +kernel
theorem dX4_correct_97 : decode cX4_correct 97 = .ok (.iastore, 1) := by decide +kernel
theorem dX4_correct_98 : decode cX4_correct 98 = .ok (.aload_n 0, 1) := by decide +kernel
theorem dX4_correct_99 : decode cX4_correct 99 = .ok (.getfield 7, 3) := by decide +kernel
theorem dX4_correct_102 : decode cX4_correct 102 = .ok (.bipush 18, 2) := by decide +kernel
theorem dX4_correct_104 : decode cX4_correct 104 = .ok (.aload_n 0, 1) := by decide +kernel
theorem dX4_correct_105 : decode cX4_correct 105 = .ok (.getfield 63, 3) := by decide +kernel
theorem dX4_correct_108 : decode cX4_correct 108 = .ok (.l2i, 1) := by decide +kernel
theorem dX4_correct_109 : decode cX4_correct 109 = .ok (.iastore, 1) := by decide +kernel
theorem dX4_correct_110 : decode cX4_correct 110 = .ok (.aload_n 0, 1) := by decide +kernel
theorem dX4_correct_111 : decode cX4_correct 111 = .ok (.getfield 7, 3) := by decide +kernel
theorem dX4_correct_114 : decode cX4_correct 114 = .ok (.bipush 19, 2) := by decide +kernel
theorem dX4_correct_116 : decode cX4_correct 116 = .ok (.dup2, 1) := by decide +kernel
theorem dX4_correct_117 : decode cX4_correct 117 = .ok (.iaload, 1) := by decide +kernel
theorem dX4_correct_118 : decode cX4_correct 118 = .ok (.iconst 1, 1) := by decide +kernel
theorem dX4_correct_119 : decode cX4_correct 119 = .ok (.iadd, 1) := by decide +kernel
theorem dX4_correct_120 : decode cX4_correct 120 = .ok (.iastore, 1) := by decide +kernel
theorem dX4_correct_121 : decode cX4_correct 121 = .ok (.goto 14, 3) := by decide +kernel
theorem dX4_correct_124 : decode cX4_correct 124 = .ok (.aload_n 0, 1) := by decide +kernel
theorem dX4_correct_125 : decode cX4_correct 125 = .ok (.getfield 7, 3) := by decide +kernel
theorem dX4_correct_128 : decode cX4_correct 128 = .ok (.bipush 20, 2) := by decide +kernel
theorem dX4_correct_130 : decode cX4_correct 130 = .ok (.dup2, 1) := by decide +kernel
theorem dX4_correct_131 : decode cX4_correct 131 = .ok (.iaload, 1) := by decide +kernel
theorem dX4_correct_132 : decode cX4_correct 132 = .ok (.iconst 1, 1) := by decide +kernel
theorem dX4_correct_133 : decode cX4_correct 133 = .ok (.iadd, 1) := by decide +kernel
theorem dX4_correct_134 : decode cX4_correct 134 = .ok (.iastore, 1) := by decide +kernel
theorem dX4_correct_135 : decode cX4_correct 135 = .ok (.iload_n 3, 1) := by decide +kernel
theorem dX4_correct_136 : decode cX4_correct 136 = .ok (.ireturn, 1) := by decide +kernel
set_option maxRecDepth 20000 in
theorem ggX4_miss_X4_isSensor : GoodIn wsX4_miss wsX4_isSensor := goodIn_r _ [6, 7, 8, 5, 9] (by decide +kernel) (by decide +kernel)
set_option maxRecDepth 20000 in
theorem gX4_miss_X4_isSensor : GoodIn wsX4_miss (va_wsS RX4 81 yX4_isSensor wsX4_isSensor) := goodIn_app (goodIn_of _ (by decide +kernel)) ggX4_miss_X4_isSensor
set_option maxRecDepth 20000 in
theorem ggX4_miss_X4_fail : GoodIn wsX4_miss wsX4_fail := goodIn_r _ [13, 14, 1, 21, 22, 23, 24, 25, 26, 27, 28, 29] (by decide +kernel) (by decide +kernel)
set_option maxRecDepth 20000 in
theorem gX4_miss_X4_fail : GoodIn wsX4_miss (wsV RX4 74 RX4 yX4_fail wsX4_fail) := goodIn_app (goodIn_of _ (by decide +kernel)) ggX4_miss_X4_fail
set_option maxRecDepth 20000 in
theorem ggX4_miss_X4_note : GoodIn wsX4_miss wsX4_note := goodIn_r _ [18, 19, 20, 2, 21, 22, 23, 24, 25, 26, 27, 28, 29] (by decide +kernel) (by decide +kernel)
set_option maxRecDepth 20000 in
theorem gX4_miss_X4_note : GoodIn wsX4_miss (wsV RX4 78 RX4 yX4_note wsX4_note) := goodIn_app (goodIn_of _ (by decide +kernel)) ggX4_miss_X4_note
theorem dX4_miss_0 : decode cX4_miss 0 = .ok (.iload_n 1, 1) := by decide +kernel
theorem dX4_miss_1 : decode cX4_miss 1 = .ok (.invokestatic 81, 3) := by decide +kernel
theorem dX4_miss_4 : decode cX4_miss 4 = .ok (.ifCond .ne 10, 3) := by decide +kernel
theorem dX4_miss_7 : decode cX4_miss 7 = .ok (.aload_n 0, 1) := by decide +kernel
theorem dX4_miss_8 : decode cX4_miss 8 = .ok (.ldc 26, 2) := by decide +kernel
theorem dX4_miss_10 : decode cX4_miss 10 = .ok (.invokevirtual 74, 3) := by decide +kernel
theorem dX4_miss_13 : decode cX4_miss 13 = .ok (.ireturn, 1) := by decide +kernel
theorem dX4_miss_14 : decode cX4_miss 14 = .ok (.aload_n 0, 1) := by decide +kernel
theorem dX4_miss_15 : decode cX4_miss 15 = .ok (.invokevirtual 78, 3) := by decide +kernel
theorem dX4_miss_18 : decode cX4_miss 18 = .ok (.aload_n 0, 1) := by decide +kernel
theorem dX4_miss_19 : decode cX4_miss 19 = .ok (.getfield 7, 3) := by decide +kernel
theorem dX4_miss_22 : decode cX4_miss 22 = .ok (.bipush 21, 2) := by decide +kernel
theorem dX4_miss_24 : decode cX4_miss 24 = .ok (.dup2, 1) := by decide +kernel
theorem dX4_miss_25 : decode cX4_miss 25 = .ok (.iaload, 1) := by decide +kernel
theorem dX4_miss_26 : decode cX4_miss 26 = .ok (.iconst 1, 1) := by decide +kernel
theorem dX4_miss_27 : decode cX4_miss 27 = .ok (.iadd, 1) := by decide +kernel
theorem dX4_miss_28 : decode cX4_miss 28 = .ok (.iastore, 1) := by decide +kernel
theorem dX4_miss_29 : decode cX4_miss 29 = .ok (.aload_n 0, 1) := by decide +kernel
theorem dX4_miss_30 : decode cX4_miss 30 = .ok (.getfield 7, 3) := by decide +kernel
theorem dX4_miss_33 : decode cX4_miss 33 = .ok (.bipush 21, 2) := by decide +kernel
theorem dX4_miss_35 : decode cX4_miss 35 = .ok (.iaload, 1) := by decide +kernel
theorem dX4_miss_36 : decode cX4_miss 36 = .ok (.ireturn, 1) := by decide +kernel
theorem dX4_level_0 : decode cX4_level 0 = .ok (.aload_n 0, 1) := by decide +kernel
theorem dX4_level_1 : decode cX4_level 1 = .ok (.getfield 7, 3) := by decide +kernel
theorem dX4_level_4 : decode cX4_level 4 = .ok (.iconst 0, 1) := by decide +kernel
theorem dX4_level_5 : decode cX4_level 5 = .ok (.iaload, 1) := by decide +kernel
theorem dX4_level_6 : decode cX4_level 6 = .ok (.ireturn, 1) := by decide +kernel
theorem dX4_flow_0 : decode cX4_flow 0 = .ok (.aload_n 0, 1) := by decide +kernel
theorem dX4_flow_1 : decode cX4_flow 1 = .ok (.getfield 7, 3) := by decide +kernel
theorem dX4_flow_4 : decode cX4_flow 4 = .ok (.iconst 1, 1) := by decide +kernel
theorem dX4_flow_5 : decode cX4_flow 5 = .ok (.iaload, 1) := by decide +kernel
theorem dX4_flow_6 : decode cX4_flow 6 = .ok (.ireturn, 1) := by decide +kernel
theorem dX4_levelVariance_0 : decode cX4_levelVariance 0 = .ok (.aload_n 0, 1) := by decide +kernel
theorem dX4_levelVariance_1 : decode cX4_levelVariance 1 = .ok (.getfield 7, 3) := by decide +kernel
theorem dX4_levelVariance_4 : decode cX4_levelVariance 4 = .ok (.iconst 2, 1) := by decide +kernel
theorem dX4_levelVariance_5 : decode cX4_levelVariance 5 = .ok (.iaload, 1) := by decide +kernel
theorem dX4_levelVariance_6 : decode cX4_levelVariance 6 = .ok (.ireturn, 1) := by decide +kernel
theorem dX4_covariance_0 : decode cX4_covariance 0 = .ok (.aload_n 0, 1) := by decide +kernel
theorem dX4_covariance_1 : decode cX4_covariance 1 = .ok (.getfield 7, 3) := by decide +kernel
theorem dX4_covariance_4 : decode cX4_covariance 4 = .ok (.iconst 3, 1) := by decide +kernel
theorem dX4_covariance_5 : decode cX4_covariance 5 = .ok (.iaload, 1) := by decide +kernel
theorem dX4_covariance_6 : decode cX4_covariance 6 = .ok (.ireturn, 1) := by decide +kernel
theorem dX4_flowVariance_0 : decode cX4_flowVariance 0 = .ok (.aload_n 0, 1) := by decide +kernel
theorem dX4_flowVariance_1 : decode cX4_flowVariance 1 = .ok (.getfield 7, 3) := by decide +kernel
theorem dX4_flowVariance_4 : decode cX4_flowVariance 4 = .ok (.iconst 4, 1) := by decide +kernel
theorem dX4_flowVariance_5 : decode cX4_flowVariance 5 = .ok (.iaload, 1) := by decide +kernel
theorem dX4_flowVariance_6 : decode cX4_flowVariance 6 = .ok (.ireturn, 1) := by decide +kernel
theorem dX4_innovation_0 : decode cX4_innovation 0 = .ok (.aload_n 0, 1) := by decide +kernel
theorem dX4_innovation_1 : decode cX4_innovation 1 = .ok (.getfield 7, 3) := by decide +kernel
theorem dX4_innovation_4 : decode cX4_innovation 4 = .ok (.bipush 16, 2) := by decide +kernel
theorem dX4_innovation_6 : decode cX4_innovation 6 = .ok (.iaload, 1) := by decide +kernel
theorem dX4_innovation_7 : decode cX4_innovation 7 = .ok (.ireturn, 1) := by decide +kernel
theorem dX4_levelGain_0 : decode cX4_levelGain 0 = .ok (.aload_n 0, 1) := by decide +kernel
theorem dX4_levelGain_1 : decode cX4_levelGain 1 = .ok (.getfield 7, 3) := by decide +kernel
theorem dX4_levelGain_4 : decode cX4_levelGain 4 = .ok (.bipush 17, 2) := by decide +kernel
theorem dX4_levelGain_6 : decode cX4_levelGain 6 = .ok (.iaload, 1) := by decide +kernel
theorem dX4_levelGain_7 : decode cX4_levelGain 7 = .ok (.ireturn, 1) := by decide +kernel
theorem dX4_flowGain_0 : decode cX4_flowGain 0 = .ok (.aload_n 0, 1) := by decide +kernel
theorem dX4_flowGain_1 : decode cX4_flowGain 1 = .ok (.getfield 7, 3) := by decide +kernel
theorem dX4_flowGain_4 : decode cX4_flowGain 4 = .ok (.bipush 18, 2) := by decide +kernel
theorem dX4_flowGain_6 : decode cX4_flowGain 6 = .ok (.iaload, 1) := by decide +kernel
theorem dX4_flowGain_7 : decode cX4_flowGain 7 = .ok (.ireturn, 1) := by decide +kernel
theorem dX4_accepted_0 : decode cX4_accepted 0 = .ok (.aload_n 0, 1) := by decide +kernel
theorem dX4_accepted_1 : decode cX4_accepted 1 = .ok (.getfield 7, 3) := by decide +kernel
theorem dX4_accepted_4 : decode cX4_accepted 4 = .ok (.bipush 19, 2) := by decide +kernel
theorem dX4_accepted_6 : decode cX4_accepted 6 = .ok (.iaload, 1) := by decide +kernel
theorem dX4_accepted_7 : decode cX4_accepted 7 = .ok (.ireturn, 1) := by decide +kernel
theorem dX4_rejected_0 : decode cX4_rejected 0 = .ok (.aload_n 0, 1) := by decide +kernel
theorem dX4_rejected_1 : decode cX4_rejected 1 = .ok (.getfield 7, 3) := by decide +kernel
theorem dX4_rejected_4 : decode cX4_rejected 4 = .ok (.bipush 20, 2) := by decide +kernel
theorem dX4_rejected_6 : decode cX4_rejected 6 = .ok (.iaload, 1) := by decide +kernel
theorem dX4_rejected_7 : decode cX4_rejected 7 = .ok (.ireturn, 1) := by decide +kernel
theorem dX4_missed_0 : decode cX4_missed 0 = .ok (.aload_n 0, 1) := by decide +kernel
theorem dX4_missed_1 : decode cX4_missed 1 = .ok (.getfield 7, 3) := by decide +kernel
theorem dX4_missed_4 : decode cX4_missed 4 = .ok (.bipush 21, 2) := by decide +kernel
theorem dX4_missed_6 : decode cX4_missed 6 = .ok (.iaload, 1) := by decide +kernel
theorem dX4_missed_7 : decode cX4_missed 7 = .ok (.ireturn, 1) := by decide +kernel
theorem dX4_historyLength_0 : decode cX4_historyLength 0 = .ok (.aload_n 0, 1) := by decide +kernel
theorem dX4_historyLength_1 : decode cX4_historyLength 1 = .ok (.getfield 7, 3) := by decide +kernel
theorem dX4_historyLength_4 : decode cX4_historyLength 4 = .ok (.bipush 22, 2) := by decide +kernel
theorem dX4_historyLength_6 : decode cX4_historyLength 6 = .ok (.iaload, 1) := by decide +kernel
theorem dX4_historyLength_7 : decode cX4_historyLength 7 = .ok (.ireturn, 1) := by decide +kernel
set_option maxRecDepth 20000 in
theorem ggX4_goesOn_X4_take : GoodIn wsX4_goesOn wsX4_take := goodIn_r _ [6, 7, 1, 18, 19, 20, 21, 22, 23, 24, 25, 26] (by decide +kernel) (by decide +kernel)
set_option maxRecDepth 20000 in
theorem gX4_goesOn_X4_take : GoodIn wsX4_goesOn (wsV RX4 85 RX4 yX4_take wsX4_take) := goodIn_app (goodIn_of _ (by decide +kernel)) ggX4_goesOn_X4_take
set_option maxRecDepth 20000 in
theorem ggX4_goesOn_X4_predicts : GoodIn wsX4_goesOn wsX4_predicts := goodIn_r _ [11, 7, 12, 1, 13, 14, 5, 15, 16, 17, 18, 19, 20, 21, 22, 23, 24, 25, 26] (by decide +kernel) (by decide +kernel)
set_option maxRecDepth 20000 in
theorem gX4_goesOn_X4_predicts : GoodIn wsX4_goesOn (wsV RX4 88 RX4 yX4_predicts wsX4_predicts) := goodIn_app (goodIn_of _ (by decide +kernel)) ggX4_goesOn_X4_predicts
theorem dX4_goesOn_0 : decode cX4_goesOn 0 = .ok (.aload_n 0, 1) := by decide +kernel
theorem dX4_goesOn_1 : decode cX4_goesOn 1 = .ok (.invokevirtual 85, 3) := by decide +kernel
theorem dX4_goesOn_4 : decode cX4_goesOn 4 = .ok (.iconst 1, 1) := by decide +kernel
theorem dX4_goesOn_5 : decode cX4_goesOn 5 = .ok (.istore_n 2, 1) := by decide +kernel
theorem dX4_goesOn_6 : decode cX4_goesOn 6 = .ok (.iconst 0, 1) := by decide +kernel
theorem dX4_goesOn_7 : decode cX4_goesOn 7 = .ok (.istore_n 3, 1) := by decide +kernel
theorem dX4_goesOn_8 : decode cX4_goesOn 8 = .ok (.iload_n 3, 1) := by decide +kernel
theorem dX4_goesOn_9 : decode cX4_goesOn 9 = .ok (.iload_n 1, 1) := by decide +kernel
theorem dX4_goesOn_10 : decode cX4_goesOn 10 = .ok (.if_icmp .ge 26, 3) := by decide +kernel
theorem dX4_goesOn_13 : decode cX4_goesOn 13 = .ok (.iload_n 2, 1) := by decide +kernel
theorem dX4_goesOn_14 : decode cX4_goesOn 14 = .ok (.ifCond .eq 22, 3) := by decide +kernel
theorem dX4_goesOn_17 : decode cX4_goesOn 17 = .ok (.aload_n 0, 1) := by decide +kernel
theorem dX4_goesOn_18 : decode cX4_goesOn 18 = .ok (.iconst 0, 1) := by decide +kernel
theorem dX4_goesOn_19 : decode cX4_goesOn 19 = .ok (.aload_n 0, 1) := by decide +kernel
theorem dX4_goesOn_20 : decode cX4_goesOn 20 = .ok (.getfield 7, 3) := by decide +kernel
theorem dX4_goesOn_23 : decode cX4_goesOn 23 = .ok (.bipush 6, 2) := by decide +kernel
theorem dX4_goesOn_25 : decode cX4_goesOn 25 = .ok (.iaload, 1) := by decide +kernel
theorem dX4_goesOn_26 : decode cX4_goesOn 26 = .ok (.invokevirtual 88, 3) := by decide +kernel
theorem dX4_goesOn_29 : decode cX4_goesOn 29 = .ok (.istore_n 2, 1) := by decide +kernel
theorem dX4_goesOn_30 : decode cX4_goesOn 30 = .ok (.iinc 3 1, 3) := by decide +kernel
theorem dX4_goesOn_33 : decode cX4_goesOn 33 = .ok (.goto (-25), 3) := by decide +kernel
theorem dX4_goesOn_36 : decode cX4_goesOn 36 = .ok (.iload_n 2, 1) := by decide +kernel
theorem dX4_goesOn_37 : decode cX4_goesOn 37 = .ok (.ireturn, 1) := by decide +kernel
set_option maxRecDepth 20000 in
theorem ggX4_forecast_X4_in : GoodIn wsX4_forecast wsX4_in := goodIn_r _ [7] (by decide +kernel) (by decide +kernel)
set_option maxRecDepth 20000 in
theorem gX4_forecast_X4_in : GoodIn wsX4_forecast (va_wsS RX4 68 yX4_in wsX4_in) := goodIn_app (goodIn_of _ (by decide +kernel)) ggX4_forecast_X4_in
set_option maxRecDepth 20000 in
theorem ggX4_forecast_X4_fail : GoodIn wsX4_forecast wsX4_fail := goodIn_r _ [11, 12, 1, 32, 33, 34, 35, 36, 37, 38, 39, 40] (by decide +kernel) (by decide +kernel)
set_option maxRecDepth 20000 in
theorem gX4_forecast_X4_fail : GoodIn wsX4_forecast (wsV RX4 74 RX4 yX4_fail wsX4_fail) := goodIn_app (goodIn_of _ (by decide +kernel)) ggX4_forecast_X4_fail
set_option maxRecDepth 20000 in
theorem ggX4_forecast_X4_goesOn : GoodIn wsX4_forecast wsX4_goesOn := goodIn_r _ [16, 17, 18, 19, 20, 6, 21, 2, 22, 23, 24, 25, 26, 27, 28, 29, 30, 31, 32, 33, 34, 35, 36, 37, 38, 39, 40] (by decide +kernel) (by decide +kernel)
set_option maxRecDepth 20000 in
theorem gX4_forecast_X4_goesOn : GoodIn wsX4_forecast (wsV RX4 104 RX4 yX4_goesOn wsX4_goesOn) := goodIn_app (goodIn_of _ (by decide +kernel)) ggX4_forecast_X4_goesOn
theorem dX4_forecast_0 : decode cX4_forecast 0 = .ok (.iload_n 1, 1) := by decide +kernel
theorem dX4_forecast_1 : decode cX4_forecast 1 = .ok (.iconst 0, 1) := by decide +kernel
theorem dX4_forecast_2 : decode cX4_forecast 2 = .ok (.bipush 100, 2) := by decide +kernel
theorem dX4_forecast_4 : decode cX4_forecast 4 = .ok (.invokestatic 68, 3) := by decide +kernel
theorem dX4_forecast_7 : decode cX4_forecast 7 = .ok (.ifCond .ne 10, 3) := by decide +kernel
theorem dX4_forecast_10 : decode cX4_forecast 10 = .ok (.aload_n 0, 1) := by decide +kernel
theorem dX4_forecast_11 : decode cX4_forecast 11 = .ok (.ldc 26, 2) := by decide +kernel
theorem dX4_forecast_13 : decode cX4_forecast 13 = .ok (.invokevirtual 74, 3) := by decide +kernel
theorem dX4_forecast_16 : decode cX4_forecast 16 = .ok (.ireturn, 1) := by decide +kernel
theorem dX4_forecast_17 : decode cX4_forecast 17 = .ok (.aload_n 0, 1) := by decide +kernel
theorem dX4_forecast_18 : decode cX4_forecast 18 = .ok (.iload_n 1, 1) := by decide +kernel
theorem dX4_forecast_19 : decode cX4_forecast 19 = .ok (.invokevirtual 104, 3) := by decide +kernel
theorem dX4_forecast_22 : decode cX4_forecast 22 = .ok (.ifCond .eq 13, 3) := by decide +kernel
theorem dX4_forecast_25 : decode cX4_forecast 25 = .ok (.aload_n 0, 1) := by decide +kernel
theorem dX4_forecast_26 : decode cX4_forecast 26 = .ok (.getfield 19, 3) := by decide +kernel
theorem dX4_forecast_29 : decode cX4_forecast 29 = .ok (.iconst 0, 1) := by decide +kernel
theorem dX4_forecast_30 : decode cX4_forecast 30 = .ok (.laload, 1) := by decide +kernel
theorem dX4_forecast_31 : decode cX4_forecast 31 = .ok (.l2i, 1) := by decide +kernel
theorem dX4_forecast_32 : decode cX4_forecast 32 = .ok (.goto 9, 3) := by decide +kernel
theorem dX4_forecast_35 : decode cX4_forecast 35 = .ok (.aload_n 0, 1) := by decide +kernel
theorem dX4_forecast_36 : decode cX4_forecast 36 = .ok (.ldc 92, 2) := by decide +kernel
theorem dX4_forecast_38 : decode cX4_forecast 38 = .ok (.invokevirtual 74, 3) := by decide +kernel
theorem dX4_forecast_41 : decode cX4_forecast 41 = .ok (.ireturn, 1) := by decide +kernel
set_option maxRecDepth 20000 in
theorem ggX4_forecastVariance_X4_in : GoodIn wsX4_forecastVariance wsX4_in := goodIn_r _ [7] (by decide +kernel) (by decide +kernel)
set_option maxRecDepth 20000 in
theorem gX4_forecastVariance_X4_in : GoodIn wsX4_forecastVariance (va_wsS RX4 68 yX4_in wsX4_in) := goodIn_app (goodIn_of _ (by decide +kernel)) ggX4_forecastVariance_X4_in
set_option maxRecDepth 20000 in
theorem ggX4_forecastVariance_X4_fail : GoodIn wsX4_forecastVariance wsX4_fail := goodIn_r _ [11, 12, 1, 32, 33, 34, 35, 36, 37, 38, 39, 40] (by decide +kernel) (by decide +kernel)
set_option maxRecDepth 20000 in
theorem gX4_forecastVariance_X4_fail : GoodIn wsX4_forecastVariance (wsV RX4 74 RX4 yX4_fail wsX4_fail) := goodIn_app (goodIn_of _ (by decide +kernel)) ggX4_forecastVariance_X4_fail
set_option maxRecDepth 20000 in
theorem ggX4_forecastVariance_X4_goesOn : GoodIn wsX4_forecastVariance wsX4_goesOn := goodIn_r _ [16, 17, 18, 19, 20, 6, 21, 2, 22, 23, 24, 25, 26, 27, 28, 29, 30, 31, 32, 33, 34, 35, 36, 37, 38, 39, 40] (by decide +kernel) (by decide +kernel)
set_option maxRecDepth 20000 in
theorem gX4_forecastVariance_X4_goesOn : GoodIn wsX4_forecastVariance (wsV RX4 104 RX4 yX4_goesOn wsX4_goesOn) := goodIn_app (goodIn_of _ (by decide +kernel)) ggX4_forecastVariance_X4_goesOn
theorem dX4_forecastVariance_0 : decode cX4_forecastVariance 0 = .ok (.iload_n 1, 1) := by decide +kernel
theorem dX4_forecastVariance_1 : decode cX4_forecastVariance 1 = .ok (.iconst 0, 1) := by decide +kernel
theorem dX4_forecastVariance_2 : decode cX4_forecastVariance 2 = .ok (.bipush 100, 2) := by decide +kernel
theorem dX4_forecastVariance_4 : decode cX4_forecastVariance 4 = .ok (.invokestatic 68, 3) := by decide +kernel
theorem dX4_forecastVariance_7 : decode cX4_forecastVariance 7 = .ok (.ifCond .ne 10, 3) := by decide +kernel
theorem dX4_forecastVariance_10 : decode cX4_forecastVariance 10 = .ok (.aload_n 0, 1) := by decide +kernel
theorem dX4_forecastVariance_11 : decode cX4_forecastVariance 11 = .ok (.ldc 26, 2) := by decide +kernel
theorem dX4_forecastVariance_13 : decode cX4_forecastVariance 13 = .ok (.invokevirtual 74, 3) := by decide +kernel
theorem dX4_forecastVariance_16 : decode cX4_forecastVariance 16 = .ok (.ireturn, 1) := by decide +kernel
theorem dX4_forecastVariance_17 : decode cX4_forecastVariance 17 = .ok (.aload_n 0, 1) := by decide +kernel
theorem dX4_forecastVariance_18 : decode cX4_forecastVariance 18 = .ok (.iload_n 1, 1) := by decide +kernel
theorem dX4_forecastVariance_19 : decode cX4_forecastVariance 19 = .ok (.invokevirtual 104, 3) := by decide +kernel
theorem dX4_forecastVariance_22 : decode cX4_forecastVariance 22 = .ok (.ifCond .eq 13, 3) := by decide +kernel
theorem dX4_forecastVariance_25 : decode cX4_forecastVariance 25 = .ok (.aload_n 0, 1) := by decide +kernel
theorem dX4_forecastVariance_26 : decode cX4_forecastVariance 26 = .ok (.getfield 19, 3) := by decide +kernel
theorem dX4_forecastVariance_29 : decode cX4_forecastVariance 29 = .ok (.iconst 2, 1) := by decide +kernel
theorem dX4_forecastVariance_30 : decode cX4_forecastVariance 30 = .ok (.laload, 1) := by decide +kernel
theorem dX4_forecastVariance_31 : decode cX4_forecastVariance 31 = .ok (.l2i, 1) := by decide +kernel
theorem dX4_forecastVariance_32 : decode cX4_forecastVariance 32 = .ok (.goto 9, 3) := by decide +kernel
theorem dX4_forecastVariance_35 : decode cX4_forecastVariance 35 = .ok (.aload_n 0, 1) := by decide +kernel
end
section
theorem dX4_forecastVariance_36 : decode cX4_forecastVariance 36 = .ok (.ldc 92, 2) := by decide +kernel
theorem dX4_forecastVariance_38 : decode cX4_forecastVariance 38 = .ok (.invokevirtual 74, 3) := by decide +kernel
theorem dX4_forecastVariance_41 : decode cX4_forecastVariance 41 = .ok (.ireturn, 1) := by decide +kernel
set_option maxRecDepth 20000 in
theorem ggX4_stepsTo_X4_in : GoodIn wsX4_stepsTo wsX4_in := goodIn_r _ [10] (by decide +kernel) (by decide +kernel)
set_option maxRecDepth 20000 in
theorem gX4_stepsTo_X4_in : GoodIn wsX4_stepsTo (va_wsS RX4 68 yX4_in wsX4_in) := goodIn_app (goodIn_of _ (by decide +kernel)) ggX4_stepsTo_X4_in
set_option maxRecDepth 20000 in
theorem ggX4_stepsTo_X4_fail : GoodIn wsX4_stepsTo wsX4_fail := goodIn_r _ [14, 15, 3, 30, 31, 32, 33, 34, 35, 36, 37, 38] (by decide +kernel) (by decide +kernel)
set_option maxRecDepth 20000 in
theorem gX4_stepsTo_X4_fail : GoodIn wsX4_stepsTo (wsV RX4 74 RX4 yX4_fail wsX4_fail) := goodIn_app (goodIn_of _ (by decide +kernel)) ggX4_stepsTo_X4_fail
set_option maxRecDepth 20000 in
theorem ggX4_stepsTo_X4_take : GoodIn wsX4_stepsTo wsX4_take := goodIn_r _ [19, 5, 4, 30, 31, 32, 33, 34, 35, 36, 37, 38] (by decide +kernel) (by decide +kernel)
set_option maxRecDepth 20000 in
theorem gX4_stepsTo_X4_take : GoodIn wsX4_stepsTo (wsV RX4 85 RX4 yX4_take wsX4_take) := goodIn_app (goodIn_of _ (by decide +kernel)) ggX4_stepsTo_X4_take
set_option maxRecDepth 20000 in
theorem ggX4_stepsTo_X4_predicts : GoodIn wsX4_stepsTo wsX4_predicts := goodIn_r _ [23, 5, 24, 4, 25, 26, 9, 27, 28, 29, 30, 31, 32, 33, 34, 35, 36, 37, 38] (by decide +kernel) (by decide +kernel)
set_option maxRecDepth 20000 in
theorem gX4_stepsTo_X4_predicts : GoodIn wsX4_stepsTo (wsV RX4 88 RX4 yX4_predicts wsX4_predicts) := goodIn_app (goodIn_of _ (by decide +kernel)) ggX4_stepsTo_X4_predicts
theorem dX4_stepsTo_0 : decode cX4_stepsTo 0 = .ok (.iload_n 1, 1) := by decide +kernel
theorem dX4_stepsTo_1 : decode cX4_stepsTo 1 = .ok (.ldc 66, 2) := by decide +kernel
theorem dX4_stepsTo_3 : decode cX4_stepsTo 3 = .ok (.ldc 67, 2) := by decide +kernel
theorem dX4_stepsTo_5 : decode cX4_stepsTo 5 = .ok (.invokestatic 68, 3) := by decide +kernel
theorem dX4_stepsTo_8 : decode cX4_stepsTo 8 = .ok (.ifCond .ne 10, 3) := by decide +kernel
theorem dX4_stepsTo_11 : decode cX4_stepsTo 11 = .ok (.aload_n 0, 1) := by decide +kernel
theorem dX4_stepsTo_12 : decode cX4_stepsTo 12 = .ok (.ldc 26, 2) := by decide +kernel
theorem dX4_stepsTo_14 : decode cX4_stepsTo 14 = .ok (.invokevirtual 74, 3) := by decide +kernel
theorem dX4_stepsTo_17 : decode cX4_stepsTo 17 = .ok (.ireturn, 1) := by decide +kernel
theorem dX4_stepsTo_18 : decode cX4_stepsTo 18 = .ok (.aload_n 0, 1) := by decide +kernel
theorem dX4_stepsTo_19 : decode cX4_stepsTo 19 = .ok (.getfield 7, 3) := by decide +kernel
theorem dX4_stepsTo_22 : decode cX4_stepsTo 22 = .ok (.iconst 0, 1) := by decide +kernel
theorem dX4_stepsTo_23 : decode cX4_stepsTo 23 = .ok (.iaload, 1) := by decide +kernel
theorem dX4_stepsTo_24 : decode cX4_stepsTo 24 = .ok (.iload_n 1, 1) := by decide +kernel
theorem dX4_stepsTo_25 : decode cX4_stepsTo 25 = .ok (.if_icmp .ge 7, 3) := by decide +kernel
theorem dX4_stepsTo_28 : decode cX4_stepsTo 28 = .ok (.iconst 1, 1) := by decide +kernel
theorem dX4_stepsTo_29 : decode cX4_stepsTo 29 = .ok (.goto 4, 3) := by decide +kernel
theorem dX4_stepsTo_32 : decode cX4_stepsTo 32 = .ok (.iconst 0, 1) := by decide +kernel
theorem dX4_stepsTo_33 : decode cX4_stepsTo 33 = .ok (.istore_n 2, 1) := by decide +kernel
theorem dX4_stepsTo_34 : decode cX4_stepsTo 34 = .ok (.aload_n 0, 1) := by decide +kernel
theorem dX4_stepsTo_35 : decode cX4_stepsTo 35 = .ok (.getfield 7, 3) := by decide +kernel
theorem dX4_stepsTo_38 : decode cX4_stepsTo 38 = .ok (.iconst 0, 1) := by decide +kernel
theorem dX4_stepsTo_39 : decode cX4_stepsTo 39 = .ok (.iaload, 1) := by decide +kernel
theorem dX4_stepsTo_40 : decode cX4_stepsTo 40 = .ok (.iload_n 1, 1) := by decide +kernel
theorem dX4_stepsTo_41 : decode cX4_stepsTo 41 = .ok (.if_icmp .le 7, 3) := by decide +kernel
theorem dX4_stepsTo_44 : decode cX4_stepsTo 44 = .ok (.iconst 1, 1) := by decide +kernel
theorem dX4_stepsTo_45 : decode cX4_stepsTo 45 = .ok (.goto 4, 3) := by decide +kernel
theorem dX4_stepsTo_48 : decode cX4_stepsTo 48 = .ok (.iconst 0, 1) := by decide +kernel
theorem dX4_stepsTo_49 : decode cX4_stepsTo 49 = .ok (.istore_n 3, 1) := by decide +kernel
theorem dX4_stepsTo_50 : decode cX4_stepsTo 50 = .ok (.aload_n 0, 1) := by decide +kernel
theorem dX4_stepsTo_51 : decode cX4_stepsTo 51 = .ok (.invokevirtual 85, 3) := by decide +kernel
theorem dX4_stepsTo_54 : decode cX4_stepsTo 54 = .ok (.iconst 0, 1) := by decide +kernel
theorem dX4_stepsTo_55 : decode cX4_stepsTo 55 = .ok (.istore 4, 2) := by decide +kernel
theorem dX4_stepsTo_57 : decode cX4_stepsTo 57 = .ok (.iload_n 2, 1) := by decide +kernel
theorem dX4_stepsTo_58 : decode cX4_stepsTo 58 = .ok (.ifCond .eq 15, 3) := by decide +kernel
theorem dX4_stepsTo_61 : decode cX4_stepsTo 61 = .ok (.aload_n 0, 1) := by decide +kernel
theorem dX4_stepsTo_62 : decode cX4_stepsTo 62 = .ok (.getfield 19, 3) := by decide +kernel
theorem dX4_stepsTo_65 : decode cX4_stepsTo 65 = .ok (.iconst 0, 1) := by decide +kernel
theorem dX4_stepsTo_66 : decode cX4_stepsTo 66 = .ok (.laload, 1) := by decide +kernel
theorem dX4_stepsTo_67 : decode cX4_stepsTo 67 = .ok (.iload_n 1, 1) := by decide +kernel
theorem dX4_stepsTo_68 : decode cX4_stepsTo 68 = .ok (.i2l, 1) := by decide +kernel
theorem dX4_stepsTo_69 : decode cX4_stepsTo 69 = .ok (.lcmp, 1) := by decide +kernel
theorem dX4_stepsTo_70 : decode cX4_stepsTo 70 = .ok (.ifCond .lt 19, 3) := by decide +kernel
theorem dX4_stepsTo_73 : decode cX4_stepsTo 73 = .ok (.iload_n 3, 1) := by decide +kernel
theorem dX4_stepsTo_74 : decode cX4_stepsTo 74 = .ok (.ifCond .eq 46, 3) := by decide +kernel
theorem dX4_stepsTo_77 : decode cX4_stepsTo 77 = .ok (.aload_n 0, 1) := by decide +kernel
theorem dX4_stepsTo_78 : decode cX4_stepsTo 78 = .ok (.getfield 19, 3) := by decide +kernel
theorem dX4_stepsTo_81 : decode cX4_stepsTo 81 = .ok (.iconst 0, 1) := by decide +kernel
theorem dX4_stepsTo_82 : decode cX4_stepsTo 82 = .ok (.laload, 1) := by decide +kernel
theorem dX4_stepsTo_83 : decode cX4_stepsTo 83 = .ok (.iload_n 1, 1) := by decide +kernel
theorem dX4_stepsTo_84 : decode cX4_stepsTo 84 = .ok (.i2l, 1) := by decide +kernel
theorem dX4_stepsTo_85 : decode cX4_stepsTo 85 = .ok (.lcmp, 1) := by decide +kernel
theorem dX4_stepsTo_86 : decode cX4_stepsTo 86 = .ok (.ifCond .le 34, 3) := by decide +kernel
theorem dX4_stepsTo_89 : decode cX4_stepsTo 89 = .ok (.iload 4, 2) := by decide +kernel
theorem dX4_stepsTo_91 : decode cX4_stepsTo 91 = .ok (.bipush 100, 2) := by decide +kernel
theorem dX4_stepsTo_93 : decode cX4_stepsTo 93 = .ok (.if_icmp .eq 18, 3) := by decide +kernel
theorem dX4_stepsTo_96 : decode cX4_stepsTo 96 = .ok (.aload_n 0, 1) := by decide +kernel
theorem dX4_stepsTo_97 : decode cX4_stepsTo 97 = .ok (.iconst 0, 1) := by decide +kernel
theorem dX4_stepsTo_98 : decode cX4_stepsTo 98 = .ok (.aload_n 0, 1) := by decide +kernel
theorem dX4_stepsTo_99 : decode cX4_stepsTo 99 = .ok (.getfield 7, 3) := by decide +kernel
theorem dX4_stepsTo_102 : decode cX4_stepsTo 102 = .ok (.bipush 6, 2) := by decide +kernel
theorem dX4_stepsTo_104 : decode cX4_stepsTo 104 = .ok (.iaload, 1) := by decide +kernel
theorem dX4_stepsTo_105 : decode cX4_stepsTo 105 = .ok (.invokevirtual 88, 3) := by decide +kernel
theorem dX4_stepsTo_108 : decode cX4_stepsTo 108 = .ok (.ifCond .ne 6, 3) := by decide +kernel
theorem dX4_stepsTo_111 : decode cX4_stepsTo 111 = .ok (.ldc 27, 2) := by decide +kernel
theorem dX4_stepsTo_113 : decode cX4_stepsTo 113 = .ok (.ireturn, 1) := by decide +kernel
theorem dX4_stepsTo_114 : decode cX4_stepsTo 114 = .ok (.iinc 4 1, 3) := by decide +kernel
theorem dX4_stepsTo_117 : decode cX4_stepsTo 117 = .ok (.goto (-60), 3) := by decide +kernel
theorem dX4_stepsTo_120 : decode cX4_stepsTo 120 = .ok (.iload 4, 2) := by decide +kernel
theorem dX4_stepsTo_122 : decode cX4_stepsTo 122 = .ok (.ireturn, 1) := by decide +kernel
set_option maxRecDepth 20000 in
theorem ggX4_cycles_X4_take : GoodIn wsX4_cycles wsX4_take := goodIn_r _ [8, 1, 2, 37, 38, 39, 40, 41, 42, 43, 44, 45] (by decide +kernel) (by decide +kernel)
set_option maxRecDepth 20000 in
theorem gX4_cycles_X4_take : GoodIn wsX4_cycles (wsV RX4 85 RX4 yX4_take wsX4_take) := goodIn_app (goodIn_of _ (by decide +kernel)) ggX4_cycles_X4_take
set_option maxRecDepth 20000 in
theorem ggX4_cycles_X4_predicts : GoodIn wsX4_cycles wsX4_predicts := goodIn_r _ [12, 1, 13, 2, 14, 15, 7, 16, 17, 18, 37, 38, 39, 40, 41, 42, 43, 44, 45] (by decide +kernel) (by decide +kernel)
set_option maxRecDepth 20000 in
theorem gX4_cycles_X4_predicts : GoodIn wsX4_cycles (wsV RX4 88 RX4 yX4_predicts wsX4_predicts) := goodIn_app (goodIn_of _ (by decide +kernel)) ggX4_cycles_X4_predicts
set_option maxRecDepth 20000 in
theorem ggX4_cycles_X4_corrects : GoodIn wsX4_cycles wsX4_corrects := goodIn_r _ [22, 2, 1, 23, 24, 25, 26, 27, 28, 7, 29, 13, 30, 31, 32, 14, 15, 16, 17, 18, 33, 34, 35, 36, 37, 38, 39, 40, 41, 42, 43, 44, 45] (by decide +kernel) (by decide +kernel)
set_option maxRecDepth 20000 in
theorem gX4_cycles_X4_corrects : GoodIn wsX4_cycles (wsV RX4 100 RX4 yX4_corrects wsX4_corrects) := goodIn_app (goodIn_of _ (by decide +kernel)) ggX4_cycles_X4_corrects
theorem dX4_cycles_0 : decode cX4_cycles 0 = .ok (.aload_n 0, 1) := by decide +kernel
theorem dX4_cycles_1 : decode cX4_cycles 1 = .ok (.invokevirtual 85, 3) := by decide +kernel
theorem dX4_cycles_4 : decode cX4_cycles 4 = .ok (.iconst 1, 1) := by decide +kernel
theorem dX4_cycles_5 : decode cX4_cycles 5 = .ok (.istore_n 2, 1) := by decide +kernel
theorem dX4_cycles_6 : decode cX4_cycles 6 = .ok (.iload_n 2, 1) := by decide +kernel
theorem dX4_cycles_7 : decode cX4_cycles 7 = .ok (.sipush 300, 3) := by decide +kernel
theorem dX4_cycles_10 : decode cX4_cycles 10 = .ok (.if_icmp .gt 130, 3) := by decide +kernel
theorem dX4_cycles_13 : decode cX4_cycles 13 = .ok (.aload_n 0, 1) := by decide +kernel
theorem dX4_cycles_14 : decode cX4_cycles 14 = .ok (.getfield 19, 3) := by decide +kernel
theorem dX4_cycles_17 : decode cX4_cycles 17 = .ok (.iconst 2, 1) := by decide +kernel
theorem dX4_cycles_18 : decode cX4_cycles 18 = .ok (.laload, 1) := by decide +kernel
theorem dX4_cycles_19 : decode cX4_cycles 19 = .ok (.lstore_n 3, 1) := by decide +kernel
theorem dX4_cycles_20 : decode cX4_cycles 20 = .ok (.aload_n 0, 1) := by decide +kernel
theorem dX4_cycles_21 : decode cX4_cycles 21 = .ok (.getfield 19, 3) := by decide +kernel
theorem dX4_cycles_24 : decode cX4_cycles 24 = .ok (.iconst 3, 1) := by decide +kernel
theorem dX4_cycles_25 : decode cX4_cycles 25 = .ok (.laload, 1) := by decide +kernel
theorem dX4_cycles_26 : decode cX4_cycles 26 = .ok (.lstore 5, 2) := by decide +kernel
theorem dX4_cycles_28 : decode cX4_cycles 28 = .ok (.aload_n 0, 1) := by decide +kernel
theorem dX4_cycles_29 : decode cX4_cycles 29 = .ok (.getfield 19, 3) := by decide +kernel
theorem dX4_cycles_32 : decode cX4_cycles 32 = .ok (.iconst 4, 1) := by decide +kernel
theorem dX4_cycles_33 : decode cX4_cycles 33 = .ok (.laload, 1) := by decide +kernel
theorem dX4_cycles_34 : decode cX4_cycles 34 = .ok (.lstore 7, 2) := by decide +kernel
theorem dX4_cycles_36 : decode cX4_cycles 36 = .ok (.aload_n 0, 1) := by decide +kernel
theorem dX4_cycles_37 : decode cX4_cycles 37 = .ok (.iconst 0, 1) := by decide +kernel
theorem dX4_cycles_38 : decode cX4_cycles 38 = .ok (.aload_n 0, 1) := by decide +kernel
theorem dX4_cycles_39 : decode cX4_cycles 39 = .ok (.getfield 7, 3) := by decide +kernel
theorem dX4_cycles_42 : decode cX4_cycles 42 = .ok (.bipush 6, 2) := by decide +kernel
theorem dX4_cycles_44 : decode cX4_cycles 44 = .ok (.iaload, 1) := by decide +kernel
theorem dX4_cycles_45 : decode cX4_cycles 45 = .ok (.invokevirtual 88, 3) := by decide +kernel
theorem dX4_cycles_48 : decode cX4_cycles 48 = .ok (.ifCond .ne 6, 3) := by decide +kernel
theorem dX4_cycles_51 : decode cX4_cycles 51 = .ok (.ldc 27, 2) := by decide +kernel
theorem dX4_cycles_53 : decode cX4_cycles 53 = .ok (.ireturn, 1) := by decide +kernel
theorem dX4_cycles_54 : decode cX4_cycles 54 = .ok (.aload_n 0, 1) := by decide +kernel
theorem dX4_cycles_55 : decode cX4_cycles 55 = .ok (.iload_n 1, 1) := by decide +kernel
theorem dX4_cycles_56 : decode cX4_cycles 56 = .ok (.aload_n 0, 1) := by decide +kernel
theorem dX4_cycles_57 : decode cX4_cycles 57 = .ok (.getfield 7, 3) := by decide +kernel
theorem dX4_cycles_60 : decode cX4_cycles 60 = .ok (.bipush 8, 2) := by decide +kernel
theorem dX4_cycles_62 : decode cX4_cycles 62 = .ok (.iload_n 1, 1) := by decide +kernel
theorem dX4_cycles_63 : decode cX4_cycles 63 = .ok (.iadd, 1) := by decide +kernel
theorem dX4_cycles_64 : decode cX4_cycles 64 = .ok (.iaload, 1) := by decide +kernel
theorem dX4_cycles_65 : decode cX4_cycles 65 = .ok (.ifCond .ne 12, 3) := by decide +kernel
theorem dX4_cycles_68 : decode cX4_cycles 68 = .ok (.aload_n 0, 1) := by decide +kernel
theorem dX4_cycles_69 : decode cX4_cycles 69 = .ok (.getfield 19, 3) := by decide +kernel
theorem dX4_cycles_72 : decode cX4_cycles 72 = .ok (.iconst 0, 1) := by decide +kernel
theorem dX4_cycles_73 : decode cX4_cycles 73 = .ok (.laload, 1) := by decide +kernel
theorem dX4_cycles_74 : decode cX4_cycles 74 = .ok (.goto 9, 3) := by decide +kernel
theorem dX4_cycles_77 : decode cX4_cycles 77 = .ok (.aload_n 0, 1) := by decide +kernel
theorem dX4_cycles_78 : decode cX4_cycles 78 = .ok (.getfield 19, 3) := by decide +kernel
theorem dX4_cycles_81 : decode cX4_cycles 81 = .ok (.iconst 1, 1) := by decide +kernel
theorem dX4_cycles_82 : decode cX4_cycles 82 = .ok (.laload, 1) := by decide +kernel
theorem dX4_cycles_83 : decode cX4_cycles 83 = .ok (.iconst 0, 1) := by decide +kernel
theorem dX4_cycles_84 : decode cX4_cycles 84 = .ok (.invokevirtual 100, 3) := by decide +kernel
theorem dX4_cycles_87 : decode cX4_cycles 87 = .ok (.istore 9, 2) := by decide +kernel
theorem dX4_cycles_89 : decode cX4_cycles 89 = .ok (.iload 9, 2) := by decide +kernel
theorem dX4_cycles_91 : decode cX4_cycles 91 = .ok (.ifCond .ge 6, 3) := by decide +kernel
theorem dX4_cycles_94 : decode cX4_cycles 94 = .ok (.ldc 27, 2) := by decide +kernel
theorem dX4_cycles_96 : decode cX4_cycles 96 = .ok (.ireturn, 1) := by decide +kernel
theorem dX4_cycles_97 : decode cX4_cycles 97 = .ok (.aload_n 0, 1) := by decide +kernel
theorem dX4_cycles_98 : decode cX4_cycles 98 = .ok (.getfield 19, 3) := by decide +kernel
theorem dX4_cycles_101 : decode cX4_cycles 101 = .ok (.iconst 2, 1) := by decide +kernel
theorem dX4_cycles_102 : decode cX4_cycles 102 = .ok (.laload, 1) := by decide +kernel
theorem dX4_cycles_103 : decode cX4_cycles 103 = .ok (.lload_n 3, 1) := by decide +kernel
theorem dX4_cycles_104 : decode cX4_cycles 104 = .ok (.lcmp, 1) := by decide +kernel
theorem dX4_cycles_105 : decode cX4_cycles 105 = .ok (.ifCond .ne 29, 3) := by decide +kernel
theorem dX4_cycles_108 : decode cX4_cycles 108 = .ok (.aload_n 0, 1) := by decide +kernel
theorem dX4_cycles_109 : decode cX4_cycles 109 = .ok (.getfield 19, 3) := by decide +kernel
theorem dX4_cycles_112 : decode cX4_cycles 112 = .ok (.iconst 3, 1) := by decide +kernel
theorem dX4_cycles_113 : decode cX4_cycles 113 = .ok (.laload, 1) := by decide +kernel
theorem dX4_cycles_114 : decode cX4_cycles 114 = .ok (.lload 5, 2) := by decide +kernel
theorem dX4_cycles_116 : decode cX4_cycles 116 = .ok (.lcmp, 1) := by decide +kernel
theorem dX4_cycles_117 : decode cX4_cycles 117 = .ok (.ifCond .ne 17, 3) := by decide +kernel
theorem dX4_cycles_120 : decode cX4_cycles 120 = .ok (.aload_n 0, 1) := by decide +kernel
theorem dX4_cycles_121 : decode cX4_cycles 121 = .ok (.getfield 19, 3) := by decide +kernel
theorem dX4_cycles_124 : decode cX4_cycles 124 = .ok (.iconst 4, 1) := by decide +kernel
theorem dX4_cycles_125 : decode cX4_cycles 125 = .ok (.laload, 1) := by decide +kernel
theorem dX4_cycles_126 : decode cX4_cycles 126 = .ok (.lload 7, 2) := by decide +kernel
theorem dX4_cycles_128 : decode cX4_cycles 128 = .ok (.lcmp, 1) := by decide +kernel
theorem dX4_cycles_129 : decode cX4_cycles 129 = .ok (.ifCond .ne 5, 3) := by decide +kernel
theorem dX4_cycles_132 : decode cX4_cycles 132 = .ok (.iload_n 2, 1) := by decide +kernel
theorem dX4_cycles_133 : decode cX4_cycles 133 = .ok (.ireturn, 1) := by decide +kernel
theorem dX4_cycles_134 : decode cX4_cycles 134 = .ok (.iinc 2 1, 3) := by decide +kernel
theorem dX4_cycles_137 : decode cX4_cycles 137 = .ok (.goto (-131), 3) := by decide +kernel
theorem dX4_cycles_140 : decode cX4_cycles 140 = .ok (.ldc 27, 2) := by decide +kernel
theorem dX4_cycles_142 : decode cX4_cycles 142 = .ok (.ireturn, 1) := by decide +kernel
set_option maxRecDepth 20000 in
theorem ggX4_steadyCycles_X4_isSensor : GoodIn wsX4_steadyCycles wsX4_isSensor := goodIn_r _ [5, 6, 7, 4, 8] (by decide +kernel) (by decide +kernel)
set_option maxRecDepth 20000 in
theorem gX4_steadyCycles_X4_isSensor : GoodIn wsX4_steadyCycles (va_wsS RX4 81 yX4_isSensor wsX4_isSensor) := goodIn_app (goodIn_of _ (by decide +kernel)) ggX4_steadyCycles_X4_isSensor
set_option maxRecDepth 20000 in
theorem ggX4_steadyCycles_X4_cycles : GoodIn wsX4_steadyCycles wsX4_cycles := goodIn_r _ [12, 13, 14, 15, 16, 17, 18, 4, 19, 20, 21, 22, 23, 24, 25, 26, 27, 28, 29, 30, 31, 32, 33, 34, 35, 36, 37, 38, 39, 40, 41, 42, 43, 44, 45, 46, 47, 53, 54, 55, 56, 57, 58, 59, 60, 61] (by decide +kernel) (by decide +kernel)
set_option maxRecDepth 20000 in
theorem gX4_steadyCycles_X4_cycles : GoodIn wsX4_steadyCycles (wsV RX4 107 RX4 yX4_cycles wsX4_cycles) := goodIn_app (goodIn_of _ (by decide +kernel)) ggX4_steadyCycles_X4_cycles
set_option maxRecDepth 20000 in
theorem ggX4_steadyCycles_X4_fail : GoodIn wsX4_steadyCycles wsX4_fail := goodIn_r _ [51, 52, 1, 53, 54, 55, 56, 57, 58, 59, 60, 61] (by decide +kernel) (by decide +kernel)
set_option maxRecDepth 20000 in
theorem gX4_steadyCycles_X4_fail : GoodIn wsX4_steadyCycles (wsV RX4 74 RX4 yX4_fail wsX4_fail) := goodIn_app (goodIn_of _ (by decide +kernel)) ggX4_steadyCycles_X4_fail
theorem dX4_steadyCycles_0 : decode cX4_steadyCycles 0 = .ok (.iload_n 1, 1) := by decide +kernel
theorem dX4_steadyCycles_1 : decode cX4_steadyCycles 1 = .ok (.invokestatic 81, 3) := by decide +kernel
theorem dX4_steadyCycles_4 : decode cX4_steadyCycles 4 = .ok (.ifCond .eq 11, 3) := by decide +kernel
theorem dX4_steadyCycles_7 : decode cX4_steadyCycles 7 = .ok (.aload_n 0, 1) := by decide +kernel
theorem dX4_steadyCycles_8 : decode cX4_steadyCycles 8 = .ok (.iload_n 1, 1) := by decide +kernel
theorem dX4_steadyCycles_9 : decode cX4_steadyCycles 9 = .ok (.invokevirtual 107, 3) := by decide +kernel
theorem dX4_steadyCycles_12 : decode cX4_steadyCycles 12 = .ok (.goto 9, 3) := by decide +kernel
theorem dX4_steadyCycles_15 : decode cX4_steadyCycles 15 = .ok (.aload_n 0, 1) := by decide +kernel
theorem dX4_steadyCycles_16 : decode cX4_steadyCycles 16 = .ok (.ldc 26, 2) := by decide +kernel
theorem dX4_steadyCycles_18 : decode cX4_steadyCycles 18 = .ok (.invokevirtual 74, 3) := by decide +kernel
theorem dX4_steadyCycles_21 : decode cX4_steadyCycles 21 = .ok (.ireturn, 1) := by decide +kernel
set_option maxRecDepth 20000 in
theorem ggX4_steadyGain_X4_isSensor : GoodIn wsX4_steadyGain wsX4_isSensor := goodIn_r _ [8, 9, 10, 7, 11] (by decide +kernel) (by decide +kernel)
set_option maxRecDepth 20000 in
theorem gX4_steadyGain_X4_isSensor : GoodIn wsX4_steadyGain (va_wsS RX4 81 yX4_isSensor wsX4_isSensor) := goodIn_app (goodIn_of _ (by decide +kernel)) ggX4_steadyGain_X4_isSensor
set_option maxRecDepth 20000 in
theorem ggX4_steadyGain_X4_in : GoodIn wsX4_steadyGain wsX4_in := goodIn_r _ [11] (by decide +kernel) (by decide +kernel)
set_option maxRecDepth 20000 in
theorem gX4_steadyGain_X4_in : GoodIn wsX4_steadyGain (va_wsS RX4 68 yX4_in wsX4_in) := goodIn_app (goodIn_of _ (by decide +kernel)) ggX4_steadyGain_X4_in
set_option maxRecDepth 20000 in
theorem ggX4_steadyGain_X4_fail : GoodIn wsX4_steadyGain wsX4_fail := goodIn_r _ [15, 16, 1, 53, 54, 55, 56, 57, 58, 59, 60, 61] (by decide +kernel) (by decide +kernel)
set_option maxRecDepth 20000 in
theorem gX4_steadyGain_X4_fail : GoodIn wsX4_steadyGain (wsV RX4 74 RX4 yX4_fail wsX4_fail) := goodIn_app (goodIn_of _ (by decide +kernel)) ggX4_steadyGain_X4_fail
set_option maxRecDepth 20000 in
theorem ggX4_steadyGain_X4_cycles : GoodIn wsX4_steadyGain wsX4_cycles := goodIn_r _ [20, 21, 22, 2, 23, 24, 25, 7, 26, 27, 28, 29, 30, 31, 32, 33, 34, 35, 36, 37, 38, 39, 40, 41, 42, 3, 4, 43, 44, 45, 46, 47, 48, 49, 50, 51, 52, 53, 54, 55, 56, 57, 58, 59, 60, 61] (by decide +kernel) (by decide +kernel)
set_option maxRecDepth 20000 in
theorem gX4_steadyGain_X4_cycles : GoodIn wsX4_steadyGain (wsV RX4 107 RX4 yX4_cycles wsX4_cycles) := goodIn_app (goodIn_of _ (by decide +kernel)) ggX4_steadyGain_X4_cycles
theorem dX4_steadyGain_0 : decode cX4_steadyGain 0 = .ok (.iload_n 1, 1) := by decide +kernel
theorem dX4_steadyGain_1 : decode cX4_steadyGain 1 = .ok (.invokestatic 81, 3) := by decide +kernel
theorem dX4_steadyGain_4 : decode cX4_steadyGain 4 = .ok (.ifCond .eq 12, 3) := by decide +kernel
theorem dX4_steadyGain_7 : decode cX4_steadyGain 7 = .ok (.iload_n 2, 1) := by decide +kernel
theorem dX4_steadyGain_8 : decode cX4_steadyGain 8 = .ok (.iconst 0, 1) := by decide +kernel
theorem dX4_steadyGain_9 : decode cX4_steadyGain 9 = .ok (.iconst 1, 1) := by decide +kernel
theorem dX4_steadyGain_10 : decode cX4_steadyGain 10 = .ok (.invokestatic 68, 3) := by decide +kernel
theorem dX4_steadyGain_13 : decode cX4_steadyGain 13 = .ok (.ifCond .ne 10, 3) := by decide +kernel
theorem dX4_steadyGain_16 : decode cX4_steadyGain 16 = .ok (.aload_n 0, 1) := by decide +kernel
theorem dX4_steadyGain_17 : decode cX4_steadyGain 17 = .ok (.ldc 26, 2) := by decide +kernel
theorem dX4_steadyGain_19 : decode cX4_steadyGain 19 = .ok (.invokevirtual 74, 3) := by decide +kernel
theorem dX4_steadyGain_22 : decode cX4_steadyGain 22 = .ok (.ireturn, 1) := by decide +kernel
theorem dX4_steadyGain_23 : decode cX4_steadyGain 23 = .ok (.aload_n 0, 1) := by decide +kernel
theorem dX4_steadyGain_24 : decode cX4_steadyGain 24 = .ok (.iload_n 1, 1) := by decide +kernel
theorem dX4_steadyGain_25 : decode cX4_steadyGain 25 = .ok (.invokevirtual 107, 3) := by decide +kernel
theorem dX4_steadyGain_28 : decode cX4_steadyGain 28 = .ok (.istore_n 3, 1) := by decide +kernel
theorem dX4_steadyGain_29 : decode cX4_steadyGain 29 = .ok (.iload_n 3, 1) := by decide +kernel
theorem dX4_steadyGain_30 : decode cX4_steadyGain 30 = .ok (.ldc 27, 2) := by decide +kernel
theorem dX4_steadyGain_32 : decode cX4_steadyGain 32 = .ok (.if_icmp .ne 8, 3) := by decide +kernel
theorem dX4_steadyGain_35 : decode cX4_steadyGain 35 = .ok (.ldc 27, 2) := by decide +kernel
theorem dX4_steadyGain_37 : decode cX4_steadyGain 37 = .ok (.goto 19, 3) := by decide +kernel
theorem dX4_steadyGain_40 : decode cX4_steadyGain 40 = .ok (.iload_n 2, 1) := by decide +kernel
theorem dX4_steadyGain_41 : decode cX4_steadyGain 41 = .ok (.ifCond .ne 10, 3) := by decide +kernel
theorem dX4_steadyGain_44 : decode cX4_steadyGain 44 = .ok (.aload_n 0, 1) := by decide +kernel
theorem dX4_steadyGain_45 : decode cX4_steadyGain 45 = .ok (.getfield 60, 3) := by decide +kernel
theorem dX4_steadyGain_48 : decode cX4_steadyGain 48 = .ok (.goto 7, 3) := by decide +kernel
theorem dX4_steadyGain_51 : decode cX4_steadyGain 51 = .ok (.aload_n 0, 1) := by decide +kernel
theorem dX4_steadyGain_52 : decode cX4_steadyGain 52 = .ok (.getfield 63, 3) := by decide +kernel
theorem dX4_steadyGain_55 : decode cX4_steadyGain 55 = .ok (.l2i, 1) := by decide +kernel
theorem dX4_steadyGain_56 : decode cX4_steadyGain 56 = .ok (.ireturn, 1) := by decide +kernel
theorem dX4_hasReading_0 : decode cX4_hasReading 0 = .ok (.iconst 0, 1) := by decide +kernel
theorem dX4_hasReading_1 : decode cX4_hasReading 1 = .ok (.istore_n 1, 1) := by decide +kernel
theorem dX4_hasReading_2 : decode cX4_hasReading 2 = .ok (.iconst 0, 1) := by decide +kernel
theorem dX4_hasReading_3 : decode cX4_hasReading 3 = .ok (.istore_n 2, 1) := by decide +kernel
theorem dX4_hasReading_4 : decode cX4_hasReading 4 = .ok (.iload_n 2, 1) := by decide +kernel
theorem dX4_hasReading_5 : decode cX4_hasReading 5 = .ok (.aload_n 0, 1) := by decide +kernel
theorem dX4_hasReading_6 : decode cX4_hasReading 6 = .ok (.getfield 7, 3) := by decide +kernel
theorem dX4_hasReading_9 : decode cX4_hasReading 9 = .ok (.bipush 22, 2) := by decide +kernel
theorem dX4_hasReading_11 : decode cX4_hasReading 11 = .ok (.iaload, 1) := by decide +kernel
theorem dX4_hasReading_12 : decode cX4_hasReading 12 = .ok (.if_icmp .ge 34, 3) := by decide +kernel
theorem dX4_hasReading_15 : decode cX4_hasReading 15 = .ok (.iload_n 1, 1) := by decide +kernel
theorem dX4_hasReading_16 : decode cX4_hasReading 16 = .ok (.ifCond .ne 18, 3) := by decide +kernel
theorem dX4_hasReading_19 : decode cX4_hasReading 19 = .ok (.aload_n 0, 1) := by decide +kernel
theorem dX4_hasReading_20 : decode cX4_hasReading 20 = .ok (.getfield 7, 3) := by decide +kernel
theorem dX4_hasReading_23 : decode cX4_hasReading 23 = .ok (.bipush 23, 2) := by decide +kernel
theorem dX4_hasReading_25 : decode cX4_hasReading 25 = .ok (.iconst 2, 1) := by decide +kernel
theorem dX4_hasReading_26 : decode cX4_hasReading 26 = .ok (.iload_n 2, 1) := by decide +kernel
theorem dX4_hasReading_27 : decode cX4_hasReading 27 = .ok (.imul, 1) := by decide +kernel
theorem dX4_hasReading_28 : decode cX4_hasReading 28 = .ok (.iadd, 1) := by decide +kernel
theorem dX4_hasReading_29 : decode cX4_hasReading 29 = .ok (.iaload, 1) := by decide +kernel
theorem dX4_hasReading_30 : decode cX4_hasReading 30 = .ok (.iconst (-1), 1) := by decide +kernel
theorem dX4_hasReading_31 : decode cX4_hasReading 31 = .ok (.if_icmp .eq 7, 3) := by decide +kernel
theorem dX4_hasReading_34 : decode cX4_hasReading 34 = .ok (.iconst 1, 1) := by decide +kernel
theorem dX4_hasReading_35 : decode cX4_hasReading 35 = .ok (.goto 4, 3) := by decide +kernel
theorem dX4_hasReading_38 : decode cX4_hasReading 38 = .ok (.iconst 0, 1) := by decide +kernel
theorem dX4_hasReading_39 : decode cX4_hasReading 39 = .ok (.istore_n 1, 1) := by decide +kernel
theorem dX4_hasReading_40 : decode cX4_hasReading 40 = .ok (.iinc 2 1, 3) := by decide +kernel
theorem dX4_hasReading_43 : decode cX4_hasReading 43 = .ok (.goto (-39), 3) := by decide +kernel
theorem dX4_hasReading_46 : decode cX4_hasReading 46 = .ok (.iload_n 1, 1) := by decide +kernel
theorem dX4_hasReading_47 : decode cX4_hasReading 47 = .ok (.ireturn, 1) := by decide +kernel
set_option maxRecDepth 20000 in
theorem ggX4_errorOf_X4_take : GoodIn wsX4_errorOf wsX4_take := goodIn_r _ [8, 9, 1, 37, 38, 39, 40, 41, 42, 43, 44, 45] (by decide +kernel) (by decide +kernel)
set_option maxRecDepth 20000 in
theorem gX4_errorOf_X4_take : GoodIn wsX4_errorOf (wsV RX4 85 RX4 yX4_take wsX4_take) := goodIn_app (goodIn_of _ (by decide +kernel)) ggX4_errorOf_X4_take
set_option maxRecDepth 20000 in
theorem ggX4_errorOf_X4_predicts : GoodIn wsX4_errorOf wsX4_predicts := goodIn_r _ [13, 9, 14, 1, 15, 16, 7, 17, 18, 19, 37, 38, 39, 40, 41, 42, 43, 44, 45] (by decide +kernel) (by decide +kernel)
set_option maxRecDepth 20000 in
theorem gX4_errorOf_X4_predicts : GoodIn wsX4_errorOf (wsV RX4 88 RX4 yX4_predicts wsX4_predicts) := goodIn_app (goodIn_of _ (by decide +kernel)) ggX4_errorOf_X4_predicts
set_option maxRecDepth 20000 in
theorem ggX4_errorOf_X4_corrects : GoodIn wsX4_errorOf wsX4_corrects := goodIn_r _ [23, 1, 9, 3, 24, 25, 26, 27, 28, 7, 29, 14, 30, 31, 32, 15, 16, 17, 18, 19, 33, 34, 35, 36, 37, 38, 39, 40, 41, 42, 43, 44, 45] (by decide +kernel) (by decide +kernel)
set_option maxRecDepth 20000 in
theorem gX4_errorOf_X4_corrects : GoodIn wsX4_errorOf (wsV RX4 100 RX4 yX4_corrects wsX4_corrects) := goodIn_app (goodIn_of _ (by decide +kernel)) ggX4_errorOf_X4_corrects
set_option maxRecDepth 20000 in
theorem ggX4_errorOf_X4_isIn : GoodIn wsX4_errorOf wsX4_isIn := goodIn_r _ [17, 18, 19] (by decide +kernel) (by decide +kernel)
set_option maxRecDepth 20000 in
theorem gX4_errorOf_X4_isIn : GoodIn wsX4_errorOf (va_wsS RX4 46 yX4_isIn wsX4_isIn) := goodIn_app (goodIn_of _ (by decide +kernel)) ggX4_errorOf_X4_isIn
theorem dX4_errorOf_0 : decode cX4_errorOf 0 = .ok (.aload_n 0, 1) := by decide +kernel
theorem dX4_errorOf_1 : decode cX4_errorOf 1 = .ok (.invokevirtual 85, 3) := by decide +kernel
theorem dX4_errorOf_4 : decode cX4_errorOf 4 = .ok (.lconst 0, 1) := by decide +kernel
theorem dX4_errorOf_5 : decode cX4_errorOf 5 = .ok (.lstore_n 2, 1) := by decide +kernel
theorem dX4_errorOf_6 : decode cX4_errorOf 6 = .ok (.iconst 0, 1) := by decide +kernel
theorem dX4_errorOf_7 : decode cX4_errorOf 7 = .ok (.istore 4, 2) := by decide +kernel
theorem dX4_errorOf_9 : decode cX4_errorOf 9 = .ok (.iload 4, 2) := by decide +kernel
theorem dX4_errorOf_11 : decode cX4_errorOf 11 = .ok (.aload_n 0, 1) := by decide +kernel
theorem dX4_errorOf_12 : decode cX4_errorOf 12 = .ok (.getfield 7, 3) := by decide +kernel
theorem dX4_errorOf_15 : decode cX4_errorOf 15 = .ok (.bipush 22, 2) := by decide +kernel
theorem dX4_errorOf_17 : decode cX4_errorOf 17 = .ok (.iaload, 1) := by decide +kernel
theorem dX4_errorOf_18 : decode cX4_errorOf 18 = .ok (.if_icmp .ge 104, 3) := by decide +kernel
theorem dX4_errorOf_21 : decode cX4_errorOf 21 = .ok (.aload_n 0, 1) := by decide +kernel
theorem dX4_errorOf_22 : decode cX4_errorOf 22 = .ok (.getfield 7, 3) := by decide +kernel
theorem dX4_errorOf_25 : decode cX4_errorOf 25 = .ok (.bipush 23, 2) := by decide +kernel
theorem dX4_errorOf_27 : decode cX4_errorOf 27 = .ok (.iconst 2, 1) := by decide +kernel
theorem dX4_errorOf_28 : decode cX4_errorOf 28 = .ok (.iload 4, 2) := by decide +kernel
theorem dX4_errorOf_30 : decode cX4_errorOf 30 = .ok (.imul, 1) := by decide +kernel
theorem dX4_errorOf_31 : decode cX4_errorOf 31 = .ok (.iadd, 1) := by decide +kernel
theorem dX4_errorOf_32 : decode cX4_errorOf 32 = .ok (.iaload, 1) := by decide +kernel
theorem dX4_errorOf_33 : decode cX4_errorOf 33 = .ok (.istore 5, 2) := by decide +kernel
theorem dX4_errorOf_35 : decode cX4_errorOf 35 = .ok (.aload_n 0, 1) := by decide +kernel
theorem dX4_errorOf_36 : decode cX4_errorOf 36 = .ok (.getfield 7, 3) := by decide +kernel
theorem dX4_errorOf_39 : decode cX4_errorOf 39 = .ok (.bipush 23, 2) := by decide +kernel
theorem dX4_errorOf_41 : decode cX4_errorOf 41 = .ok (.iconst 2, 1) := by decide +kernel
theorem dX4_errorOf_42 : decode cX4_errorOf 42 = .ok (.iload 4, 2) := by decide +kernel
theorem dX4_errorOf_44 : decode cX4_errorOf 44 = .ok (.imul, 1) := by decide +kernel
theorem dX4_errorOf_45 : decode cX4_errorOf 45 = .ok (.iadd, 1) := by decide +kernel
theorem dX4_errorOf_46 : decode cX4_errorOf 46 = .ok (.iconst 1, 1) := by decide +kernel
theorem dX4_errorOf_47 : decode cX4_errorOf 47 = .ok (.iadd, 1) := by decide +kernel
theorem dX4_errorOf_48 : decode cX4_errorOf 48 = .ok (.iaload, 1) := by decide +kernel
theorem dX4_errorOf_49 : decode cX4_errorOf 49 = .ok (.istore 6, 2) := by decide +kernel
theorem dX4_errorOf_51 : decode cX4_errorOf 51 = .ok (.iload 5, 2) := by decide +kernel
theorem dX4_errorOf_53 : decode cX4_errorOf 53 = .ok (.iconst (-1), 1) := by decide +kernel
theorem dX4_errorOf_54 : decode cX4_errorOf 54 = .ok (.if_icmp .ne 17, 3) := by decide +kernel
theorem dX4_errorOf_57 : decode cX4_errorOf 57 = .ok (.aload_n 0, 1) := by decide +kernel
theorem dX4_errorOf_58 : decode cX4_errorOf 58 = .ok (.iload 6, 2) := by decide +kernel
theorem dX4_errorOf_60 : decode cX4_errorOf 60 = .ok (.iload_n 1, 1) := by decide +kernel
theorem dX4_errorOf_61 : decode cX4_errorOf 61 = .ok (.invokevirtual 88, 3) := by decide +kernel
theorem dX4_errorOf_64 : decode cX4_errorOf 64 = .ok (.ifCond .ne 52, 3) := by decide +kernel
theorem dX4_errorOf_67 : decode cX4_errorOf 67 = .ok (.ldc2_w 110, 3) := by decide +kernel
theorem dX4_errorOf_70 : decode cX4_errorOf 70 = .ok (.lreturn, 1) := by decide +kernel
theorem dX4_errorOf_71 : decode cX4_errorOf 71 = .ok (.aload_n 0, 1) := by decide +kernel
theorem dX4_errorOf_72 : decode cX4_errorOf 72 = .ok (.iload 5, 2) := by decide +kernel
theorem dX4_errorOf_74 : decode cX4_errorOf 74 = .ok (.iload 6, 2) := by decide +kernel
theorem dX4_errorOf_76 : decode cX4_errorOf 76 = .ok (.i2l, 1) := by decide +kernel
theorem dX4_errorOf_77 : decode cX4_errorOf 77 = .ok (.iconst 0, 1) := by decide +kernel
theorem dX4_errorOf_78 : decode cX4_errorOf 78 = .ok (.invokevirtual 100, 3) := by decide +kernel
theorem dX4_errorOf_81 : decode cX4_errorOf 81 = .ok (.istore 7, 2) := by decide +kernel
theorem dX4_errorOf_83 : decode cX4_errorOf 83 = .ok (.iload 7, 2) := by decide +kernel
theorem dX4_errorOf_85 : decode cX4_errorOf 85 = .ok (.ifCond .ge 7, 3) := by decide +kernel
theorem dX4_errorOf_88 : decode cX4_errorOf 88 = .ok (.ldc2_w 110, 3) := by decide +kernel
theorem dX4_errorOf_91 : decode cX4_errorOf 91 = .ok (.lreturn, 1) := by decide +kernel
theorem dX4_errorOf_92 : decode cX4_errorOf 92 = .ok (.lload_n 2, 1) := by decide +kernel
theorem dX4_errorOf_93 : decode cX4_errorOf 93 = .ok (.aload_n 0, 1) := by decide +kernel
theorem dX4_errorOf_94 : decode cX4_errorOf 94 = .ok (.getfield 50, 3) := by decide +kernel
theorem dX4_errorOf_97 : decode cX4_errorOf 97 = .ok (.lconst 0, 1) := by decide +kernel
theorem dX4_errorOf_98 : decode cX4_errorOf 98 = .ok (.lcmp, 1) := by decide +kernel
theorem dX4_errorOf_99 : decode cX4_errorOf 99 = .ok (.ifCond .ge 11, 3) := by decide +kernel
theorem dX4_errorOf_102 : decode cX4_errorOf 102 = .ok (.aload_n 0, 1) := by decide +kernel
theorem dX4_errorOf_103 : decode cX4_errorOf 103 = .ok (.getfield 50, 3) := by decide +kernel
theorem dX4_errorOf_106 : decode cX4_errorOf 106 = .ok (.lneg, 1) := by decide +kernel
theorem dX4_errorOf_107 : decode cX4_errorOf 107 = .ok (.goto 7, 3) := by decide +kernel
theorem dX4_errorOf_110 : decode cX4_errorOf 110 = .ok (.aload_n 0, 1) := by decide +kernel
theorem dX4_errorOf_111 : decode cX4_errorOf 111 = .ok (.getfield 50, 3) := by decide +kernel
theorem dX4_errorOf_114 : decode cX4_errorOf 114 = .ok (.ladd, 1) := by decide +kernel
theorem dX4_errorOf_115 : decode cX4_errorOf 115 = .ok (.lstore_n 2, 1) := by decide +kernel
theorem dX4_errorOf_116 : decode cX4_errorOf 116 = .ok (.iinc 4 1, 3) := by decide +kernel
theorem dX4_errorOf_119 : decode cX4_errorOf 119 = .ok (.goto (-110), 3) := by decide +kernel
theorem dX4_errorOf_122 : decode cX4_errorOf 122 = .ok (.lload_n 2, 1) := by decide +kernel
theorem dX4_errorOf_123 : decode cX4_errorOf 123 = .ok (.invokestatic 46, 3) := by decide +kernel
theorem dX4_errorOf_126 : decode cX4_errorOf 126 = .ok (.ifCond .eq 7, 3) := by decide +kernel
theorem dX4_errorOf_129 : decode cX4_errorOf 129 = .ok (.lload_n 2, 1) := by decide +kernel
theorem dX4_errorOf_130 : decode cX4_errorOf 130 = .ok (.goto 6, 3) := by decide +kernel
theorem dX4_errorOf_133 : decode cX4_errorOf 133 = .ok (.ldc2_w 110, 3) := by decide +kernel
theorem dX4_errorOf_136 : decode cX4_errorOf 136 = .ok (.lreturn, 1) := by decide +kernel
set_option maxRecDepth 20000 in
theorem ggX4_replayError_X4_in : GoodIn wsX4_replayError wsX4_in := goodIn_r _ [8] (by decide +kernel) (by decide +kernel)
set_option maxRecDepth 20000 in
theorem gX4_replayError_X4_in : GoodIn wsX4_replayError (va_wsS RX4 68 yX4_in wsX4_in) := goodIn_app (goodIn_of _ (by decide +kernel)) ggX4_replayError_X4_in
set_option maxRecDepth 20000 in
theorem ggX4_replayError_X4_fail : GoodIn wsX4_replayError wsX4_fail := goodIn_r _ [12, 13, 2, 57, 58, 59, 60, 61, 62, 63, 64, 65] (by decide +kernel) (by decide +kernel)
set_option maxRecDepth 20000 in
theorem gX4_replayError_X4_fail : GoodIn wsX4_replayError (wsV RX4 74 RX4 yX4_fail wsX4_fail) := goodIn_app (goodIn_of _ (by decide +kernel)) ggX4_replayError_X4_fail
set_option maxRecDepth 20000 in
theorem ggX4_replayError_X4_hasReading : GoodIn wsX4_replayError wsX4_hasReading := goodIn_r _ [17, 18, 57, 58, 59, 60, 61, 62, 63, 64, 65] (by decide +kernel) (by decide +kernel)
set_option maxRecDepth 20000 in
theorem gX4_replayError_X4_hasReading : GoodIn wsX4_replayError (wsV RX4 112 RX4 yX4_hasReading wsX4_hasReading) := goodIn_app (goodIn_of _ (by decide +kernel)) ggX4_replayError_X4_hasReading
set_option maxRecDepth 20000 in
theorem ggX4_replayError_X4_errorOf : GoodIn wsX4_replayError wsX4_errorOf := goodIn_r _ [22, 18, 23, 24, 25, 26, 27, 7, 28, 29, 30, 31, 32, 33, 34, 35, 36, 37, 38, 39, 40, 41, 42, 43, 44, 45, 46, 47, 48, 49, 50, 51, 52, 53, 54, 55, 56, 57, 58, 59, 60, 61, 62, 63, 64, 65] (by decide +kernel) (by decide +kernel)
set_option maxRecDepth 20000 in
theorem gX4_replayError_X4_errorOf : GoodIn wsX4_replayError (wsV RX4 117 RX4 yX4_errorOf wsX4_errorOf) := goodIn_app (goodIn_of _ (by decide +kernel)) ggX4_replayError_X4_errorOf
theorem dX4_replayError_0 : decode cX4_replayError 0 = .ok (.iload_n 1, 1) := by decide +kernel
theorem dX4_replayError_1 : decode cX4_replayError 1 = .ok (.iconst 0, 1) := by decide +kernel
end
section
theorem dX4_replayError_2 : decode cX4_replayError 2 = .ok (.ldc 73, 2) := by decide +kernel
theorem dX4_replayError_4 : decode cX4_replayError 4 = .ok (.invokestatic 68, 3) := by decide +kernel
theorem dX4_replayError_7 : decode cX4_replayError 7 = .ok (.ifCond .ne 10, 3) := by decide +kernel
theorem dX4_replayError_10 : decode cX4_replayError 10 = .ok (.aload_n 0, 1) := by decide +kernel
theorem dX4_replayError_11 : decode cX4_replayError 11 = .ok (.ldc 26, 2) := by decide +kernel
theorem dX4_replayError_13 : decode cX4_replayError 13 = .ok (.invokevirtual 74, 3) := by decide +kernel
theorem dX4_replayError_16 : decode cX4_replayError 16 = .ok (.ireturn, 1) := by decide +kernel
theorem dX4_replayError_17 : decode cX4_replayError 17 = .ok (.aload_n 0, 1) := by decide +kernel
theorem dX4_replayError_18 : decode cX4_replayError 18 = .ok (.invokevirtual 112, 3) := by decide +kernel
theorem dX4_replayError_21 : decode cX4_replayError 21 = .ok (.ifCond .ne 10, 3) := by decide +kernel
theorem dX4_replayError_24 : decode cX4_replayError 24 = .ok (.aload_n 0, 1) := by decide +kernel
theorem dX4_replayError_25 : decode cX4_replayError 25 = .ok (.ldc 116, 2) := by decide +kernel
theorem dX4_replayError_27 : decode cX4_replayError 27 = .ok (.invokevirtual 74, 3) := by decide +kernel
theorem dX4_replayError_30 : decode cX4_replayError 30 = .ok (.ireturn, 1) := by decide +kernel
theorem dX4_replayError_31 : decode cX4_replayError 31 = .ok (.aload_n 0, 1) := by decide +kernel
theorem dX4_replayError_32 : decode cX4_replayError 32 = .ok (.iload_n 1, 1) := by decide +kernel
theorem dX4_replayError_33 : decode cX4_replayError 33 = .ok (.invokevirtual 117, 3) := by decide +kernel
theorem dX4_replayError_36 : decode cX4_replayError 36 = .ok (.lstore_n 2, 1) := by decide +kernel
theorem dX4_replayError_37 : decode cX4_replayError 37 = .ok (.lload_n 2, 1) := by decide +kernel
theorem dX4_replayError_38 : decode cX4_replayError 38 = .ok (.lconst 0, 1) := by decide +kernel
theorem dX4_replayError_39 : decode cX4_replayError 39 = .ok (.lcmp, 1) := by decide +kernel
theorem dX4_replayError_40 : decode cX4_replayError 40 = .ok (.ifCond .ge 12, 3) := by decide +kernel
theorem dX4_replayError_43 : decode cX4_replayError 43 = .ok (.aload_n 0, 1) := by decide +kernel
theorem dX4_replayError_44 : decode cX4_replayError 44 = .ok (.ldc 92, 2) := by decide +kernel
theorem dX4_replayError_46 : decode cX4_replayError 46 = .ok (.invokevirtual 74, 3) := by decide +kernel
theorem dX4_replayError_49 : decode cX4_replayError 49 = .ok (.goto 5, 3) := by decide +kernel
theorem dX4_replayError_52 : decode cX4_replayError 52 = .ok (.lload_n 2, 1) := by decide +kernel
theorem dX4_replayError_53 : decode cX4_replayError 53 = .ok (.l2i, 1) := by decide +kernel
theorem dX4_replayError_54 : decode cX4_replayError 54 = .ok (.ireturn, 1) := by decide +kernel
set_option maxRecDepth 20000 in
theorem ggX4_bestFlowNoise_X4_hasReading : GoodIn wsX4_bestFlowNoise wsX4_hasReading := goodIn_r _ [8, 9, 54, 55, 56, 57, 58, 59, 60, 61, 62] (by decide +kernel) (by decide +kernel)
set_option maxRecDepth 20000 in
theorem gX4_bestFlowNoise_X4_hasReading : GoodIn wsX4_bestFlowNoise (wsV RX4 112 RX4 yX4_hasReading wsX4_hasReading) := goodIn_app (goodIn_of _ (by decide +kernel)) ggX4_bestFlowNoise_X4_hasReading
set_option maxRecDepth 20000 in
theorem ggX4_bestFlowNoise_X4_fail : GoodIn wsX4_bestFlowNoise wsX4_fail := goodIn_r _ [13, 14, 15, 54, 55, 56, 57, 58, 59, 60, 61, 62] (by decide +kernel) (by decide +kernel)
set_option maxRecDepth 20000 in
theorem gX4_bestFlowNoise_X4_fail : GoodIn wsX4_bestFlowNoise (wsV RX4 74 RX4 yX4_fail wsX4_fail) := goodIn_app (goodIn_of _ (by decide +kernel)) ggX4_bestFlowNoise_X4_fail
set_option maxRecDepth 20000 in
theorem ggX4_bestFlowNoise_X4_errorOf : GoodIn wsX4_bestFlowNoise wsX4_errorOf := goodIn_r _ [19, 9, 20, 21, 22, 23, 24, 7, 25, 26, 27, 28, 29, 30, 31, 32, 33, 34, 35, 36, 37, 38, 39, 40, 41, 42, 43, 44, 45, 46, 47, 48, 49, 50, 51, 52, 53, 54, 55, 56, 57, 58, 59, 60, 61, 62] (by decide +kernel) (by decide +kernel)
set_option maxRecDepth 20000 in
theorem gX4_bestFlowNoise_X4_errorOf : GoodIn wsX4_bestFlowNoise (wsV RX4 117 RX4 yX4_errorOf wsX4_errorOf) := goodIn_app (goodIn_of _ (by decide +kernel)) ggX4_bestFlowNoise_X4_errorOf
theorem dX4_bestFlowNoise_0 : decode cX4_bestFlowNoise 0 = .ok (.aload_n 0, 1) := by decide +kernel
theorem dX4_bestFlowNoise_1 : decode cX4_bestFlowNoise 1 = .ok (.invokevirtual 112, 3) := by decide +kernel
theorem dX4_bestFlowNoise_4 : decode cX4_bestFlowNoise 4 = .ok (.ifCond .ne 10, 3) := by decide +kernel
theorem dX4_bestFlowNoise_7 : decode cX4_bestFlowNoise 7 = .ok (.aload_n 0, 1) := by decide +kernel
theorem dX4_bestFlowNoise_8 : decode cX4_bestFlowNoise 8 = .ok (.ldc 116, 2) := by decide +kernel
theorem dX4_bestFlowNoise_10 : decode cX4_bestFlowNoise 10 = .ok (.invokevirtual 74, 3) := by decide +kernel
theorem dX4_bestFlowNoise_13 : decode cX4_bestFlowNoise 13 = .ok (.ireturn, 1) := by decide +kernel
theorem dX4_bestFlowNoise_14 : decode cX4_bestFlowNoise 14 = .ok (.ldc 27, 2) := by decide +kernel
theorem dX4_bestFlowNoise_16 : decode cX4_bestFlowNoise 16 = .ok (.istore_n 1, 1) := by decide +kernel
theorem dX4_bestFlowNoise_17 : decode cX4_bestFlowNoise 17 = .ok (.ldc2_w 121, 3) := by decide +kernel
theorem dX4_bestFlowNoise_20 : decode cX4_bestFlowNoise 20 = .ok (.lstore_n 2, 1) := by decide +kernel
theorem dX4_bestFlowNoise_21 : decode cX4_bestFlowNoise 21 = .ok (.iconst 0, 1) := by decide +kernel
theorem dX4_bestFlowNoise_22 : decode cX4_bestFlowNoise 22 = .ok (.istore 4, 2) := by decide +kernel
theorem dX4_bestFlowNoise_24 : decode cX4_bestFlowNoise 24 = .ok (.iconst 0, 1) := by decide +kernel
theorem dX4_bestFlowNoise_25 : decode cX4_bestFlowNoise 25 = .ok (.istore 5, 2) := by decide +kernel
theorem dX4_bestFlowNoise_27 : decode cX4_bestFlowNoise 27 = .ok (.iload 5, 2) := by decide +kernel
theorem dX4_bestFlowNoise_29 : decode cX4_bestFlowNoise 29 = .ok (.bipush 12, 2) := by decide +kernel
theorem dX4_bestFlowNoise_31 : decode cX4_bestFlowNoise 31 = .ok (.if_icmp .ge 52, 3) := by decide +kernel
theorem dX4_bestFlowNoise_34 : decode cX4_bestFlowNoise 34 = .ok (.aload_n 0, 1) := by decide +kernel
theorem dX4_bestFlowNoise_35 : decode cX4_bestFlowNoise 35 = .ok (.iload 4, 2) := by decide +kernel
theorem dX4_bestFlowNoise_37 : decode cX4_bestFlowNoise 37 = .ok (.invokevirtual 117, 3) := by decide +kernel
theorem dX4_bestFlowNoise_40 : decode cX4_bestFlowNoise 40 = .ok (.lstore 6, 2) := by decide +kernel
theorem dX4_bestFlowNoise_42 : decode cX4_bestFlowNoise 42 = .ok (.lload 6, 2) := by decide +kernel
theorem dX4_bestFlowNoise_44 : decode cX4_bestFlowNoise 44 = .ok (.lconst 0, 1) := by decide +kernel
theorem dX4_bestFlowNoise_45 : decode cX4_bestFlowNoise 45 = .ok (.lcmp, 1) := by decide +kernel
theorem dX4_bestFlowNoise_46 : decode cX4_bestFlowNoise 46 = .ok (.ifCond .lt 16, 3) := by decide +kernel
theorem dX4_bestFlowNoise_49 : decode cX4_bestFlowNoise 49 = .ok (.lload 6, 2) := by decide +kernel
theorem dX4_bestFlowNoise_51 : decode cX4_bestFlowNoise 51 = .ok (.lload_n 2, 1) := by decide +kernel
theorem dX4_bestFlowNoise_52 : decode cX4_bestFlowNoise 52 = .ok (.lcmp, 1) := by decide +kernel
theorem dX4_bestFlowNoise_53 : decode cX4_bestFlowNoise 53 = .ok (.ifCond .ge 9, 3) := by decide +kernel
theorem dX4_bestFlowNoise_56 : decode cX4_bestFlowNoise 56 = .ok (.iload 4, 2) := by decide +kernel
theorem dX4_bestFlowNoise_58 : decode cX4_bestFlowNoise 58 = .ok (.istore_n 1, 1) := by decide +kernel
theorem dX4_bestFlowNoise_59 : decode cX4_bestFlowNoise 59 = .ok (.lload 6, 2) := by decide +kernel
theorem dX4_bestFlowNoise_61 : decode cX4_bestFlowNoise 61 = .ok (.lstore_n 2, 1) := by decide +kernel
theorem dX4_bestFlowNoise_62 : decode cX4_bestFlowNoise 62 = .ok (.iload 4, 2) := by decide +kernel
theorem dX4_bestFlowNoise_64 : decode cX4_bestFlowNoise 64 = .ok (.ifCond .ne 7, 3) := by decide +kernel
theorem dX4_bestFlowNoise_67 : decode cX4_bestFlowNoise 67 = .ok (.iconst 1, 1) := by decide +kernel
theorem dX4_bestFlowNoise_68 : decode cX4_bestFlowNoise 68 = .ok (.goto 7, 3) := by decide +kernel
theorem dX4_bestFlowNoise_71 : decode cX4_bestFlowNoise 71 = .ok (.iconst 4, 1) := by decide +kernel
theorem dX4_bestFlowNoise_72 : decode cX4_bestFlowNoise 72 = .ok (.iload 4, 2) := by decide +kernel
theorem dX4_bestFlowNoise_74 : decode cX4_bestFlowNoise 74 = .ok (.imul, 1) := by decide +kernel
theorem dX4_bestFlowNoise_75 : decode cX4_bestFlowNoise 75 = .ok (.istore 4, 2) := by decide +kernel
theorem dX4_bestFlowNoise_77 : decode cX4_bestFlowNoise 77 = .ok (.iinc 5 1, 3) := by decide +kernel
theorem dX4_bestFlowNoise_80 : decode cX4_bestFlowNoise 80 = .ok (.goto (-53), 3) := by decide +kernel
theorem dX4_bestFlowNoise_83 : decode cX4_bestFlowNoise 83 = .ok (.iload_n 1, 1) := by decide +kernel
theorem dX4_bestFlowNoise_84 : decode cX4_bestFlowNoise 84 = .ok (.ireturn, 1) := by decide +kernel
set_option maxRecDepth 20000 in
theorem ggX4_undo_X4_fail : GoodIn wsX4_undo wsX4_fail := goodIn_r _ [9, 10, 11, 12, 13, 14, 15, 16, 17, 18, 19, 20] (by decide +kernel) (by decide +kernel)
set_option maxRecDepth 20000 in
theorem gX4_undo_X4_fail : GoodIn wsX4_undo (wsV RX4 74 RX4 yX4_fail wsX4_fail) := goodIn_app (goodIn_of _ (by decide +kernel)) ggX4_undo_X4_fail
theorem dX4_undo_0 : decode cX4_undo 0 = .ok (.aload_n 0, 1) := by decide +kernel
theorem dX4_undo_1 : decode cX4_undo 1 = .ok (.getfield 28, 3) := by decide +kernel
theorem dX4_undo_4 : decode cX4_undo 4 = .ok (.ifCond .ne 10, 3) := by decide +kernel
theorem dX4_undo_7 : decode cX4_undo 7 = .ok (.aload_n 0, 1) := by decide +kernel
theorem dX4_undo_8 : decode cX4_undo 8 = .ok (.ldc 116, 2) := by decide +kernel
theorem dX4_undo_10 : decode cX4_undo 10 = .ok (.invokevirtual 74, 3) := by decide +kernel
theorem dX4_undo_13 : decode cX4_undo 13 = .ok (.ireturn, 1) := by decide +kernel
theorem dX4_undo_14 : decode cX4_undo 14 = .ok (.aload_n 0, 1) := by decide +kernel
theorem dX4_undo_15 : decode cX4_undo 15 = .ok (.dup, 1) := by decide +kernel
theorem dX4_undo_16 : decode cX4_undo 16 = .ok (.getfield 28, 3) := by decide +kernel
theorem dX4_undo_19 : decode cX4_undo 19 = .ok (.iconst 1, 1) := by decide +kernel
theorem dX4_undo_20 : decode cX4_undo 20 = .ok (.isub, 1) := by decide +kernel
theorem dX4_undo_21 : decode cX4_undo 21 = .ok (.putfield 28, 3) := by decide +kernel
theorem dX4_undo_24 : decode cX4_undo 24 = .ok (.iconst 0, 1) := by decide +kernel
theorem dX4_undo_25 : decode cX4_undo 25 = .ok (.istore_n 1, 1) := by decide +kernel
theorem dX4_undo_26 : decode cX4_undo 26 = .ok (.iload_n 1, 1) := by decide +kernel
theorem dX4_undo_27 : decode cX4_undo 27 = .ok (.bipush 71, 2) := by decide +kernel
theorem dX4_undo_29 : decode cX4_undo 29 = .ok (.if_icmp .ge 29, 3) := by decide +kernel
theorem dX4_undo_32 : decode cX4_undo 32 = .ok (.aload_n 0, 1) := by decide +kernel
theorem dX4_undo_33 : decode cX4_undo 33 = .ok (.getfield 7, 3) := by decide +kernel
theorem dX4_undo_36 : decode cX4_undo 36 = .ok (.iload_n 1, 1) := by decide +kernel
theorem dX4_undo_37 : decode cX4_undo 37 = .ok (.aload_n 0, 1) := by decide +kernel
theorem dX4_undo_38 : decode cX4_undo 38 = .ok (.getfield 13, 3) := by decide +kernel
theorem dX4_undo_41 : decode cX4_undo 41 = .ok (.bipush 71, 2) := by decide +kernel
theorem dX4_undo_43 : decode cX4_undo 43 = .ok (.aload_n 0, 1) := by decide +kernel
theorem dX4_undo_44 : decode cX4_undo 44 = .ok (.getfield 28, 3) := by decide +kernel
theorem dX4_undo_47 : decode cX4_undo 47 = .ok (.imul, 1) := by decide +kernel
theorem dX4_undo_48 : decode cX4_undo 48 = .ok (.iload_n 1, 1) := by decide +kernel
theorem dX4_undo_49 : decode cX4_undo 49 = .ok (.iadd, 1) := by decide +kernel
theorem dX4_undo_50 : decode cX4_undo 50 = .ok (.iaload, 1) := by decide +kernel
theorem dX4_undo_51 : decode cX4_undo 51 = .ok (.iastore, 1) := by decide +kernel
theorem dX4_undo_52 : decode cX4_undo 52 = .ok (.iinc 1 1, 3) := by decide +kernel
theorem dX4_undo_55 : decode cX4_undo 55 = .ok (.goto (-29), 3) := by decide +kernel
theorem dX4_undo_58 : decode cX4_undo 58 = .ok (.aload_n 0, 1) := by decide +kernel
theorem dX4_undo_59 : decode cX4_undo 59 = .ok (.getfield 28, 3) := by decide +kernel
theorem dX4_undo_62 : decode cX4_undo 62 = .ok (.ireturn, 1) := by decide +kernel
set_option maxRecDepth 20000 in
theorem ggX4_errorCount_X4_in : GoodIn wsX4_errorCount wsX4_in := goodIn_r _ [6] (by decide +kernel) (by decide +kernel)
set_option maxRecDepth 20000 in
theorem gX4_errorCount_X4_in : GoodIn wsX4_errorCount (va_wsS RX4 68 yX4_in wsX4_in) := goodIn_app (goodIn_of _ (by decide +kernel)) ggX4_errorCount_X4_in
set_option maxRecDepth 20000 in
theorem ggX4_errorCount_X4_fail : GoodIn wsX4_errorCount wsX4_fail := goodIn_r _ [10, 1, 2, 11, 12, 13, 14, 15, 16, 17, 18, 19] (by decide +kernel) (by decide +kernel)
set_option maxRecDepth 20000 in
theorem gX4_errorCount_X4_fail : GoodIn wsX4_errorCount (wsV RX4 74 RX4 yX4_fail wsX4_fail) := goodIn_app (goodIn_of _ (by decide +kernel)) ggX4_errorCount_X4_fail
theorem dX4_errorCount_0 : decode cX4_errorCount 0 = .ok (.iload_n 1, 1) := by decide +kernel
theorem dX4_errorCount_1 : decode cX4_errorCount 1 = .ok (.iconst 0, 1) := by decide +kernel
theorem dX4_errorCount_2 : decode cX4_errorCount 2 = .ok (.iconst 2, 1) := by decide +kernel
theorem dX4_errorCount_3 : decode cX4_errorCount 3 = .ok (.invokestatic 68, 3) := by decide +kernel
theorem dX4_errorCount_6 : decode cX4_errorCount 6 = .ok (.ifCond .eq 12, 3) := by decide +kernel
theorem dX4_errorCount_9 : decode cX4_errorCount 9 = .ok (.aload_n 0, 1) := by decide +kernel
theorem dX4_errorCount_10 : decode cX4_errorCount 10 = .ok (.getfield 16, 3) := by decide +kernel
theorem dX4_errorCount_13 : decode cX4_errorCount 13 = .ok (.iload_n 1, 1) := by decide +kernel
theorem dX4_errorCount_14 : decode cX4_errorCount 14 = .ok (.iaload, 1) := by decide +kernel
theorem dX4_errorCount_15 : decode cX4_errorCount 15 = .ok (.goto 9, 3) := by decide +kernel
theorem dX4_errorCount_18 : decode cX4_errorCount 18 = .ok (.aload_n 0, 1) := by decide +kernel
theorem dX4_errorCount_19 : decode cX4_errorCount 19 = .ok (.ldc 26, 2) := by decide +kernel
theorem dX4_errorCount_21 : decode cX4_errorCount 21 = .ok (.invokevirtual 74, 3) := by decide +kernel
theorem dX4_errorCount_24 : decode cX4_errorCount 24 = .ok (.ireturn, 1) := by decide +kernel
theorem dX4_add_0 : decode cX4_add 0 = .ok (.aload_n 0, 1) := by decide +kernel
theorem dX4_add_1 : decode cX4_add 1 = .ok (.ldc2_w 123, 3) := by decide +kernel
theorem dX4_add_4 : decode cX4_add 4 = .ok (.aload_n 0, 1) := by decide +kernel
theorem dX4_add_5 : decode cX4_add 5 = .ok (.getfield 125, 3) := by decide +kernel
theorem dX4_add_8 : decode cX4_add 8 = .ok (.lmul, 1) := by decide +kernel
theorem dX4_add_9 : decode cX4_add 9 = .ok (.iload_n 1, 1) := by decide +kernel
theorem dX4_add_10 : decode cX4_add 10 = .ok (.i2l, 1) := by decide +kernel
theorem dX4_add_11 : decode cX4_add 11 = .ok (.ladd, 1) := by decide +kernel
theorem dX4_add_12 : decode cX4_add 12 = .ok (.putfield 125, 3) := by decide +kernel
theorem dX4_add_15 : decode cX4_add 15 = .ok (.return_, 1) := by decide +kernel
set_option maxRecDepth 20000 in
theorem ggX4_digest_X4_add : GoodIn wsX4_digest wsX4_add := goodIn_r _ [10, 11, 2, 12, 13, 14, 15, 16, 17, 18, 19, 20] (by decide +kernel) (by decide +kernel)
set_option maxRecDepth 20000 in
theorem gX4_digest_X4_add : GoodIn wsX4_digest (wsV RX4 130 RX4 yX4_add wsX4_add) := goodIn_app (goodIn_of _ (by decide +kernel)) ggX4_digest_X4_add
theorem dX4_digest_0 : decode cX4_digest 0 = .ok (.aload_n 0, 1) := by decide +kernel
theorem dX4_digest_1 : decode cX4_digest 1 = .ok (.ldc2_w 128, 3) := by decide +kernel
theorem dX4_digest_4 : decode cX4_digest 4 = .ok (.putfield 125, 3) := by decide +kernel
theorem dX4_digest_7 : decode cX4_digest 7 = .ok (.iconst 0, 1) := by decide +kernel
theorem dX4_digest_8 : decode cX4_digest 8 = .ok (.istore_n 1, 1) := by decide +kernel
theorem dX4_digest_9 : decode cX4_digest 9 = .ok (.iload_n 1, 1) := by decide +kernel
theorem dX4_digest_10 : decode cX4_digest 10 = .ok (.iconst 3, 1) := by decide +kernel
theorem dX4_digest_11 : decode cX4_digest 11 = .ok (.if_icmp .ge 19, 3) := by decide +kernel
theorem dX4_digest_14 : decode cX4_digest 14 = .ok (.aload_n 0, 1) := by decide +kernel
theorem dX4_digest_15 : decode cX4_digest 15 = .ok (.aload_n 0, 1) := by decide +kernel
theorem dX4_digest_16 : decode cX4_digest 16 = .ok (.getfield 16, 3) := by decide +kernel
theorem dX4_digest_19 : decode cX4_digest 19 = .ok (.iload_n 1, 1) := by decide +kernel
theorem dX4_digest_20 : decode cX4_digest 20 = .ok (.iaload, 1) := by decide +kernel
theorem dX4_digest_21 : decode cX4_digest 21 = .ok (.invokevirtual 130, 3) := by decide +kernel
theorem dX4_digest_24 : decode cX4_digest 24 = .ok (.iinc 1 1, 3) := by decide +kernel
theorem dX4_digest_27 : decode cX4_digest 27 = .ok (.goto (-18), 3) := by decide +kernel
theorem dX4_digest_30 : decode cX4_digest 30 = .ok (.aload_n 0, 1) := by decide +kernel
theorem dX4_digest_31 : decode cX4_digest 31 = .ok (.aload_n 0, 1) := by decide +kernel
theorem dX4_digest_32 : decode cX4_digest 32 = .ok (.getfield 28, 3) := by decide +kernel
theorem dX4_digest_35 : decode cX4_digest 35 = .ok (.invokevirtual 130, 3) := by decide +kernel
theorem dX4_digest_38 : decode cX4_digest 38 = .ok (.iconst 0, 1) := by decide +kernel
theorem dX4_digest_39 : decode cX4_digest 39 = .ok (.istore_n 1, 1) := by decide +kernel
theorem dX4_digest_40 : decode cX4_digest 40 = .ok (.iload_n 1, 1) := by decide +kernel
theorem dX4_digest_41 : decode cX4_digest 41 = .ok (.bipush 7, 2) := by decide +kernel
theorem dX4_digest_43 : decode cX4_digest 43 = .ok (.if_icmp .gt 19, 3) := by decide +kernel
theorem dX4_digest_46 : decode cX4_digest 46 = .ok (.aload_n 0, 1) := by decide +kernel
theorem dX4_digest_47 : decode cX4_digest 47 = .ok (.aload_n 0, 1) := by decide +kernel
theorem dX4_digest_48 : decode cX4_digest 48 = .ok (.getfield 7, 3) := by decide +kernel
theorem dX4_digest_51 : decode cX4_digest 51 = .ok (.iload_n 1, 1) := by decide +kernel
theorem dX4_digest_52 : decode cX4_digest 52 = .ok (.iaload, 1) := by decide +kernel
theorem dX4_digest_53 : decode cX4_digest 53 = .ok (.invokevirtual 130, 3) := by decide +kernel
theorem dX4_digest_56 : decode cX4_digest 56 = .ok (.iinc 1 1, 3) := by decide +kernel
theorem dX4_digest_59 : decode cX4_digest 59 = .ok (.goto (-19), 3) := by decide +kernel
theorem dX4_digest_62 : decode cX4_digest 62 = .ok (.iconst 0, 1) := by decide +kernel
theorem dX4_digest_63 : decode cX4_digest 63 = .ok (.istore_n 1, 1) := by decide +kernel
theorem dX4_digest_64 : decode cX4_digest 64 = .ok (.iload_n 1, 1) := by decide +kernel
theorem dX4_digest_65 : decode cX4_digest 65 = .ok (.iconst 4, 1) := by decide +kernel
theorem dX4_digest_66 : decode cX4_digest 66 = .ok (.if_icmp .ge 35, 3) := by decide +kernel
theorem dX4_digest_69 : decode cX4_digest 69 = .ok (.aload_n 0, 1) := by decide +kernel
theorem dX4_digest_70 : decode cX4_digest 70 = .ok (.aload_n 0, 1) := by decide +kernel
theorem dX4_digest_71 : decode cX4_digest 71 = .ok (.getfield 7, 3) := by decide +kernel
theorem dX4_digest_74 : decode cX4_digest 74 = .ok (.bipush 8, 2) := by decide +kernel
theorem dX4_digest_76 : decode cX4_digest 76 = .ok (.iload_n 1, 1) := by decide +kernel
theorem dX4_digest_77 : decode cX4_digest 77 = .ok (.iadd, 1) := by decide +kernel
theorem dX4_digest_78 : decode cX4_digest 78 = .ok (.iaload, 1) := by decide +kernel
theorem dX4_digest_79 : decode cX4_digest 79 = .ok (.invokevirtual 130, 3) := by decide +kernel
theorem dX4_digest_82 : decode cX4_digest 82 = .ok (.aload_n 0, 1) := by decide +kernel
theorem dX4_digest_83 : decode cX4_digest 83 = .ok (.aload_n 0, 1) := by decide +kernel
theorem dX4_digest_84 : decode cX4_digest 84 = .ok (.getfield 7, 3) := by decide +kernel
theorem dX4_digest_87 : decode cX4_digest 87 = .ok (.bipush 12, 2) := by decide +kernel
theorem dX4_digest_89 : decode cX4_digest 89 = .ok (.iload_n 1, 1) := by decide +kernel
theorem dX4_digest_90 : decode cX4_digest 90 = .ok (.iadd, 1) := by decide +kernel
theorem dX4_digest_91 : decode cX4_digest 91 = .ok (.iaload, 1) := by decide +kernel
theorem dX4_digest_92 : decode cX4_digest 92 = .ok (.invokevirtual 130, 3) := by decide +kernel
theorem dX4_digest_95 : decode cX4_digest 95 = .ok (.iinc 1 1, 3) := by decide +kernel
theorem dX4_digest_98 : decode cX4_digest 98 = .ok (.goto (-34), 3) := by decide +kernel
theorem dX4_digest_101 : decode cX4_digest 101 = .ok (.bipush 16, 2) := by decide +kernel
theorem dX4_digest_103 : decode cX4_digest 103 = .ok (.istore_n 1, 1) := by decide +kernel
theorem dX4_digest_104 : decode cX4_digest 104 = .ok (.iload_n 1, 1) := by decide +kernel
theorem dX4_digest_105 : decode cX4_digest 105 = .ok (.bipush 22, 2) := by decide +kernel
theorem dX4_digest_107 : decode cX4_digest 107 = .ok (.if_icmp .gt 19, 3) := by decide +kernel
theorem dX4_digest_110 : decode cX4_digest 110 = .ok (.aload_n 0, 1) := by decide +kernel
theorem dX4_digest_111 : decode cX4_digest 111 = .ok (.aload_n 0, 1) := by decide +kernel
theorem dX4_digest_112 : decode cX4_digest 112 = .ok (.getfield 7, 3) := by decide +kernel
theorem dX4_digest_115 : decode cX4_digest 115 = .ok (.iload_n 1, 1) := by decide +kernel
theorem dX4_digest_116 : decode cX4_digest 116 = .ok (.iaload, 1) := by decide +kernel
theorem dX4_digest_117 : decode cX4_digest 117 = .ok (.invokevirtual 130, 3) := by decide +kernel
theorem dX4_digest_120 : decode cX4_digest 120 = .ok (.iinc 1 1, 3) := by decide +kernel
theorem dX4_digest_123 : decode cX4_digest 123 = .ok (.goto (-19), 3) := by decide +kernel
theorem dX4_digest_126 : decode cX4_digest 126 = .ok (.iconst 0, 1) := by decide +kernel
theorem dX4_digest_127 : decode cX4_digest 127 = .ok (.istore_n 1, 1) := by decide +kernel
theorem dX4_digest_128 : decode cX4_digest 128 = .ok (.iload_n 1, 1) := by decide +kernel
theorem dX4_digest_129 : decode cX4_digest 129 = .ok (.iconst 2, 1) := by decide +kernel
theorem dX4_digest_130 : decode cX4_digest 130 = .ok (.aload_n 0, 1) := by decide +kernel
theorem dX4_digest_131 : decode cX4_digest 131 = .ok (.getfield 7, 3) := by decide +kernel
theorem dX4_digest_134 : decode cX4_digest 134 = .ok (.bipush 22, 2) := by decide +kernel
theorem dX4_digest_136 : decode cX4_digest 136 = .ok (.iaload, 1) := by decide +kernel
theorem dX4_digest_137 : decode cX4_digest 137 = .ok (.imul, 1) := by decide +kernel
theorem dX4_digest_138 : decode cX4_digest 138 = .ok (.if_icmp .ge 22, 3) := by decide +kernel
theorem dX4_digest_141 : decode cX4_digest 141 = .ok (.aload_n 0, 1) := by decide +kernel
theorem dX4_digest_142 : decode cX4_digest 142 = .ok (.aload_n 0, 1) := by decide +kernel
theorem dX4_digest_143 : decode cX4_digest 143 = .ok (.getfield 7, 3) := by decide +kernel
theorem dX4_digest_146 : decode cX4_digest 146 = .ok (.bipush 23, 2) := by decide +kernel
theorem dX4_digest_148 : decode cX4_digest 148 = .ok (.iload_n 1, 1) := by decide +kernel
theorem dX4_digest_149 : decode cX4_digest 149 = .ok (.iadd, 1) := by decide +kernel
theorem dX4_digest_150 : decode cX4_digest 150 = .ok (.iaload, 1) := by decide +kernel
theorem dX4_digest_151 : decode cX4_digest 151 = .ok (.invokevirtual 130, 3) := by decide +kernel
theorem dX4_digest_154 : decode cX4_digest 154 = .ok (.iinc 1 1, 3) := by decide +kernel
theorem dX4_digest_157 : decode cX4_digest 157 = .ok (.goto (-29), 3) := by decide +kernel
theorem dX4_digest_160 : decode cX4_digest 160 = .ok (.aload_n 0, 1) := by decide +kernel
theorem dX4_digest_161 : decode cX4_digest 161 = .ok (.getfield 125, 3) := by decide +kernel
theorem dX4_digest_164 : decode cX4_digest 164 = .ok (.lreturn, 1) := by decide +kernel
theorem dJ9_floorDiv_f86c9_0 : decode cJ9_floorDiv_f86c9 0 = .ok (.lload_n 0, 1) := by decide +kernel
theorem dJ9_floorDiv_f86c9_1 : decode cJ9_floorDiv_f86c9 1 = .ok (.lload_n 2, 1) := by decide +kernel
theorem dJ9_floorDiv_f86c9_2 : decode cJ9_floorDiv_f86c9 2 = .ok (.ldiv, 1) := by decide +kernel
theorem dJ9_floorDiv_f86c9_3 : decode cJ9_floorDiv_f86c9 3 = .ok (.lstore 4, 2) := by decide +kernel
theorem dJ9_floorDiv_f86c9_5 : decode cJ9_floorDiv_f86c9 5 = .ok (.lload_n 0, 1) := by decide +kernel
theorem dJ9_floorDiv_f86c9_6 : decode cJ9_floorDiv_f86c9 6 = .ok (.lload_n 2, 1) := by decide +kernel
theorem dJ9_floorDiv_f86c9_7 : decode cJ9_floorDiv_f86c9 7 = .ok (.lxor, 1) := by decide +kernel
theorem dJ9_floorDiv_f86c9_8 : decode cJ9_floorDiv_f86c9 8 = .ok (.lconst 0, 1) := by decide +kernel
theorem dJ9_floorDiv_f86c9_9 : decode cJ9_floorDiv_f86c9 9 = .ok (.lcmp, 1) := by decide +kernel
theorem dJ9_floorDiv_f86c9_10 : decode cJ9_floorDiv_f86c9 10 = .ok (.ifCond .ge 17, 3) := by decide +kernel
theorem dJ9_floorDiv_f86c9_13 : decode cJ9_floorDiv_f86c9 13 = .ok (.lload 4, 2) := by decide +kernel
theorem dJ9_floorDiv_f86c9_15 : decode cJ9_floorDiv_f86c9 15 = .ok (.lload_n 2, 1) := by decide +kernel
theorem dJ9_floorDiv_f86c9_16 : decode cJ9_floorDiv_f86c9 16 = .ok (.lmul, 1) := by decide +kernel
theorem dJ9_floorDiv_f86c9_17 : decode cJ9_floorDiv_f86c9 17 = .ok (.lload_n 0, 1) := by decide +kernel
theorem dJ9_floorDiv_f86c9_18 : decode cJ9_floorDiv_f86c9 18 = .ok (.lcmp, 1) := by decide +kernel
theorem dJ9_floorDiv_f86c9_19 : decode cJ9_floorDiv_f86c9 19 = .ok (.ifCond .eq 8, 3) := by decide +kernel
theorem dJ9_floorDiv_f86c9_22 : decode cJ9_floorDiv_f86c9 22 = .ok (.lload 4, 2) := by decide +kernel
theorem dJ9_floorDiv_f86c9_24 : decode cJ9_floorDiv_f86c9 24 = .ok (.lconst 1, 1) := by decide +kernel
theorem dJ9_floorDiv_f86c9_25 : decode cJ9_floorDiv_f86c9 25 = .ok (.lsub, 1) := by decide +kernel
theorem dJ9_floorDiv_f86c9_26 : decode cJ9_floorDiv_f86c9 26 = .ok (.lreturn, 1) := by decide +kernel
theorem dJ9_floorDiv_f86c9_27 : decode cJ9_floorDiv_f86c9 27 = .ok (.lload 4, 2) := by decide +kernel
theorem dJ9_floorDiv_f86c9_29 : decode cJ9_floorDiv_f86c9 29 = .ok (.lreturn, 1) := by decide +kernel
theorem dJ9_abs_067f4_0 : decode cJ9_abs_067f4 0 = .ok (.lload_n 0, 1) := by decide +kernel
theorem dJ9_abs_067f4_1 : decode cJ9_abs_067f4 1 = .ok (.lconst 0, 1) := by decide +kernel
theorem dJ9_abs_067f4_2 : decode cJ9_abs_067f4 2 = .ok (.lcmp, 1) := by decide +kernel
theorem dJ9_abs_067f4_3 : decode cJ9_abs_067f4 3 = .ok (.ifCond .ge 8, 3) := by decide +kernel
theorem dJ9_abs_067f4_6 : decode cJ9_abs_067f4 6 = .ok (.lload_n 0, 1) := by decide +kernel
theorem dJ9_abs_067f4_7 : decode cJ9_abs_067f4 7 = .ok (.lneg, 1) := by decide +kernel
theorem dJ9_abs_067f4_8 : decode cJ9_abs_067f4 8 = .ok (.goto 4, 3) := by decide +kernel
theorem dJ9_abs_067f4_11 : decode cJ9_abs_067f4 11 = .ok (.lload_n 0, 1) := by decide +kernel
theorem dJ9_abs_067f4_12 : decode cJ9_abs_067f4 12 = .ok (.lreturn, 1) := by decide +kernel
theorem dJ9_max_f86c9_0 : decode cJ9_max_f86c9 0 = .ok (.lload_n 0, 1) := by decide +kernel
theorem dJ9_max_f86c9_1 : decode cJ9_max_f86c9 1 = .ok (.lload_n 2, 1) := by decide +kernel
theorem dJ9_max_f86c9_2 : decode cJ9_max_f86c9 2 = .ok (.lcmp, 1) := by decide +kernel
theorem dJ9_max_f86c9_3 : decode cJ9_max_f86c9 3 = .ok (.ifCond .lt 7, 3) := by decide +kernel
theorem dJ9_max_f86c9_6 : decode cJ9_max_f86c9 6 = .ok (.lload_n 0, 1) := by decide +kernel
theorem dJ9_max_f86c9_7 : decode cJ9_max_f86c9 7 = .ok (.goto 4, 3) := by decide +kernel
theorem dJ9_max_f86c9_10 : decode cJ9_max_f86c9 10 = .ok (.lload_n 2, 1) := by decide +kernel
theorem dJ9_max_f86c9_11 : decode cJ9_max_f86c9 11 = .ok (.lreturn, 1) := by decide +kernel
set_option maxRecDepth 20000 in
theorem ggL_law_X3_init : GoodIn wsL_law wsX3_init := goodIn_r _ [8, 9, 10, 11, 12, 13, 14, 15, 16, 17, 18, 19, 20, 21, 22, 23, 24, 25, 26, 27, 28, 29, 30, 31, 32, 33, 34, 35, 36, 37, 38, 39, 40, 41, 42, 43, 44, 45, 46, 47, 48, 49, 50, 51, 52, 53, 54, 55, 56, 57, 58, 59, 530, 531, 532, 533, 534, 535, 536, 537, 538, 539, 516, 517, 518, 519, 520, 540, 541, 542, 543, 544, 545, 546, 547, 548, 549, 550] (by decide +kernel) (by decide +kernel)
set_option maxRecDepth 20000 in
theorem gL_law_X3_init : GoodIn wsL_law (wsX3_init) := ggL_law_X3_init
set_option maxRecDepth 20000 in
theorem ggL_law_X4_init : GoodIn wsL_law wsX4_init := goodIn_r _ [62, 63, 10, 11, 18, 64, 65, 66, 67, 68, 69, 70, 71, 5, 72, 73, 521, 522, 523, 524, 525, 526, 527, 528, 529] (by decide +kernel) (by decide +kernel)
set_option maxRecDepth 20000 in
theorem gL_law_X4_init : GoodIn wsL_law (wsX4_init) := ggL_law_X4_init
set_option maxRecDepth 20000 in
theorem ggL_law_X3_reset : GoodIn wsL_law wsX3_reset := goodIn_r _ [77, 78, 79, 80, 81, 82, 15, 83, 84, 2, 85, 86, 87, 88, 89, 19, 90, 91, 92, 93, 17, 16, 94, 95, 96, 97, 98, 14, 99, 100, 28, 29, 30, 31, 32, 33, 34, 35, 36, 40, 101, 22, 102, 103, 44, 45, 47, 48, 49, 51, 52, 53, 104, 105, 106, 39, 107, 108, 57, 58, 59, 109, 110, 111, 50, 516, 517, 518, 519, 520, 530, 531, 532, 533, 534, 535, 536, 537, 538, 539, 548, 549, 550, 540, 541, 542, 543, 544, 545, 546, 547] (by decide +kernel) (by decide +kernel)
set_option maxRecDepth 20000 in
theorem gL_law_X3_reset : GoodIn wsL_law (wsV RL 13 RX3 yX3_reset wsX3_reset) := goodIn_app (goodIn_of _ (by decide +kernel)) ggL_law_X3_reset
set_option maxRecDepth 20000 in
theorem ggL_law_X4_reset : GoodIn wsL_law wsX4_reset := goodIn_r _ [115, 116, 117, 118, 119, 120, 64, 121, 122, 5, 123, 124, 125, 126, 127, 66, 128, 129, 130, 131, 132, 65, 69, 70, 71, 72, 73, 521, 522, 523, 524, 525, 526, 527, 528, 529] (by decide +kernel) (by decide +kernel)
set_option maxRecDepth 20000 in
theorem gL_law_X4_reset : GoodIn wsL_law (wsV RL 17 RX4 yX4_reset wsX4_reset) := goodIn_app (goodIn_of _ (by decide +kernel)) ggL_law_X4_reset
set_option maxRecDepth 20000 in
theorem ggL_law_X3_setProcessNoise : GoodIn wsL_law wsX3_setProcessNoise := goodIn_r _ [136, 81, 82, 15, 83, 84, 2, 85, 86, 87, 88, 89, 19, 90, 91, 92, 93, 17, 16, 94, 95, 96, 97, 98, 14, 99, 100, 28, 29, 30, 31, 32, 33, 34, 35, 36, 40, 101, 22, 102, 103, 44, 45, 47, 48, 49, 51, 52, 53, 104, 105, 106, 39, 107, 108, 57, 58, 59, 516, 517, 518, 519, 520, 530, 531, 532, 533, 534, 535, 536, 537, 538, 539, 540, 541, 542, 543, 544, 545, 546, 547, 548, 549, 550] (by decide +kernel) (by decide +kernel)
set_option maxRecDepth 20000 in
theorem gL_law_X3_setProcessNoise : GoodIn wsL_law (wsV RL 18 RX3 yX3_setProcessNoise wsX3_setProcessNoise) := goodIn_app (goodIn_of _ (by decide +kernel)) ggL_law_X3_setProcessNoise
set_option maxRecDepth 20000 in
theorem ggL_law_X4_setProcessNoise : GoodIn wsL_law wsX4_setProcessNoise := goodIn_r _ [140, 119, 120, 64, 121, 122, 5, 123, 124, 125, 126, 127, 66, 128, 129, 130, 131, 132, 65, 521, 522, 523, 524, 525, 526, 527, 528, 529] (by decide +kernel) (by decide +kernel)
set_option maxRecDepth 20000 in
theorem gL_law_X4_setProcessNoise : GoodIn wsL_law (wsV RL 22 RX4 yX4_setProcessNoise wsX4_setProcessNoise) := goodIn_app (goodIn_of _ (by decide +kernel)) ggL_law_X4_setProcessNoise
set_option maxRecDepth 20000 in
theorem ggL_law_X3_setSensor : GoodIn wsL_law wsX3_setSensor := goodIn_r _ [144, 79, 82, 15, 145, 146, 2, 147, 83, 84, 85, 148, 149, 150, 86, 87, 88, 89, 19, 90, 91, 92, 93, 17, 16, 94, 95, 96, 97, 98, 14, 99, 100, 28, 29, 30, 31, 32, 33, 34, 35, 36, 40, 101, 22, 102, 103, 44, 45, 47, 48, 49, 51, 52, 53, 104, 105, 106, 39, 107, 108, 57, 58, 59, 516, 517, 518, 519, 520, 530, 531, 532, 533, 534, 535, 536, 537, 538, 539, 540, 541, 542, 543, 544, 545, 546, 547, 548, 549, 550] (by decide +kernel) (by decide +kernel)
set_option maxRecDepth 20000 in
theorem gL_law_X3_setSensor : GoodIn wsL_law (wsV RL 23 RX3 yX3_setSensor wsX3_setSensor) := goodIn_app (goodIn_of _ (by decide +kernel)) ggL_law_X3_setSensor
set_option maxRecDepth 20000 in
theorem ggL_law_X4_setSensor : GoodIn wsL_law wsX4_setSensor := goodIn_r _ [154, 117, 120, 64, 155, 156, 5, 157, 121, 122, 123, 124, 125, 126, 127, 66, 128, 129, 130, 131, 132, 65, 521, 522, 523, 524, 525, 526, 527, 528, 529] (by decide +kernel) (by decide +kernel)
set_option maxRecDepth 20000 in
theorem gL_law_X4_setSensor : GoodIn wsL_law (wsV RL 27 RX4 yX4_setSensor wsX4_setSensor) := goodIn_app (goodIn_of _ (by decide +kernel)) ggL_law_X4_setSensor
set_option maxRecDepth 20000 in
theorem ggL_law_X3_setGate : GoodIn wsL_law wsX3_setGate := goodIn_r _ [161, 82, 15, 83, 84, 2, 85, 86, 87, 88, 89, 19, 90, 91, 92, 93, 17, 16, 94, 95, 96, 97, 98, 14, 99, 100, 28, 29, 30, 31, 32, 33, 34, 35, 36, 40, 101, 22, 102, 103, 44, 45, 47, 48, 49, 51, 52, 53, 104, 105, 106, 39, 107, 108, 57, 58, 59, 516, 517, 518, 519, 520, 530, 531, 532, 533, 534, 535, 536, 537, 538, 539, 540, 541, 542, 543, 544, 545, 546, 547, 548, 549, 550] (by decide +kernel) (by decide +kernel)
set_option maxRecDepth 20000 in
theorem gL_law_X3_setGate : GoodIn wsL_law (wsV RL 28 RX3 yX3_setGate wsX3_setGate) := goodIn_app (goodIn_of _ (by decide +kernel)) ggL_law_X3_setGate
set_option maxRecDepth 20000 in
theorem ggL_law_X4_setGate : GoodIn wsL_law wsX4_setGate := goodIn_r _ [165, 120, 64, 121, 122, 5, 123, 124, 125, 126, 127, 66, 128, 129, 130, 131, 132, 65, 521, 522, 523, 524, 525, 526, 527, 528, 529] (by decide +kernel) (by decide +kernel)
set_option maxRecDepth 20000 in
theorem gL_law_X4_setGate : GoodIn wsL_law (wsV RL 32 RX4 yX4_setGate wsX4_setGate) := goodIn_app (goodIn_of _ (by decide +kernel)) ggL_law_X4_setGate
set_option maxRecDepth 20000 in
theorem ggL_law_X3_predict : GoodIn wsL_law wsX3_predict := goodIn_r _ [169, 80, 81, 82, 23, 15, 170, 83, 84, 2, 85, 86, 87, 88, 89, 19, 101, 22, 102, 103, 44, 45, 47, 48, 49, 51, 52, 53, 171, 172, 173, 174, 175, 176, 177, 178, 179, 180, 181, 182, 183, 184, 185, 186, 90, 91, 92, 93, 17, 16, 94, 95, 96, 97, 98, 14, 99, 100, 28, 29, 30, 31, 32, 33, 34, 35, 36, 40, 104, 105, 106, 39, 107, 108, 57, 58, 59, 187, 188, 189, 190, 191, 192, 193, 516, 517, 518, 519, 520, 530, 531, 532, 533, 534, 535, 536, 537, 538, 539, 540, 541, 542, 543, 544, 545, 546, 547, 548, 549, 550] (by decide +kernel) (by decide +kernel)
set_option maxRecDepth 20000 in
theorem gL_law_X3_predict : GoodIn wsL_law (wsV RL 33 RX3 yX3_predict wsX3_predict) := goodIn_app (goodIn_of _ (by decide +kernel)) ggL_law_X3_predict
set_option maxRecDepth 20000 in
theorem ggL_law_X4_predict : GoodIn wsL_law wsX4_predict := goodIn_r _ [197, 118, 119, 120, 64, 198, 121, 122, 5, 123, 124, 125, 126, 127, 66, 199, 200, 201, 202, 68, 203, 204, 205, 206, 207, 208, 209, 210, 211, 212, 128, 129, 130, 131, 132, 65, 213, 214, 215, 216, 217, 218, 219, 220, 521, 522, 523, 524, 525, 526, 527, 528, 529] (by decide +kernel) (by decide +kernel)
set_option maxRecDepth 20000 in
theorem gL_law_X4_predict : GoodIn wsL_law (wsV RL 36 RX4 yX4_predict wsX4_predict) := goodIn_app (goodIn_of _ (by decide +kernel)) ggL_law_X4_predict
set_option maxRecDepth 20000 in
theorem ggL_law_X3_correct : GoodIn wsL_law wsX3_correct := goodIn_r _ [224, 78, 79, 82, 23, 15, 170, 145, 146, 2, 147, 83, 84, 85, 86, 87, 88, 89, 19, 101, 22, 102, 103, 44, 45, 47, 48, 49, 51, 52, 53, 225, 226, 227, 46, 228, 229, 230, 231, 232, 233, 234, 235, 236, 237, 238, 239, 240, 183, 184, 185, 186, 241, 242, 243, 175, 176, 177, 178, 179, 180, 181, 182, 90, 91, 92, 93, 17, 16, 94, 95, 96, 97, 98, 14, 99, 100, 28, 29, 30, 31, 32, 33, 34, 35, 36, 40, 104, 105, 106, 39, 107, 108, 57, 58, 59, 187, 188, 189, 190, 191, 192, 193, 516, 517, 518, 519, 520, 530, 531, 532, 533, 534, 535, 536, 537, 538, 539, 540, 541, 542, 543, 544, 545, 546, 547, 548, 549, 550] (by decide +kernel) (by decide +kernel)
set_option maxRecDepth 20000 in
theorem gL_law_X3_correct : GoodIn wsL_law (wsV RL 37 RX3 yX3_correct wsX3_correct) := goodIn_app (goodIn_of _ (by decide +kernel)) ggL_law_X3_correct
set_option maxRecDepth 20000 in
theorem ggL_law_X4_correct : GoodIn wsL_law wsX4_correct := goodIn_r _ [247, 116, 117, 120, 64, 198, 248, 249, 250, 155, 156, 5, 157, 121, 122, 123, 124, 125, 126, 127, 66, 199, 200, 201, 202, 68, 251, 252, 253, 254, 255, 256, 257, 258, 207, 259, 260, 261, 208, 209, 210, 211, 212, 262, 263, 264, 265, 128, 129, 130, 131, 132, 65, 213, 214, 215, 216, 217, 218, 219, 220, 521, 522, 523, 524, 525, 526, 527, 528, 529] (by decide +kernel) (by decide +kernel)
set_option maxRecDepth 20000 in
theorem gL_law_X4_correct : GoodIn wsL_law (wsV RL 40 RX4 yX4_correct wsX4_correct) := goodIn_app (goodIn_of _ (by decide +kernel)) ggL_law_X4_correct
set_option maxRecDepth 20000 in
theorem ggL_law_X3_miss : GoodIn wsL_law wsX3_miss := goodIn_r _ [269, 82, 15, 145, 146, 2, 147, 83, 84, 85, 86, 87, 88, 89, 19, 90, 91, 92, 93, 17, 16, 94, 95, 96, 97, 98, 14, 99, 100, 28, 29, 30, 31, 32, 33, 34, 35, 36, 40, 101, 22, 102, 103, 44, 45, 47, 48, 49, 51, 52, 53, 104, 105, 106, 39, 107, 108, 57, 58, 59, 516, 517, 518, 519, 520, 530, 531, 532, 533, 534, 535, 536, 537, 538, 539, 540, 541, 542, 543, 544, 545, 546, 547, 548, 549, 550] (by decide +kernel) (by decide +kernel)
set_option maxRecDepth 20000 in
theorem gL_law_X3_miss : GoodIn wsL_law (wsV RL 41 RX3 yX3_miss wsX3_miss) := goodIn_app (goodIn_of _ (by decide +kernel)) ggL_law_X3_miss
set_option maxRecDepth 20000 in
theorem ggL_law_X4_miss : GoodIn wsL_law wsX4_miss := goodIn_r _ [273, 120, 64, 155, 156, 5, 157, 121, 122, 123, 124, 125, 126, 127, 66, 128, 129, 130, 131, 132, 65, 521, 522, 523, 524, 525, 526, 527, 528, 529] (by decide +kernel) (by decide +kernel)
set_option maxRecDepth 20000 in
theorem gL_law_X4_miss : GoodIn wsL_law (wsV RL 44 RX4 yX4_miss wsX4_miss) := goodIn_app (goodIn_of _ (by decide +kernel)) ggL_law_X4_miss
set_option maxRecDepth 20000 in
theorem ggL_law_X3_level : GoodIn wsL_law wsX3_level := goodIn_r _ [277, 15, 516, 517, 518, 519, 520, 530, 531, 532, 533, 534, 535, 536, 537, 538, 539, 540, 541, 542, 543, 544, 545, 546, 547] (by decide +kernel) (by decide +kernel)
set_option maxRecDepth 20000 in
theorem gL_law_X3_level : GoodIn wsL_law (wsV RL 45 RX3 yX3_level wsX3_level) := goodIn_app (goodIn_of _ (by decide +kernel)) ggL_law_X3_level
set_option maxRecDepth 20000 in
theorem ggL_law_X4_level : GoodIn wsL_law wsX4_level := goodIn_r _ [281, 64, 521, 522, 523, 524, 525, 526, 527, 528, 529] (by decide +kernel) (by decide +kernel)
set_option maxRecDepth 20000 in
theorem gL_law_X4_level : GoodIn wsL_law (wsV RL 49 RX4 yX4_level wsX4_level) := goodIn_app (goodIn_of _ (by decide +kernel)) ggL_law_X4_level
set_option maxRecDepth 20000 in
theorem ggL_law_X3_flow : GoodIn wsL_law wsX3_flow := goodIn_r _ [285, 15, 516, 517, 518, 519, 520, 530, 531, 532, 533, 534, 535, 536, 537, 538, 539, 540, 541, 542, 543, 544, 545, 546, 547] (by decide +kernel) (by decide +kernel)
set_option maxRecDepth 20000 in
theorem gL_law_X3_flow : GoodIn wsL_law (wsV RL 50 RX3 yX3_flow wsX3_flow) := goodIn_app (goodIn_of _ (by decide +kernel)) ggL_law_X3_flow
set_option maxRecDepth 20000 in
theorem ggL_law_X4_flow : GoodIn wsL_law wsX4_flow := goodIn_r _ [289, 64, 521, 522, 523, 524, 525, 526, 527, 528, 529] (by decide +kernel) (by decide +kernel)
set_option maxRecDepth 20000 in
theorem gL_law_X4_flow : GoodIn wsL_law (wsV RL 53 RX4 yX4_flow wsX4_flow) := goodIn_app (goodIn_of _ (by decide +kernel)) ggL_law_X4_flow
set_option maxRecDepth 20000 in
theorem ggL_law_X3_levelVariance : GoodIn wsL_law wsX3_levelVariance := goodIn_r _ [293, 15, 516, 517, 518, 519, 520, 530, 531, 532, 533, 534, 535, 536, 537, 538, 539, 540, 541, 542, 543, 544, 545, 546, 547] (by decide +kernel) (by decide +kernel)
set_option maxRecDepth 20000 in
theorem gL_law_X3_levelVariance : GoodIn wsL_law (wsV RL 54 RX3 yX3_levelVariance wsX3_levelVariance) := goodIn_app (goodIn_of _ (by decide +kernel)) ggL_law_X3_levelVariance
set_option maxRecDepth 20000 in
theorem ggL_law_X4_levelVariance : GoodIn wsL_law wsX4_levelVariance := goodIn_r _ [297, 64, 521, 522, 523, 524, 525, 526, 527, 528, 529] (by decide +kernel) (by decide +kernel)
set_option maxRecDepth 20000 in
theorem gL_law_X4_levelVariance : GoodIn wsL_law (wsV RL 57 RX4 yX4_levelVariance wsX4_levelVariance) := goodIn_app (goodIn_of _ (by decide +kernel)) ggL_law_X4_levelVariance
set_option maxRecDepth 20000 in
theorem ggL_law_X3_covariance : GoodIn wsL_law wsX3_covariance := goodIn_r _ [301, 15, 516, 517, 518, 519, 520, 530, 531, 532, 533, 534, 535, 536, 537, 538, 539, 540, 541, 542, 543, 544, 545, 546, 547] (by decide +kernel) (by decide +kernel)
set_option maxRecDepth 20000 in
theorem gL_law_X3_covariance : GoodIn wsL_law (wsV RL 58 RX3 yX3_covariance wsX3_covariance) := goodIn_app (goodIn_of _ (by decide +kernel)) ggL_law_X3_covariance
set_option maxRecDepth 20000 in
theorem ggL_law_X4_covariance : GoodIn wsL_law wsX4_covariance := goodIn_r _ [305, 64, 521, 522, 523, 524, 525, 526, 527, 528, 529] (by decide +kernel) (by decide +kernel)
set_option maxRecDepth 20000 in
theorem gL_law_X4_covariance : GoodIn wsL_law (wsV RL 61 RX4 yX4_covariance wsX4_covariance) := goodIn_app (goodIn_of _ (by decide +kernel)) ggL_law_X4_covariance
set_option maxRecDepth 20000 in
theorem ggL_law_X3_flowVariance : GoodIn wsL_law wsX3_flowVariance := goodIn_r _ [309, 15, 516, 517, 518, 519, 520, 530, 531, 532, 533, 534, 535, 536, 537, 538, 539, 540, 541, 542, 543, 544, 545, 546, 547] (by decide +kernel) (by decide +kernel)
set_option maxRecDepth 20000 in
theorem gL_law_X3_flowVariance : GoodIn wsL_law (wsV RL 62 RX3 yX3_flowVariance wsX3_flowVariance) := goodIn_app (goodIn_of _ (by decide +kernel)) ggL_law_X3_flowVariance
set_option maxRecDepth 20000 in
theorem ggL_law_X4_flowVariance : GoodIn wsL_law wsX4_flowVariance := goodIn_r _ [313, 64, 521, 522, 523, 524, 525, 526, 527, 528, 529] (by decide +kernel) (by decide +kernel)
set_option maxRecDepth 20000 in
theorem gL_law_X4_flowVariance : GoodIn wsL_law (wsV RL 65 RX4 yX4_flowVariance wsX4_flowVariance) := goodIn_app (goodIn_of _ (by decide +kernel)) ggL_law_X4_flowVariance
set_option maxRecDepth 20000 in
theorem ggL_law_X3_innovation : GoodIn wsL_law wsX3_innovation := goodIn_r _ [317, 15, 516, 517, 518, 519, 520, 530, 531, 532, 533, 534, 535, 536, 537, 538, 539, 540, 541, 542, 543, 544, 545, 546, 547] (by decide +kernel) (by decide +kernel)
set_option maxRecDepth 20000 in
theorem gL_law_X3_innovation : GoodIn wsL_law (wsV RL 66 RX3 yX3_innovation wsX3_innovation) := goodIn_app (goodIn_of _ (by decide +kernel)) ggL_law_X3_innovation
set_option maxRecDepth 20000 in
theorem ggL_law_X4_innovation : GoodIn wsL_law wsX4_innovation := goodIn_r _ [321, 64, 521, 522, 523, 524, 525, 526, 527, 528, 529] (by decide +kernel) (by decide +kernel)
set_option maxRecDepth 20000 in
theorem gL_law_X4_innovation : GoodIn wsL_law (wsV RL 69 RX4 yX4_innovation wsX4_innovation) := goodIn_app (goodIn_of _ (by decide +kernel)) ggL_law_X4_innovation
set_option maxRecDepth 20000 in
theorem ggL_law_X3_levelGain : GoodIn wsL_law wsX3_levelGain := goodIn_r _ [325, 15, 516, 517, 518, 519, 520, 530, 531, 532, 533, 534, 535, 536, 537, 538, 539, 540, 541, 542, 543, 544, 545, 546, 547] (by decide +kernel) (by decide +kernel)
set_option maxRecDepth 20000 in
theorem gL_law_X3_levelGain : GoodIn wsL_law (wsV RL 70 RX3 yX3_levelGain wsX3_levelGain) := goodIn_app (goodIn_of _ (by decide +kernel)) ggL_law_X3_levelGain
set_option maxRecDepth 20000 in
theorem ggL_law_X4_levelGain : GoodIn wsL_law wsX4_levelGain := goodIn_r _ [329, 64, 521, 522, 523, 524, 525, 526, 527, 528, 529] (by decide +kernel) (by decide +kernel)
set_option maxRecDepth 20000 in
theorem gL_law_X4_levelGain : GoodIn wsL_law (wsV RL 73 RX4 yX4_levelGain wsX4_levelGain) := goodIn_app (goodIn_of _ (by decide +kernel)) ggL_law_X4_levelGain
set_option maxRecDepth 20000 in
theorem ggL_law_X3_flowGain : GoodIn wsL_law wsX3_flowGain := goodIn_r _ [333, 15, 516, 517, 518, 519, 520, 530, 531, 532, 533, 534, 535, 536, 537, 538, 539, 540, 541, 542, 543, 544, 545, 546, 547] (by decide +kernel) (by decide +kernel)
set_option maxRecDepth 20000 in
theorem gL_law_X3_flowGain : GoodIn wsL_law (wsV RL 74 RX3 yX3_flowGain wsX3_flowGain) := goodIn_app (goodIn_of _ (by decide +kernel)) ggL_law_X3_flowGain
set_option maxRecDepth 20000 in
theorem ggL_law_X4_flowGain : GoodIn wsL_law wsX4_flowGain := goodIn_r _ [337, 64, 521, 522, 523, 524, 525, 526, 527, 528, 529] (by decide +kernel) (by decide +kernel)
set_option maxRecDepth 20000 in
theorem gL_law_X4_flowGain : GoodIn wsL_law (wsV RL 77 RX4 yX4_flowGain wsX4_flowGain) := goodIn_app (goodIn_of _ (by decide +kernel)) ggL_law_X4_flowGain
set_option maxRecDepth 20000 in
theorem ggL_law_X3_accepted : GoodIn wsL_law wsX3_accepted := goodIn_r _ [341, 15, 516, 517, 518, 519, 520, 530, 531, 532, 533, 534, 535, 536, 537, 538, 539] (by decide +kernel) (by decide +kernel)
set_option maxRecDepth 20000 in
theorem gL_law_X3_accepted : GoodIn wsL_law (wsV RL 78 RX3 yX3_accepted wsX3_accepted) := goodIn_app (goodIn_of _ (by decide +kernel)) ggL_law_X3_accepted
set_option maxRecDepth 20000 in
theorem ggL_law_X4_accepted : GoodIn wsL_law wsX4_accepted := goodIn_r _ [345, 64, 521, 522, 523, 524, 525, 526, 527, 528, 529] (by decide +kernel) (by decide +kernel)
set_option maxRecDepth 20000 in
theorem gL_law_X4_accepted : GoodIn wsL_law (wsV RL 81 RX4 yX4_accepted wsX4_accepted) := goodIn_app (goodIn_of _ (by decide +kernel)) ggL_law_X4_accepted
set_option maxRecDepth 20000 in
theorem ggL_law_X3_rejected : GoodIn wsL_law wsX3_rejected := goodIn_r _ [349, 15, 516, 517, 518, 519, 520, 530, 531, 532, 533, 534, 535, 536, 537, 538, 539] (by decide +kernel) (by decide +kernel)
set_option maxRecDepth 20000 in
theorem gL_law_X3_rejected : GoodIn wsL_law (wsV RL 82 RX3 yX3_rejected wsX3_rejected) := goodIn_app (goodIn_of _ (by decide +kernel)) ggL_law_X3_rejected
end
section
abbrev vwCl : List vw_C := [(RX0, TX0, 8), (RX1, TX1, 3), (RX2, TX2, 10), (RX3, TX3, 5), (RX4, TX4, 9)]
end
section
/-! ===== KIT OF THIS CLAIM: links of nest mates, worlds around a call ===== -/
def nxl : List Cond := [.methodLinkNest RX3 9 yX2_init "TankFilter",
  .methodLinkNest RX2 11 yX0_init "TankFilter",
  .fieldLinkNest RX3 111 "TankFilter$Estimate" "level" "J" "TankFilter",
  .fieldLinkNest RX3 119 "TankFilter$Estimate" "flow" "J" "TankFilter",
  .fieldLinkNest RX3 122 "TankFilter$Estimate" "levelVariance" "J" "TankFilter",
  .fieldLinkNest RX3 125 "TankFilter$Estimate" "covariance" "J" "TankFilter",
  .fieldLinkNest RX3 128 "TankFilter$Estimate" "flowVariance" "J" "TankFilter",
  .fieldLinkNest RX3 131 "TankFilter$Estimate" "innovation" "J" "TankFilter",
  .fieldLinkNest RX3 134 "TankFilter$Estimate" "levelGain" "J" "TankFilter",
  .fieldLinkNest RX3 137 "TankFilter$Estimate" "flowGain" "J" "TankFilter",
  .methodLinkNest RX2 46 yX1_init "TankFilter",
  .fieldLinkNest RX3 198 "TankFilter$History" "sources" "[I" "TankFilter",
  .fieldLinkNest RX3 201 "TankFilter$History" "values" "[I" "TankFilter",
  .fieldLinkNest RX3 55 "TankFilter$History" "size" "I" "TankFilter",
  .fieldLinkNest RX2 73 "TankFilter$History" "size" "I" "TankFilter",
  .fieldLinkNest RX3 60 "TankFilter$Memory" "estimate" "LTankFilter$Estimate;" "TankFilter",
  .fieldLinkNest RX3 79 "TankFilter$Memory" "levelNoise" "I" "TankFilter",
  .fieldLinkNest RX3 76 "TankFilter$Memory" "flowNoise" "I" "TankFilter",
  .fieldLinkNest RX3 95 "TankFilter$Memory" "gate" "I" "TankFilter",
  .fieldLinkNest RX3 92 "TankFilter$Memory" "sensorKinds" "[I" "TankFilter",
  .fieldLinkNest RX3 89 "TankFilter$Memory" "sensorVariances" "[I" "TankFilter",
  .fieldLinkNest RX3 67 "TankFilter$Memory" "acceptedCount" "I" "TankFilter",
  .fieldLinkNest RX3 70 "TankFilter$Memory" "rejectedCount" "I" "TankFilter",
  .fieldLinkNest RX3 73 "TankFilter$Memory" "missedCount" "I" "TankFilter",
  .fieldLinkNest RX3 51 "TankFilter$Memory" "history" "LTankFilter$History;" "TankFilter",
  .methodLinkNest RX3 30 yX0_init "TankFilter",
  .methodLinkNest RX3 161 yX2_copyFrom "TankFilter",
  .methodLinkNest RX2 51 yX0_copyFrom "TankFilter",
  .methodLinkNest RX2 55 yX3_copyRow "TankFilter",
  .methodLinkNest RX2 59 yX1_copyFrom "TankFilter",
  .methodLinkNest RX1 25 yX3_copyRow "TankFilter",
  .methodLinkNest RX3 63 yX0_startFrom "TankFilter",
  .methodLinkNest RX3 98 yX0_copyFrom "TankFilter",
  .methodLinkNest RX3 102 yX0_advance "TankFilter",
  .methodLinkNest RX0 54 yX3_isInLimit "TankFilter",
  .methodLinkNest RX3 107 yX1_append "TankFilter",
  .methodLinkNest RX3 115 yX0_take "TankFilter",
  .methodLinkNest RX0 50 yX3_dividedBy "TankFilter",
  .methodLinkNest RX0 59 yX3_times "TankFilter",
  .methodLinkNest RX3 194 yX0_mean "TankFilter",
  .methodLinkNest RX3 148 yX1_hasReading "TankFilter",
  .methodLinkNest RX3 170 yX2_mixInto "TankFilter",
  .methodLinkNest RX2 62 yX0_mixStateInto "TankFilter",
  .methodLinkNest RX0 67 yX3_mix "TankFilter",
  .methodLinkNest RX2 66 yX3_mix "TankFilter",
  .methodLinkNest RX2 70 yX0_mixLatestReadingInto "TankFilter",
  .methodLinkNest RX2 76 yX1_mixInto "TankFilter",
  .methodLinkNest RX1 29 yX3_mix "TankFilter"]
def nxb (w : Cond) : Bool := match w with
  | .fieldLinkNest _ _ _ _ _ _ => true
  | .methodLinkNest _ _ _ _ => true
  | _ => false
def NX (U : State) : Prop := ∀ w ∈ nxl, va_Nw w U
theorem nxl_ok : nxl.all nxb = true := by rfl
theorem NX.warm {s U : State} (hW : s.WarmedH U.vm) (h : NX s) : NX U := by
  intro w hw
  have h1 := List.all_eq_true.mp nxl_ok w hw
  have h2 := h w hw
  cases w <;> first | exact va_Nw.warmF hW h2 | exact va_Nw.warmM hW h2 | (simp [nxb] at h1)
theorem NX.same {s U : State} (hv : s.vm = U.vm) (h : NX s) : NX U := by
  intro w hw
  have h1 := List.all_eq_true.mp nxl_ok w hw
  have h2 := h w hw
  cases w <;> first | exact va_Nw.same rfl hv h2 | (simp [nxb] at h1)
theorem NX.at {s : State} (h : NX s) {w : Cond} (i : Nat) (hi : nxl[i]? = some w) : va_Nw w s := h w (List.mem_of_getElem? hi)
/-- a method's start: the heap's size, its world, the tables, the nest's links -/
def KP (D : va_G) (T : List (ClassId × FieldType)) (wc : va_W) (sz : Nat) (U : State) : Prop := U.heap.size = sz ∧ va_P D vwCl wc U.heap ∧ va_K D vwCl T U ∧ va_D (fun _ => True) wc ∧ NX U
/-- its end: the new world -/
def KB (D : va_G) (wc w1 : va_W) (sz : Nat) (t : State) : Prop := va_P D vwCl w1 t.heap ∧ va_D (va_A wc sz) w1
theorem kp_blind {D : va_G} {T : List (ClassId × FieldType)} {wc : va_W} {sz : Nat} {As : List Value} : FrameBlind (va_Pc As (KP D T wc sz)) := by
  intro a U g mk h
  obtain ⟨h0, h1, h2, h3, h4, h5⟩ := h
  exact ⟨h0, h1, h2, va_K.moved (u := U) (U := U.calling g mk a) (Vm.Alike.refl U.vm) h3, h4, NX.same (s := U) (U := U.calling g mk a) rfl h5⟩
theorem kp_go {D : va_G} {T : List (ClassId × FieldType)} {A : Nat → Prop} {wc wr : va_W} {s U : State} {H : Heap} {As : List Value} (hN : NX s) (hK : va_K D vwCl T s) (hP : va_P D vwCl (wc ++ wr) H) (hD : va_D A (wc ++ wr)) (hU : U.heap = H) (hW : s.WarmedH U.vm) : va_Pc As (KP D T wc H.size) As.toArray U := by
  refine ⟨rfl, by rw [hU], ?_, va_K.moved hW.alike hK, ?_, NX.warm hW hN⟩
  · intro k q hk
    rw [hU]
    exact hP k q (by rw [List.getElem?_append_left (List.getElem?_eq_some_iff.mp hk).1]; exact hk)
  · refine ⟨fun i j x y hx hy e => ?_, fun _ _ _ => trivial⟩
    have gx : (wc ++ wr)[i]? = some x := by rw [List.getElem?_append_left (List.getElem?_eq_some_iff.mp hx).1]; exact hx
    have gy : (wc ++ wr)[j]? = some y := by rw [List.getElem?_append_left (List.getElem?_eq_some_iff.mp hy).1]; exact hy
    exact hD.1 i j x y gx gy e
theorem kp_preV {D : va_G} {T : List (ClassId × FieldType)} {A : Nat → Prop} {wc wr : va_W} {s : State} {H : Heap} {b : Addr} {As : List Value} {q : vw_C} {ci : Nat} {fs : List Value} (hN : NX s) (hK : va_K D vwCl T s) (hP : va_P D vwCl (wc ++ wr) H) (hD : va_D A (wc ++ wr)) (k : Nat) (hk : (wc ++ wr)[k]? = some (b, .inr (ci, fs))) (hc : vwCl[ci]? = some q) : PreV s H q.1 b (va_Pc (.ref b :: As) (KP D T wc H.size)) As :=
  ⟨kp_blind, va_recv hK hP hc hk, fun _ hU hW => kp_go hN hK hP hD hU hW⟩
theorem kp_preS {D : va_G} {T : List (ClassId × FieldType)} {A : Nat → Prop} {wc wr : va_W} {s : State} {H : Heap} {As : List Value} (hN : NX s) (hK : va_K D vwCl T s) (hP : va_P D vwCl (wc ++ wr) H) (hD : va_D A (wc ++ wr)) : PreS s H (va_Pc As (KP D T wc H.size)) As :=
  ⟨kp_blind, fun _ hU hW => kp_go hN hK hP hD hU hW⟩
theorem kp_free {A0 : Nat → Prop} {wc wr : va_W} {H0 H : Heap} {locs : List Loc} (hD : va_D A0 (wc ++ wr)) (hS : va_S A0 H0 H locs) (hA : ∀ q, H0.size ≤ q → A0 q) : ∀ q, va_A wc H.size q → A0 q := by
  intro q h
  rcases h with ⟨k, e, h⟩ | h
  · exact hD.2 k (q, e) (by rw [List.getElem?_append_left (List.getElem?_eq_some_iff.mp h).1]; exact h)
  · exact hA q (Nat.le_trans hS.1 h)
/-- behind a call: the callee's world, and the caller's rest -/
theorem kp_join {A0 : Nat → Prop} {D : va_G} {wc wr w1 : va_W} {H H1 : Heap} (hP : va_P D vwCl (wc ++ wr) H) (hD : va_D A0 (wc ++ wr))
    (hk : ∀ q : Nat, q < H.size → ¬ va_A wc H.size q → H1[q]? = H[q]?) (hF : ∀ q, va_A wc H.size q → A0 q) (hP1 : va_P D vwCl w1 H1) (hD1 : va_D (va_A wc H.size) w1) : va_P D vwCl (w1 ++ wr) H1 ∧ va_D A0 (w1 ++ wr) := by
  have gR : ∀ (k : Nat) (q : Nat × va_E), wr[k]? = some q → (wc ++ wr)[wc.length + k]? = some q := fun k q h => by
    rw [List.getElem?_append_right (Nat.le_add_right _ _), Nat.add_sub_cancel_left]; exact h
  have apart : ∀ (k : Nat) (q : Nat × va_E), wr[k]? = some q → q.1 < H.size ∧ ¬ va_A wc H.size q.1 := by
    intro k q hq
    have hl := (hP _ q (gR k q hq)).lt
    refine ⟨hl, fun h => ?_⟩
    rcases h with ⟨k2, e, h⟩ | h
    · have hk2 : k2 < wc.length := (List.getElem?_eq_some_iff.mp h).1
      have g2 : (wc ++ wr)[k2]? = some (q.1, e) := by rw [List.getElem?_append_left hk2]; exact h
      have := hD.1 _ _ _ _ (gR k q hq) g2 rfl
      omega
    · omega
  refine ⟨va_P.app hP1 (fun k q hq => ?_), va_D.app (hD1.weaken (fun k q _ h => hF q.1 h)) ⟨fun i j x y hx hy e => ?_, fun k q hq => hD.2 _ q (gR k q hq)⟩ (fun i j x y hx hy hxy => ?_)⟩
  · exact (hP _ q (gR k q hq)).kept (hk q.1 (apart k q hq).1 (apart k q hq).2)
  · have := hD.1 _ _ _ _ (gR i x hx) (gR j y hy) e
    omega
  · exact (apart j y hy).2 (by rw [← hxy]; exact hD1.2 i x hx)
/-- the same world in another order, or fewer of its cells -/
theorem kp_sub {A0 : Nat → Prop} {D : va_G} {ws ws' : va_W} {H : Heap} (hP : va_P D vwCl ws H) (hD : va_D A0 ws) (is : List Nat) (hn : va_nd is = true) (hs : is.map (fun i => ws[i]?) = ws'.map some) : va_P D vwCl ws' H ∧ va_D A0 ws' := by
  refine ⟨fun k q hq => ?_, hD.sub is hn hs⟩
  have h1 : (is.map (fun i => ws[i]?))[k]? = some (some q) := by rw [hs, List.getElem?_map, hq]; rfl
  rw [List.getElem?_map] at h1
  cases hi : is[k]? with
  | none => rw [hi] at h1; cases h1
  | some i => rw [hi] at h1; exact hP i q (Option.some.inj h1)
/-- the same, with a rest that stays -/
theorem kp_subF {A0 : Nat → Prop} {D : va_G} {ws ws' F : va_W} {H : Heap} (hP : va_P D vwCl (ws ++ F) H) (hD : va_D A0 (ws ++ F)) (is : List Nat) (hn : va_nd is = true) (hs : is.map (fun i => ws[i]?) = ws'.map some) : va_P D vwCl (ws' ++ F) H ∧ va_D A0 (ws' ++ F) := by
  have gL : ∀ (k : Nat) (q : Nat × va_E), ws[k]? = some q → (ws ++ F)[k]? = some q := fun k q h => by
    rw [List.getElem?_append_left (List.getElem?_eq_some_iff.mp h).1]; exact h
  have gR : ∀ (k : Nat) (q : Nat × va_E), F[k]? = some q → (ws ++ F)[ws.length + k]? = some q := fun k q h => by
    rw [List.getElem?_append_right (Nat.le_add_right _ _), Nat.add_sub_cancel_left]; exact h
  have hP1 : va_P D vwCl ws H := fun k q hq => hP k q (gL k q hq)
  have hD1 : va_D A0 ws := ⟨fun i j x y hx hy e => hD.1 i j x y (gL i x hx) (gL j y hy) e, fun k q hq => hD.2 k q (gL k q hq)⟩
  obtain ⟨hP2, hD2⟩ := kp_sub hP1 hD1 is hn hs
  have at' : ∀ (k : Nat) (q : Nat × va_E), ws'[k]? = some q → ∃ i : Nat, ws[i]? = some q := by
    intro k q hq
    have h1 : (is.map (fun i => ws[i]?))[k]? = some (some q) := by rw [hs, List.getElem?_map, hq]; rfl
    rw [List.getElem?_map] at h1
    cases hi : is[k]? with
    | none => rw [hi] at h1; cases h1
    | some i => rw [hi] at h1; exact ⟨i, Option.some.inj h1⟩
  refine ⟨va_P.app hP2 (fun k q hq => hP _ q (gR k q hq)), va_D.app hD2 ⟨fun i j x y hx hy e => ?_, fun k q hq => hD.2 _ q (gR k q hq)⟩ (fun i j x y hx hy hxy => ?_)⟩
  · have := hD.1 _ _ _ _ (gR i x hx) (gR j y hy) e
    omega
  · obtain ⟨i', hi'⟩ := at' i x hx
    have h1 := hD.1 _ _ _ _ (gL i' x hi') (gR j y hy) hxy
    have h2 : i' < ws.length := (List.getElem?_eq_some_iff.mp hi').1
    omega
/-- an array's contents count below its length alone -/
theorem kp_arr {D : va_G} {ws : va_W} {H : Heap} {a : Nat} {e e' : va_E} (hP : va_P D vwCl ws H) (k : Nat) (hk : ws[k]? = some (a, e)) (he : va_at D vwCl (a, e) H → va_at D vwCl (a, e') H) : va_P D vwCl (ws.set k (a, e')) H := by
  intro j q hj
  rw [List.getElem?_set] at hj
  by_cases h : k = j
  · subst h
    rw [if_pos rfl] at hj
    by_cases h2 : k < ws.length
    · rw [if_pos h2] at hj
      cases hj
      exact he (hP k _ hk)
    · rw [if_neg h2] at hj; cases hj
  · rw [if_neg h] at hj
    exact hP j q hj
theorem kp_ofn {n : Nat} {f g : Nat → Value} (cA : ClassId) (h : ∀ j, j < n → f j = g j) : arrV cA n f = arrV cA n g := by
  unfold arrV
  congr 1
  exact Array.ext (by simp) (fun i h1 h2 => by simp at h1 ⊢; exact h i h1)
theorem kp_arrI {D : va_G} {ws : va_W} {A0 : Nat → Prop} {H : Heap} {a n : Nat} {cA : ClassId} {f : Nat → Int32} (hP : va_P D vwCl ws H) (hD : va_D A0 ws) (k : Nat) (hk : ws[k]? = some (a, .inl (cA, n, .inl f))) (g : Nat → Int32) (h : ∀ j, j < n → f j = g j) : va_P D vwCl (ws.set k (a, .inl (cA, n, .inl g))) H ∧ va_D A0 (ws.set k (a, .inl (cA, n, .inl g))) := by
  refine ⟨kp_arr hP k hk (fun z => ?_), hD.set hk⟩
  show H[a]? = some (vp_cell cA (n, .inl g))
  have z : H[a]? = some (vp_cell cA (n, .inl f)) := z
  rw [z, vp_cell_i, vp_cell_i, kp_ofn cA (fun j hj => by rw [h j hj])]
theorem kp_arrJ {D : va_G} {ws : va_W} {A0 : Nat → Prop} {H : Heap} {a n : Nat} {cA : ClassId} {f : Nat → Int64} (hP : va_P D vwCl ws H) (hD : va_D A0 ws) (k : Nat) (hk : ws[k]? = some (a, .inl (cA, n, .inr (.inl f)))) (g : Nat → Int64) (h : ∀ j, j < n → f j = g j) : va_P D vwCl (ws.set k (a, .inl (cA, n, .inr (.inl g)))) H ∧ va_D A0 (ws.set k (a, .inl (cA, n, .inr (.inl g)))) := by
  refine ⟨kp_arr hP k hk (fun z => ?_), hD.set hk⟩
  show H[a]? = some (vp_cell cA (n, .inr (.inl g)))
  have z : H[a]? = some (vp_cell cA (n, .inr (.inl f))) := z
  rw [z, vp_cell_l, vp_cell_l, kp_ofn cA (fun j hj => by rw [h j hj])]
theorem kp_arrQ {D : va_G} {ws : va_W} {A0 : Nat → Prop} {H : Heap} {a n : Nat} {cA : ClassId} {f : Nat → Option Nat} (hP : va_P D vwCl ws H) (hD : va_D A0 ws) (k : Nat) (hk : ws[k]? = some (a, .inl (cA, n, .inr (.inr (.inr (.inr f)))))) (g : Nat → Option Nat) (h : ∀ j, j < n → f j = g j) : va_P D vwCl (ws.set k (a, .inl (cA, n, .inr (.inr (.inr (.inr g)))))) H ∧ va_D A0 (ws.set k (a, .inl (cA, n, .inr (.inr (.inr (.inr g)))))) := by
  refine ⟨kp_arr hP k hk (fun z => ?_), hD.set hk⟩
  show H[a]? = some (vp_cell cA (n, .inr (.inr (.inr (.inr g)))))
  have z : H[a]? = some (vp_cell cA (n, .inr (.inr (.inr (.inr f))))) := z
  rw [z, vp_cell_q, vp_cell_q, kp_ofn cA (fun j hj => by rw [h j hj])]
section KC
variable {p : Program} {l : Launch} {e : Env} {R : Room} {s : State} {m : MethodId} {args : Array Value} {below : List Frame} {meth : Method} {c : Code} {H : Heap} {locs : List Loc} {cells slots : Nat} {Q : State → Prop}
variable {pc : Nat} {ls : Array Slot} {rest st0 : List Value} {a : Array Value} {A : Nat → Prop} {H0 : Heap} {D : va_G} {wc wr : va_W}
theorem kc_i {S : Type} {post : Int32 → S → Prop} {w1 : S → va_W} (hr : va_Run p l e R s m args below meth c H locs cells slots 0 0 (F0 m pc ls st0) rest (va_Qi post (fun u t => KB D wc (w1 u) H.size t) (va_A wc H.size) a) (va_A wc H.size)) (hP : va_P D vwCl (wc ++ wr) H) (hD : va_D A (wc ++ wr)) (hS : va_S A H0 H locs) (hA : ∀ q, H0.size ≤ q → A q)
    (kk : ∀ (r : Int32) (u : S) (H1 : Heap) (locs1 : List Loc), post r u → va_P D vwCl (w1 u ++ wr) H1 → va_D A (w1 u ++ wr) → va_S A H0 H1 locs1 → W p l e R s m args below meth c H1 locs1 cells slots Q (F0 m (pc + 3) ls (.int r :: rest))) : W p l e R s m args below meth c H locs cells slots Q (F0 m pc ls st0) := by
  have hF := kp_free (wc := wc) hD hS hA
  refine va_calli hr hS (fun q _ h => hF q h) hF (fun r u t H1 locs1 ht _ hp hB _ hk hS1 => ?_)
  obtain ⟨hP1, hD1⟩ := hB
  rw [ht] at hP1
  obtain ⟨hP2, hD2⟩ := kp_join hP hD hk hF hP1 hD1
  exact kk r u H1 locs1 hp hP2 hD2 hS1
theorem kc_l {S : Type} {post : Int64 → S → Prop} {w1 : S → va_W} (hr : va_Run p l e R s m args below meth c H locs cells slots 0 0 (F0 m pc ls st0) rest (va_Ql post (fun u t => KB D wc (w1 u) H.size t) (va_A wc H.size) a) (va_A wc H.size)) (hP : va_P D vwCl (wc ++ wr) H) (hD : va_D A (wc ++ wr)) (hS : va_S A H0 H locs) (hA : ∀ q, H0.size ≤ q → A q)
    (kk : ∀ (r : Int64) (u : S) (H1 : Heap) (locs1 : List Loc), post r u → va_P D vwCl (w1 u ++ wr) H1 → va_D A (w1 u ++ wr) → va_S A H0 H1 locs1 → W p l e R s m args below meth c H1 locs1 cells slots Q (F0 m (pc + 3) ls (.long r :: rest))) : W p l e R s m args below meth c H locs cells slots Q (F0 m pc ls st0) := by
  have hF := kp_free (wc := wc) hD hS hA
  refine va_calll hr hS (fun q _ h => hF q h) hF (fun r u t H1 locs1 ht _ hp hB _ hk hS1 => ?_)
  obtain ⟨hP1, hD1⟩ := hB
  rw [ht] at hP1
  obtain ⟨hP2, hD2⟩ := kp_join hP hD hk hF hP1 hD1
  exact kk r u H1 locs1 hp hP2 hD2 hS1
theorem kc_v {S : Type} {post : S → Prop} {w1 : S → va_W} {mc ms : Nat} (hr : va_Run p l e R s m args below meth c H locs cells slots mc ms (F0 m pc ls st0) rest (va_Qv post (fun u t => KB D wc (w1 u) H.size t) (va_A wc H.size) a) (va_A wc H.size)) (hP : va_P D vwCl (wc ++ wr) H) (hD : va_D A (wc ++ wr)) (hS : va_S A H0 H locs) (hA : ∀ q, H0.size ≤ q → A q)
    (kk : ∀ (u : S) (H1 : Heap) (locs1 : List Loc), post u → va_P D vwCl (w1 u ++ wr) H1 → va_D A (w1 u ++ wr) → va_S A H0 H1 locs1 → W p l e R s m args below meth c H1 locs1 (cells + mc) (slots + ms) Q (F0 m (pc + 3) ls rest)) : W p l e R s m args below meth c H locs cells slots Q (F0 m pc ls st0) := by
  have hF := kp_free (wc := wc) hD hS hA
  refine va_callv hr hS (fun q _ h => hF q h) hF (fun u t H1 locs1 ht _ hp hB _ hk hS1 => ?_)
  obtain ⟨hP1, hD1⟩ := hB
  rw [ht] at hP1
  obtain ⟨hP2, hD2⟩ := kp_join hP hD hk hF hP1 hD1
  exact kk u H1 locs1 hp hP2 hD2 hS1
end KC
abbrev tk_T (cI cM cJ : ClassId) : List (ClassId × FieldType) := [(cI, .int), (cM, .object "TankFilter$Memory"), (cJ, .long)]
abbrev tk_ev (e : Nat → Int64) : List Value := [.long (e 0), .long (e 1), .long (e 2), .long (e 3), .long (e 4), .long (e 5), .long (e 6), .long (e 7)]
theorem KB.of {D : va_G} {wc w1 : va_W} {sz : Nat} {t : State} {A : Nat → Prop} (hA : va_A wc sz = A) (hP : va_P D vwCl w1 t.heap) (hD : va_D A w1) : KB D wc w1 sz t := ⟨hP, by rw [hA]; exact hD⟩
section KA
variable {p : Program} {l : Launch} {e : Env} {R : Room} {s : State} {m : MethodId} {args : Array Value} {below : List Frame} {meth : Method} {c : Code} {H : Heap} {locs : List Loc} {cells slots : Nat} {Q : State → Prop}
variable {cc : ByteArray} {pc : Nat} {ls : Array Slot} {rest : List Value} {D : va_G} {A : Nat → Prop} {a : Nat} {tys : List (ClassId × FieldType)} {ws : va_W} {H0 : Heap}
theorem ka_ild (hexec : p.tables.exec = Jvm.exec) (hb : c.code = cc) (hK : va_K D vwCl tys s) (hP : va_P D vwCl ws H) (q0 t0 : Nat) {cA : ClassId} {n : Nat} {f : Nat → Int32} (ha : ws[q0]? = some (a, .inl (cA, n, .inl f))) (ht : tys[t0]? = some (cA, .int)) {i : Int32} {j : Nat} (hi : i = nI j) (hj : j < n) (hn : n < 2 ^ 31) (hdg : decode cc pc = .ok (.iaload, 1))
    (kk : W p l e R s m args below meth c H locs cells slots Q (F0 m (pc + 1) ls (.int (f j) :: rest))) : W p l e R s m args below meth c H locs cells slots Q (F0 m pc ls (.int i :: .ref a :: rest)) := by
  subst hi
  refine va_iald hexec hb hK hP q0 t0 ha ht (vp_in_nI hj hn) hdg ?_
  rw [nI_clamp (Nat.lt_trans hj hn)]
  exact kk
theorem ka_lld (hexec : p.tables.exec = Jvm.exec) (hb : c.code = cc) (hK : va_K D vwCl tys s) (hP : va_P D vwCl ws H) (q0 t0 : Nat) {cA : ClassId} {n : Nat} {f : Nat → Int64} (ha : ws[q0]? = some (a, .inl (cA, n, .inr (.inl f)))) (ht : tys[t0]? = some (cA, .long)) {i : Int32} {j : Nat} (hi : i = nI j) (hj : j < n) (hn : n < 2 ^ 31) (hdg : decode cc pc = .ok (.laload, 1))
    (kk : W p l e R s m args below meth c H locs cells slots Q (F0 m (pc + 1) ls (.long (f j) :: rest))) : W p l e R s m args below meth c H locs cells slots Q (F0 m pc ls (.int i :: .ref a :: rest)) := by
  subst hi
  refine va_lald hexec hb hK hP q0 t0 ha ht (vp_in_nI hj hn) hdg ?_
  rw [nI_clamp (Nat.lt_trans hj hn)]
  exact kk
theorem ka_qld (hexec : p.tables.exec = Jvm.exec) (hb : c.code = cc) (hK : va_K D vwCl tys s) (hP : va_P D vwCl ws H) (q0 t0 : Nat) {cA : ClassId} {C : String} {n : Nat} {f : Nat → Option Nat} (ha : ws[q0]? = some (a, .inl (cA, n, .inr (.inr (.inr (.inr f)))))) (ht : tys[t0]? = some (cA, .object C)) {i : Int32} {j : Nat} (hi : i = nI j) (hj : j < n) (hn : n < 2 ^ 31) {r : Nat} (hr : f j = some r) (hdg : decode cc pc = .ok (.aaload, 1))
    (kk : W p l e R s m args below meth c H locs cells slots Q (F0 m (pc + 1) ls (.ref r :: rest))) : W p l e R s m args below meth c H locs cells slots Q (F0 m pc ls (.int i :: .ref a :: rest)) := by
  subst hi
  refine va_aldq hexec hb hK hP q0 t0 ha ht (vp_in_nI hj hn) hdg ?_
  rw [nI_clamp (Nat.lt_trans hj hn), hr]
  exact kk
theorem ka_ist (hexec : p.tables.exec = Jvm.exec) (hb : c.code = cc) (hK : va_K D vwCl tys s) (hP : va_P D vwCl ws H) (hD : va_D A ws) (hS : va_S A H0 H locs) (q0 t0 : Nat) {cA : ClassId} {n : Nat} {f : Nat → Int32} (ha : ws[q0]? = some (a, .inl (cA, n, .inl f))) (ht : tys[t0]? = some (cA, .int)) {i x : Int32} {j : Nat} (hi : i = nI j) (hj : j < n) (hn : n < 2 ^ 31) (hdg : decode cc pc = .ok (.iastore, 1))
    (kk : ∀ (H1 : Heap) (locs1 : List Loc), va_P D vwCl (ws.set q0 (a, .inl (cA, n, .inl (upd f j x)))) H1 → va_D A (ws.set q0 (a, .inl (cA, n, .inl (upd f j x)))) → va_S A H0 H1 locs1 → W p l e R s m args below meth c H1 locs1 cells slots Q (F0 m (pc + 1) ls rest)) : W p l e R s m args below meth c H locs cells slots Q (F0 m pc ls (.int x :: .int i :: .ref a :: rest)) := by
  subst hi
  refine va_iast hexec hb hK hP hD hS q0 t0 ha ht (vp_in_nI hj hn) hdg ?_
  rw [nI_clamp (Nat.lt_trans hj hn)]
  exact kk
theorem ka_lst (hexec : p.tables.exec = Jvm.exec) (hb : c.code = cc) (hK : va_K D vwCl tys s) (hP : va_P D vwCl ws H) (hD : va_D A ws) (hS : va_S A H0 H locs) (q0 t0 : Nat) {cA : ClassId} {n : Nat} {f : Nat → Int64} (ha : ws[q0]? = some (a, .inl (cA, n, .inr (.inl f)))) (ht : tys[t0]? = some (cA, .long)) {i : Int32} {x : Int64} {j : Nat} (hi : i = nI j) (hj : j < n) (hn : n < 2 ^ 31) (hdg : decode cc pc = .ok (.lastore, 1))
    (kk : ∀ (H1 : Heap) (locs1 : List Loc), va_P D vwCl (ws.set q0 (a, .inl (cA, n, .inr (.inl (vp_updL f j x))))) H1 → va_D A (ws.set q0 (a, .inl (cA, n, .inr (.inl (vp_updL f j x))))) → va_S A H0 H1 locs1 → W p l e R s m args below meth c H1 locs1 cells slots Q (F0 m (pc + 1) ls rest)) : W p l e R s m args below meth c H locs cells slots Q (F0 m pc ls (.long x :: .int i :: .ref a :: rest)) := by
  subst hi
  refine va_last hexec hb hK hP hD hS q0 t0 ha ht (vp_in_nI hj hn) hdg ?_
  rw [nI_clamp (Nat.lt_trans hj hn)]
  exact kk
end KA
section KW
variable {p : Program} {l : Launch} {e : Env} {R : Room} {s : State} {m : MethodId} {args : Array Value} {below : List Frame} {meth : Method} {c : Code} {H : Heap} {locs : List Loc} {cells slots : Nat} {Q : State → Prop}
/-- a call of a nest mate's static method, with up to w words left on the stack -/
theorem kw_runSN (w : Nat) {y : MethodName} {bytes cc : ByteArray} {maxL nL mc ms index : Nat} {ret : Option FieldType} {ws ws' : List Cond} {rm : Room} {Pc : Array Value → State → Prop} {Qc : Array Value → State → Outcome → State → Prop} {free : Addr → Prop} {Ts : List Cond} {own host : String} {As rest : List Value} {g : JFrame}
    (n : Nat) (S : CallFix p m c cc nL s args Ts own) (hM : Met l y ws rm Pc Qc mc ms free) (hG : GoodIn Ts ws) (hw : ws = Cond.code y bytes maxL ret :: ws') (hrc : rm.cells = mc) (hrs : rm.slots = ms) (hl : va_Nw (.methodLinkNest own index y host) s) (hini : (Cond.initialized y.cls).before args s = true) (hst : (Cond.static y).before args s = true)
    (hd : y.cls ≠ "java/lang/invoke/MethodHandle" ∧ y.cls ≠ "java/lang/invoke/VarHandle" ∧ (parseMethodDescriptor y.desc).map (fun d => d.parameters.length) = some n) (hR : rm.frames + 1 ≤ R.frames ∧ w + (maxL + 11) + rm.locals ≤ R.locals) (hp : PreS s H Pc As)
    (hg : g.method = m) (hn : As.length = n) (hsize : g.locals.size = nL) (hstack : g.stack = As.reverse ++ rest) (hW : 2 * g.monitorRoom + (rest.map fun v => v.category).sum ≤ w) (hdg : decode cc g.pc = .ok (.invokestatic index, 3)) (hf : cells + mc ≤ R.cells ∧ slots + ms ≤ R.slots) :
    va_Run p l e R s m args below meth c H locs cells slots mc ms g rest (Qc As.toArray) (free) := by
  obtain ⟨hx, hb, hml, ho, ht⟩ := S
  have hc : Cond.code y bytes maxL ret ∈ ws := by rw [hw]; exact List.mem_cons_self
  have hcode := ht _ (hG _ hc).1
  have hK : Back l R p e below s args y 3 w (PreOf R mc ms Pc) (PostOf Qc mc ms free) := back_of (bytes := bytes) (maxL := maxL) (ret := ret) hM hp.1 hrc hrs hR.1 hR.2 (pay_in ht hG) hc (fun a' U hW => word_at hW (Or.inl (by first | rfl | simp [Cond.onTables, Cond.keeps, Cond.steady])) hini)
  have hlen : ∀ sig, parseMethodDescriptor y.desc = some sig → As.length = sig.parameters.length := fun sig h => by
    have h2 := hd.2.2
    rw [h] at h2
    exact hn.trans (Option.some.inj h2).symm
  intro T hT X
  obtain ⟨v, vm₁, ⟨U', l2, c2, s2⟩, hW₁, X', ⟨g', mk, t, L, e1, e2, hq, h1, hL, h2, h3⟩, st⟩ := va_callSN X hx (bytes := bytes) (maxL := maxL) (ret := ret) ho (va_Nw.use rfl hl) hst hini hcode ⟨hd.1, hd.2.1⟩ hK hg (hsize.trans hml.symm) (argsL := As) (rest := rest) hlen hstack hW (by rw [hb]; exact hdg)
    (fun vm₁ hW₁ => ⟨hf.1, hf.2, hp.2 (T.setVm vm₁) hT hW₁⟩)
  dsimp only [Pt.U, Pt.locs, Pt.cells, Pt.slots] at X' e1 e2 h1 h2 h3 st
  subst h1; subst h2; subst h3
  exact ⟨v, (T.setVm vm₁).calling g' mk As.toArray, t, U', L, hT, X', hL, e1, e2, hq, st⟩
theorem kw_room {pc : Nat} {ls : Array Slot} {rest st : List Value} {w : Nat} {m : MethodId} (h : (st.map fun v => v.category).sum ≤ w) : 2 * (F0 m pc ls rest).monitorRoom + (st.map fun v => v.category).sum ≤ w := by
  have e : (F0 m pc ls rest).monitorRoom = 0 := rfl
  rw [e]
  omega
end KW
section KL
variable {p : Program} {l : Launch} {e : Env} {R : Room} {s : State} {m : MethodId} {args : Array Value} {below : List Frame} {meth : Method} {c : Code} {cells slots : Nat} {Q : State → Prop}
/-- a loop: an invariant, and a number that falls -/
theorem kl_loop {pc : Nat} {st : List Value} (Inv : Nat → Heap → List Loc → Array Slot → Prop) {H : Heap} {locs : List Loc} {ls : Array Slot} (k0 : Nat) (h0 : Inv k0 H locs ls)
    (hs : ∀ (k : Nat) (H : Heap) (locs : List Loc) (ls : Array Slot), Inv k H locs ls → (∀ (k' : Nat) (H' : Heap) (locs' : List Loc) (ls' : Array Slot), k' < k → Inv k' H' locs' ls' → W p l e R s m args below meth c H' locs' cells slots Q (F0 m pc ls' st)) → W p l e R s m args below meth c H locs cells slots Q (F0 m pc ls st)) :
    W p l e R s m args below meth c H locs cells slots Q (F0 m pc ls st) := by
  have key : ∀ (n k : Nat), k < n → ∀ (H : Heap) (locs : List Loc) (ls : Array Slot), Inv k H locs ls → W p l e R s m args below meth c H locs cells slots Q (F0 m pc ls st) := by
    intro n
    induction n with
    | zero => intro k hk; omega
    | succ n ih =>
      intro k hk H locs ls h
      exact hs k H locs ls h (fun k' H' locs' ls' hk' h' => ih k' (by omega) H' locs' ls' h')
  exact key (k0 + 1) k0 (by omega) H locs ls h0
end KL
/-- a contract out of a walk, for a method of a class whose name has a '/' and that no native row names -/
theorem kw_ofW {l : Launch} {y : MethodName} {ws ws' : List Cond} {rm : Room} {Pc : Array Value → State → Prop} {Qc : Array Value → State → Outcome → State → Prop} {mc ms : Nat} {free : Addr → Prop} {cc : ByteArray} {maxL : Nat} {ret : Option FieldType}
    (hy : plainFor y = true) (hw : ws = Cond.code y cc maxL ret :: ws')
    (body : ∀ p e s m args below meth c s₁, BodyLoose p l y (headSpec ws rm) cc maxL ret e s m args below meth c s₁ → c.maxLocals = maxL → Pc args s →
      W p l e (headSpec ws rm).room s m args below meth c s.heap [] 0 0 (MQ below Qc args s mc ms free) (entryFrame m args maxL)) : Met l y ws rm Pc Qc mc ms free := by
  refine MetFree.of_bodySF (code := cc) (maxLocals := maxL) (ret := ret) hy ?_ ?_
  · intro args s m h hn
    obtain ⟨meth, c, h1, h2, h3, h4, h5, h6, -, -⟩ := Cond.code_spec hn (atoms_spec (ws := ws) h _ (by rw [hw]; exact List.mem_cons_self))
    exact ⟨meth, c, h1, h2, h3, h4, h5, h6⟩
  · intro p e s m args below meth c s₁ B hml hP _
    have hh0 : s₁.heap = s.heap := by rw [B.state]; rfl
    obtain ⟨t, a1, o, b1, b2, b3⟩ := body p e s m args below meth c s₁ B hml hP s₁ hh0 (Stand.of_body B)
    exact ⟨t, o, a1, b1, b2, ⟨b3.1, b3.2⟩⟩
section KC0
variable {p : Program} {l : Launch} {e : Env} {R : Room} {s : State} {m : MethodId} {args : Array Value} {below : List Frame} {meth : Method} {c : Code} {H : Heap} {locs : List Loc} {cells slots : Nat} {Q : State → Prop}
variable {pc : Nat} {ls : Array Slot} {rest st0 : List Value} {a : Array Value} {A : Nat → Prop} {H0 : Heap} {D : va_G} {wc : va_W}
/-- the same calls, where the callee's world is the caller's whole world -/
theorem kc_i0 {S : Type} {post : Int32 → S → Prop} {w1 : S → va_W} (hr : va_Run p l e R s m args below meth c H locs cells slots 0 0 (F0 m pc ls st0) rest (va_Qi post (fun u t => KB D wc (w1 u) H.size t) (va_A wc H.size) a) (va_A wc H.size)) (hP : va_P D vwCl wc H) (hD : va_D A wc) (hS : va_S A H0 H locs) (hA : ∀ q, H0.size ≤ q → A q)
    (kk : ∀ (r : Int32) (u : S) (H1 : Heap) (locs1 : List Loc), post r u → va_P D vwCl (w1 u) H1 → va_D A (w1 u) → va_S A H0 H1 locs1 → W p l e R s m args below meth c H1 locs1 cells slots Q (F0 m (pc + 3) ls (.int r :: rest))) : W p l e R s m args below meth c H locs cells slots Q (F0 m pc ls st0) :=
  kc_i (wr := []) hr (by rw [List.append_nil]; exact hP) (by rw [List.append_nil]; exact hD) hS hA (fun r u H1 locs1 h0 h1 h2 h3 => kk r u H1 locs1 h0 (by rw [List.append_nil] at h1; exact h1) (by rw [List.append_nil] at h2; exact h2) h3)
theorem kc_l0 {S : Type} {post : Int64 → S → Prop} {w1 : S → va_W} (hr : va_Run p l e R s m args below meth c H locs cells slots 0 0 (F0 m pc ls st0) rest (va_Ql post (fun u t => KB D wc (w1 u) H.size t) (va_A wc H.size) a) (va_A wc H.size)) (hP : va_P D vwCl wc H) (hD : va_D A wc) (hS : va_S A H0 H locs) (hA : ∀ q, H0.size ≤ q → A q)
    (kk : ∀ (r : Int64) (u : S) (H1 : Heap) (locs1 : List Loc), post r u → va_P D vwCl (w1 u) H1 → va_D A (w1 u) → va_S A H0 H1 locs1 → W p l e R s m args below meth c H1 locs1 cells slots Q (F0 m (pc + 3) ls (.long r :: rest))) : W p l e R s m args below meth c H locs cells slots Q (F0 m pc ls st0) :=
  kc_l (wr := []) hr (by rw [List.append_nil]; exact hP) (by rw [List.append_nil]; exact hD) hS hA (fun r u H1 locs1 h0 h1 h2 h3 => kk r u H1 locs1 h0 (by rw [List.append_nil] at h1; exact h1) (by rw [List.append_nil] at h2; exact h2) h3)
theorem kc_v0 {S : Type} {post : S → Prop} {w1 : S → va_W} {mc ms : Nat} (hr : va_Run p l e R s m args below meth c H locs cells slots mc ms (F0 m pc ls st0) rest (va_Qv post (fun u t => KB D wc (w1 u) H.size t) (va_A wc H.size) a) (va_A wc H.size)) (hP : va_P D vwCl wc H) (hD : va_D A wc) (hS : va_S A H0 H locs) (hA : ∀ q, H0.size ≤ q → A q)
    (kk : ∀ (u : S) (H1 : Heap) (locs1 : List Loc), post u → va_P D vwCl (w1 u) H1 → va_D A (w1 u) → va_S A H0 H1 locs1 → W p l e R s m args below meth c H1 locs1 (cells + mc) (slots + ms) Q (F0 m (pc + 3) ls rest)) : W p l e R s m args below meth c H locs cells slots Q (F0 m pc ls st0) :=
  kc_v (wr := []) hr (by rw [List.append_nil]; exact hP) (by rw [List.append_nil]; exact hD) hS hA (fun u H1 locs1 h0 h1 h2 h3 => kk u H1 locs1 h0 (by rw [List.append_nil] at h1; exact h1) (by rw [List.append_nil] at h2; exact h2) h3)
end KC0
theorem kp_preV0 {D : va_G} {T : List (ClassId × FieldType)} {A : Nat → Prop} {wc : va_W} {s : State} {H : Heap} {b : Addr} {As : List Value} {q : vw_C} {ci : Nat} {fs : List Value} (hN : NX s) (hK : va_K D vwCl T s) (hP : va_P D vwCl wc H) (hD : va_D A wc) (k : Nat) (hk : wc[k]? = some (b, .inr (ci, fs))) (hc : vwCl[ci]? = some q) : PreV s H q.1 b (va_Pc (.ref b :: As) (KP D T wc H.size)) As :=
  ⟨kp_blind, va_recv hK hP hc hk, fun _ hU hW => kp_go (wr := []) hN hK (by rw [List.append_nil]; exact hP) (by rw [List.append_nil]; exact hD) hU hW⟩
theorem kp_preS0 {D : va_G} {T : List (ClassId × FieldType)} {A : Nat → Prop} {wc : va_W} {s : State} {H : Heap} {As : List Value} (hN : NX s) (hK : va_K D vwCl T s) (hP : va_P D vwCl wc H) (hD : va_D A wc) : PreS s H (va_Pc As (KP D T wc H.size)) As :=
  ⟨kp_blind, fun _ hU hW => kp_go (wr := []) hN hK (by rw [List.append_nil]; exact hP) (by rw [List.append_nil]; exact hD) hU hW⟩
end
section
/-! ===== THE PURE LAYER: what the document's operations are, in machine words ===== -/
def tk_in (x : Int64) : Bool := decide (-1000000000 ≤ x) && decide (x ≤ 1000000000)
theorem tk_in_t {x : Int64} (h1 : ¬ x < -1000000000) (h2 : ¬ 1000000000 < x) : tk_in x = true := by
  unfold tk_in
  rw [decide_eq_true (Int64.not_lt.mp h1), decide_eq_true (Int64.not_lt.mp h2)]
  rfl
theorem tk_in_f1 {x : Int64} (h : x < -1000000000) : tk_in x = false := by
  unfold tk_in
  rw [decide_eq_false (fun z => absurd h (Int64.not_lt.mpr z))]
  rfl
theorem tk_in_f2 {x : Int64} (h : 1000000000 < x) : tk_in x = false := by
  unfold tk_in
  rw [decide_eq_false (p := x ≤ 1000000000) (fun z => absurd h (Int64.not_lt.mpr z)), Bool.and_false]
abbrev tk_rng (lo hi v : Int32) : Prop := lo ≤ v ∧ v ≤ hi
/-- the quotient, rounded down (for a divisor above 0) -/
def tk_dn (a b : Int64) : Int64 := if a - a / b * b < 0 then a / b - 1 else a / b
def tk_mul (a b : Int64) : Int64 := tk_dn (a * b + 2048) 4096
def tk_div (a b : Int64) : Int64 := tk_dn (a * 4096 + tk_dn b 2) b
def tk_h (h v : Int64) : Int64 := 31 * h + v
def tk_pos (a : Int64) : Int64 := if 0 < a then a else 0
theorem tk_pos_n {a : Int64} (h : a < 0) : tk_pos a = 0 := by
  have h2 : ¬ 0 < a := by
    rw [Int64.lt_iff_toInt_lt] at h ⊢
    omega
  simp [tk_pos, h2]
theorem tk_pos_p {a : Int64} (h : ¬ a < 0) : tk_pos a = a := by
  by_cases h2 : 0 < a
  · simp [tk_pos, h2]
  · have h3 : a = 0 := by
      apply Int64.toInt_inj.mp
      rw [Int64.lt_iff_toInt_lt] at h h2
      have : (0 : Int64).toInt = 0 := rfl
      omega
    simp [tk_pos, h3]
theorem tk_rem (x y : Int64) (hy : 0 < y) : (x - x / y * y).toInt = x.toInt.tmod y.toInt := by
  have h0 : (0 : Int64).toInt = 0 := rfl
  have hy' : 0 < y.toInt := by rw [Int64.lt_iff_toInt_lt] at hy; omega
  have hx1 := Int64.le_toInt x
  have hx2 := Int64.toInt_lt x
  have hy2 := Int64.toInt_lt y
  have hne : y ≠ -1 := fun z => by subst z; exact absurd hy (by decide)
  have e1 : (x - x / y * y).toInt = (x.toInt - x.toInt.tdiv y.toInt * y.toInt).bmod (2 ^ 64) := by
    rw [Int64.toInt_sub, Int64.toInt_mul, Int64.toInt_div_of_ne_right _ _ hne]
    simp only [Int.sub_bmod_bmod]
  have e2 : x.toInt - x.toInt.tdiv y.toInt * y.toInt = x.toInt.tmod y.toInt := by
    have := Int.tdiv_mul_add_tmod x.toInt y.toInt
    omega
  rw [e1, e2]
  have b1 : x.toInt.tmod y.toInt < y.toInt := Int.tmod_lt_of_pos _ hy'
  have b2 : -y.toInt < x.toInt.tmod y.toInt := by
    have h1 := Int.tmod_lt_of_pos (-x.toInt) hy'
    rw [Int.neg_tmod] at h1
    omega
  apply Int.bmod_eq_of_le_mul_two <;> omega
theorem tk_dn_p {x y : Int64} (hy : 0 < y) (hx : 0 ≤ x) : tk_dn x y = x / y := by
  have h0 : (0 : Int64).toInt = 0 := rfl
  have h : ¬ (x - x / y * y < 0) := by
    rw [Int64.lt_iff_toInt_lt, tk_rem x y hy]
    rw [Int64.le_iff_toInt_le] at hx
    have := Int.tmod_nonneg y.toInt (a := x.toInt) (by omega)
    omega
  simp [tk_dn, h]
theorem tk_xor {x y : Int64} (hy : 0 < y) : x ^^^ y < 0 ↔ x < 0 := by
  have h0 : (0 : Int64).toInt = 0 := rfl
  have hz : ∀ z : Int64, z < 0 ↔ z.toBitVec.msb = true := by
    intro z
    rw [Int64.lt_iff_toInt_lt, h0, BitVec.msb_eq_toInt]
    exact (decide_eq_true_iff (p := z.toBitVec.toInt < 0)).symm
  have hy' : y.toBitVec.msb = false := by
    have : ¬ y < 0 := by rw [Int64.lt_iff_toInt_lt] at hy ⊢; omega
    rw [hz] at this
    simpa using this
  rw [hz, hz, Int64.toBitVec_xor, BitVec.msb_xor, hy', Bool.xor_false]
theorem tk_fd_a {x y : Int64} (hy : 0 < y) (h : 0 ≤ x ^^^ y) : x / y = tk_dn x y := by
  have h2 : ¬ x < 0 := fun z => by
    have := (tk_xor hy).mpr z
    rw [Int64.lt_iff_toInt_lt] at this
    rw [Int64.le_iff_toInt_le] at h
    omega
  exact (tk_dn_p hy (by rw [Int64.lt_iff_toInt_lt] at h2; rw [Int64.le_iff_toInt_le]; omega)).symm
theorem tk_fd_b {x y : Int64} (h : x / y * y = x) : x / y = tk_dn x y := by
  have h2 : x - x / y * y = 0 := by rw [h]; simp
  have h3 : ¬ (0 : Int64) < 0 := by decide
  simp [tk_dn, h2, h3]
theorem tk_fd_c {x y : Int64} (hy : 0 < y) (h : x ^^^ y < 0) (hn : ¬ x / y * y = x) : x / y - 1 = tk_dn x y := by
  have h0 : (0 : Int64).toInt = 0 := rfl
  have hx := (tk_xor hy).mp h
  have h1 : x - x / y * y < 0 := by
    rw [Int64.lt_iff_toInt_lt, tk_rem x y hy]
    rw [Int64.lt_iff_toInt_lt] at hx
    have a1 : x.toInt.tmod y.toInt ≤ 0 := by
      have := Int.tmod_nonneg y.toInt (a := -x.toInt) (by omega)
      rw [Int.neg_tmod] at this
      omega
    have a2 : x.toInt.tmod y.toInt ≠ 0 := by
      intro z
      apply hn
      have z2 : (x - x / y * y).toInt = (0 : Int64).toInt := by rw [tk_rem x y hy, z, h0]
      have z3 := Int64.toInt_inj.mp z2
      have z4 : x - x / y * y + x / y * y = x / y * y := by rw [z3]; simp
      rw [Int64.sub_add_cancel] at z4
      exact z4.symm
    omega
  simp [tk_dn, h1]
-- a prediction, a correction, on e 0 .. e 7: level, flow, the three covariances, innovation, gains
def tk_mok (x v a b c : Int64) : Bool := tk_in x && tk_in v && tk_in (tk_pos a) && tk_in b && tk_in (tk_pos c)
def tk_mv (e : Nat → Int64) (x v a b c : Int64) : Nat → Int64 := fun k => match k with
  | 0 => x
  | 1 => v
  | 2 => tk_pos a
  | 3 => b
  | 4 => tk_pos c
  | k => e k
def tk_yk (e : Nat → Int64) (y k l : Int64) : Nat → Int64 := fun j => match j with
  | 5 => y
  | 6 => k
  | 7 => l
  | j => e j
def tk_y (e : Nat → Int64) (y : Int64) : Nat → Int64 := fun j => match j with
  | 5 => y
  | j => e j
def ad_ok (e : Nat → Int64) (u q w : Int64) : Bool := tk_mok (e 0 + e 1 + u) (e 1) (e 2 + 2 * e 3 + e 4 + q) (e 3 + e 4) (e 4 + w)
def ad_e (e : Nat → Int64) (u q w : Int64) : Nat → Int64 := tk_mv e (e 0 + e 1 + u) (e 1) (e 2 + 2 * e 3 + e 4 + q) (e 3 + e 4) (e 4 + w)
def co_m (e : Nat → Int64) (kd : Int32) : Int64 := if kd = 0 then e 0 else e 1
def co_p (e : Nat → Int64) (kd : Int32) : Int64 := if kd = 0 then e 2 else e 4
def cq_rej (p m z r g : Int64) : Prop := g ≠ 0 ∧ g * (p + r) * 4096 < (z - m) * (z - m)
def cq_ok (e : Nat → Int64) (h i p m z r : Int64) : Bool := tk_in (tk_div h (p + r)) && tk_in (tk_div i (p + r)) && tk_mok (e 0 + tk_mul (tk_div h (p + r)) (z - m)) (e 1 + tk_mul (tk_div i (p + r)) (z - m)) (e 2 - tk_mul (tk_div h (p + r)) h) (e 3 - tk_mul (tk_div h (p + r)) i) (e 4 - tk_mul (tk_div i (p + r)) i)
def cq_e (e : Nat → Int64) (h i p m z r : Int64) : Nat → Int64 := tk_yk (tk_mv e (e 0 + tk_mul (tk_div h (p + r)) (z - m)) (e 1 + tk_mul (tk_div i (p + r)) (z - m)) (e 2 - tk_mul (tk_div h (p + r)) h) (e 3 - tk_mul (tk_div h (p + r)) i) (e 4 - tk_mul (tk_div i (p + r)) i)) (z - m) (tk_div h (p + r)) (tk_div i (p + r))
def co_rej (e : Nat → Int64) (kd : Int32) (z r g : Int64) : Prop := cq_rej (co_p e kd) (co_m e kd) z r g
def co_ok (e : Nat → Int64) (kd : Int32) (z r : Int64) : Bool := if kd = 0 then cq_ok e (e 2) (e 3) (e 2) (e 0) z r else cq_ok e (e 3) (e 4) (e 4) (e 1) z r
def co_e (e : Nat → Int64) (kd : Int32) (z r : Int64) : Nat → Int64 := if kd = 0 then cq_e e (e 2) (e 3) (e 2) (e 0) z r else cq_e e (e 3) (e 4) (e 4) (e 1) z r
theorem co_m0 {e : Nat → Int64} {kd : Int32} (h : kd = 0) : co_m e kd = e 0 := if_pos h
theorem co_m1 {e : Nat → Int64} {kd : Int32} (h : ¬ kd = 0) : co_m e kd = e 1 := if_neg h
theorem co_p0 {e : Nat → Int64} {kd : Int32} (h : kd = 0) : co_p e kd = e 2 := if_pos h
theorem co_p1 {e : Nat → Int64} {kd : Int32} (h : ¬ kd = 0) : co_p e kd = e 4 := if_neg h
theorem co_ok0 {e : Nat → Int64} {kd : Int32} {z r : Int64} (h : kd = 0) : co_ok e kd z r = cq_ok e (e 2) (e 3) (e 2) (e 0) z r := if_pos h
theorem co_ok1 {e : Nat → Int64} {kd : Int32} {z r : Int64} (h : ¬ kd = 0) : co_ok e kd z r = cq_ok e (e 3) (e 4) (e 4) (e 1) z r := if_neg h
theorem co_e0 {e : Nat → Int64} {kd : Int32} {z r : Int64} (h : kd = 0) : co_e e kd z r = cq_e e (e 2) (e 3) (e 2) (e 0) z r := if_pos h
theorem co_e1 {e : Nat → Int64} {kd : Int32} {z r : Int64} (h : ¬ kd = 0) : co_e e kd z r = cq_e e (e 3) (e 4) (e 4) (e 1) z r := if_neg h
theorem co_rej0 {e : Nat → Int64} {kd : Int32} {z r g : Int64} (h : kd = 0) : co_rej e kd z r g ↔ cq_rej (e 2) (e 0) z r g := by rw [co_rej, co_p0 h, co_m0 h]
theorem co_rej1 {e : Nat → Int64} {kd : Int32} {z r g : Int64} (h : ¬ kd = 0) : co_rej e kd z r g ↔ cq_rej (e 4) (e 1) z r g := by rw [co_rej, co_p1 h, co_m1 h]
theorem cq_rej_t {p m z r g : Int64} (h1 : ¬ g = 0) (h2 : ¬ (z - m) * (z - m) ≤ g * (p + r) * 4096) : cq_rej p m z r g := ⟨h1, Int64.not_le.mp h2⟩
theorem cq_rej_1 {p m z r g : Int64} (h1 : g = 0) : ¬ cq_rej p m z r g := fun z => z.1 h1
theorem cq_rej_2 {p m z r g : Int64} (h2 : (z - m) * (z - m) ≤ g * (p + r) * 4096) : ¬ cq_rej p m z r g := fun z => Int64.not_lt.mpr h2 z.2
theorem tk_yk_ev (M : Nat → Int64) (y k l : Int64) : tk_ev (tk_yk M y k l) = [.long (M 0), .long (M 1), .long (M 2), .long (M 3), .long (M 4), .long y, .long k, .long l] := rfl
theorem tk_y_ev (e : Nat → Int64) (y : Int64) : tk_ev (tk_y e y) = [.long (e 0), .long (e 1), .long (e 2), .long (e 3), .long (e 4), .long y, .long (e 6), .long (e 7)] := rfl
theorem tk_mv_ev (e : Nat → Int64) (x v a b c : Int64) : tk_ev (tk_mv e x v a b c) = [.long x, .long v, .long (tk_pos a), .long b, .long (tk_pos c), .long (e 5), .long (e 6), .long (e 7)] := rfl
end
section
theorem tk_nz {y : Int64} (h : 0 < y) : ¬ y = 0 := fun z => by subst z; exact absurd h (by decide)
theorem tk_nge {x : Int64} (h : ¬ 0 ≤ x) : x < 0 := by
  rw [Int64.le_iff_toInt_le] at h
  rw [Int64.lt_iff_toInt_lt]
  omega
theorem tk_half {b : Int64} (h : 0 < b) : tk_dn b 2 = b / 2 := tk_dn_p (by decide) (by
  rw [Int64.lt_iff_toInt_lt] at h
  rw [Int64.le_iff_toInt_le]
  omega)
theorem tk_nl {a b : Int32} : ¬ b < a ↔ a ≤ b := by
  rw [Int32.lt_iff_toInt_lt, Int32.le_iff_toInt_le]
  omega
theorem tk_nl2 {a b : Int32} : ¬ a ≤ b ↔ b < a := by
  rw [Int32.lt_iff_toInt_lt, Int32.le_iff_toInt_le]
  omega
theorem tk_rng_t {lo hi v : Int32} (h1 : ¬ v < lo) (h2 : ¬ hi < v) : tk_rng lo hi v := ⟨tk_nl.mp h1, tk_nl.mp h2⟩
theorem tk_rng_1 {lo hi v : Int32} (h : v < lo) : ¬ tk_rng lo hi v := fun z => tk_nl.mpr z.1 h
theorem tk_rng_2 {lo hi v : Int32} (h : hi < v) : ¬ tk_rng lo hi v := fun z => tk_nl.mpr z.2 h
set_option maxHeartbeats 4000000 in
set_option maxRecDepth 100000 in
/-- Math.floorDiv, for a divisor above 0 -/
theorem k_J9_floorDiv_f86c9 (l : Launch) (D : va_G) (cI cM cJ : ClassId) (sz : Nat) (x y : Int64) (hy : 0 < y) : Met l yJ9_floorDiv_f86c9 wsJ9_floorDiv_f86c9 ({ frames := 0, cells := 0, slots := 0, locals := 0 }) (va_Pc [.long x, .long y] (KP D (tk_T cI cM cJ) ([]) sz)) (va_Ql (fun (r : Int64) (u : Unit) => r = tk_dn x y) (fun u t => KB D ([]) ([]) sz t) (va_A ([]) sz)) 0 0 (va_A ([]) sz) := by
  refine kw_ofW (cc := cJ9_floorDiv_f86c9) (maxL := 6) (ret := (some .long)) (by decide +kernel) rfl ?_
  intro zp ze zs zm zargs zbelow zmeth zc zs1 B hml hv
  obtain ⟨rfl, hsz, hP, hK, hD0, hN⟩ := hv
  have hx := B.exec
  have hb := B.bytes
  have hr := B.returns
  have hts := atoms_spec (ws := wsJ9_floorDiv_f86c9) B.pre
  have hm : ∀ (i : Nat) (w : Cond), wsJ9_floorDiv_f86c9[i]? = some w → w.before _ zs = true := fun i w h => hts w (List.mem_of_getElem? h)
  have hown : zs.vm.findClass RJ9 = some zm.cls := findClass_of_methodNamed B.named
  have hlocks := B.notSynchronized
  subst hsz
  have hD := hD0.self (sz := zs.heap.size)
  generalize hAe : va_A ([]) zs.heap.size = A at hD ⊢
  have hA : ∀ q : Nat, zs.heap.size ≤ q → A q := fun q h => by rw [← hAe]; exact Or.inr h
  have hS : va_S A zs.heap zs.heap [] := va_S.rf
  have hP : va_P D vwCl ([]) zs.heap := hP
  have hl := lv_entry ([.long x, .long y]) (n := 6) (Nat.le_of_ble_eq_true rfl)
  rw [lg_entry_eq]
  generalize (lg_sl ([.long x, .long y]) ++ List.replicate (6 - (lg_sl ([.long x, .long y])).length) Slot.unset).toArray = ls at hl ⊢
  have hl : lv_has ls 6 [(0, .long x), (2, .long y)] := hl
  refine lv_lload_n hx hb dJ9_floorDiv_f86c9_0 rfl (lv_at hl 0 rfl) ?_
  refine lv_lload_n hx hb dJ9_floorDiv_f86c9_1 rfl (lv_at hl 1 rfl) ?_
  refine lv_ldiv hx hb dJ9_floorDiv_f86c9_2 (tk_nz hy) ?_
  refine lv_lstore (lv' := [(4, .long (x / y)), (0, .long x), (2, .long y)]) hx hb dJ9_floorDiv_f86c9_3 hl (by decide) rfl (fun ls hl => ?_)
  refine lv_lload_n hx hb dJ9_floorDiv_f86c9_5 rfl (lv_at hl 1 rfl) ?_
  refine lv_lload_n hx hb dJ9_floorDiv_f86c9_6 rfl (lv_at hl 2 rfl) ?_
  refine lv_lxor hx hb dJ9_floorDiv_f86c9_7 ?_
  refine lv_lconst (v := 0) hx hb dJ9_floorDiv_f86c9_8 (by decide) ?_
  refine W.lcmp hx hb dJ9_floorDiv_f86c9_9 ?_
  refine lv_if_ge (tgt := 27) hx hb dJ9_floorDiv_f86c9_10 (by decide) (fun c_1 => ?_) (fun c_1 => ?_)
  · have c_1 := (lg_cmp_ge _ _).mp c_1
    refine lv_lload hx hb dJ9_floorDiv_f86c9_27 (lv_at hl 0 rfl) ?_
    exact W.lret (v := x / y) hx hb hr (fun t ht hW => ⟨⟨x / y, (), rfl, tk_fd_a hy c_1, KB.of hAe (by rw [ht]; exact hP) hD⟩, hS.F ht⟩) hS.2.2 dJ9_floorDiv_f86c9_29
  · have c_1 := mt (lg_cmp_ge _ _).mpr c_1
    refine lv_lload hx hb dJ9_floorDiv_f86c9_13 (lv_at hl 0 rfl) ?_
    refine lv_lload_n hx hb dJ9_floorDiv_f86c9_15 rfl (lv_at hl 2 rfl) ?_
    refine lv_lmul hx hb dJ9_floorDiv_f86c9_16 ?_
    refine lv_lload_n hx hb dJ9_floorDiv_f86c9_17 rfl (lv_at hl 1 rfl) ?_
    refine W.lcmp hx hb dJ9_floorDiv_f86c9_18 ?_
    refine lv_if_eq (tgt := 27) hx hb dJ9_floorDiv_f86c9_19 (by decide) (fun c_2 => ?_) (fun c_2 => ?_)
    · have c_2 := (lg_cmp_eq _ _).mp c_2
      refine lv_lload hx hb dJ9_floorDiv_f86c9_27 (lv_at hl 0 rfl) ?_
      exact W.lret (v := x / y) hx hb hr (fun t ht hW => ⟨⟨x / y, (), rfl, tk_fd_b c_2, KB.of hAe (by rw [ht]; exact hP) hD⟩, hS.F ht⟩) hS.2.2 dJ9_floorDiv_f86c9_29
    · have c_2 := mt (lg_cmp_eq _ _).mpr c_2
      refine lv_lload hx hb dJ9_floorDiv_f86c9_22 (lv_at hl 0 rfl) ?_
      refine lv_lconst (v := 1) hx hb dJ9_floorDiv_f86c9_24 (by decide) ?_
      refine lv_lsub hx hb dJ9_floorDiv_f86c9_25 ?_
      exact W.lret (v := (x / y) - 1) hx hb hr (fun t ht hW => ⟨⟨(x / y) - 1, (), rfl, tk_fd_c hy (tk_nge c_1) c_2, KB.of hAe (by rw [ht]; exact hP) hD⟩, hS.F ht⟩) hS.2.2 dJ9_floorDiv_f86c9_26

set_option maxHeartbeats 4000000 in
set_option maxRecDepth 100000 in
/-- times -/
theorem k_X3_times (l : Launch) (D : va_G) (cI cM cJ : ClassId) (sz : Nat) (x y : Int64) : Met l yX3_times wsX3_times ({ frames := 1, cells := 0, slots := 0, locals := 25 }) (va_Pc [.long x, .long y] (KP D (tk_T cI cM cJ) ([]) sz)) (va_Ql (fun (r : Int64) (u : Unit) => r = tk_mul x y) (fun u t => KB D ([]) ([]) sz t) (va_A ([]) sz)) 0 0 (va_A ([]) sz) := by
  refine Met.ofW (cc := cX3_times) (maxL := 4) (ret := (some .long)) (by decide) rfl ?_
  intro zp ze zs zm zargs zbelow zmeth zc zs1 B hml hv
  obtain ⟨rfl, hsz, hP, hK, hD0, hN⟩ := hv
  have hx := B.exec
  have hb := B.bytes
  have hr := B.returns
  have hts := atoms_spec (ws := wsX3_times) B.pre
  have hm : ∀ (i : Nat) (w : Cond), wsX3_times[i]? = some w → w.before _ zs = true := fun i w h => hts w (List.mem_of_getElem? h)
  have hown : zs.vm.findClass RX3 = some zm.cls := findClass_of_methodNamed B.named
  have hlocks := B.notSynchronized
  subst hsz
  have hD := hD0.self (sz := zs.heap.size)
  generalize hAe : va_A ([]) zs.heap.size = A at hD ⊢
  have hA : ∀ q : Nat, zs.heap.size ≤ q → A q := fun q h => by rw [← hAe]; exact Or.inr h
  have hS : va_S A zs.heap zs.heap [] := va_S.rf
  have hP : va_P D vwCl ([]) zs.heap := hP
  have hl := lv_entry ([.long x, .long y]) (n := 4) (Nat.le_of_ble_eq_true rfl)
  rw [lg_entry_eq]
  generalize (lg_sl ([.long x, .long y]) ++ List.replicate (4 - (lg_sl ([.long x, .long y])).length) Slot.unset).toArray = ls at hl ⊢
  have hl : lv_has ls 4 [(0, .long x), (2, .long y)] := hl
  refine lv_lload_n hx hb dX3_times_0 rfl (lv_at hl 0 rfl) ?_
  refine lv_lload_n hx hb dX3_times_1 rfl (lv_at hl 1 rfl) ?_
  refine lv_lmul hx hb dX3_times_2 ?_
  refine lv_ldc2 (v := 2048) hx hb hown (hm 1 (.constantLong RX3 178 (2048)) rfl) dX3_times_3 ?_
  refine lv_ladd hx hb dX3_times_6 ?_
  refine lv_ldc2 (v := 4096) hx hb hown (hm 2 (.constantLong RX3 180 (4096)) rfl) dX3_times_7 ?_
  refine kc_l (wc := []) (wr := []) (va_runS (As := [.long ((x * y) + 2048), .long 4096]) (rest := []) ⟨hx, hb, hml, hown, hts⟩ (k_J9_floorDiv_f86c9 l D cI cM cJ _ ((x * y) + 2048) 4096 (by decide)) (va_cwS 2 hts gX3_times_J9_floorDiv_f86c9 rfl rfl rfl (by decide +kernel) ⟨Nat.le_of_ble_eq_true rfl, Nat.le_of_ble_eq_true rfl⟩) (kp_preS (wc := []) (wr := []) hN hK hP hD) rfl rfl hl.1 rfl (lv_room (Nat.le_of_ble_eq_true rfl)) dX3_times_10 ⟨Nat.le_of_ble_eq_true rfl, Nat.le_of_ble_eq_true rfl⟩) hP hD hS hA (fun r_1 u_1 H locs p_1 hP hD hS => ?_)
  obtain rfl : r_1 = tk_dn ((x * y) + 2048) 4096 := p_1
  have hP : va_P D vwCl ([]) H := hP
  have hD : va_D A ([]) := hD
  exact W.lret (v := tk_dn ((x * y) + 2048) 4096) hx hb hr (fun t ht hW => ⟨⟨tk_dn ((x * y) + 2048) 4096, (), rfl, rfl, KB.of hAe (by rw [ht]; exact hP) hD⟩, hS.F ht⟩) hS.2.2 dX3_times_13

set_option maxHeartbeats 4000000 in
set_option maxRecDepth 100000 in
/-- dividedBy -/
theorem k_X3_dividedBy (l : Launch) (D : va_G) (cI cM cJ : ClassId) (sz : Nat) (x y : Int64) (hy : 0 < y) : Met l yX3_dividedBy wsX3_dividedBy ({ frames := 1, cells := 0, slots := 0, locals := 25 }) (va_Pc [.long x, .long y] (KP D (tk_T cI cM cJ) ([]) sz)) (va_Ql (fun (r : Int64) (u : Unit) => r = tk_div x y) (fun u t => KB D ([]) ([]) sz t) (va_A ([]) sz)) 0 0 (va_A ([]) sz) := by
  refine Met.ofW (cc := cX3_dividedBy) (maxL := 4) (ret := (some .long)) (by decide) rfl ?_
  intro zp ze zs zm zargs zbelow zmeth zc zs1 B hml hv
  obtain ⟨rfl, hsz, hP, hK, hD0, hN⟩ := hv
  have hx := B.exec
  have hb := B.bytes
  have hr := B.returns
  have hts := atoms_spec (ws := wsX3_dividedBy) B.pre
  have hm : ∀ (i : Nat) (w : Cond), wsX3_dividedBy[i]? = some w → w.before _ zs = true := fun i w h => hts w (List.mem_of_getElem? h)
  have hown : zs.vm.findClass RX3 = some zm.cls := findClass_of_methodNamed B.named
  have hlocks := B.notSynchronized
  subst hsz
  have hD := hD0.self (sz := zs.heap.size)
  generalize hAe : va_A ([]) zs.heap.size = A at hD ⊢
  have hA : ∀ q : Nat, zs.heap.size ≤ q → A q := fun q h => by rw [← hAe]; exact Or.inr h
  have hS : va_S A zs.heap zs.heap [] := va_S.rf
  have hP : va_P D vwCl ([]) zs.heap := hP
  have hl := lv_entry ([.long x, .long y]) (n := 4) (Nat.le_of_ble_eq_true rfl)
  rw [lg_entry_eq]
  generalize (lg_sl ([.long x, .long y]) ++ List.replicate (4 - (lg_sl ([.long x, .long y])).length) Slot.unset).toArray = ls at hl ⊢
  have hl : lv_has ls 4 [(0, .long x), (2, .long y)] := hl
  refine lv_lload_n hx hb dX3_dividedBy_0 rfl (lv_at hl 1 rfl) ?_
  refine lv_lconst (v := 0) hx hb dX3_dividedBy_1 (by decide) ?_
  refine W.lcmp hx hb dX3_dividedBy_2 ?_
  refine lv_if_gt (tgt := 8) hx hb dX3_dividedBy_3 (by decide) (fun c_1 => ?_) (fun c_1 => ?_)
  · have c_1 := (lg_cmp_gt _ _).mp c_1
    skip
    refine lv_lload_n hx hb dX3_dividedBy_8 rfl (lv_at hl 0 rfl) ?_
    refine lv_ldc2 (v := 4096) hx hb hown (hm 1 (.constantLong RX3 180 (4096)) rfl) dX3_dividedBy_9 ?_
    refine lv_lmul hx hb dX3_dividedBy_12 ?_
    refine lv_lload_n hx hb dX3_dividedBy_13 rfl (lv_at hl 1 rfl) ?_
    refine lv_ldc2 (v := 2) hx hb hown (hm 2 (.constantLong RX3 187 (2)) rfl) dX3_dividedBy_14 ?_
    refine lv_ldiv hx hb dX3_dividedBy_17 (by decide) ?_
    refine lv_ladd hx hb dX3_dividedBy_18 ?_
    refine lv_lload_n hx hb dX3_dividedBy_19 rfl (lv_at hl 1 rfl) ?_
    refine kc_l (wc := []) (wr := []) (va_runS (As := [.long ((x * 4096) + (y / 2)), .long y]) (rest := []) ⟨hx, hb, hml, hown, hts⟩ (k_J9_floorDiv_f86c9 l D cI cM cJ _ ((x * 4096) + (y / 2)) y (hy)) (va_cwS 2 hts gX3_dividedBy_J9_floorDiv_f86c9 rfl rfl rfl (by decide +kernel) ⟨Nat.le_of_ble_eq_true rfl, Nat.le_of_ble_eq_true rfl⟩) (kp_preS (wc := []) (wr := []) hN hK hP hD) rfl rfl hl.1 rfl (lv_room (Nat.le_of_ble_eq_true rfl)) dX3_dividedBy_20 ⟨Nat.le_of_ble_eq_true rfl, Nat.le_of_ble_eq_true rfl⟩) hP hD hS hA (fun r_2 u_2 H locs p_2 hP hD hS => ?_)
    obtain rfl : r_2 = tk_dn ((x * 4096) + (y / 2)) y := p_2
    have hP : va_P D vwCl ([]) H := hP
    have hD : va_D A ([]) := hD
    exact W.lret (v := tk_dn ((x * 4096) + (y / 2)) y) hx hb hr (fun t ht hW => ⟨⟨tk_dn ((x * 4096) + (y / 2)) y, (), rfl, by rw [tk_div, tk_half hy], KB.of hAe (by rw [ht]; exact hP) hD⟩, hS.F ht⟩) hS.2.2 dX3_dividedBy_23
  · have c_1 := mt (lg_cmp_gt _ _).mpr c_1
    exact absurd hy c_1

set_option maxHeartbeats 4000000 in
set_option maxRecDepth 100000 in
/-- mix -/
theorem k_X3_mix (l : Launch) (D : va_G) (cI cM cJ : ClassId) (sz : Nat) (h v : Int64) : Met l yX3_mix wsX3_mix ({ frames := 0, cells := 0, slots := 0, locals := 0 }) (va_Pc [.long h, .long v] (KP D (tk_T cI cM cJ) ([]) sz)) (va_Ql (fun (r : Int64) (u : Unit) => r = tk_h h v) (fun u t => KB D ([]) ([]) sz t) (va_A ([]) sz)) 0 0 (va_A ([]) sz) := by
  refine Met.ofW (cc := cX3_mix) (maxL := 4) (ret := (some .long)) (by decide) rfl ?_
  intro zp ze zs zm zargs zbelow zmeth zc zs1 B hml hv
  obtain ⟨rfl, hsz, hP, hK, hD0, hN⟩ := hv
  have hx := B.exec
  have hb := B.bytes
  have hr := B.returns
  have hts := atoms_spec (ws := wsX3_mix) B.pre
  have hm : ∀ (i : Nat) (w : Cond), wsX3_mix[i]? = some w → w.before _ zs = true := fun i w h => hts w (List.mem_of_getElem? h)
  have hown : zs.vm.findClass RX3 = some zm.cls := findClass_of_methodNamed B.named
  have hlocks := B.notSynchronized
  subst hsz
  have hD := hD0.self (sz := zs.heap.size)
  generalize hAe : va_A ([]) zs.heap.size = A at hD ⊢
  have hA : ∀ q : Nat, zs.heap.size ≤ q → A q := fun q h => by rw [← hAe]; exact Or.inr h
  have hS : va_S A zs.heap zs.heap [] := va_S.rf
  have hP : va_P D vwCl ([]) zs.heap := hP
  have hl := lv_entry ([.long h, .long v]) (n := 4) (Nat.le_of_ble_eq_true rfl)
  rw [lg_entry_eq]
  generalize (lg_sl ([.long h, .long v]) ++ List.replicate (4 - (lg_sl ([.long h, .long v])).length) Slot.unset).toArray = ls at hl ⊢
  have hl : lv_has ls 4 [(0, .long h), (2, .long v)] := hl
  refine lv_ldc2 (v := 31) hx hb hown (hm 1 (.constantLong RX3 189 (31)) rfl) dX3_mix_0 ?_
  refine lv_lload_n hx hb dX3_mix_3 rfl (lv_at hl 0 rfl) ?_
  refine lv_lmul hx hb dX3_mix_4 ?_
  refine lv_lload_n hx hb dX3_mix_5 rfl (lv_at hl 1 rfl) ?_
  refine lv_ladd hx hb dX3_mix_6 ?_
  exact W.lret (v := (31 * h) + v) hx hb hr (fun t ht hW => ⟨⟨(31 * h) + v, (), rfl, rfl, KB.of hAe (by rw [ht]; exact hP) hD⟩, hS.F ht⟩) hS.2.2 dX3_mix_7

set_option maxHeartbeats 4000000 in
set_option maxRecDepth 100000 in
/-- in the limit -/
theorem k_X3_isInLimit (l : Launch) (D : va_G) (cI cM cJ : ClassId) (sz : Nat) (x : Int64) : Met l yX3_isInLimit wsX3_isInLimit ({ frames := 0, cells := 0, slots := 0, locals := 0 }) (va_Pc [.long x] (KP D (tk_T cI cM cJ) ([]) sz)) (va_Qi (fun (r : Int32) (u : Unit) => (tk_in x = true ∧ r = 1) ∨ (tk_in x = false ∧ r = 0)) (fun u t => KB D ([]) ([]) sz t) (va_A ([]) sz)) 0 0 (va_A ([]) sz) := by
  refine Met.ofW (cc := cX3_isInLimit) (maxL := 2) (ret := (some .boolean)) (by decide) rfl ?_
  intro zp ze zs zm zargs zbelow zmeth zc zs1 B hml hv
  obtain ⟨rfl, hsz, hP, hK, hD0, hN⟩ := hv
  have hx := B.exec
  have hb := B.bytes
  have hr := B.returns
  have hts := atoms_spec (ws := wsX3_isInLimit) B.pre
  have hm : ∀ (i : Nat) (w : Cond), wsX3_isInLimit[i]? = some w → w.before _ zs = true := fun i w h => hts w (List.mem_of_getElem? h)
  have hown : zs.vm.findClass RX3 = some zm.cls := findClass_of_methodNamed B.named
  have hlocks := B.notSynchronized
  subst hsz
  have hD := hD0.self (sz := zs.heap.size)
  generalize hAe : va_A ([]) zs.heap.size = A at hD ⊢
  have hA : ∀ q : Nat, zs.heap.size ≤ q → A q := fun q h => by rw [← hAe]; exact Or.inr h
  have hS : va_S A zs.heap zs.heap [] := va_S.rf
  have hP : va_P D vwCl ([]) zs.heap := hP
  have hl := lv_entry ([.long x]) (n := 2) (Nat.le_of_ble_eq_true rfl)
  rw [lg_entry_eq]
  generalize (lg_sl ([.long x]) ++ List.replicate (2 - (lg_sl ([.long x])).length) Slot.unset).toArray = ls at hl ⊢
  have hl : lv_has ls 2 [(0, .long x)] := hl
  refine lv_lload_n hx hb dX3_isInLimit_0 rfl (lv_at hl 0 rfl) ?_
  refine lv_ldc2 (v := -1000000000) hx hb hown (hm 1 (.constantLong RX3 174 (-1000000000)) rfl) dX3_isInLimit_1 ?_
  refine W.lcmp hx hb dX3_isInLimit_4 ?_
  refine lv_if_lt (tgt := 20) hx hb dX3_isInLimit_5 (by decide) (fun c_1 => ?_) (fun c_1 => ?_)
  · have c_1 := (lg_cmp_lt _ _).mp c_1
    refine lv_iconst (v := 0) hx hb dX3_isInLimit_20 (by decide) ?_
    exact W.zret (v := 0) hx hb hr rfl (fun t ht hW => ⟨⟨0, (), rfl, Or.inr ⟨tk_in_f1 c_1, rfl⟩, KB.of hAe (by rw [ht]; exact hP) hD⟩, hS.F ht⟩) hS.2.2 dX3_isInLimit_21
  · have c_1 := mt (lg_cmp_lt _ _).mpr c_1
    refine lv_lload_n hx hb dX3_isInLimit_8 rfl (lv_at hl 0 rfl) ?_
    refine lv_ldc2 (v := 1000000000) hx hb hown (hm 2 (.constantLong RX3 176 (1000000000)) rfl) dX3_isInLimit_9 ?_
    refine W.lcmp hx hb dX3_isInLimit_12 ?_
    refine lv_if_gt (tgt := 20) hx hb dX3_isInLimit_13 (by decide) (fun c_2 => ?_) (fun c_2 => ?_)
    · have c_2 := (lg_cmp_gt _ _).mp c_2
      refine lv_iconst (v := 0) hx hb dX3_isInLimit_20 (by decide) ?_
      exact W.zret (v := 0) hx hb hr rfl (fun t ht hW => ⟨⟨0, (), rfl, Or.inr ⟨tk_in_f2 c_2, rfl⟩, KB.of hAe (by rw [ht]; exact hP) hD⟩, hS.F ht⟩) hS.2.2 dX3_isInLimit_21
    · have c_2 := mt (lg_cmp_gt _ _).mpr c_2
      refine lv_iconst (v := 1) hx hb dX3_isInLimit_16 (by decide) ?_
      refine lv_goto (tgt := 21) hx hb dX3_isInLimit_17 (by decide) ?_
      exact W.zret (v := 1) hx hb hr rfl (fun t ht hW => ⟨⟨1, (), rfl, Or.inl ⟨tk_in_t c_1 c_2, rfl⟩, KB.of hAe (by rw [ht]; exact hP) hD⟩, hS.F ht⟩) hS.2.2 dX3_isInLimit_21

set_option maxHeartbeats 4000000 in
set_option maxRecDepth 100000 in
/-- in the limit -/
theorem k_X4_isIn (l : Launch) (D : va_G) (cI cM cJ : ClassId) (sz : Nat) (x : Int64) : Met l yX4_isIn wsX4_isIn ({ frames := 0, cells := 0, slots := 0, locals := 0 }) (va_Pc [.long x] (KP D (tk_T cI cM cJ) ([]) sz)) (va_Qi (fun (r : Int32) (u : Unit) => (tk_in x = true ∧ r = 1) ∨ (tk_in x = false ∧ r = 0)) (fun u t => KB D ([]) ([]) sz t) (va_A ([]) sz)) 0 0 (va_A ([]) sz) := by
  refine Met.ofW (cc := cX4_isIn) (maxL := 2) (ret := (some .boolean)) (by decide) rfl ?_
  intro zp ze zs zm zargs zbelow zmeth zc zs1 B hml hv
  obtain ⟨rfl, hsz, hP, hK, hD0, hN⟩ := hv
  have hx := B.exec
  have hb := B.bytes
  have hr := B.returns
  have hts := atoms_spec (ws := wsX4_isIn) B.pre
  have hm : ∀ (i : Nat) (w : Cond), wsX4_isIn[i]? = some w → w.before _ zs = true := fun i w h => hts w (List.mem_of_getElem? h)
  have hown : zs.vm.findClass RX4 = some zm.cls := findClass_of_methodNamed B.named
  have hlocks := B.notSynchronized
  subst hsz
  have hD := hD0.self (sz := zs.heap.size)
  generalize hAe : va_A ([]) zs.heap.size = A at hD ⊢
  have hA : ∀ q : Nat, zs.heap.size ≤ q → A q := fun q h => by rw [← hAe]; exact Or.inr h
  have hS : va_S A zs.heap zs.heap [] := va_S.rf
  have hP : va_P D vwCl ([]) zs.heap := hP
  have hl := lv_entry ([.long x]) (n := 2) (Nat.le_of_ble_eq_true rfl)
  rw [lg_entry_eq]
  generalize (lg_sl ([.long x]) ++ List.replicate (2 - (lg_sl ([.long x])).length) Slot.unset).toArray = ls at hl ⊢
  have hl : lv_has ls 2 [(0, .long x)] := hl
  refine lv_lload_n hx hb dX4_isIn_0 rfl (lv_at hl 0 rfl) ?_
  refine lv_ldc2 (v := -1000000000) hx hb hown (hm 1 (.constantLong RX4 42 (-1000000000)) rfl) dX4_isIn_1 ?_
  refine W.lcmp hx hb dX4_isIn_4 ?_
  refine lv_if_lt (tgt := 20) hx hb dX4_isIn_5 (by decide) (fun c_1 => ?_) (fun c_1 => ?_)
  · have c_1 := (lg_cmp_lt _ _).mp c_1
    refine lv_iconst (v := 0) hx hb dX4_isIn_20 (by decide) ?_
    exact W.zret (v := 0) hx hb hr rfl (fun t ht hW => ⟨⟨0, (), rfl, Or.inr ⟨tk_in_f1 c_1, rfl⟩, KB.of hAe (by rw [ht]; exact hP) hD⟩, hS.F ht⟩) hS.2.2 dX4_isIn_21
  · have c_1 := mt (lg_cmp_lt _ _).mpr c_1
    refine lv_lload_n hx hb dX4_isIn_8 rfl (lv_at hl 0 rfl) ?_
    refine lv_ldc2 (v := 1000000000) hx hb hown (hm 2 (.constantLong RX4 44 (1000000000)) rfl) dX4_isIn_9 ?_
    refine W.lcmp hx hb dX4_isIn_12 ?_
    refine lv_if_gt (tgt := 20) hx hb dX4_isIn_13 (by decide) (fun c_2 => ?_) (fun c_2 => ?_)
    · have c_2 := (lg_cmp_gt _ _).mp c_2
      refine lv_iconst (v := 0) hx hb dX4_isIn_20 (by decide) ?_
      exact W.zret (v := 0) hx hb hr rfl (fun t ht hW => ⟨⟨0, (), rfl, Or.inr ⟨tk_in_f2 c_2, rfl⟩, KB.of hAe (by rw [ht]; exact hP) hD⟩, hS.F ht⟩) hS.2.2 dX4_isIn_21
    · have c_2 := mt (lg_cmp_gt _ _).mpr c_2
      refine lv_iconst (v := 1) hx hb dX4_isIn_16 (by decide) ?_
      refine lv_goto (tgt := 21) hx hb dX4_isIn_17 (by decide) ?_
      exact W.zret (v := 1) hx hb hr rfl (fun t ht hW => ⟨⟨1, (), rfl, Or.inl ⟨tk_in_t c_1 c_2, rfl⟩, KB.of hAe (by rw [ht]; exact hP) hD⟩, hS.F ht⟩) hS.2.2 dX4_isIn_21

set_option maxHeartbeats 4000000 in
set_option maxRecDepth 100000 in
/-- in its range -/
theorem k_X3_isOutside (l : Launch) (D : va_G) (cI cM cJ : ClassId) (sz : Nat) (v lo hi : Int32) : Met l yX3_isOutside wsX3_isOutside ({ frames := 0, cells := 0, slots := 0, locals := 0 }) (va_Pc [.int v, .int lo, .int hi] (KP D (tk_T cI cM cJ) ([]) sz)) (va_Qi (fun (r : Int32) (u : Unit) => (¬ tk_rng lo hi v ∧ r = 1) ∨ (tk_rng lo hi v ∧ r = 0)) (fun u t => KB D ([]) ([]) sz t) (va_A ([]) sz)) 0 0 (va_A ([]) sz) := by
  refine Met.ofW (cc := cX3_isOutside) (maxL := 3) (ret := (some .boolean)) (by decide) rfl ?_
  intro zp ze zs zm zargs zbelow zmeth zc zs1 B hml hv
  obtain ⟨rfl, hsz, hP, hK, hD0, hN⟩ := hv
  have hx := B.exec
  have hb := B.bytes
  have hr := B.returns
  have hts := atoms_spec (ws := wsX3_isOutside) B.pre
  have hm : ∀ (i : Nat) (w : Cond), wsX3_isOutside[i]? = some w → w.before _ zs = true := fun i w h => hts w (List.mem_of_getElem? h)
  have hown : zs.vm.findClass RX3 = some zm.cls := findClass_of_methodNamed B.named
  have hlocks := B.notSynchronized
  subst hsz
  have hD := hD0.self (sz := zs.heap.size)
  generalize hAe : va_A ([]) zs.heap.size = A at hD ⊢
  have hA : ∀ q : Nat, zs.heap.size ≤ q → A q := fun q h => by rw [← hAe]; exact Or.inr h
  have hS : va_S A zs.heap zs.heap [] := va_S.rf
  have hP : va_P D vwCl ([]) zs.heap := hP
  have hl := lv_entry ([.int v, .int lo, .int hi]) (n := 3) (Nat.le_of_ble_eq_true rfl)
  rw [lg_entry_eq]
  generalize (lg_sl ([.int v, .int lo, .int hi]) ++ List.replicate (3 - (lg_sl ([.int v, .int lo, .int hi])).length) Slot.unset).toArray = ls at hl ⊢
  have hl : lv_has ls 3 [(0, .int v), (1, .int lo), (2, .int hi)] := hl
  refine lv_iload_n hx hb dX3_isOutside_0 rfl (lv_at hl 0 rfl) ?_
  refine lv_iload_n hx hb dX3_isOutside_1 rfl (lv_at hl 1 rfl) ?_
  refine lv_icmp_lt (tgt := 10) hx hb dX3_isOutside_2 (by decide) (fun c_1 => ?_) (fun c_1 => ?_)
  · skip
    refine lv_iconst (v := 1) hx hb dX3_isOutside_10 (by decide) ?_
    refine lv_goto (tgt := 15) hx hb dX3_isOutside_11 (by decide) ?_
    exact W.zret (v := 1) hx hb hr rfl (fun t ht hW => ⟨⟨1, (), rfl, Or.inl ⟨tk_rng_1 c_1, rfl⟩, KB.of hAe (by rw [ht]; exact hP) hD⟩, hS.F ht⟩) hS.2.2 dX3_isOutside_15
  · skip
    refine lv_iload_n hx hb dX3_isOutside_5 rfl (lv_at hl 0 rfl) ?_
    refine lv_iload_n hx hb dX3_isOutside_6 rfl (lv_at hl 2 rfl) ?_
    refine lv_icmp_le (tgt := 14) hx hb dX3_isOutside_7 (by decide) (fun c_2 => ?_) (fun c_2 => ?_)
    · skip
      refine lv_iconst (v := 0) hx hb dX3_isOutside_14 (by decide) ?_
      exact W.zret (v := 0) hx hb hr rfl (fun t ht hW => ⟨⟨0, (), rfl, Or.inr ⟨⟨tk_nl.mp c_1, c_2⟩, rfl⟩, KB.of hAe (by rw [ht]; exact hP) hD⟩, hS.F ht⟩) hS.2.2 dX3_isOutside_15
    · skip
      refine lv_iconst (v := 1) hx hb dX3_isOutside_10 (by decide) ?_
      refine lv_goto (tgt := 15) hx hb dX3_isOutside_11 (by decide) ?_
      exact W.zret (v := 1) hx hb hr rfl (fun t ht hW => ⟨⟨1, (), rfl, Or.inl ⟨fun z => c_2 z.2, rfl⟩, KB.of hAe (by rw [ht]; exact hP) hD⟩, hS.F ht⟩) hS.2.2 dX3_isOutside_15

set_option maxHeartbeats 4000000 in
set_option maxRecDepth 100000 in
/-- in its range -/
theorem k_X4_in (l : Launch) (D : va_G) (cI cM cJ : ClassId) (sz : Nat) (v lo hi : Int32) : Met l yX4_in wsX4_in ({ frames := 0, cells := 0, slots := 0, locals := 0 }) (va_Pc [.int v, .int lo, .int hi] (KP D (tk_T cI cM cJ) ([]) sz)) (va_Qi (fun (r : Int32) (u : Unit) => (tk_rng lo hi v ∧ r = 1) ∨ (¬ tk_rng lo hi v ∧ r = 0)) (fun u t => KB D ([]) ([]) sz t) (va_A ([]) sz)) 0 0 (va_A ([]) sz) := by
  refine Met.ofW (cc := cX4_in) (maxL := 3) (ret := (some .boolean)) (by decide) rfl ?_
  intro zp ze zs zm zargs zbelow zmeth zc zs1 B hml hv
  obtain ⟨rfl, hsz, hP, hK, hD0, hN⟩ := hv
  have hx := B.exec
  have hb := B.bytes
  have hr := B.returns
  have hts := atoms_spec (ws := wsX4_in) B.pre
  have hm : ∀ (i : Nat) (w : Cond), wsX4_in[i]? = some w → w.before _ zs = true := fun i w h => hts w (List.mem_of_getElem? h)
  have hown : zs.vm.findClass RX4 = some zm.cls := findClass_of_methodNamed B.named
  have hlocks := B.notSynchronized
  subst hsz
  have hD := hD0.self (sz := zs.heap.size)
  generalize hAe : va_A ([]) zs.heap.size = A at hD ⊢
  have hA : ∀ q : Nat, zs.heap.size ≤ q → A q := fun q h => by rw [← hAe]; exact Or.inr h
  have hS : va_S A zs.heap zs.heap [] := va_S.rf
  have hP : va_P D vwCl ([]) zs.heap := hP
  have hl := lv_entry ([.int v, .int lo, .int hi]) (n := 3) (Nat.le_of_ble_eq_true rfl)
  rw [lg_entry_eq]
  generalize (lg_sl ([.int v, .int lo, .int hi]) ++ List.replicate (3 - (lg_sl ([.int v, .int lo, .int hi])).length) Slot.unset).toArray = ls at hl ⊢
  have hl : lv_has ls 3 [(0, .int v), (1, .int lo), (2, .int hi)] := hl
  refine lv_iload_n hx hb dX4_in_0 rfl (lv_at hl 0 rfl) ?_
  refine lv_iload_n hx hb dX4_in_1 rfl (lv_at hl 1 rfl) ?_
  refine lv_icmp_lt (tgt := 14) hx hb dX4_in_2 (by decide) (fun c_1 => ?_) (fun c_1 => ?_)
  · skip
    refine lv_iconst (v := 0) hx hb dX4_in_14 (by decide) ?_
    exact W.zret (v := 0) hx hb hr rfl (fun t ht hW => ⟨⟨0, (), rfl, Or.inr ⟨tk_rng_1 c_1, rfl⟩, KB.of hAe (by rw [ht]; exact hP) hD⟩, hS.F ht⟩) hS.2.2 dX4_in_15
  · skip
    refine lv_iload_n hx hb dX4_in_5 rfl (lv_at hl 0 rfl) ?_
    refine lv_iload_n hx hb dX4_in_6 rfl (lv_at hl 2 rfl) ?_
    refine lv_icmp_gt (tgt := 14) hx hb dX4_in_7 (by decide) (fun c_2 => ?_) (fun c_2 => ?_)
    · skip
      refine lv_iconst (v := 0) hx hb dX4_in_14 (by decide) ?_
      exact W.zret (v := 0) hx hb hr rfl (fun t ht hW => ⟨⟨0, (), rfl, Or.inr ⟨tk_rng_2 c_2, rfl⟩, KB.of hAe (by rw [ht]; exact hP) hD⟩, hS.F ht⟩) hS.2.2 dX4_in_15
    · skip
      refine lv_iconst (v := 1) hx hb dX4_in_10 (by decide) ?_
      refine lv_goto (tgt := 15) hx hb dX4_in_11 (by decide) ?_
      exact W.zret (v := 1) hx hb hr rfl (fun t ht hW => ⟨⟨1, (), rfl, Or.inl ⟨tk_rng_t c_1 c_2, rfl⟩, KB.of hAe (by rw [ht]; exact hP) hD⟩, hS.F ht⟩) hS.2.2 dX4_in_15

set_option maxHeartbeats 4000000 in
set_option maxRecDepth 100000 in
/-- isSensor -/
theorem k_X3_isSensor (l : Launch) (D : va_G) (cI cM cJ : ClassId) (sz : Nat) (v : Int32) : Met l yX3_isSensor wsX3_isSensor ({ frames := 1, cells := 0, slots := 0, locals := 22 }) (va_Pc [.int v] (KP D (tk_T cI cM cJ) ([]) sz)) (va_Qi (fun (r : Int32) (u : Unit) => (tk_rng 0 3 v ∧ r = 1) ∨ (¬ tk_rng 0 3 v ∧ r = 0)) (fun u t => KB D ([]) ([]) sz t) (va_A ([]) sz)) 0 0 (va_A ([]) sz) := by
  refine Met.ofW (cc := cX3_isSensor) (maxL := 1) (ret := (some .boolean)) (by decide) rfl ?_
  intro zp ze zs zm zargs zbelow zmeth zc zs1 B hml hv
  obtain ⟨rfl, hsz, hP, hK, hD0, hN⟩ := hv
  have hx := B.exec
  have hb := B.bytes
  have hr := B.returns
  have hts := atoms_spec (ws := wsX3_isSensor) B.pre
  have hm : ∀ (i : Nat) (w : Cond), wsX3_isSensor[i]? = some w → w.before _ zs = true := fun i w h => hts w (List.mem_of_getElem? h)
  have hown : zs.vm.findClass RX3 = some zm.cls := findClass_of_methodNamed B.named
  have hlocks := B.notSynchronized
  subst hsz
  have hD := hD0.self (sz := zs.heap.size)
  generalize hAe : va_A ([]) zs.heap.size = A at hD ⊢
  have hA : ∀ q : Nat, zs.heap.size ≤ q → A q := fun q h => by rw [← hAe]; exact Or.inr h
  have hS : va_S A zs.heap zs.heap [] := va_S.rf
  have hP : va_P D vwCl ([]) zs.heap := hP
  have hl := lv_entry ([.int v]) (n := 1) (Nat.le_of_ble_eq_true rfl)
  rw [lg_entry_eq]
  generalize (lg_sl ([.int v]) ++ List.replicate (1 - (lg_sl ([.int v])).length) Slot.unset).toArray = ls at hl ⊢
  have hl : lv_has ls 1 [(0, .int v)] := hl
  refine lv_iload_n hx hb dX3_isSensor_0 rfl (lv_at hl 0 rfl) ?_
  refine lv_iconst (v := 0) hx hb dX3_isSensor_1 (by decide) ?_
  refine lv_iconst (v := 3) hx hb dX3_isSensor_2 (by decide) ?_
  refine kc_i (wc := []) (wr := []) (va_runS (As := [.int v, .int 0, .int 3]) (rest := []) ⟨hx, hb, hml, hown, hts⟩ (k_X3_isOutside l D cI cM cJ _ v 0 3) (va_cwS 3 hts gX3_isSensor_X3_isOutside rfl rfl rfl (by decide +kernel) ⟨Nat.le_of_ble_eq_true rfl, Nat.le_of_ble_eq_true rfl⟩) (kp_preS (wc := []) (wr := []) hN hK hP hD) rfl rfl hl.1 rfl (lv_room (Nat.le_of_ble_eq_true rfl)) dX3_isSensor_3 ⟨Nat.le_of_ble_eq_true rfl, Nat.le_of_ble_eq_true rfl⟩) hP hD hS hA (fun r_1 u_1 H locs p_1 hP hD hS => ?_)
  rcases p_1 with ⟨p_1, rfl⟩ | ⟨p_1, rfl⟩
  · have hP : va_P D vwCl ([]) H := hP
    have hD : va_D A ([]) := hD
    refine lv_if_ne (tgt := 13) hx hb dX3_isSensor_6 (by decide) (fun c_2 => ?_) (fun c_2 => ?_)
    · skip
      refine lv_iconst (v := 0) hx hb dX3_isSensor_13 (by decide) ?_
      exact W.zret (v := 0) hx hb hr rfl (fun t ht hW => ⟨⟨0, (), rfl, Or.inr ⟨p_1, rfl⟩, KB.of hAe (by rw [ht]; exact hP) hD⟩, hS.F ht⟩) hS.2.2 dX3_isSensor_14
    · exact absurd c_2 (by decide)
  · have hP : va_P D vwCl ([]) H := hP
    have hD : va_D A ([]) := hD
    refine lv_if_ne (tgt := 13) hx hb dX3_isSensor_6 (by decide) (fun c_3 => ?_) (fun c_3 => ?_)
    · exact absurd c_3 (by decide)
    · skip
      refine lv_iconst (v := 1) hx hb dX3_isSensor_9 (by decide) ?_
      refine lv_goto (tgt := 14) hx hb dX3_isSensor_10 (by decide) ?_
      exact W.zret (v := 1) hx hb hr rfl (fun t ht hW => ⟨⟨1, (), rfl, Or.inl ⟨p_1, rfl⟩, KB.of hAe (by rw [ht]; exact hP) hD⟩, hS.F ht⟩) hS.2.2 dX3_isSensor_14

set_option maxHeartbeats 4000000 in
set_option maxRecDepth 100000 in
/-- isSensor -/
theorem k_X4_isSensor (l : Launch) (D : va_G) (cI cM cJ : ClassId) (sz : Nat) (v : Int32) : Met l yX4_isSensor wsX4_isSensor ({ frames := 1, cells := 0, slots := 0, locals := 22 }) (va_Pc [.int v] (KP D (tk_T cI cM cJ) ([]) sz)) (va_Qi (fun (r : Int32) (u : Unit) => (tk_rng 0 3 v ∧ r = 1) ∨ (¬ tk_rng 0 3 v ∧ r = 0)) (fun u t => KB D ([]) ([]) sz t) (va_A ([]) sz)) 0 0 (va_A ([]) sz) := by
  refine Met.ofW (cc := cX4_isSensor) (maxL := 1) (ret := (some .boolean)) (by decide) rfl ?_
  intro zp ze zs zm zargs zbelow zmeth zc zs1 B hml hv
  obtain ⟨rfl, hsz, hP, hK, hD0, hN⟩ := hv
  have hx := B.exec
  have hb := B.bytes
  have hr := B.returns
  have hts := atoms_spec (ws := wsX4_isSensor) B.pre
  have hm : ∀ (i : Nat) (w : Cond), wsX4_isSensor[i]? = some w → w.before _ zs = true := fun i w h => hts w (List.mem_of_getElem? h)
  have hown : zs.vm.findClass RX4 = some zm.cls := findClass_of_methodNamed B.named
  have hlocks := B.notSynchronized
  subst hsz
  have hD := hD0.self (sz := zs.heap.size)
  generalize hAe : va_A ([]) zs.heap.size = A at hD ⊢
  have hA : ∀ q : Nat, zs.heap.size ≤ q → A q := fun q h => by rw [← hAe]; exact Or.inr h
  have hS : va_S A zs.heap zs.heap [] := va_S.rf
  have hP : va_P D vwCl ([]) zs.heap := hP
  have hl := lv_entry ([.int v]) (n := 1) (Nat.le_of_ble_eq_true rfl)
  rw [lg_entry_eq]
  generalize (lg_sl ([.int v]) ++ List.replicate (1 - (lg_sl ([.int v])).length) Slot.unset).toArray = ls at hl ⊢
  have hl : lv_has ls 1 [(0, .int v)] := hl
  refine lv_iload_n hx hb dX4_isSensor_0 rfl (lv_at hl 0 rfl) ?_
  refine lv_iconst (v := 0) hx hb dX4_isSensor_1 (by decide) ?_
  refine lv_iconst (v := 3) hx hb dX4_isSensor_2 (by decide) ?_
  refine kc_i (wc := []) (wr := []) (va_runS (As := [.int v, .int 0, .int 3]) (rest := []) ⟨hx, hb, hml, hown, hts⟩ (k_X4_in l D cI cM cJ _ v 0 3) (va_cwS 3 hts gX4_isSensor_X4_in rfl rfl rfl (by decide +kernel) ⟨Nat.le_of_ble_eq_true rfl, Nat.le_of_ble_eq_true rfl⟩) (kp_preS (wc := []) (wr := []) hN hK hP hD) rfl rfl hl.1 rfl (lv_room (Nat.le_of_ble_eq_true rfl)) dX4_isSensor_3 ⟨Nat.le_of_ble_eq_true rfl, Nat.le_of_ble_eq_true rfl⟩) hP hD hS hA (fun r_1 u_1 H locs p_1 hP hD hS => ?_)
  rcases p_1 with ⟨p_1, rfl⟩ | ⟨p_1, rfl⟩
  · have hP : va_P D vwCl ([]) H := hP
    have hD : va_D A ([]) := hD
    exact W.zret (v := 1) hx hb hr rfl (fun t ht hW => ⟨⟨1, (), rfl, Or.inl ⟨p_1, rfl⟩, KB.of hAe (by rw [ht]; exact hP) hD⟩, hS.F ht⟩) hS.2.2 dX4_isSensor_6
  · have hP : va_P D vwCl ([]) H := hP
    have hD : va_D A ([]) := hD
    exact W.zret (v := 0) hx hb hr rfl (fun t ht hW => ⟨⟨0, (), rfl, Or.inr ⟨p_1, rfl⟩, KB.of hAe (by rw [ht]; exact hP) hD⟩, hS.F ht⟩) hS.2.2 dX4_isSensor_6

set_option maxHeartbeats 4000000 in
set_option maxRecDepth 100000 in
/-- isKind -/
theorem k_X3_isKind (l : Launch) (D : va_G) (cI cM cJ : ClassId) (sz : Nat) (v : Int32) : Met l yX3_isKind wsX3_isKind ({ frames := 0, cells := 0, slots := 0, locals := 0 }) (va_Pc [.int v] (KP D (tk_T cI cM cJ) ([]) sz)) (va_Qi (fun (r : Int32) (u : Unit) => ((v = 0 ∨ v = 1) ∧ r = 1) ∨ (¬ (v = 0 ∨ v = 1) ∧ r = 0)) (fun u t => KB D ([]) ([]) sz t) (va_A ([]) sz)) 0 0 (va_A ([]) sz) := by
  refine Met.ofW (cc := cX3_isKind) (maxL := 1) (ret := (some .boolean)) (by decide) rfl ?_
  intro zp ze zs zm zargs zbelow zmeth zc zs1 B hml hv
  obtain ⟨rfl, hsz, hP, hK, hD0, hN⟩ := hv
  have hx := B.exec
  have hb := B.bytes
  have hr := B.returns
  have hts := atoms_spec (ws := wsX3_isKind) B.pre
  have hm : ∀ (i : Nat) (w : Cond), wsX3_isKind[i]? = some w → w.before _ zs = true := fun i w h => hts w (List.mem_of_getElem? h)
  have hown : zs.vm.findClass RX3 = some zm.cls := findClass_of_methodNamed B.named
  have hlocks := B.notSynchronized
  subst hsz
  have hD := hD0.self (sz := zs.heap.size)
  generalize hAe : va_A ([]) zs.heap.size = A at hD ⊢
  have hA : ∀ q : Nat, zs.heap.size ≤ q → A q := fun q h => by rw [← hAe]; exact Or.inr h
  have hS : va_S A zs.heap zs.heap [] := va_S.rf
  have hP : va_P D vwCl ([]) zs.heap := hP
  have hl := lv_entry ([.int v]) (n := 1) (Nat.le_of_ble_eq_true rfl)
  rw [lg_entry_eq]
  generalize (lg_sl ([.int v]) ++ List.replicate (1 - (lg_sl ([.int v])).length) Slot.unset).toArray = ls at hl ⊢
  have hl : lv_has ls 1 [(0, .int v)] := hl
  refine lv_iload_n hx hb dX3_isKind_0 rfl (lv_at hl 0 rfl) ?_
  refine lv_if_eq (tgt := 9) hx hb dX3_isKind_1 (by decide) (fun c_1 => ?_) (fun c_1 => ?_)
  · skip
    refine lv_iconst (v := 1) hx hb dX3_isKind_9 (by decide) ?_
    refine lv_goto (tgt := 14) hx hb dX3_isKind_10 (by decide) ?_
    exact W.zret (v := 1) hx hb hr rfl (fun t ht hW => ⟨⟨1, (), rfl, Or.inl ⟨by simp_all, rfl⟩, KB.of hAe (by rw [ht]; exact hP) hD⟩, hS.F ht⟩) hS.2.2 dX3_isKind_14
  · skip
    refine lv_iload_n hx hb dX3_isKind_4 rfl (lv_at hl 0 rfl) ?_
    refine lv_iconst (v := 1) hx hb dX3_isKind_5 (by decide) ?_
    refine lv_icmp_ne (tgt := 13) hx hb dX3_isKind_6 (by decide) (fun c_2 => ?_) (fun c_2 => ?_)
    · skip
      refine lv_iconst (v := 0) hx hb dX3_isKind_13 (by decide) ?_
      exact W.zret (v := 0) hx hb hr rfl (fun t ht hW => ⟨⟨0, (), rfl, Or.inr ⟨by simp_all, rfl⟩, KB.of hAe (by rw [ht]; exact hP) hD⟩, hS.F ht⟩) hS.2.2 dX3_isKind_14
    · skip
      refine lv_iconst (v := 1) hx hb dX3_isKind_9 (by decide) ?_
      refine lv_goto (tgt := 14) hx hb dX3_isKind_10 (by decide) ?_
      exact W.zret (v := 1) hx hb hr rfl (fun t ht hW => ⟨⟨1, (), rfl, Or.inl ⟨by simp_all, rfl⟩, KB.of hAe (by rw [ht]; exact hP) hD⟩, hS.F ht⟩) hS.2.2 dX3_isKind_14

set_option maxHeartbeats 4000000 in
set_option maxRecDepth 100000 in
/-- down -/
theorem k_X4_down (l : Launch) (D : va_G) (cI cM cJ : ClassId) (sz : Nat) (x y : Int64) (hy : ¬ y = 0) : Met l yX4_down wsX4_down ({ frames := 0, cells := 0, slots := 0, locals := 0 }) (va_Pc [.long x, .long y] (KP D (tk_T cI cM cJ) ([]) sz)) (va_Ql (fun (r : Int64) (u : Unit) => r = tk_dn x y) (fun u t => KB D ([]) ([]) sz t) (va_A ([]) sz)) 0 0 (va_A ([]) sz) := by
  refine Met.ofW (cc := cX4_down) (maxL := 6) (ret := (some .long)) (by decide) rfl ?_
  intro zp ze zs zm zargs zbelow zmeth zc zs1 B hml hv
  obtain ⟨rfl, hsz, hP, hK, hD0, hN⟩ := hv
  have hx := B.exec
  have hb := B.bytes
  have hr := B.returns
  have hts := atoms_spec (ws := wsX4_down) B.pre
  have hm : ∀ (i : Nat) (w : Cond), wsX4_down[i]? = some w → w.before _ zs = true := fun i w h => hts w (List.mem_of_getElem? h)
  have hown : zs.vm.findClass RX4 = some zm.cls := findClass_of_methodNamed B.named
  have hlocks := B.notSynchronized
  subst hsz
  have hD := hD0.self (sz := zs.heap.size)
  generalize hAe : va_A ([]) zs.heap.size = A at hD ⊢
  have hA : ∀ q : Nat, zs.heap.size ≤ q → A q := fun q h => by rw [← hAe]; exact Or.inr h
  have hS : va_S A zs.heap zs.heap [] := va_S.rf
  have hP : va_P D vwCl ([]) zs.heap := hP
  have hl := lv_entry ([.long x, .long y]) (n := 6) (Nat.le_of_ble_eq_true rfl)
  rw [lg_entry_eq]
  generalize (lg_sl ([.long x, .long y]) ++ List.replicate (6 - (lg_sl ([.long x, .long y])).length) Slot.unset).toArray = ls at hl ⊢
  have hl : lv_has ls 6 [(0, .long x), (2, .long y)] := hl
  refine lv_lload_n hx hb dX4_down_0 rfl (lv_at hl 0 rfl) ?_
  refine lv_lload_n hx hb dX4_down_1 rfl (lv_at hl 1 rfl) ?_
  refine lv_ldiv hx hb dX4_down_2 (hy) ?_
  refine lv_lstore (lv' := [(4, .long (x / y)), (0, .long x), (2, .long y)]) hx hb dX4_down_3 hl (by decide) rfl (fun ls hl => ?_)
  refine lv_lload_n hx hb dX4_down_5 rfl (lv_at hl 1 rfl) ?_
  refine lv_lload_n hx hb dX4_down_6 rfl (lv_at hl 2 rfl) ?_
  refine lv_lrem hx hb dX4_down_7 (hy) ?_
  refine lv_lconst (v := 0) hx hb dX4_down_8 (by decide) ?_
  refine W.lcmp hx hb dX4_down_9 ?_
  refine lv_if_ge (tgt := 20) hx hb dX4_down_10 (by decide) (fun c_1 => ?_) (fun c_1 => ?_)
  · have c_1 := (lg_cmp_ge _ _).mp c_1
    refine lv_lload hx hb dX4_down_20 (lv_at hl 0 rfl) ?_
    exact W.lret (v := x / y) hx hb hr (fun t ht hW => ⟨⟨x / y, (), rfl, by rw [tk_dn, if_neg (Int64.not_lt.mpr c_1)], KB.of hAe (by rw [ht]; exact hP) hD⟩, hS.F ht⟩) hS.2.2 dX4_down_22
  · have c_1 := mt (lg_cmp_ge _ _).mpr c_1
    refine lv_lload hx hb dX4_down_13 (lv_at hl 0 rfl) ?_
    refine lv_lconst (v := 1) hx hb dX4_down_15 (by decide) ?_
    refine lv_lsub hx hb dX4_down_16 ?_
    refine lv_goto (tgt := 22) hx hb dX4_down_17 (by decide) ?_
    exact W.lret (v := (x / y) - 1) hx hb hr (fun t ht hW => ⟨⟨(x / y) - 1, (), rfl, by rw [tk_dn, if_pos (Int64.not_le.mp c_1)], KB.of hAe (by rw [ht]; exact hP) hD⟩, hS.F ht⟩) hS.2.2 dX4_down_22

set_option maxHeartbeats 4000000 in
set_option maxRecDepth 100000 in
/-- mul -/
theorem k_X4_mul (l : Launch) (D : va_G) (cI cM cJ : ClassId) (sz : Nat) (x y : Int64) : Met l yX4_mul wsX4_mul ({ frames := 1, cells := 0, slots := 0, locals := 25 }) (va_Pc [.long x, .long y] (KP D (tk_T cI cM cJ) ([]) sz)) (va_Ql (fun (r : Int64) (u : Unit) => r = tk_mul x y) (fun u t => KB D ([]) ([]) sz t) (va_A ([]) sz)) 0 0 (va_A ([]) sz) := by
  refine Met.ofW (cc := cX4_mul) (maxL := 4) (ret := (some .long)) (by decide) rfl ?_
  intro zp ze zs zm zargs zbelow zmeth zc zs1 B hml hv
  obtain ⟨rfl, hsz, hP, hK, hD0, hN⟩ := hv
  have hx := B.exec
  have hb := B.bytes
  have hr := B.returns
  have hts := atoms_spec (ws := wsX4_mul) B.pre
  have hm : ∀ (i : Nat) (w : Cond), wsX4_mul[i]? = some w → w.before _ zs = true := fun i w h => hts w (List.mem_of_getElem? h)
  have hown : zs.vm.findClass RX4 = some zm.cls := findClass_of_methodNamed B.named
  have hlocks := B.notSynchronized
  subst hsz
  have hD := hD0.self (sz := zs.heap.size)
  generalize hAe : va_A ([]) zs.heap.size = A at hD ⊢
  have hA : ∀ q : Nat, zs.heap.size ≤ q → A q := fun q h => by rw [← hAe]; exact Or.inr h
  have hS : va_S A zs.heap zs.heap [] := va_S.rf
  have hP : va_P D vwCl ([]) zs.heap := hP
  have hl := lv_entry ([.long x, .long y]) (n := 4) (Nat.le_of_ble_eq_true rfl)
  rw [lg_entry_eq]
  generalize (lg_sl ([.long x, .long y]) ++ List.replicate (4 - (lg_sl ([.long x, .long y])).length) Slot.unset).toArray = ls at hl ⊢
  have hl : lv_has ls 4 [(0, .long x), (2, .long y)] := hl
  refine lv_lload_n hx hb dX4_mul_0 rfl (lv_at hl 0 rfl) ?_
  refine lv_lload_n hx hb dX4_mul_1 rfl (lv_at hl 1 rfl) ?_
  refine lv_lmul hx hb dX4_mul_2 ?_
  refine lv_ldc2 (v := 2048) hx hb hown (hm 1 (.constantLong RX4 32 (2048)) rfl) dX4_mul_3 ?_
  refine lv_ladd hx hb dX4_mul_6 ?_
  refine lv_ldc2 (v := 4096) hx hb hown (hm 2 (.constantLong RX4 34 (4096)) rfl) dX4_mul_7 ?_
  refine kc_l (wc := []) (wr := []) (va_runS (As := [.long ((x * y) + 2048), .long 4096]) (rest := []) ⟨hx, hb, hml, hown, hts⟩ (k_X4_down l D cI cM cJ _ ((x * y) + 2048) 4096 (by decide)) (va_cwS 2 hts gX4_mul_X4_down rfl rfl rfl (by decide +kernel) ⟨Nat.le_of_ble_eq_true rfl, Nat.le_of_ble_eq_true rfl⟩) (kp_preS (wc := []) (wr := []) hN hK hP hD) rfl rfl hl.1 rfl (lv_room (Nat.le_of_ble_eq_true rfl)) dX4_mul_10 ⟨Nat.le_of_ble_eq_true rfl, Nat.le_of_ble_eq_true rfl⟩) hP hD hS hA (fun r_1 u_1 H locs p_1 hP hD hS => ?_)
  obtain rfl : r_1 = tk_dn ((x * y) + 2048) 4096 := p_1
  have hP : va_P D vwCl ([]) H := hP
  have hD : va_D A ([]) := hD
  exact W.lret (v := tk_dn ((x * y) + 2048) 4096) hx hb hr (fun t ht hW => ⟨⟨tk_dn ((x * y) + 2048) 4096, (), rfl, rfl, KB.of hAe (by rw [ht]; exact hP) hD⟩, hS.F ht⟩) hS.2.2 dX4_mul_13

set_option maxHeartbeats 4000000 in
set_option maxRecDepth 100000 in
/-- div -/
theorem k_X4_div (l : Launch) (D : va_G) (cI cM cJ : ClassId) (sz : Nat) (x y : Int64) (hy : ¬ y = 0) : Met l yX4_div wsX4_div ({ frames := 1, cells := 0, slots := 0, locals := 25 }) (va_Pc [.long x, .long y] (KP D (tk_T cI cM cJ) ([]) sz)) (va_Ql (fun (r : Int64) (u : Unit) => r = tk_div x y) (fun u t => KB D ([]) ([]) sz t) (va_A ([]) sz)) 0 0 (va_A ([]) sz) := by
  refine Met.ofW (cc := cX4_div) (maxL := 4) (ret := (some .long)) (by decide) rfl ?_
  intro zp ze zs zm zargs zbelow zmeth zc zs1 B hml hv
  obtain ⟨rfl, hsz, hP, hK, hD0, hN⟩ := hv
  have hx := B.exec
  have hb := B.bytes
  have hr := B.returns
  have hts := atoms_spec (ws := wsX4_div) B.pre
  have hm : ∀ (i : Nat) (w : Cond), wsX4_div[i]? = some w → w.before _ zs = true := fun i w h => hts w (List.mem_of_getElem? h)
  have hown : zs.vm.findClass RX4 = some zm.cls := findClass_of_methodNamed B.named
  have hlocks := B.notSynchronized
  subst hsz
  have hD := hD0.self (sz := zs.heap.size)
  generalize hAe : va_A ([]) zs.heap.size = A at hD ⊢
  have hA : ∀ q : Nat, zs.heap.size ≤ q → A q := fun q h => by rw [← hAe]; exact Or.inr h
  have hS : va_S A zs.heap zs.heap [] := va_S.rf
  have hP : va_P D vwCl ([]) zs.heap := hP
  have hl := lv_entry ([.long x, .long y]) (n := 4) (Nat.le_of_ble_eq_true rfl)
  rw [lg_entry_eq]
  generalize (lg_sl ([.long x, .long y]) ++ List.replicate (4 - (lg_sl ([.long x, .long y])).length) Slot.unset).toArray = ls at hl ⊢
  have hl : lv_has ls 4 [(0, .long x), (2, .long y)] := hl
  refine lv_lload_n hx hb dX4_div_0 rfl (lv_at hl 0 rfl) ?_
  refine lv_ldc2 (v := 4096) hx hb hown (hm 1 (.constantLong RX4 34 (4096)) rfl) dX4_div_1 ?_
  refine lv_lmul hx hb dX4_div_4 ?_
  refine lv_lload_n hx hb dX4_div_5 rfl (lv_at hl 1 rfl) ?_
  refine lv_ldc2 (v := 2) hx hb hown (hm 2 (.constantLong RX4 40 (2)) rfl) dX4_div_6 ?_
  refine kc_l (wc := []) (wr := []) (va_runS (As := [.long y, .long 2]) (rest := [.long (x * 4096)]) ⟨hx, hb, hml, hown, hts⟩ (k_X4_down l D cI cM cJ _ y 2 (by decide)) (va_cwS 2 hts gX4_div_X4_down rfl rfl rfl (by decide +kernel) ⟨Nat.le_of_ble_eq_true rfl, Nat.le_of_ble_eq_true rfl⟩) (kp_preS (wc := []) (wr := []) hN hK hP hD) rfl rfl hl.1 rfl (lv_room (Nat.le_of_ble_eq_true rfl)) dX4_div_9 ⟨Nat.le_of_ble_eq_true rfl, Nat.le_of_ble_eq_true rfl⟩) hP hD hS hA (fun r_1 u_1 H locs p_1 hP hD hS => ?_)
  obtain rfl : r_1 = tk_dn y 2 := p_1
  have hP : va_P D vwCl ([]) H := hP
  have hD : va_D A ([]) := hD
  refine lv_ladd hx hb dX4_div_12 ?_
  refine lv_lload_n hx hb dX4_div_13 rfl (lv_at hl 1 rfl) ?_
  refine kc_l (wc := []) (wr := []) (va_runS (As := [.long ((x * 4096) + (tk_dn y 2)), .long y]) (rest := []) ⟨hx, hb, hml, hown, hts⟩ (k_X4_down l D cI cM cJ _ ((x * 4096) + (tk_dn y 2)) y (hy)) (va_cwS 2 hts gX4_div_X4_down rfl rfl rfl (by decide +kernel) ⟨Nat.le_of_ble_eq_true rfl, Nat.le_of_ble_eq_true rfl⟩) (kp_preS (wc := []) (wr := []) hN hK hP hD) rfl rfl hl.1 rfl (lv_room (Nat.le_of_ble_eq_true rfl)) dX4_div_14 ⟨Nat.le_of_ble_eq_true rfl, Nat.le_of_ble_eq_true rfl⟩) hP hD hS hA (fun r_2 u_2 H locs p_2 hP hD hS => ?_)
  obtain rfl : r_2 = tk_dn ((x * 4096) + (tk_dn y 2)) y := p_2
  have hP : va_P D vwCl ([]) H := hP
  have hD : va_D A ([]) := hD
  exact W.lret (v := tk_dn ((x * 4096) + (tk_dn y 2)) y) hx hb hr (fun t ht hW => ⟨⟨tk_dn ((x * 4096) + (tk_dn y 2)) y, (), rfl, rfl, KB.of hAe (by rw [ht]; exact hP) hD⟩, hS.F ht⟩) hS.2.2 dX4_div_17
end
section
theorem izX0_mean_0 : ∀ w ∈ wsX00, w ∈ wsX0_mean := fun _ h => List.mem_cons_of_mem _ (List.mem_append_right _ h)
set_option maxHeartbeats 4000000 in
set_option maxRecDepth 100000 in
/-- mean -/
theorem k_X0_mean (l : Launch) (D : va_G) (cI cM cJ : ClassId) (sz : Nat) (h0 : Nat) (e : Nat → Int64) (kd : Int32) : Met l yX0_mean wsX0_mean ({ frames := 0, cells := 0, slots := 0, locals := 0 }) (va_Pc [.ref h0, .int kd] (KP D (tk_T cI cM cJ) ([(h0, .inr (0, tk_ev e))]) sz)) (va_Ql (fun (r : Int64) (u : Unit) => r = co_m e kd) (fun u t => KB D ([(h0, .inr (0, tk_ev e))]) ([(h0, .inr (0, tk_ev e))]) sz t) (va_A ([(h0, .inr (0, tk_ev e))]) sz)) 0 0 (va_A ([(h0, .inr (0, tk_ev e))]) sz) := by
  refine Met.ofW (cc := cX0_mean) (maxL := 2) (ret := (some .long)) (by decide) rfl ?_
  intro zp ze zs zm zargs zbelow zmeth zc zs1 B hml hv
  obtain ⟨rfl, hsz, hP, hK, hD0, hN⟩ := hv
  have hx := B.exec
  have hb := B.bytes
  have hr := B.returns
  have hts := atoms_spec (ws := wsX0_mean) B.pre
  have hm : ∀ (i : Nat) (w : Cond), wsX0_mean[i]? = some w → w.before _ zs = true := fun i w h => hts w (List.mem_of_getElem? h)
  have hown : zs.vm.findClass RX0 = some zm.cls := findClass_of_methodNamed B.named
  have hlocks := B.notSynchronized
  subst hsz
  have hD := hD0.self (sz := zs.heap.size)
  generalize hAe : va_A ([(h0, .inr (0, tk_ev e))]) zs.heap.size = A at hD ⊢
  have hA : ∀ q : Nat, zs.heap.size ≤ q → A q := fun q h => by rw [← hAe]; exact Or.inr h
  have hS : va_S A zs.heap zs.heap [] := va_S.rf
  have hP : va_P D vwCl ([(h0, .inr (0, tk_ev e))]) zs.heap := hP
  have hl := lv_entry ([.ref h0, .int kd]) (n := 2) (Nat.le_of_ble_eq_true rfl)
  rw [lg_entry_eq]
  generalize (lg_sl ([.ref h0, .int kd]) ++ List.replicate (2 - (lg_sl ([.ref h0, .int kd])).length) Slot.unset).toArray = ls at hl ⊢
  have hl : lv_has ls 2 [(0, .ref h0), (1, .int kd)] := hl
  refine lv_iload_n hx hb dX0_mean_0 rfl (lv_at hl 1 rfl) ?_
  refine lv_if_ne (tgt := 11) hx hb dX0_mean_1 (by decide) (fun c_1 => ?_) (fun c_1 => ?_)
  · skip
    refine lv_aload_n hx hb dX0_mean_11 rfl (lv_at hl 0 rfl) ?_
    refine va_get (D := D) (ci := 0) (v := .long (e 1)) (C := RX0) (T := TX0) (N := 8) hx hb hts izX0_mean_0 hown hK hP 0 rfl rfl 1 (by decide) (hm 2 (.fieldLink RX0 15 "TankFilter$Estimate" "flow" "J") rfl) (fun _ h9 => h9) rfl dX0_mean_12 ?_
    exact W.lret (v := e 1) hx hb hr (fun t ht hW => ⟨⟨e 1, (), rfl, (co_m1 c_1).symm, KB.of hAe (by rw [ht]; exact hP) hD⟩, hS.F ht⟩) hS.2.2 dX0_mean_15
  · skip
    refine lv_aload_n hx hb dX0_mean_4 rfl (lv_at hl 0 rfl) ?_
    refine va_get (D := D) (ci := 0) (v := .long (e 0)) (C := RX0) (T := TX0) (N := 8) hx hb hts izX0_mean_0 hown hK hP 0 rfl rfl 0 (by decide) (hm 1 (.fieldLink RX0 9 "TankFilter$Estimate" "level" "J") rfl) (fun _ h9 => h9) rfl dX0_mean_5 ?_
    refine lv_goto (tgt := 15) hx hb dX0_mean_8 (by decide) ?_
    exact W.lret (v := e 0) hx hb hr (fun t ht hW => ⟨⟨e 0, (), rfl, (co_m0 c_1).symm, KB.of hAe (by rw [ht]; exact hP) hD⟩, hS.F ht⟩) hS.2.2 dX0_mean_15

theorem izX0_move_0 : ∀ w ∈ wsX00, w ∈ wsX0_move := fun _ h => List.mem_cons_of_mem _ (List.mem_append_right _ h)
set_option maxHeartbeats 4000000 in
set_option maxRecDepth 100000 in
/-- move -/
theorem k_X0_move (l : Launch) (D : va_G) (cI cM cJ : ClassId) (sz : Nat) (h0 : Nat) (e : Nat → Int64) (x v a b c : Int64) : Met l yX0_move wsX0_move ({ frames := 1, cells := 0, slots := 0, locals := 21 }) (va_Pc [.ref h0, .long x, .long v, .long a, .long b, .long c] (KP D (tk_T cI cM cJ) ([(h0, .inr (0, tk_ev e))]) sz)) (va_Qi (fun (r : Int32) (u : Nat → Int64) => (tk_mok x v a b c = true ∧ r = 1 ∧ u = tk_mv e x v a b c) ∨ (tk_mok x v a b c = false ∧ r = 0 ∧ e = u)) (fun u t => KB D ([(h0, .inr (0, tk_ev e))]) ([(h0, .inr (0, tk_ev u))]) sz t) (va_A ([(h0, .inr (0, tk_ev e))]) sz)) 0 0 (va_A ([(h0, .inr (0, tk_ev e))]) sz) := by
  refine Met.ofW (cc := cX0_move) (maxL := 15) (ret := (some .boolean)) (by decide) rfl ?_
  intro zp ze zs zm zargs zbelow zmeth zc zs1 B hml hv
  obtain ⟨rfl, hsz, hP, hK, hD0, hN⟩ := hv
  have hx := B.exec
  have hb := B.bytes
  have hr := B.returns
  have hts := atoms_spec (ws := wsX0_move) B.pre
  have hm : ∀ (i : Nat) (w : Cond), wsX0_move[i]? = some w → w.before _ zs = true := fun i w h => hts w (List.mem_of_getElem? h)
  have hown : zs.vm.findClass RX0 = some zm.cls := findClass_of_methodNamed B.named
  have hlocks := B.notSynchronized
  subst hsz
  have hD := hD0.self (sz := zs.heap.size)
  generalize hAe : va_A ([(h0, .inr (0, tk_ev e))]) zs.heap.size = A at hD ⊢
  have hA : ∀ q : Nat, zs.heap.size ≤ q → A q := fun q h => by rw [← hAe]; exact Or.inr h
  have hS : va_S A zs.heap zs.heap [] := va_S.rf
  have hP : va_P D vwCl ([(h0, .inr (0, tk_ev e))]) zs.heap := hP
  have hl := lv_entry ([.ref h0, .long x, .long v, .long a, .long b, .long c]) (n := 15) (Nat.le_of_ble_eq_true rfl)
  rw [lg_entry_eq]
  generalize (lg_sl ([.ref h0, .long x, .long v, .long a, .long b, .long c]) ++ List.replicate (15 - (lg_sl ([.ref h0, .long x, .long v, .long a, .long b, .long c])).length) Slot.unset).toArray = ls at hl ⊢
  have hl : lv_has ls 15 [(0, .ref h0), (1, .long x), (3, .long v), (5, .long a), (7, .long b), (9, .long c)] := hl
  refine lv_lload hx hb dX0_move_0 (lv_at hl 3 rfl) ?_
  refine lv_lconst (v := 0) hx hb dX0_move_2 (by decide) ?_
  refine va_mmax_long hx hb (hml.trans hl.1.symm) hown (hm 1 (.methodLink RX0 62 Lib.MathLoose.max_long.x) rfl) (hm 2 (.static Lib.MathLoose.max_long.x) rfl) (hm 3 (.initialized "java/lang/Math") rfl) (hm 4 (.code Lib.MathLoose.max_long.x Lib.MathLoose.max_long.code 4 (some .long)) rfl) (Nat.le_of_ble_eq_true rfl) (Nat.le_of_ble_eq_true rfl) (Nat.le_of_ble_eq_true rfl) (Nat.le_of_ble_eq_true rfl) dX0_move_3 ?_
  refine lv_lstore (lv' := [(11, .long (if 0 < a then a else 0)), (0, .ref h0), (1, .long x), (3, .long v), (5, .long a), (7, .long b), (9, .long c)]) hx hb dX0_move_6 hl (by decide) rfl (fun ls hl => ?_)
  refine lv_lload hx hb dX0_move_8 (lv_at hl 6 rfl) ?_
  refine lv_lconst (v := 0) hx hb dX0_move_10 (by decide) ?_
  refine va_mmax_long hx hb (hml.trans hl.1.symm) hown (hm 1 (.methodLink RX0 62 Lib.MathLoose.max_long.x) rfl) (hm 2 (.static Lib.MathLoose.max_long.x) rfl) (hm 3 (.initialized "java/lang/Math") rfl) (hm 4 (.code Lib.MathLoose.max_long.x Lib.MathLoose.max_long.code 4 (some .long)) rfl) (Nat.le_of_ble_eq_true rfl) (Nat.le_of_ble_eq_true rfl) (Nat.le_of_ble_eq_true rfl) (Nat.le_of_ble_eq_true rfl) dX0_move_11 ?_
  refine lv_lstore (lv' := [(13, .long (if 0 < c then c else 0)), (11, .long (if 0 < a then a else 0)), (0, .ref h0), (1, .long x), (3, .long v), (5, .long a), (7, .long b), (9, .long c)]) hx hb dX0_move_14 hl (by decide) rfl (fun ls hl => ?_)
  refine lv_lload_n hx hb dX0_move_16 rfl (lv_at hl 3 rfl) ?_
  refine kc_i (wc := []) (wr := [(h0, .inr (0, tk_ev e))]) (va_runSN (As := [.long x]) (rest := []) ⟨hx, hb, hml, hown, hts⟩ (k_X3_isInLimit l D cI cM cJ _ x) ⟨va_cnB 1 hts gX0_move_X3_isInLimit_n54 rfl rfl rfl (hN.at 34 rfl) (hm 11 (.initialized RX3) rfl) (by decide +kernel) ⟨Nat.le_of_ble_eq_true rfl, Nat.le_of_ble_eq_true rfl⟩, (hm 10 (.static yX3_isInLimit) rfl), trivial⟩ (kp_preS (wc := []) (wr := [(h0, .inr (0, tk_ev e))]) hN hK hP hD) rfl rfl hl.1 rfl (lv_room (Nat.le_of_ble_eq_true rfl)) dX0_move_17 ⟨Nat.le_of_ble_eq_true rfl, Nat.le_of_ble_eq_true rfl⟩) hP hD hS hA (fun r_1 u_1 H locs p_1 hP hD hS => ?_)
  rcases p_1 with ⟨p_1, rfl⟩ | ⟨p_1, rfl⟩
  · have hP : va_P D vwCl ([(h0, .inr (0, tk_ev e))]) H := hP
    have hD : va_D A ([(h0, .inr (0, tk_ev e))]) := hD
    refine lv_if_eq (tgt := 54) hx hb dX0_move_20 (by decide) (fun c_2 => ?_) (fun c_2 => ?_)
    · exact absurd c_2 (by decide)
    · skip
      refine lv_lload_n hx hb dX0_move_23 rfl (lv_at hl 4 rfl) ?_
      refine kc_i (wc := []) (wr := [(h0, .inr (0, tk_ev e))]) (va_runSN (As := [.long v]) (rest := []) ⟨hx, hb, hml, hown, hts⟩ (k_X3_isInLimit l D cI cM cJ _ v) ⟨va_cnB 1 hts gX0_move_X3_isInLimit_n54 rfl rfl rfl (hN.at 34 rfl) (hm 11 (.initialized RX3) rfl) (by decide +kernel) ⟨Nat.le_of_ble_eq_true rfl, Nat.le_of_ble_eq_true rfl⟩, (hm 10 (.static yX3_isInLimit) rfl), trivial⟩ (kp_preS (wc := []) (wr := [(h0, .inr (0, tk_ev e))]) hN hK hP hD) rfl rfl hl.1 rfl (lv_room (Nat.le_of_ble_eq_true rfl)) dX0_move_24 ⟨Nat.le_of_ble_eq_true rfl, Nat.le_of_ble_eq_true rfl⟩) hP hD hS hA (fun r_3 u_3 H locs p_3 hP hD hS => ?_)
      rcases p_3 with ⟨p_3, rfl⟩ | ⟨p_3, rfl⟩
      · have hP : va_P D vwCl ([(h0, .inr (0, tk_ev e))]) H := hP
        have hD : va_D A ([(h0, .inr (0, tk_ev e))]) := hD
        refine lv_if_eq (tgt := 54) hx hb dX0_move_27 (by decide) (fun c_4 => ?_) (fun c_4 => ?_)
        · exact absurd c_4 (by decide)
        · skip
          refine lv_lload hx hb dX0_move_30 (lv_at hl 1 rfl) ?_
          refine kc_i (wc := []) (wr := [(h0, .inr (0, tk_ev e))]) (va_runSN (As := [.long (if 0 < a then a else 0)]) (rest := []) ⟨hx, hb, hml, hown, hts⟩ (k_X3_isInLimit l D cI cM cJ _ (if 0 < a then a else 0)) ⟨va_cnB 1 hts gX0_move_X3_isInLimit_n54 rfl rfl rfl (hN.at 34 rfl) (hm 11 (.initialized RX3) rfl) (by decide +kernel) ⟨Nat.le_of_ble_eq_true rfl, Nat.le_of_ble_eq_true rfl⟩, (hm 10 (.static yX3_isInLimit) rfl), trivial⟩ (kp_preS (wc := []) (wr := [(h0, .inr (0, tk_ev e))]) hN hK hP hD) rfl rfl hl.1 rfl (lv_room (Nat.le_of_ble_eq_true rfl)) dX0_move_32 ⟨Nat.le_of_ble_eq_true rfl, Nat.le_of_ble_eq_true rfl⟩) hP hD hS hA (fun r_5 u_5 H locs p_5 hP hD hS => ?_)
          rcases p_5 with ⟨p_5, rfl⟩ | ⟨p_5, rfl⟩
          · have hP : va_P D vwCl ([(h0, .inr (0, tk_ev e))]) H := hP
            have hD : va_D A ([(h0, .inr (0, tk_ev e))]) := hD
            refine lv_if_eq (tgt := 54) hx hb dX0_move_35 (by decide) (fun c_6 => ?_) (fun c_6 => ?_)
            · exact absurd c_6 (by decide)
            · skip
              refine lv_lload hx hb dX0_move_38 (lv_at hl 6 rfl) ?_
              refine kc_i (wc := []) (wr := [(h0, .inr (0, tk_ev e))]) (va_runSN (As := [.long b]) (rest := []) ⟨hx, hb, hml, hown, hts⟩ (k_X3_isInLimit l D cI cM cJ _ b) ⟨va_cnB 1 hts gX0_move_X3_isInLimit_n54 rfl rfl rfl (hN.at 34 rfl) (hm 11 (.initialized RX3) rfl) (by decide +kernel) ⟨Nat.le_of_ble_eq_true rfl, Nat.le_of_ble_eq_true rfl⟩, (hm 10 (.static yX3_isInLimit) rfl), trivial⟩ (kp_preS (wc := []) (wr := [(h0, .inr (0, tk_ev e))]) hN hK hP hD) rfl rfl hl.1 rfl (lv_room (Nat.le_of_ble_eq_true rfl)) dX0_move_40 ⟨Nat.le_of_ble_eq_true rfl, Nat.le_of_ble_eq_true rfl⟩) hP hD hS hA (fun r_7 u_7 H locs p_7 hP hD hS => ?_)
              rcases p_7 with ⟨p_7, rfl⟩ | ⟨p_7, rfl⟩
              · have hP : va_P D vwCl ([(h0, .inr (0, tk_ev e))]) H := hP
                have hD : va_D A ([(h0, .inr (0, tk_ev e))]) := hD
                refine lv_if_eq (tgt := 54) hx hb dX0_move_43 (by decide) (fun c_8 => ?_) (fun c_8 => ?_)
                · exact absurd c_8 (by decide)
                · skip
                  refine lv_lload hx hb dX0_move_46 (lv_at hl 0 rfl) ?_
                  refine kc_i (wc := []) (wr := [(h0, .inr (0, tk_ev e))]) (va_runSN (As := [.long (if 0 < c then c else 0)]) (rest := []) ⟨hx, hb, hml, hown, hts⟩ (k_X3_isInLimit l D cI cM cJ _ (if 0 < c then c else 0)) ⟨va_cnB 1 hts gX0_move_X3_isInLimit_n54 rfl rfl rfl (hN.at 34 rfl) (hm 11 (.initialized RX3) rfl) (by decide +kernel) ⟨Nat.le_of_ble_eq_true rfl, Nat.le_of_ble_eq_true rfl⟩, (hm 10 (.static yX3_isInLimit) rfl), trivial⟩ (kp_preS (wc := []) (wr := [(h0, .inr (0, tk_ev e))]) hN hK hP hD) rfl rfl hl.1 rfl (lv_room (Nat.le_of_ble_eq_true rfl)) dX0_move_48 ⟨Nat.le_of_ble_eq_true rfl, Nat.le_of_ble_eq_true rfl⟩) hP hD hS hA (fun r_9 u_9 H locs p_9 hP hD hS => ?_)
                  rcases p_9 with ⟨p_9, rfl⟩ | ⟨p_9, rfl⟩
                  · have hP : va_P D vwCl ([(h0, .inr (0, tk_ev e))]) H := hP
                    have hD : va_D A ([(h0, .inr (0, tk_ev e))]) := hD
                    refine lv_if_ne (tgt := 56) hx hb dX0_move_51 (by decide) (fun c_10 => ?_) (fun c_10 => ?_)
                    · skip
                      refine lv_aload_n hx hb dX0_move_56 rfl (lv_at hl 2 rfl) ?_
                      refine lv_lload_n hx hb dX0_move_57 rfl (lv_at hl 3 rfl) ?_
                      refine va_put (D := D) (ci := 0) (v := .long x) (ty := .long) (C := RX0) (T := TX0) (N := 8) hx hb hts izX0_move_0 tyX0 tyX0_ok nmX0 hown hK hP hD hS 0 rfl rfl 0 (by decide) (hm 5 (.fieldLink RX0 9 "TankFilter$Estimate" "level" "J") rfl) (fun _ h9 => h9) rfl (by decide +kernel) rfl rfl (Nat.le_of_ble_eq_true rfl) dX0_move_58 (fun H locs hP hD hS => ?_)
                      have hP : va_P D vwCl ([(h0, .inr (0, [.long x, .long (e 1), .long (e 2), .long (e 3), .long (e 4), .long (e 5), .long (e 6), .long (e 7)]))]) H := hP
                      have hD : va_D A ([(h0, .inr (0, [.long x, .long (e 1), .long (e 2), .long (e 3), .long (e 4), .long (e 5), .long (e 6), .long (e 7)]))]) := hD
                      refine lv_aload_n hx hb dX0_move_61 rfl (lv_at hl 2 rfl) ?_
                      refine lv_lload_n hx hb dX0_move_62 rfl (lv_at hl 4 rfl) ?_
                      refine va_put (D := D) (ci := 0) (v := .long v) (ty := .long) (C := RX0) (T := TX0) (N := 8) hx hb hts izX0_move_0 tyX0 tyX0_ok nmX0 hown hK hP hD hS 0 rfl rfl 1 (by decide) (hm 6 (.fieldLink RX0 15 "TankFilter$Estimate" "flow" "J") rfl) (fun _ h9 => h9) rfl (by decide +kernel) rfl rfl (Nat.le_of_ble_eq_true rfl) dX0_move_63 (fun H locs hP hD hS => ?_)
                      have hP : va_P D vwCl ([(h0, .inr (0, [.long x, .long v, .long (e 2), .long (e 3), .long (e 4), .long (e 5), .long (e 6), .long (e 7)]))]) H := hP
                      have hD : va_D A ([(h0, .inr (0, [.long x, .long v, .long (e 2), .long (e 3), .long (e 4), .long (e 5), .long (e 6), .long (e 7)]))]) := hD
                      refine lv_aload_n hx hb dX0_move_66 rfl (lv_at hl 2 rfl) ?_
                      refine lv_lload hx hb dX0_move_67 (lv_at hl 1 rfl) ?_
                      refine va_put (D := D) (ci := 0) (v := .long (if 0 < a then a else 0)) (ty := .long) (C := RX0) (T := TX0) (N := 8) hx hb hts izX0_move_0 tyX0 tyX0_ok nmX0 hown hK hP hD hS 0 rfl rfl 2 (by decide) (hm 7 (.fieldLink RX0 20 "TankFilter$Estimate" "levelVariance" "J") rfl) (fun _ h9 => h9) rfl (by decide +kernel) rfl rfl (Nat.le_of_ble_eq_true rfl) dX0_move_69 (fun H locs hP hD hS => ?_)
                      have hP : va_P D vwCl ([(h0, .inr (0, [.long x, .long v, .long (if 0 < a then a else 0), .long (e 3), .long (e 4), .long (e 5), .long (e 6), .long (e 7)]))]) H := hP
                      have hD : va_D A ([(h0, .inr (0, [.long x, .long v, .long (if 0 < a then a else 0), .long (e 3), .long (e 4), .long (e 5), .long (e 6), .long (e 7)]))]) := hD
                      refine lv_aload_n hx hb dX0_move_72 rfl (lv_at hl 2 rfl) ?_
                      refine lv_lload hx hb dX0_move_73 (lv_at hl 6 rfl) ?_
                      refine va_put (D := D) (ci := 0) (v := .long b) (ty := .long) (C := RX0) (T := TX0) (N := 8) hx hb hts izX0_move_0 tyX0 tyX0_ok nmX0 hown hK hP hD hS 0 rfl rfl 3 (by decide) (hm 8 (.fieldLink RX0 23 "TankFilter$Estimate" "covariance" "J") rfl) (fun _ h9 => h9) rfl (by decide +kernel) rfl rfl (Nat.le_of_ble_eq_true rfl) dX0_move_75 (fun H locs hP hD hS => ?_)
                      have hP : va_P D vwCl ([(h0, .inr (0, [.long x, .long v, .long (if 0 < a then a else 0), .long b, .long (e 4), .long (e 5), .long (e 6), .long (e 7)]))]) H := hP
                      have hD : va_D A ([(h0, .inr (0, [.long x, .long v, .long (if 0 < a then a else 0), .long b, .long (e 4), .long (e 5), .long (e 6), .long (e 7)]))]) := hD
                      refine lv_aload_n hx hb dX0_move_78 rfl (lv_at hl 2 rfl) ?_
                      refine lv_lload hx hb dX0_move_79 (lv_at hl 0 rfl) ?_
                      refine va_put (D := D) (ci := 0) (v := .long (if 0 < c then c else 0)) (ty := .long) (C := RX0) (T := TX0) (N := 8) hx hb hts izX0_move_0 tyX0 tyX0_ok nmX0 hown hK hP hD hS 0 rfl rfl 4 (by decide) (hm 9 (.fieldLink RX0 26 "TankFilter$Estimate" "flowVariance" "J") rfl) (fun _ h9 => h9) rfl (by decide +kernel) rfl rfl (Nat.le_of_ble_eq_true rfl) dX0_move_81 (fun H locs hP hD hS => ?_)
                      have hP : va_P D vwCl ([(h0, .inr (0, [.long x, .long v, .long (if 0 < a then a else 0), .long b, .long (if 0 < c then c else 0), .long (e 5), .long (e 6), .long (e 7)]))]) H := hP
                      have hD : va_D A ([(h0, .inr (0, [.long x, .long v, .long (if 0 < a then a else 0), .long b, .long (if 0 < c then c else 0), .long (e 5), .long (e 6), .long (e 7)]))]) := hD
                      refine lv_iconst (v := 1) hx hb dX0_move_84 (by decide) ?_
                      exact W.zret (v := 1) hx hb hr rfl (fun t ht hW => ⟨⟨1, tk_mv e x v a b c, rfl, Or.inl ⟨by rw [tk_mok, tk_pos, tk_pos, p_1, p_3, p_5, p_7, p_9]; rfl, rfl, rfl⟩, KB.of hAe (by rw [ht]; exact hP) hD⟩, hS.F ht⟩) hS.2.2 dX0_move_85
                    · exact absurd c_10 (by decide)
                  · have hP : va_P D vwCl ([(h0, .inr (0, tk_ev e))]) H := hP
                    have hD : va_D A ([(h0, .inr (0, tk_ev e))]) := hD
                    refine lv_if_ne (tgt := 56) hx hb dX0_move_51 (by decide) (fun c_11 => ?_) (fun c_11 => ?_)
                    · exact absurd c_11 (by decide)
                    · skip
                      refine lv_iconst (v := 0) hx hb dX0_move_54 (by decide) ?_
                      exact W.zret (v := 0) hx hb hr rfl (fun t ht hW => ⟨⟨0, e, rfl, Or.inr ⟨by rw [tk_mok, tk_pos, tk_pos, p_1, p_3, p_5, p_7, p_9]; rfl, rfl, rfl⟩, KB.of hAe (by rw [ht]; exact hP) hD⟩, hS.F ht⟩) hS.2.2 dX0_move_55
              · have hP : va_P D vwCl ([(h0, .inr (0, tk_ev e))]) H := hP
                have hD : va_D A ([(h0, .inr (0, tk_ev e))]) := hD
                refine lv_if_eq (tgt := 54) hx hb dX0_move_43 (by decide) (fun c_12 => ?_) (fun c_12 => ?_)
                · skip
                  refine lv_iconst (v := 0) hx hb dX0_move_54 (by decide) ?_
                  exact W.zret (v := 0) hx hb hr rfl (fun t ht hW => ⟨⟨0, e, rfl, Or.inr ⟨by rw [tk_mok, tk_pos, tk_pos, p_1, p_3, p_5, p_7]; rfl, rfl, rfl⟩, KB.of hAe (by rw [ht]; exact hP) hD⟩, hS.F ht⟩) hS.2.2 dX0_move_55
                · exact absurd c_12 (by decide)
          · have hP : va_P D vwCl ([(h0, .inr (0, tk_ev e))]) H := hP
            have hD : va_D A ([(h0, .inr (0, tk_ev e))]) := hD
            refine lv_if_eq (tgt := 54) hx hb dX0_move_35 (by decide) (fun c_13 => ?_) (fun c_13 => ?_)
            · skip
              refine lv_iconst (v := 0) hx hb dX0_move_54 (by decide) ?_
              exact W.zret (v := 0) hx hb hr rfl (fun t ht hW => ⟨⟨0, e, rfl, Or.inr ⟨by rw [tk_mok, tk_pos, tk_pos, p_1, p_3, p_5]; rfl, rfl, rfl⟩, KB.of hAe (by rw [ht]; exact hP) hD⟩, hS.F ht⟩) hS.2.2 dX0_move_55
            · exact absurd c_13 (by decide)
      · have hP : va_P D vwCl ([(h0, .inr (0, tk_ev e))]) H := hP
        have hD : va_D A ([(h0, .inr (0, tk_ev e))]) := hD
        refine lv_if_eq (tgt := 54) hx hb dX0_move_27 (by decide) (fun c_14 => ?_) (fun c_14 => ?_)
        · skip
          refine lv_iconst (v := 0) hx hb dX0_move_54 (by decide) ?_
          exact W.zret (v := 0) hx hb hr rfl (fun t ht hW => ⟨⟨0, e, rfl, Or.inr ⟨by rw [tk_mok, tk_pos, tk_pos, p_1, p_3]; rfl, rfl, rfl⟩, KB.of hAe (by rw [ht]; exact hP) hD⟩, hS.F ht⟩) hS.2.2 dX0_move_55
        · exact absurd c_14 (by decide)
  · have hP : va_P D vwCl ([(h0, .inr (0, tk_ev e))]) H := hP
    have hD : va_D A ([(h0, .inr (0, tk_ev e))]) := hD
    refine lv_if_eq (tgt := 54) hx hb dX0_move_20 (by decide) (fun c_15 => ?_) (fun c_15 => ?_)
    · skip
      refine lv_iconst (v := 0) hx hb dX0_move_54 (by decide) ?_
      exact W.zret (v := 0) hx hb hr rfl (fun t ht hW => ⟨⟨0, e, rfl, Or.inr ⟨by rw [tk_mok, tk_pos, tk_pos, p_1]; rfl, rfl, rfl⟩, KB.of hAe (by rw [ht]; exact hP) hD⟩, hS.F ht⟩) hS.2.2 dX0_move_55
    · exact absurd c_15 (by decide)

theorem izX0_advance_0 : ∀ w ∈ wsX00, w ∈ wsX0_advance := fun _ h => List.mem_cons_of_mem _ (List.mem_append_right _ h)
set_option maxHeartbeats 4000000 in
set_option maxRecDepth 100000 in
/-- advance -/
theorem k_X0_advance (l : Launch) (D : va_G) (cI cM cJ : ClassId) (sz : Nat) (h0 : Nat) (e : Nat → Int64) (n q w : Int64) : Met l yX0_advance wsX0_advance ({ frames := 2, cells := 0, slots := 0, locals := 55 }) (va_Pc [.ref h0, .long n, .long q, .long w] (KP D (tk_T cI cM cJ) ([(h0, .inr (0, tk_ev e))]) sz)) (va_Qi (fun (r : Int32) (u : Nat → Int64) => (ad_ok e n q w = true ∧ r = 1 ∧ u = ad_e e n q w) ∨ (ad_ok e n q w = false ∧ r = 0 ∧ e = u)) (fun u t => KB D ([(h0, .inr (0, tk_ev e))]) ([(h0, .inr (0, tk_ev u))]) sz t) (va_A ([(h0, .inr (0, tk_ev e))]) sz)) 0 0 (va_A ([(h0, .inr (0, tk_ev e))]) sz) := by
  refine Met.ofW (cc := cX0_advance) (maxL := 7) (ret := (some .boolean)) (by decide) rfl ?_
  intro zp ze zs zm zargs zbelow zmeth zc zs1 B hml hv
  obtain ⟨rfl, hsz, hP, hK, hD0, hN⟩ := hv
  have hx := B.exec
  have hb := B.bytes
  have hr := B.returns
  have hts := atoms_spec (ws := wsX0_advance) B.pre
  have hm : ∀ (i : Nat) (w : Cond), wsX0_advance[i]? = some w → w.before _ zs = true := fun i w h => hts w (List.mem_of_getElem? h)
  have hown : zs.vm.findClass RX0 = some zm.cls := findClass_of_methodNamed B.named
  have hlocks := B.notSynchronized
  subst hsz
  have hD := hD0.self (sz := zs.heap.size)
  generalize hAe : va_A ([(h0, .inr (0, tk_ev e))]) zs.heap.size = A at hD ⊢
  have hA : ∀ q : Nat, zs.heap.size ≤ q → A q := fun q h => by rw [← hAe]; exact Or.inr h
  have hS : va_S A zs.heap zs.heap [] := va_S.rf
  have hP : va_P D vwCl ([(h0, .inr (0, tk_ev e))]) zs.heap := hP
  have hl := lv_entry ([.ref h0, .long n, .long q, .long w]) (n := 7) (Nat.le_of_ble_eq_true rfl)
  rw [lg_entry_eq]
  generalize (lg_sl ([.ref h0, .long n, .long q, .long w]) ++ List.replicate (7 - (lg_sl ([.ref h0, .long n, .long q, .long w])).length) Slot.unset).toArray = ls at hl ⊢
  have hl : lv_has ls 7 [(0, .ref h0), (1, .long n), (3, .long q), (5, .long w)] := hl
  refine lv_aload_n hx hb dX0_advance_0 rfl (lv_at hl 0 rfl) ?_
  refine lv_aload_n hx hb dX0_advance_1 rfl (lv_at hl 0 rfl) ?_
  refine va_get (D := D) (ci := 0) (v := .long (e 0)) (C := RX0) (T := TX0) (N := 8) hx hb hts izX0_advance_0 hown hK hP 0 rfl rfl 0 (by decide) (hm 1 (.fieldLink RX0 9 "TankFilter$Estimate" "level" "J") rfl) (fun _ h9 => h9) rfl dX0_advance_2 ?_
  refine lv_aload_n hx hb dX0_advance_5 rfl (lv_at hl 0 rfl) ?_
  refine va_get (D := D) (ci := 0) (v := .long (e 1)) (C := RX0) (T := TX0) (N := 8) hx hb hts izX0_advance_0 hown hK hP 0 rfl rfl 1 (by decide) (hm 2 (.fieldLink RX0 15 "TankFilter$Estimate" "flow" "J") rfl) (fun _ h9 => h9) rfl dX0_advance_6 ?_
  refine lv_ladd hx hb dX0_advance_9 ?_
  refine lv_lload_n hx hb dX0_advance_10 rfl (lv_at hl 1 rfl) ?_
  refine lv_ladd hx hb dX0_advance_11 ?_
  refine lv_aload_n hx hb dX0_advance_12 rfl (lv_at hl 0 rfl) ?_
  refine va_get (D := D) (ci := 0) (v := .long (e 1)) (C := RX0) (T := TX0) (N := 8) hx hb hts izX0_advance_0 hown hK hP 0 rfl rfl 1 (by decide) (hm 2 (.fieldLink RX0 15 "TankFilter$Estimate" "flow" "J") rfl) (fun _ h9 => h9) rfl dX0_advance_13 ?_
  refine lv_aload_n hx hb dX0_advance_16 rfl (lv_at hl 0 rfl) ?_
  refine va_get (D := D) (ci := 0) (v := .long (e 2)) (C := RX0) (T := TX0) (N := 8) hx hb hts izX0_advance_0 hown hK hP 0 rfl rfl 2 (by decide) (hm 3 (.fieldLink RX0 20 "TankFilter$Estimate" "levelVariance" "J") rfl) (fun _ h9 => h9) rfl dX0_advance_17 ?_
  refine lv_ldc2 (v := 2) hx hb hown (hm 4 (.constantLong RX0 40 (2)) rfl) dX0_advance_20 ?_
  refine lv_aload_n hx hb dX0_advance_23 rfl (lv_at hl 0 rfl) ?_
  refine va_get (D := D) (ci := 0) (v := .long (e 3)) (C := RX0) (T := TX0) (N := 8) hx hb hts izX0_advance_0 hown hK hP 0 rfl rfl 3 (by decide) (hm 5 (.fieldLink RX0 23 "TankFilter$Estimate" "covariance" "J") rfl) (fun _ h9 => h9) rfl dX0_advance_24 ?_
  refine lv_lmul hx hb dX0_advance_27 ?_
  refine lv_ladd hx hb dX0_advance_28 ?_
  refine lv_aload_n hx hb dX0_advance_29 rfl (lv_at hl 0 rfl) ?_
  refine va_get (D := D) (ci := 0) (v := .long (e 4)) (C := RX0) (T := TX0) (N := 8) hx hb hts izX0_advance_0 hown hK hP 0 rfl rfl 4 (by decide) (hm 6 (.fieldLink RX0 26 "TankFilter$Estimate" "flowVariance" "J") rfl) (fun _ h9 => h9) rfl dX0_advance_30 ?_
  refine lv_ladd hx hb dX0_advance_33 ?_
  refine lv_lload_n hx hb dX0_advance_34 rfl (lv_at hl 2 rfl) ?_
  refine lv_ladd hx hb dX0_advance_35 ?_
  refine lv_aload_n hx hb dX0_advance_36 rfl (lv_at hl 0 rfl) ?_
  refine va_get (D := D) (ci := 0) (v := .long (e 3)) (C := RX0) (T := TX0) (N := 8) hx hb hts izX0_advance_0 hown hK hP 0 rfl rfl 3 (by decide) (hm 5 (.fieldLink RX0 23 "TankFilter$Estimate" "covariance" "J") rfl) (fun _ h9 => h9) rfl dX0_advance_37 ?_
  refine lv_aload_n hx hb dX0_advance_40 rfl (lv_at hl 0 rfl) ?_
  refine va_get (D := D) (ci := 0) (v := .long (e 4)) (C := RX0) (T := TX0) (N := 8) hx hb hts izX0_advance_0 hown hK hP 0 rfl rfl 4 (by decide) (hm 6 (.fieldLink RX0 26 "TankFilter$Estimate" "flowVariance" "J") rfl) (fun _ h9 => h9) rfl dX0_advance_41 ?_
  refine lv_ladd hx hb dX0_advance_44 ?_
  refine lv_aload_n hx hb dX0_advance_45 rfl (lv_at hl 0 rfl) ?_
  refine va_get (D := D) (ci := 0) (v := .long (e 4)) (C := RX0) (T := TX0) (N := 8) hx hb hts izX0_advance_0 hown hK hP 0 rfl rfl 4 (by decide) (hm 6 (.fieldLink RX0 26 "TankFilter$Estimate" "flowVariance" "J") rfl) (fun _ h9 => h9) rfl dX0_advance_46 ?_
  refine lv_lload hx hb dX0_advance_49 (lv_at hl 3 rfl) ?_
  refine lv_ladd hx hb dX0_advance_51 ?_
  refine kc_i (wc := [(h0, .inr (0, tk_ev e))]) (wr := []) (va_runV (As := [.long (((e 0) + (e 1)) + n), .long (e 1), .long ((((e 2) + (2 * (e 3))) + (e 4)) + q), .long ((e 3) + (e 4)), .long ((e 4) + w)]) (rest := []) ⟨hx, hb, hml, hown, hts⟩ (k_X0_move l D cI cM cJ _ h0 e (((e 0) + (e 1)) + n) (e 1) ((((e 2) + (2 * (e 3))) + (e 4)) + q) ((e 3) + (e 4)) ((e 4) + w)) (cwV 5 hts gX0_advance_X0_move rfl rfl rfl (by decide +kernel) ⟨Nat.le_of_ble_eq_true rfl, Nat.le_of_ble_eq_true rfl⟩) (kp_preV (q := (RX0, TX0, 8)) (wc := [(h0, .inr (0, tk_ev e))]) (wr := []) hN hK hP hD 0 rfl rfl) rfl rfl hl.1 rfl (lv_room (Nat.le_of_ble_eq_true rfl)) dX0_advance_52 ⟨Nat.le_of_ble_eq_true rfl, Nat.le_of_ble_eq_true rfl⟩) hP hD hS hA (fun r_1 u_1 H locs p_1 hP hD hS => ?_)
  rcases p_1 with ⟨p_1, rfl, rfl⟩ | ⟨p_1, rfl, rfl⟩
  · have hP : va_P D vwCl ([(h0, .inr (0, tk_ev (tk_mv e (((e 0) + (e 1)) + n) (e 1) ((((e 2) + (2 * (e 3))) + (e 4)) + q) ((e 3) + (e 4)) ((e 4) + w))))]) H := hP
    have hD : va_D A ([(h0, .inr (0, tk_ev (tk_mv e (((e 0) + (e 1)) + n) (e 1) ((((e 2) + (2 * (e 3))) + (e 4)) + q) ((e 3) + (e 4)) ((e 4) + w))))]) := hD
    exact W.zret (v := 1) hx hb hr rfl (fun t ht hW => ⟨⟨1, ad_e e n q w, rfl, Or.inl ⟨p_1, rfl, rfl⟩, KB.of hAe (by rw [ht]; exact hP) hD⟩, hS.F ht⟩) hS.2.2 dX0_advance_55
  · have hP : va_P D vwCl ([(h0, .inr (0, tk_ev e))]) H := hP
    have hD : va_D A ([(h0, .inr (0, tk_ev e))]) := hD
    exact W.zret (v := 0) hx hb hr rfl (fun t ht hW => ⟨⟨0, e, rfl, Or.inr ⟨p_1, rfl, rfl⟩, KB.of hAe (by rw [ht]; exact hP) hD⟩, hS.F ht⟩) hS.2.2 dX0_advance_55

theorem izX0_copyFrom_0 : ∀ w ∈ wsX00, w ∈ wsX0_copyFrom := fun _ h => List.mem_cons_of_mem _ (List.mem_append_right _ h)
set_option maxHeartbeats 4000000 in
set_option maxRecDepth 100000 in
/-- copyFrom -/
theorem k_X0_copyFrom (l : Launch) (D : va_G) (cI cM cJ : ClassId) (sz : Nat) (h0 h1 : Nat) (e f : Nat → Int64) : Met l yX0_copyFrom wsX0_copyFrom ({ frames := 0, cells := 0, slots := 0, locals := 0 }) (va_Pc [.ref h0, .ref h1] (KP D (tk_T cI cM cJ) ([(h0, .inr (0, tk_ev e)), (h1, .inr (0, tk_ev f))]) sz)) (va_Qv (fun (u : Unit) => True) (fun u t => KB D ([(h0, .inr (0, tk_ev e)), (h1, .inr (0, tk_ev f))]) ([(h0, .inr (0, tk_ev f)), (h1, .inr (0, tk_ev f))]) sz t) (va_A ([(h0, .inr (0, tk_ev e)), (h1, .inr (0, tk_ev f))]) sz)) 0 0 (va_A ([(h0, .inr (0, tk_ev e)), (h1, .inr (0, tk_ev f))]) sz) := by
  refine Met.ofW (cc := cX0_copyFrom) (maxL := 2) (ret := none) (by decide) rfl ?_
  intro zp ze zs zm zargs zbelow zmeth zc zs1 B hml hv
  obtain ⟨rfl, hsz, hP, hK, hD0, hN⟩ := hv
  have hx := B.exec
  have hb := B.bytes
  have hr := B.returns
  have hts := atoms_spec (ws := wsX0_copyFrom) B.pre
  have hm : ∀ (i : Nat) (w : Cond), wsX0_copyFrom[i]? = some w → w.before _ zs = true := fun i w h => hts w (List.mem_of_getElem? h)
  have hown : zs.vm.findClass RX0 = some zm.cls := findClass_of_methodNamed B.named
  have hlocks := B.notSynchronized
  subst hsz
  have hD := hD0.self (sz := zs.heap.size)
  generalize hAe : va_A ([(h0, .inr (0, tk_ev e)), (h1, .inr (0, tk_ev f))]) zs.heap.size = A at hD ⊢
  have hA : ∀ q : Nat, zs.heap.size ≤ q → A q := fun q h => by rw [← hAe]; exact Or.inr h
  have hS : va_S A zs.heap zs.heap [] := va_S.rf
  have hP : va_P D vwCl ([(h0, .inr (0, tk_ev e)), (h1, .inr (0, tk_ev f))]) zs.heap := hP
  have hl := lv_entry ([.ref h0, .ref h1]) (n := 2) (Nat.le_of_ble_eq_true rfl)
  rw [lg_entry_eq]
  generalize (lg_sl ([.ref h0, .ref h1]) ++ List.replicate (2 - (lg_sl ([.ref h0, .ref h1])).length) Slot.unset).toArray = ls at hl ⊢
  have hl : lv_has ls 2 [(0, .ref h0), (1, .ref h1)] := hl
  refine lv_aload_n hx hb dX0_copyFrom_0 rfl (lv_at hl 0 rfl) ?_
  refine lv_aload_n hx hb dX0_copyFrom_1 rfl (lv_at hl 1 rfl) ?_
  refine va_get (D := D) (ci := 0) (v := .long (f 0)) (C := RX0) (T := TX0) (N := 8) hx hb hts izX0_copyFrom_0 hown hK hP 1 rfl rfl 0 (by decide) (hm 1 (.fieldLink RX0 9 "TankFilter$Estimate" "level" "J") rfl) (fun _ h9 => h9) rfl dX0_copyFrom_2 ?_
  refine va_put (D := D) (ci := 0) (v := .long (f 0)) (ty := .long) (C := RX0) (T := TX0) (N := 8) hx hb hts izX0_copyFrom_0 tyX0 tyX0_ok nmX0 hown hK hP hD hS 0 rfl rfl 0 (by decide) (hm 1 (.fieldLink RX0 9 "TankFilter$Estimate" "level" "J") rfl) (fun _ h9 => h9) rfl (by decide +kernel) rfl rfl (Nat.le_of_ble_eq_true rfl) dX0_copyFrom_5 (fun H locs hP hD hS => ?_)
  have hP : va_P D vwCl ([(h0, .inr (0, [.long (f 0), .long (e 1), .long (e 2), .long (e 3), .long (e 4), .long (e 5), .long (e 6), .long (e 7)])), (h1, .inr (0, tk_ev f))]) H := hP
  have hD : va_D A ([(h0, .inr (0, [.long (f 0), .long (e 1), .long (e 2), .long (e 3), .long (e 4), .long (e 5), .long (e 6), .long (e 7)])), (h1, .inr (0, tk_ev f))]) := hD
  refine lv_aload_n hx hb dX0_copyFrom_8 rfl (lv_at hl 0 rfl) ?_
  refine lv_aload_n hx hb dX0_copyFrom_9 rfl (lv_at hl 1 rfl) ?_
  refine va_get (D := D) (ci := 0) (v := .long (f 1)) (C := RX0) (T := TX0) (N := 8) hx hb hts izX0_copyFrom_0 hown hK hP 1 rfl rfl 1 (by decide) (hm 2 (.fieldLink RX0 15 "TankFilter$Estimate" "flow" "J") rfl) (fun _ h9 => h9) rfl dX0_copyFrom_10 ?_
  refine va_put (D := D) (ci := 0) (v := .long (f 1)) (ty := .long) (C := RX0) (T := TX0) (N := 8) hx hb hts izX0_copyFrom_0 tyX0 tyX0_ok nmX0 hown hK hP hD hS 0 rfl rfl 1 (by decide) (hm 2 (.fieldLink RX0 15 "TankFilter$Estimate" "flow" "J") rfl) (fun _ h9 => h9) rfl (by decide +kernel) rfl rfl (Nat.le_of_ble_eq_true rfl) dX0_copyFrom_13 (fun H locs hP hD hS => ?_)
  have hP : va_P D vwCl ([(h0, .inr (0, [.long (f 0), .long (f 1), .long (e 2), .long (e 3), .long (e 4), .long (e 5), .long (e 6), .long (e 7)])), (h1, .inr (0, tk_ev f))]) H := hP
  have hD : va_D A ([(h0, .inr (0, [.long (f 0), .long (f 1), .long (e 2), .long (e 3), .long (e 4), .long (e 5), .long (e 6), .long (e 7)])), (h1, .inr (0, tk_ev f))]) := hD
  refine lv_aload_n hx hb dX0_copyFrom_16 rfl (lv_at hl 0 rfl) ?_
  refine lv_aload_n hx hb dX0_copyFrom_17 rfl (lv_at hl 1 rfl) ?_
  refine va_get (D := D) (ci := 0) (v := .long (f 2)) (C := RX0) (T := TX0) (N := 8) hx hb hts izX0_copyFrom_0 hown hK hP 1 rfl rfl 2 (by decide) (hm 3 (.fieldLink RX0 20 "TankFilter$Estimate" "levelVariance" "J") rfl) (fun _ h9 => h9) rfl dX0_copyFrom_18 ?_
  refine va_put (D := D) (ci := 0) (v := .long (f 2)) (ty := .long) (C := RX0) (T := TX0) (N := 8) hx hb hts izX0_copyFrom_0 tyX0 tyX0_ok nmX0 hown hK hP hD hS 0 rfl rfl 2 (by decide) (hm 3 (.fieldLink RX0 20 "TankFilter$Estimate" "levelVariance" "J") rfl) (fun _ h9 => h9) rfl (by decide +kernel) rfl rfl (Nat.le_of_ble_eq_true rfl) dX0_copyFrom_21 (fun H locs hP hD hS => ?_)
  have hP : va_P D vwCl ([(h0, .inr (0, [.long (f 0), .long (f 1), .long (f 2), .long (e 3), .long (e 4), .long (e 5), .long (e 6), .long (e 7)])), (h1, .inr (0, tk_ev f))]) H := hP
  have hD : va_D A ([(h0, .inr (0, [.long (f 0), .long (f 1), .long (f 2), .long (e 3), .long (e 4), .long (e 5), .long (e 6), .long (e 7)])), (h1, .inr (0, tk_ev f))]) := hD
  refine lv_aload_n hx hb dX0_copyFrom_24 rfl (lv_at hl 0 rfl) ?_
  refine lv_aload_n hx hb dX0_copyFrom_25 rfl (lv_at hl 1 rfl) ?_
  refine va_get (D := D) (ci := 0) (v := .long (f 3)) (C := RX0) (T := TX0) (N := 8) hx hb hts izX0_copyFrom_0 hown hK hP 1 rfl rfl 3 (by decide) (hm 4 (.fieldLink RX0 23 "TankFilter$Estimate" "covariance" "J") rfl) (fun _ h9 => h9) rfl dX0_copyFrom_26 ?_
  refine va_put (D := D) (ci := 0) (v := .long (f 3)) (ty := .long) (C := RX0) (T := TX0) (N := 8) hx hb hts izX0_copyFrom_0 tyX0 tyX0_ok nmX0 hown hK hP hD hS 0 rfl rfl 3 (by decide) (hm 4 (.fieldLink RX0 23 "TankFilter$Estimate" "covariance" "J") rfl) (fun _ h9 => h9) rfl (by decide +kernel) rfl rfl (Nat.le_of_ble_eq_true rfl) dX0_copyFrom_29 (fun H locs hP hD hS => ?_)
  have hP : va_P D vwCl ([(h0, .inr (0, [.long (f 0), .long (f 1), .long (f 2), .long (f 3), .long (e 4), .long (e 5), .long (e 6), .long (e 7)])), (h1, .inr (0, tk_ev f))]) H := hP
  have hD : va_D A ([(h0, .inr (0, [.long (f 0), .long (f 1), .long (f 2), .long (f 3), .long (e 4), .long (e 5), .long (e 6), .long (e 7)])), (h1, .inr (0, tk_ev f))]) := hD
  refine lv_aload_n hx hb dX0_copyFrom_32 rfl (lv_at hl 0 rfl) ?_
  refine lv_aload_n hx hb dX0_copyFrom_33 rfl (lv_at hl 1 rfl) ?_
  refine va_get (D := D) (ci := 0) (v := .long (f 4)) (C := RX0) (T := TX0) (N := 8) hx hb hts izX0_copyFrom_0 hown hK hP 1 rfl rfl 4 (by decide) (hm 5 (.fieldLink RX0 26 "TankFilter$Estimate" "flowVariance" "J") rfl) (fun _ h9 => h9) rfl dX0_copyFrom_34 ?_
  refine va_put (D := D) (ci := 0) (v := .long (f 4)) (ty := .long) (C := RX0) (T := TX0) (N := 8) hx hb hts izX0_copyFrom_0 tyX0 tyX0_ok nmX0 hown hK hP hD hS 0 rfl rfl 4 (by decide) (hm 5 (.fieldLink RX0 26 "TankFilter$Estimate" "flowVariance" "J") rfl) (fun _ h9 => h9) rfl (by decide +kernel) rfl rfl (Nat.le_of_ble_eq_true rfl) dX0_copyFrom_37 (fun H locs hP hD hS => ?_)
  have hP : va_P D vwCl ([(h0, .inr (0, [.long (f 0), .long (f 1), .long (f 2), .long (f 3), .long (f 4), .long (e 5), .long (e 6), .long (e 7)])), (h1, .inr (0, tk_ev f))]) H := hP
  have hD : va_D A ([(h0, .inr (0, [.long (f 0), .long (f 1), .long (f 2), .long (f 3), .long (f 4), .long (e 5), .long (e 6), .long (e 7)])), (h1, .inr (0, tk_ev f))]) := hD
  refine lv_aload_n hx hb dX0_copyFrom_40 rfl (lv_at hl 0 rfl) ?_
  refine lv_aload_n hx hb dX0_copyFrom_41 rfl (lv_at hl 1 rfl) ?_
  refine va_get (D := D) (ci := 0) (v := .long (f 5)) (C := RX0) (T := TX0) (N := 8) hx hb hts izX0_copyFrom_0 hown hK hP 1 rfl rfl 5 (by decide) (hm 6 (.fieldLink RX0 31 "TankFilter$Estimate" "innovation" "J") rfl) (fun _ h9 => h9) rfl dX0_copyFrom_42 ?_
  refine va_put (D := D) (ci := 0) (v := .long (f 5)) (ty := .long) (C := RX0) (T := TX0) (N := 8) hx hb hts izX0_copyFrom_0 tyX0 tyX0_ok nmX0 hown hK hP hD hS 0 rfl rfl 5 (by decide) (hm 6 (.fieldLink RX0 31 "TankFilter$Estimate" "innovation" "J") rfl) (fun _ h9 => h9) rfl (by decide +kernel) rfl rfl (Nat.le_of_ble_eq_true rfl) dX0_copyFrom_45 (fun H locs hP hD hS => ?_)
  have hP : va_P D vwCl ([(h0, .inr (0, [.long (f 0), .long (f 1), .long (f 2), .long (f 3), .long (f 4), .long (f 5), .long (e 6), .long (e 7)])), (h1, .inr (0, tk_ev f))]) H := hP
  have hD : va_D A ([(h0, .inr (0, [.long (f 0), .long (f 1), .long (f 2), .long (f 3), .long (f 4), .long (f 5), .long (e 6), .long (e 7)])), (h1, .inr (0, tk_ev f))]) := hD
  refine lv_aload_n hx hb dX0_copyFrom_48 rfl (lv_at hl 0 rfl) ?_
  refine lv_aload_n hx hb dX0_copyFrom_49 rfl (lv_at hl 1 rfl) ?_
  refine va_get (D := D) (ci := 0) (v := .long (f 6)) (C := RX0) (T := TX0) (N := 8) hx hb hts izX0_copyFrom_0 hown hK hP 1 rfl rfl 6 (by decide) (hm 7 (.fieldLink RX0 34 "TankFilter$Estimate" "levelGain" "J") rfl) (fun _ h9 => h9) rfl dX0_copyFrom_50 ?_
  refine va_put (D := D) (ci := 0) (v := .long (f 6)) (ty := .long) (C := RX0) (T := TX0) (N := 8) hx hb hts izX0_copyFrom_0 tyX0 tyX0_ok nmX0 hown hK hP hD hS 0 rfl rfl 6 (by decide) (hm 7 (.fieldLink RX0 34 "TankFilter$Estimate" "levelGain" "J") rfl) (fun _ h9 => h9) rfl (by decide +kernel) rfl rfl (Nat.le_of_ble_eq_true rfl) dX0_copyFrom_53 (fun H locs hP hD hS => ?_)
  have hP : va_P D vwCl ([(h0, .inr (0, [.long (f 0), .long (f 1), .long (f 2), .long (f 3), .long (f 4), .long (f 5), .long (f 6), .long (e 7)])), (h1, .inr (0, tk_ev f))]) H := hP
  have hD : va_D A ([(h0, .inr (0, [.long (f 0), .long (f 1), .long (f 2), .long (f 3), .long (f 4), .long (f 5), .long (f 6), .long (e 7)])), (h1, .inr (0, tk_ev f))]) := hD
  refine lv_aload_n hx hb dX0_copyFrom_56 rfl (lv_at hl 0 rfl) ?_
  refine lv_aload_n hx hb dX0_copyFrom_57 rfl (lv_at hl 1 rfl) ?_
  refine va_get (D := D) (ci := 0) (v := .long (f 7)) (C := RX0) (T := TX0) (N := 8) hx hb hts izX0_copyFrom_0 hown hK hP 1 rfl rfl 7 (by decide) (hm 8 (.fieldLink RX0 37 "TankFilter$Estimate" "flowGain" "J") rfl) (fun _ h9 => h9) rfl dX0_copyFrom_58 ?_
  refine va_put (D := D) (ci := 0) (v := .long (f 7)) (ty := .long) (C := RX0) (T := TX0) (N := 8) hx hb hts izX0_copyFrom_0 tyX0 tyX0_ok nmX0 hown hK hP hD hS 0 rfl rfl 7 (by decide) (hm 8 (.fieldLink RX0 37 "TankFilter$Estimate" "flowGain" "J") rfl) (fun _ h9 => h9) rfl (by decide +kernel) rfl rfl (Nat.le_of_ble_eq_true rfl) dX0_copyFrom_61 (fun H locs hP hD hS => ?_)
  have hP : va_P D vwCl ([(h0, .inr (0, [.long (f 0), .long (f 1), .long (f 2), .long (f 3), .long (f 4), .long (f 5), .long (f 6), .long (f 7)])), (h1, .inr (0, tk_ev f))]) H := hP
  have hD : va_D A ([(h0, .inr (0, [.long (f 0), .long (f 1), .long (f 2), .long (f 3), .long (f 4), .long (f 5), .long (f 6), .long (f 7)])), (h1, .inr (0, tk_ev f))]) := hD
  exact W.vret hx hb hr (fun t ht hW => ⟨⟨(), rfl, trivial, KB.of hAe (by rw [ht]; exact hP) hD⟩, hS.F ht⟩) hS.2.2 dX0_copyFrom_64

def tk_start (x v a c : Int32) : Nat → Int64 := fun k => match k with
  | 0 => x.toInt64
  | 1 => v.toInt64
  | 2 => a.toInt64
  | 3 => 0
  | 4 => c.toInt64
  | _ => -2000000001

theorem izX0_startFrom_0 : ∀ w ∈ wsX00, w ∈ wsX0_startFrom := fun _ h => List.mem_cons_of_mem _ (List.mem_append_right _ h)
set_option maxHeartbeats 4000000 in
set_option maxRecDepth 100000 in
/-- startFrom -/
theorem k_X0_startFrom (l : Launch) (D : va_G) (cI cM cJ : ClassId) (sz : Nat) (h0 : Nat) (e : Nat → Int64) (x v a c : Int32) : Met l yX0_startFrom wsX0_startFrom ({ frames := 0, cells := 0, slots := 0, locals := 0 }) (va_Pc [.ref h0, .int x, .int v, .int a, .int c] (KP D (tk_T cI cM cJ) ([(h0, .inr (0, tk_ev e))]) sz)) (va_Qv (fun (u : Unit) => True) (fun u t => KB D ([(h0, .inr (0, tk_ev e))]) ([(h0, .inr (0, tk_ev (tk_start x v a c)))]) sz t) (va_A ([(h0, .inr (0, tk_ev e))]) sz)) 0 0 (va_A ([(h0, .inr (0, tk_ev e))]) sz) := by
  refine Met.ofW (cc := cX0_startFrom) (maxL := 5) (ret := none) (by decide) rfl ?_
  intro zp ze zs zm zargs zbelow zmeth zc zs1 B hml hv
  obtain ⟨rfl, hsz, hP, hK, hD0, hN⟩ := hv
  have hx := B.exec
  have hb := B.bytes
  have hr := B.returns
  have hts := atoms_spec (ws := wsX0_startFrom) B.pre
  have hm : ∀ (i : Nat) (w : Cond), wsX0_startFrom[i]? = some w → w.before _ zs = true := fun i w h => hts w (List.mem_of_getElem? h)
  have hown : zs.vm.findClass RX0 = some zm.cls := findClass_of_methodNamed B.named
  have hlocks := B.notSynchronized
  subst hsz
  have hD := hD0.self (sz := zs.heap.size)
  generalize hAe : va_A ([(h0, .inr (0, tk_ev e))]) zs.heap.size = A at hD ⊢
  have hA : ∀ q : Nat, zs.heap.size ≤ q → A q := fun q h => by rw [← hAe]; exact Or.inr h
  have hS : va_S A zs.heap zs.heap [] := va_S.rf
  have hP : va_P D vwCl ([(h0, .inr (0, tk_ev e))]) zs.heap := hP
  have hl := lv_entry ([.ref h0, .int x, .int v, .int a, .int c]) (n := 5) (Nat.le_of_ble_eq_true rfl)
  rw [lg_entry_eq]
  generalize (lg_sl ([.ref h0, .int x, .int v, .int a, .int c]) ++ List.replicate (5 - (lg_sl ([.ref h0, .int x, .int v, .int a, .int c])).length) Slot.unset).toArray = ls at hl ⊢
  have hl : lv_has ls 5 [(0, .ref h0), (1, .int x), (2, .int v), (3, .int a), (4, .int c)] := hl
  refine lv_aload_n hx hb dX0_startFrom_0 rfl (lv_at hl 0 rfl) ?_
  refine lv_iload_n hx hb dX0_startFrom_1 rfl (lv_at hl 1 rfl) ?_
  refine lv_i2l hx hb dX0_startFrom_2 rfl ?_
  refine va_put (D := D) (ci := 0) (v := .long x.toInt64) (ty := .long) (C := RX0) (T := TX0) (N := 8) hx hb hts izX0_startFrom_0 tyX0 tyX0_ok nmX0 hown hK hP hD hS 0 rfl rfl 0 (by decide) (hm 1 (.fieldLink RX0 9 "TankFilter$Estimate" "level" "J") rfl) (fun _ h9 => h9) rfl (by decide +kernel) rfl rfl (Nat.le_of_ble_eq_true rfl) dX0_startFrom_3 (fun H locs hP hD hS => ?_)
  have hP : va_P D vwCl ([(h0, .inr (0, [.long x.toInt64, .long (e 1), .long (e 2), .long (e 3), .long (e 4), .long (e 5), .long (e 6), .long (e 7)]))]) H := hP
  have hD : va_D A ([(h0, .inr (0, [.long x.toInt64, .long (e 1), .long (e 2), .long (e 3), .long (e 4), .long (e 5), .long (e 6), .long (e 7)]))]) := hD
  refine lv_aload_n hx hb dX0_startFrom_6 rfl (lv_at hl 0 rfl) ?_
  refine lv_iload_n hx hb dX0_startFrom_7 rfl (lv_at hl 2 rfl) ?_
  refine lv_i2l hx hb dX0_startFrom_8 rfl ?_
  refine va_put (D := D) (ci := 0) (v := .long v.toInt64) (ty := .long) (C := RX0) (T := TX0) (N := 8) hx hb hts izX0_startFrom_0 tyX0 tyX0_ok nmX0 hown hK hP hD hS 0 rfl rfl 1 (by decide) (hm 2 (.fieldLink RX0 15 "TankFilter$Estimate" "flow" "J") rfl) (fun _ h9 => h9) rfl (by decide +kernel) rfl rfl (Nat.le_of_ble_eq_true rfl) dX0_startFrom_9 (fun H locs hP hD hS => ?_)
  have hP : va_P D vwCl ([(h0, .inr (0, [.long x.toInt64, .long v.toInt64, .long (e 2), .long (e 3), .long (e 4), .long (e 5), .long (e 6), .long (e 7)]))]) H := hP
  have hD : va_D A ([(h0, .inr (0, [.long x.toInt64, .long v.toInt64, .long (e 2), .long (e 3), .long (e 4), .long (e 5), .long (e 6), .long (e 7)]))]) := hD
  refine lv_aload_n hx hb dX0_startFrom_12 rfl (lv_at hl 0 rfl) ?_
  refine lv_iload_n hx hb dX0_startFrom_13 rfl (lv_at hl 3 rfl) ?_
  refine lv_i2l hx hb dX0_startFrom_14 rfl ?_
  refine va_put (D := D) (ci := 0) (v := .long a.toInt64) (ty := .long) (C := RX0) (T := TX0) (N := 8) hx hb hts izX0_startFrom_0 tyX0 tyX0_ok nmX0 hown hK hP hD hS 0 rfl rfl 2 (by decide) (hm 3 (.fieldLink RX0 20 "TankFilter$Estimate" "levelVariance" "J") rfl) (fun _ h9 => h9) rfl (by decide +kernel) rfl rfl (Nat.le_of_ble_eq_true rfl) dX0_startFrom_15 (fun H locs hP hD hS => ?_)
  have hP : va_P D vwCl ([(h0, .inr (0, [.long x.toInt64, .long v.toInt64, .long a.toInt64, .long (e 3), .long (e 4), .long (e 5), .long (e 6), .long (e 7)]))]) H := hP
  have hD : va_D A ([(h0, .inr (0, [.long x.toInt64, .long v.toInt64, .long a.toInt64, .long (e 3), .long (e 4), .long (e 5), .long (e 6), .long (e 7)]))]) := hD
  refine lv_aload_n hx hb dX0_startFrom_18 rfl (lv_at hl 0 rfl) ?_
  refine lv_lconst (v := 0) hx hb dX0_startFrom_19 (by decide) ?_
  refine va_put (D := D) (ci := 0) (v := .long 0) (ty := .long) (C := RX0) (T := TX0) (N := 8) hx hb hts izX0_startFrom_0 tyX0 tyX0_ok nmX0 hown hK hP hD hS 0 rfl rfl 3 (by decide) (hm 4 (.fieldLink RX0 23 "TankFilter$Estimate" "covariance" "J") rfl) (fun _ h9 => h9) rfl (by decide +kernel) rfl rfl (Nat.le_of_ble_eq_true rfl) dX0_startFrom_20 (fun H locs hP hD hS => ?_)
  have hP : va_P D vwCl ([(h0, .inr (0, [.long x.toInt64, .long v.toInt64, .long a.toInt64, .long 0, .long (e 4), .long (e 5), .long (e 6), .long (e 7)]))]) H := hP
  have hD : va_D A ([(h0, .inr (0, [.long x.toInt64, .long v.toInt64, .long a.toInt64, .long 0, .long (e 4), .long (e 5), .long (e 6), .long (e 7)]))]) := hD
  refine lv_aload_n hx hb dX0_startFrom_23 rfl (lv_at hl 0 rfl) ?_
  refine lv_iload hx hb dX0_startFrom_24 (lv_at hl 4 rfl) ?_
  refine lv_i2l hx hb dX0_startFrom_26 rfl ?_
  refine va_put (D := D) (ci := 0) (v := .long c.toInt64) (ty := .long) (C := RX0) (T := TX0) (N := 8) hx hb hts izX0_startFrom_0 tyX0 tyX0_ok nmX0 hown hK hP hD hS 0 rfl rfl 4 (by decide) (hm 5 (.fieldLink RX0 26 "TankFilter$Estimate" "flowVariance" "J") rfl) (fun _ h9 => h9) rfl (by decide +kernel) rfl rfl (Nat.le_of_ble_eq_true rfl) dX0_startFrom_27 (fun H locs hP hD hS => ?_)
  have hP : va_P D vwCl ([(h0, .inr (0, [.long x.toInt64, .long v.toInt64, .long a.toInt64, .long 0, .long c.toInt64, .long (e 5), .long (e 6), .long (e 7)]))]) H := hP
  have hD : va_D A ([(h0, .inr (0, [.long x.toInt64, .long v.toInt64, .long a.toInt64, .long 0, .long c.toInt64, .long (e 5), .long (e 6), .long (e 7)]))]) := hD
  refine lv_aload_n hx hb dX0_startFrom_30 rfl (lv_at hl 0 rfl) ?_
  refine lv_ldc2 (v := -2000000001) hx hb hown (hm 6 (.constantLong RX0 29 (-2000000001)) rfl) dX0_startFrom_31 ?_
  refine va_put (D := D) (ci := 0) (v := .long (-2000000001)) (ty := .long) (C := RX0) (T := TX0) (N := 8) hx hb hts izX0_startFrom_0 tyX0 tyX0_ok nmX0 hown hK hP hD hS 0 rfl rfl 5 (by decide) (hm 7 (.fieldLink RX0 31 "TankFilter$Estimate" "innovation" "J") rfl) (fun _ h9 => h9) rfl (by decide +kernel) rfl rfl (Nat.le_of_ble_eq_true rfl) dX0_startFrom_34 (fun H locs hP hD hS => ?_)
  have hP : va_P D vwCl ([(h0, .inr (0, [.long x.toInt64, .long v.toInt64, .long a.toInt64, .long 0, .long c.toInt64, .long (-2000000001), .long (e 6), .long (e 7)]))]) H := hP
  have hD : va_D A ([(h0, .inr (0, [.long x.toInt64, .long v.toInt64, .long a.toInt64, .long 0, .long c.toInt64, .long (-2000000001), .long (e 6), .long (e 7)]))]) := hD
  refine lv_aload_n hx hb dX0_startFrom_37 rfl (lv_at hl 0 rfl) ?_
  refine lv_ldc2 (v := -2000000001) hx hb hown (hm 6 (.constantLong RX0 29 (-2000000001)) rfl) dX0_startFrom_38 ?_
  refine va_put (D := D) (ci := 0) (v := .long (-2000000001)) (ty := .long) (C := RX0) (T := TX0) (N := 8) hx hb hts izX0_startFrom_0 tyX0 tyX0_ok nmX0 hown hK hP hD hS 0 rfl rfl 6 (by decide) (hm 8 (.fieldLink RX0 34 "TankFilter$Estimate" "levelGain" "J") rfl) (fun _ h9 => h9) rfl (by decide +kernel) rfl rfl (Nat.le_of_ble_eq_true rfl) dX0_startFrom_41 (fun H locs hP hD hS => ?_)
  have hP : va_P D vwCl ([(h0, .inr (0, [.long x.toInt64, .long v.toInt64, .long a.toInt64, .long 0, .long c.toInt64, .long (-2000000001), .long (-2000000001), .long (e 7)]))]) H := hP
  have hD : va_D A ([(h0, .inr (0, [.long x.toInt64, .long v.toInt64, .long a.toInt64, .long 0, .long c.toInt64, .long (-2000000001), .long (-2000000001), .long (e 7)]))]) := hD
  refine lv_aload_n hx hb dX0_startFrom_44 rfl (lv_at hl 0 rfl) ?_
  refine lv_ldc2 (v := -2000000001) hx hb hown (hm 6 (.constantLong RX0 29 (-2000000001)) rfl) dX0_startFrom_45 ?_
  refine va_put (D := D) (ci := 0) (v := .long (-2000000001)) (ty := .long) (C := RX0) (T := TX0) (N := 8) hx hb hts izX0_startFrom_0 tyX0 tyX0_ok nmX0 hown hK hP hD hS 0 rfl rfl 7 (by decide) (hm 9 (.fieldLink RX0 37 "TankFilter$Estimate" "flowGain" "J") rfl) (fun _ h9 => h9) rfl (by decide +kernel) rfl rfl (Nat.le_of_ble_eq_true rfl) dX0_startFrom_48 (fun H locs hP hD hS => ?_)
  have hP : va_P D vwCl ([(h0, .inr (0, [.long x.toInt64, .long v.toInt64, .long a.toInt64, .long 0, .long c.toInt64, .long (-2000000001), .long (-2000000001), .long (-2000000001)]))]) H := hP
  have hD : va_D A ([(h0, .inr (0, [.long x.toInt64, .long v.toInt64, .long a.toInt64, .long 0, .long c.toInt64, .long (-2000000001), .long (-2000000001), .long (-2000000001)]))]) := hD
  exact W.vret hx hb hr (fun t ht hW => ⟨⟨(), rfl, trivial, KB.of hAe (by rw [ht]; exact hP) hD⟩, hS.F ht⟩) hS.2.2 dX0_startFrom_51

theorem izX0_mixStateInto_0 : ∀ w ∈ wsX00, w ∈ wsX0_mixStateInto := fun _ h => List.mem_cons_of_mem _ (List.mem_append_right _ h)
set_option maxHeartbeats 4000000 in
set_option maxRecDepth 100000 in
/-- mixStateInto -/
theorem k_X0_mixStateInto (l : Launch) (D : va_G) (cI cM cJ : ClassId) (sz : Nat) (h0 : Nat) (e : Nat → Int64) (h : Int64) : Met l yX0_mixStateInto wsX0_mixStateInto ({ frames := 1, cells := 0, slots := 0, locals := 23 }) (va_Pc [.ref h0, .long h] (KP D (tk_T cI cM cJ) ([(h0, .inr (0, tk_ev e))]) sz)) (va_Ql (fun (r : Int64) (u : Unit) => r = tk_h (tk_h (tk_h (tk_h (tk_h h (e 0)) (e 1)) (e 2)) (e 3)) (e 4)) (fun u t => KB D ([(h0, .inr (0, tk_ev e))]) ([(h0, .inr (0, tk_ev e))]) sz t) (va_A ([(h0, .inr (0, tk_ev e))]) sz)) 0 0 (va_A ([(h0, .inr (0, tk_ev e))]) sz) := by
  refine Met.ofW (cc := cX0_mixStateInto) (maxL := 3) (ret := (some .long)) (by decide) rfl ?_
  intro zp ze zs zm zargs zbelow zmeth zc zs1 B hml hv
  obtain ⟨rfl, hsz, hP, hK, hD0, hN⟩ := hv
  have hx := B.exec
  have hb := B.bytes
  have hr := B.returns
  have hts := atoms_spec (ws := wsX0_mixStateInto) B.pre
  have hm : ∀ (i : Nat) (w : Cond), wsX0_mixStateInto[i]? = some w → w.before _ zs = true := fun i w h => hts w (List.mem_of_getElem? h)
  have hown : zs.vm.findClass RX0 = some zm.cls := findClass_of_methodNamed B.named
  have hlocks := B.notSynchronized
  subst hsz
  have hD := hD0.self (sz := zs.heap.size)
  generalize hAe : va_A ([(h0, .inr (0, tk_ev e))]) zs.heap.size = A at hD ⊢
  have hA : ∀ q : Nat, zs.heap.size ≤ q → A q := fun q h => by rw [← hAe]; exact Or.inr h
  have hS : va_S A zs.heap zs.heap [] := va_S.rf
  have hP : va_P D vwCl ([(h0, .inr (0, tk_ev e))]) zs.heap := hP
  have hl := lv_entry ([.ref h0, .long h]) (n := 3) (Nat.le_of_ble_eq_true rfl)
  rw [lg_entry_eq]
  generalize (lg_sl ([.ref h0, .long h]) ++ List.replicate (3 - (lg_sl ([.ref h0, .long h])).length) Slot.unset).toArray = ls at hl ⊢
  have hl : lv_has ls 3 [(0, .ref h0), (1, .long h)] := hl
  refine lv_lload_n hx hb dX0_mixStateInto_0 rfl (lv_at hl 1 rfl) ?_
  refine lv_aload_n hx hb dX0_mixStateInto_1 rfl (lv_at hl 0 rfl) ?_
  refine va_get (D := D) (ci := 0) (v := .long (e 0)) (C := RX0) (T := TX0) (N := 8) hx hb hts izX0_mixStateInto_0 hown hK hP 0 rfl rfl 0 (by decide) (hm 1 (.fieldLink RX0 9 "TankFilter$Estimate" "level" "J") rfl) (fun _ h9 => h9) rfl dX0_mixStateInto_2 ?_
  refine kc_l (wc := []) (wr := [(h0, .inr (0, tk_ev e))]) (va_runSN (As := [.long h, .long (e 0)]) (rest := []) ⟨hx, hb, hml, hown, hts⟩ (k_X3_mix l D cI cM cJ _ h (e 0)) ⟨va_cnB 2 hts gX0_mixStateInto_X3_mix_n67 rfl rfl rfl (hN.at 43 rfl) (hm 7 (.initialized RX3) rfl) (by decide +kernel) ⟨Nat.le_of_ble_eq_true rfl, Nat.le_of_ble_eq_true rfl⟩, (hm 6 (.static yX3_mix) rfl), trivial⟩ (kp_preS (wc := []) (wr := [(h0, .inr (0, tk_ev e))]) hN hK hP hD) rfl rfl hl.1 rfl (lv_room (Nat.le_of_ble_eq_true rfl)) dX0_mixStateInto_5 ⟨Nat.le_of_ble_eq_true rfl, Nat.le_of_ble_eq_true rfl⟩) hP hD hS hA (fun r_1 u_1 H locs p_1 hP hD hS => ?_)
  obtain rfl : r_1 = tk_h h (e 0) := p_1
  have hP : va_P D vwCl ([(h0, .inr (0, tk_ev e))]) H := hP
  have hD : va_D A ([(h0, .inr (0, tk_ev e))]) := hD
  refine lv_lstore_n (lv' := [(1, .long (tk_h h (e 0))), (0, .ref h0)]) hx hb dX0_mixStateInto_8 rfl hl (by decide) rfl (fun ls hl => ?_)
  refine lv_lload_n hx hb dX0_mixStateInto_9 rfl (lv_at hl 0 rfl) ?_
  refine lv_aload_n hx hb dX0_mixStateInto_10 rfl (lv_at hl 1 rfl) ?_
  refine va_get (D := D) (ci := 0) (v := .long (e 1)) (C := RX0) (T := TX0) (N := 8) hx hb hts izX0_mixStateInto_0 hown hK hP 0 rfl rfl 1 (by decide) (hm 2 (.fieldLink RX0 15 "TankFilter$Estimate" "flow" "J") rfl) (fun _ h9 => h9) rfl dX0_mixStateInto_11 ?_
  refine kc_l (wc := []) (wr := [(h0, .inr (0, tk_ev e))]) (va_runSN (As := [.long (tk_h h (e 0)), .long (e 1)]) (rest := []) ⟨hx, hb, hml, hown, hts⟩ (k_X3_mix l D cI cM cJ _ (tk_h h (e 0)) (e 1)) ⟨va_cnB 2 hts gX0_mixStateInto_X3_mix_n67 rfl rfl rfl (hN.at 43 rfl) (hm 7 (.initialized RX3) rfl) (by decide +kernel) ⟨Nat.le_of_ble_eq_true rfl, Nat.le_of_ble_eq_true rfl⟩, (hm 6 (.static yX3_mix) rfl), trivial⟩ (kp_preS (wc := []) (wr := [(h0, .inr (0, tk_ev e))]) hN hK hP hD) rfl rfl hl.1 rfl (lv_room (Nat.le_of_ble_eq_true rfl)) dX0_mixStateInto_14 ⟨Nat.le_of_ble_eq_true rfl, Nat.le_of_ble_eq_true rfl⟩) hP hD hS hA (fun r_2 u_2 H locs p_2 hP hD hS => ?_)
  obtain rfl : r_2 = tk_h (tk_h h (e 0)) (e 1) := p_2
  have hP : va_P D vwCl ([(h0, .inr (0, tk_ev e))]) H := hP
  have hD : va_D A ([(h0, .inr (0, tk_ev e))]) := hD
  refine lv_lstore_n (lv' := [(1, .long (tk_h (tk_h h (e 0)) (e 1))), (0, .ref h0)]) hx hb dX0_mixStateInto_17 rfl hl (by decide) rfl (fun ls hl => ?_)
  refine lv_lload_n hx hb dX0_mixStateInto_18 rfl (lv_at hl 0 rfl) ?_
  refine lv_aload_n hx hb dX0_mixStateInto_19 rfl (lv_at hl 1 rfl) ?_
  refine va_get (D := D) (ci := 0) (v := .long (e 2)) (C := RX0) (T := TX0) (N := 8) hx hb hts izX0_mixStateInto_0 hown hK hP 0 rfl rfl 2 (by decide) (hm 3 (.fieldLink RX0 20 "TankFilter$Estimate" "levelVariance" "J") rfl) (fun _ h9 => h9) rfl dX0_mixStateInto_20 ?_
  refine kc_l (wc := []) (wr := [(h0, .inr (0, tk_ev e))]) (va_runSN (As := [.long (tk_h (tk_h h (e 0)) (e 1)), .long (e 2)]) (rest := []) ⟨hx, hb, hml, hown, hts⟩ (k_X3_mix l D cI cM cJ _ (tk_h (tk_h h (e 0)) (e 1)) (e 2)) ⟨va_cnB 2 hts gX0_mixStateInto_X3_mix_n67 rfl rfl rfl (hN.at 43 rfl) (hm 7 (.initialized RX3) rfl) (by decide +kernel) ⟨Nat.le_of_ble_eq_true rfl, Nat.le_of_ble_eq_true rfl⟩, (hm 6 (.static yX3_mix) rfl), trivial⟩ (kp_preS (wc := []) (wr := [(h0, .inr (0, tk_ev e))]) hN hK hP hD) rfl rfl hl.1 rfl (lv_room (Nat.le_of_ble_eq_true rfl)) dX0_mixStateInto_23 ⟨Nat.le_of_ble_eq_true rfl, Nat.le_of_ble_eq_true rfl⟩) hP hD hS hA (fun r_3 u_3 H locs p_3 hP hD hS => ?_)
  obtain rfl : r_3 = tk_h (tk_h (tk_h h (e 0)) (e 1)) (e 2) := p_3
  have hP : va_P D vwCl ([(h0, .inr (0, tk_ev e))]) H := hP
  have hD : va_D A ([(h0, .inr (0, tk_ev e))]) := hD
  refine lv_lstore_n (lv' := [(1, .long (tk_h (tk_h (tk_h h (e 0)) (e 1)) (e 2))), (0, .ref h0)]) hx hb dX0_mixStateInto_26 rfl hl (by decide) rfl (fun ls hl => ?_)
  refine lv_lload_n hx hb dX0_mixStateInto_27 rfl (lv_at hl 0 rfl) ?_
  refine lv_aload_n hx hb dX0_mixStateInto_28 rfl (lv_at hl 1 rfl) ?_
  refine va_get (D := D) (ci := 0) (v := .long (e 3)) (C := RX0) (T := TX0) (N := 8) hx hb hts izX0_mixStateInto_0 hown hK hP 0 rfl rfl 3 (by decide) (hm 4 (.fieldLink RX0 23 "TankFilter$Estimate" "covariance" "J") rfl) (fun _ h9 => h9) rfl dX0_mixStateInto_29 ?_
  refine kc_l (wc := []) (wr := [(h0, .inr (0, tk_ev e))]) (va_runSN (As := [.long (tk_h (tk_h (tk_h h (e 0)) (e 1)) (e 2)), .long (e 3)]) (rest := []) ⟨hx, hb, hml, hown, hts⟩ (k_X3_mix l D cI cM cJ _ (tk_h (tk_h (tk_h h (e 0)) (e 1)) (e 2)) (e 3)) ⟨va_cnB 2 hts gX0_mixStateInto_X3_mix_n67 rfl rfl rfl (hN.at 43 rfl) (hm 7 (.initialized RX3) rfl) (by decide +kernel) ⟨Nat.le_of_ble_eq_true rfl, Nat.le_of_ble_eq_true rfl⟩, (hm 6 (.static yX3_mix) rfl), trivial⟩ (kp_preS (wc := []) (wr := [(h0, .inr (0, tk_ev e))]) hN hK hP hD) rfl rfl hl.1 rfl (lv_room (Nat.le_of_ble_eq_true rfl)) dX0_mixStateInto_32 ⟨Nat.le_of_ble_eq_true rfl, Nat.le_of_ble_eq_true rfl⟩) hP hD hS hA (fun r_4 u_4 H locs p_4 hP hD hS => ?_)
  obtain rfl : r_4 = tk_h (tk_h (tk_h (tk_h h (e 0)) (e 1)) (e 2)) (e 3) := p_4
  have hP : va_P D vwCl ([(h0, .inr (0, tk_ev e))]) H := hP
  have hD : va_D A ([(h0, .inr (0, tk_ev e))]) := hD
  refine lv_lstore_n (lv' := [(1, .long (tk_h (tk_h (tk_h (tk_h h (e 0)) (e 1)) (e 2)) (e 3))), (0, .ref h0)]) hx hb dX0_mixStateInto_35 rfl hl (by decide) rfl (fun ls hl => ?_)
  refine lv_lload_n hx hb dX0_mixStateInto_36 rfl (lv_at hl 0 rfl) ?_
  refine lv_aload_n hx hb dX0_mixStateInto_37 rfl (lv_at hl 1 rfl) ?_
  refine va_get (D := D) (ci := 0) (v := .long (e 4)) (C := RX0) (T := TX0) (N := 8) hx hb hts izX0_mixStateInto_0 hown hK hP 0 rfl rfl 4 (by decide) (hm 5 (.fieldLink RX0 26 "TankFilter$Estimate" "flowVariance" "J") rfl) (fun _ h9 => h9) rfl dX0_mixStateInto_38 ?_
  refine kc_l (wc := []) (wr := [(h0, .inr (0, tk_ev e))]) (va_runSN (As := [.long (tk_h (tk_h (tk_h (tk_h h (e 0)) (e 1)) (e 2)) (e 3)), .long (e 4)]) (rest := []) ⟨hx, hb, hml, hown, hts⟩ (k_X3_mix l D cI cM cJ _ (tk_h (tk_h (tk_h (tk_h h (e 0)) (e 1)) (e 2)) (e 3)) (e 4)) ⟨va_cnB 2 hts gX0_mixStateInto_X3_mix_n67 rfl rfl rfl (hN.at 43 rfl) (hm 7 (.initialized RX3) rfl) (by decide +kernel) ⟨Nat.le_of_ble_eq_true rfl, Nat.le_of_ble_eq_true rfl⟩, (hm 6 (.static yX3_mix) rfl), trivial⟩ (kp_preS (wc := []) (wr := [(h0, .inr (0, tk_ev e))]) hN hK hP hD) rfl rfl hl.1 rfl (lv_room (Nat.le_of_ble_eq_true rfl)) dX0_mixStateInto_41 ⟨Nat.le_of_ble_eq_true rfl, Nat.le_of_ble_eq_true rfl⟩) hP hD hS hA (fun r_5 u_5 H locs p_5 hP hD hS => ?_)
  obtain rfl : r_5 = tk_h (tk_h (tk_h (tk_h (tk_h h (e 0)) (e 1)) (e 2)) (e 3)) (e 4) := p_5
  have hP : va_P D vwCl ([(h0, .inr (0, tk_ev e))]) H := hP
  have hD : va_D A ([(h0, .inr (0, tk_ev e))]) := hD
  exact W.lret (v := tk_h (tk_h (tk_h (tk_h (tk_h h (e 0)) (e 1)) (e 2)) (e 3)) (e 4)) hx hb hr (fun t ht hW => ⟨⟨tk_h (tk_h (tk_h (tk_h (tk_h h (e 0)) (e 1)) (e 2)) (e 3)) (e 4), (), rfl, rfl, KB.of hAe (by rw [ht]; exact hP) hD⟩, hS.F ht⟩) hS.2.2 dX0_mixStateInto_44

theorem izX0_mixLatestReadingInto_0 : ∀ w ∈ wsX00, w ∈ wsX0_mixLatestReadingInto := fun _ h => List.mem_cons_of_mem _ (List.mem_append_right _ h)
set_option maxHeartbeats 4000000 in
set_option maxRecDepth 100000 in
/-- mixLatestReadingInto -/
theorem k_X0_mixLatestReadingInto (l : Launch) (D : va_G) (cI cM cJ : ClassId) (sz : Nat) (h0 : Nat) (e : Nat → Int64) (h : Int64) : Met l yX0_mixLatestReadingInto wsX0_mixLatestReadingInto ({ frames := 1, cells := 0, slots := 0, locals := 23 }) (va_Pc [.ref h0, .long h] (KP D (tk_T cI cM cJ) ([(h0, .inr (0, tk_ev e))]) sz)) (va_Ql (fun (r : Int64) (u : Unit) => r = tk_h (tk_h (tk_h h (e 5)) (e 6)) (e 7)) (fun u t => KB D ([(h0, .inr (0, tk_ev e))]) ([(h0, .inr (0, tk_ev e))]) sz t) (va_A ([(h0, .inr (0, tk_ev e))]) sz)) 0 0 (va_A ([(h0, .inr (0, tk_ev e))]) sz) := by
  refine Met.ofW (cc := cX0_mixLatestReadingInto) (maxL := 3) (ret := (some .long)) (by decide) rfl ?_
  intro zp ze zs zm zargs zbelow zmeth zc zs1 B hml hv
  obtain ⟨rfl, hsz, hP, hK, hD0, hN⟩ := hv
  have hx := B.exec
  have hb := B.bytes
  have hr := B.returns
  have hts := atoms_spec (ws := wsX0_mixLatestReadingInto) B.pre
  have hm : ∀ (i : Nat) (w : Cond), wsX0_mixLatestReadingInto[i]? = some w → w.before _ zs = true := fun i w h => hts w (List.mem_of_getElem? h)
  have hown : zs.vm.findClass RX0 = some zm.cls := findClass_of_methodNamed B.named
  have hlocks := B.notSynchronized
  subst hsz
  have hD := hD0.self (sz := zs.heap.size)
  generalize hAe : va_A ([(h0, .inr (0, tk_ev e))]) zs.heap.size = A at hD ⊢
  have hA : ∀ q : Nat, zs.heap.size ≤ q → A q := fun q h => by rw [← hAe]; exact Or.inr h
  have hS : va_S A zs.heap zs.heap [] := va_S.rf
  have hP : va_P D vwCl ([(h0, .inr (0, tk_ev e))]) zs.heap := hP
  have hl := lv_entry ([.ref h0, .long h]) (n := 3) (Nat.le_of_ble_eq_true rfl)
  rw [lg_entry_eq]
  generalize (lg_sl ([.ref h0, .long h]) ++ List.replicate (3 - (lg_sl ([.ref h0, .long h])).length) Slot.unset).toArray = ls at hl ⊢
  have hl : lv_has ls 3 [(0, .ref h0), (1, .long h)] := hl
  refine lv_lload_n hx hb dX0_mixLatestReadingInto_0 rfl (lv_at hl 1 rfl) ?_
  refine lv_aload_n hx hb dX0_mixLatestReadingInto_1 rfl (lv_at hl 0 rfl) ?_
  refine va_get (D := D) (ci := 0) (v := .long (e 5)) (C := RX0) (T := TX0) (N := 8) hx hb hts izX0_mixLatestReadingInto_0 hown hK hP 0 rfl rfl 5 (by decide) (hm 1 (.fieldLink RX0 31 "TankFilter$Estimate" "innovation" "J") rfl) (fun _ h9 => h9) rfl dX0_mixLatestReadingInto_2 ?_
  refine kc_l (wc := []) (wr := [(h0, .inr (0, tk_ev e))]) (va_runSN (As := [.long h, .long (e 5)]) (rest := []) ⟨hx, hb, hml, hown, hts⟩ (k_X3_mix l D cI cM cJ _ h (e 5)) ⟨va_cnB 2 hts gX0_mixLatestReadingInto_X3_mix_n67 rfl rfl rfl (hN.at 43 rfl) (hm 5 (.initialized RX3) rfl) (by decide +kernel) ⟨Nat.le_of_ble_eq_true rfl, Nat.le_of_ble_eq_true rfl⟩, (hm 4 (.static yX3_mix) rfl), trivial⟩ (kp_preS (wc := []) (wr := [(h0, .inr (0, tk_ev e))]) hN hK hP hD) rfl rfl hl.1 rfl (lv_room (Nat.le_of_ble_eq_true rfl)) dX0_mixLatestReadingInto_5 ⟨Nat.le_of_ble_eq_true rfl, Nat.le_of_ble_eq_true rfl⟩) hP hD hS hA (fun r_1 u_1 H locs p_1 hP hD hS => ?_)
  obtain rfl : r_1 = tk_h h (e 5) := p_1
  have hP : va_P D vwCl ([(h0, .inr (0, tk_ev e))]) H := hP
  have hD : va_D A ([(h0, .inr (0, tk_ev e))]) := hD
  refine lv_lstore_n (lv' := [(1, .long (tk_h h (e 5))), (0, .ref h0)]) hx hb dX0_mixLatestReadingInto_8 rfl hl (by decide) rfl (fun ls hl => ?_)
  refine lv_lload_n hx hb dX0_mixLatestReadingInto_9 rfl (lv_at hl 0 rfl) ?_
  refine lv_aload_n hx hb dX0_mixLatestReadingInto_10 rfl (lv_at hl 1 rfl) ?_
  refine va_get (D := D) (ci := 0) (v := .long (e 6)) (C := RX0) (T := TX0) (N := 8) hx hb hts izX0_mixLatestReadingInto_0 hown hK hP 0 rfl rfl 6 (by decide) (hm 2 (.fieldLink RX0 34 "TankFilter$Estimate" "levelGain" "J") rfl) (fun _ h9 => h9) rfl dX0_mixLatestReadingInto_11 ?_
  refine kc_l (wc := []) (wr := [(h0, .inr (0, tk_ev e))]) (va_runSN (As := [.long (tk_h h (e 5)), .long (e 6)]) (rest := []) ⟨hx, hb, hml, hown, hts⟩ (k_X3_mix l D cI cM cJ _ (tk_h h (e 5)) (e 6)) ⟨va_cnB 2 hts gX0_mixLatestReadingInto_X3_mix_n67 rfl rfl rfl (hN.at 43 rfl) (hm 5 (.initialized RX3) rfl) (by decide +kernel) ⟨Nat.le_of_ble_eq_true rfl, Nat.le_of_ble_eq_true rfl⟩, (hm 4 (.static yX3_mix) rfl), trivial⟩ (kp_preS (wc := []) (wr := [(h0, .inr (0, tk_ev e))]) hN hK hP hD) rfl rfl hl.1 rfl (lv_room (Nat.le_of_ble_eq_true rfl)) dX0_mixLatestReadingInto_14 ⟨Nat.le_of_ble_eq_true rfl, Nat.le_of_ble_eq_true rfl⟩) hP hD hS hA (fun r_2 u_2 H locs p_2 hP hD hS => ?_)
  obtain rfl : r_2 = tk_h (tk_h h (e 5)) (e 6) := p_2
  have hP : va_P D vwCl ([(h0, .inr (0, tk_ev e))]) H := hP
  have hD : va_D A ([(h0, .inr (0, tk_ev e))]) := hD
  refine lv_lstore_n (lv' := [(1, .long (tk_h (tk_h h (e 5)) (e 6))), (0, .ref h0)]) hx hb dX0_mixLatestReadingInto_17 rfl hl (by decide) rfl (fun ls hl => ?_)
  refine lv_lload_n hx hb dX0_mixLatestReadingInto_18 rfl (lv_at hl 0 rfl) ?_
  refine lv_aload_n hx hb dX0_mixLatestReadingInto_19 rfl (lv_at hl 1 rfl) ?_
  refine va_get (D := D) (ci := 0) (v := .long (e 7)) (C := RX0) (T := TX0) (N := 8) hx hb hts izX0_mixLatestReadingInto_0 hown hK hP 0 rfl rfl 7 (by decide) (hm 3 (.fieldLink RX0 37 "TankFilter$Estimate" "flowGain" "J") rfl) (fun _ h9 => h9) rfl dX0_mixLatestReadingInto_20 ?_
  refine kc_l (wc := []) (wr := [(h0, .inr (0, tk_ev e))]) (va_runSN (As := [.long (tk_h (tk_h h (e 5)) (e 6)), .long (e 7)]) (rest := []) ⟨hx, hb, hml, hown, hts⟩ (k_X3_mix l D cI cM cJ _ (tk_h (tk_h h (e 5)) (e 6)) (e 7)) ⟨va_cnB 2 hts gX0_mixLatestReadingInto_X3_mix_n67 rfl rfl rfl (hN.at 43 rfl) (hm 5 (.initialized RX3) rfl) (by decide +kernel) ⟨Nat.le_of_ble_eq_true rfl, Nat.le_of_ble_eq_true rfl⟩, (hm 4 (.static yX3_mix) rfl), trivial⟩ (kp_preS (wc := []) (wr := [(h0, .inr (0, tk_ev e))]) hN hK hP hD) rfl rfl hl.1 rfl (lv_room (Nat.le_of_ble_eq_true rfl)) dX0_mixLatestReadingInto_23 ⟨Nat.le_of_ble_eq_true rfl, Nat.le_of_ble_eq_true rfl⟩) hP hD hS hA (fun r_3 u_3 H locs p_3 hP hD hS => ?_)
  obtain rfl : r_3 = tk_h (tk_h (tk_h h (e 5)) (e 6)) (e 7) := p_3
  have hP : va_P D vwCl ([(h0, .inr (0, tk_ev e))]) H := hP
  have hD : va_D A ([(h0, .inr (0, tk_ev e))]) := hD
  exact W.lret (v := tk_h (tk_h (tk_h h (e 5)) (e 6)) (e 7)) hx hb hr (fun t ht hW => ⟨⟨tk_h (tk_h (tk_h h (e 5)) (e 6)) (e 7), (), rfl, rfl, KB.of hAe (by rw [ht]; exact hP) hD⟩, hS.F ht⟩) hS.2.2 dX0_mixLatestReadingInto_26
end
section
theorem izX0_take_0 : ∀ w ∈ wsX00, w ∈ wsX0_take := fun _ h => List.mem_cons_of_mem _ (List.mem_append_right _ h)
set_option maxHeartbeats 4000000 in
set_option maxRecDepth 100000 in
/-- take -/
theorem k_X0_take (l : Launch) (D : va_G) (cI cM cJ : ClassId) (sz : Nat) (h0 : Nat) (e : Nat → Int64) (z : Int64) (kd : Int32) (v g : Int64) (hs : 0 < co_p e kd + v) : Met l yX0_take wsX0_take ({ frames := 2, cells := 0, slots := 0, locals := 56 }) (va_Pc [.ref h0, .long z, .int kd, .long v, .long g] (KP D (tk_T cI cM cJ) ([(h0, .inr (0, tk_ev e))]) sz)) (va_Qi (fun (r : Int32) (u : Nat → Int64) => (co_rej e kd z v g ∧ r = 0 ∧ u = tk_y e (z - co_m e kd)) ∨ (¬ co_rej e kd z v g ∧ co_ok e kd z v = true ∧ r = 1 ∧ u = co_e e kd z v) ∨ (¬ co_rej e kd z v g ∧ co_ok e kd z v = false ∧ r = -2000000004 ∧ e = u)) (fun u t => KB D ([(h0, .inr (0, tk_ev e))]) ([(h0, .inr (0, tk_ev u))]) sz t) (va_A ([(h0, .inr (0, tk_ev e))]) sz)) 0 0 (va_A ([(h0, .inr (0, tk_ev e))]) sz) := by
  refine Met.ofW (cc := cX0_take) (maxL := 22) (ret := (some .int)) (by decide) rfl ?_
  intro zp ze zs zm zargs zbelow zmeth zc zs1 B hml hv
  obtain ⟨rfl, hsz, hP, hK, hD0, hN⟩ := hv
  have hx := B.exec
  have hb := B.bytes
  have hr := B.returns
  have hts := atoms_spec (ws := wsX0_take) B.pre
  have hm : ∀ (i : Nat) (w : Cond), wsX0_take[i]? = some w → w.before _ zs = true := fun i w h => hts w (List.mem_of_getElem? h)
  have hown : zs.vm.findClass RX0 = some zm.cls := findClass_of_methodNamed B.named
  have hlocks := B.notSynchronized
  subst hsz
  have hD := hD0.self (sz := zs.heap.size)
  generalize hAe : va_A ([(h0, .inr (0, tk_ev e))]) zs.heap.size = A at hD ⊢
  have hA : ∀ q : Nat, zs.heap.size ≤ q → A q := fun q h => by rw [← hAe]; exact Or.inr h
  have hS : va_S A zs.heap zs.heap [] := va_S.rf
  have hP : va_P D vwCl ([(h0, .inr (0, tk_ev e))]) zs.heap := hP
  have hl := lv_entry ([.ref h0, .long z, .int kd, .long v, .long g]) (n := 22) (Nat.le_of_ble_eq_true rfl)
  rw [lg_entry_eq]
  generalize (lg_sl ([.ref h0, .long z, .int kd, .long v, .long g]) ++ List.replicate (22 - (lg_sl ([.ref h0, .long z, .int kd, .long v, .long g])).length) Slot.unset).toArray = ls at hl ⊢
  have hl : lv_has ls 22 [(0, .ref h0), (1, .long z), (3, .int kd), (4, .long v), (6, .long g)] := hl
  refine lv_iload_n hx hb dX0_take_0 rfl (lv_at hl 2 rfl) ?_
  refine lv_if_ne (tgt := 8) hx hb dX0_take_1 (by decide) (fun c_1 => ?_) (fun c_1 => ?_)
  · skip
    refine lv_iconst (v := 0) hx hb dX0_take_8 (by decide) ?_
    refine lv_istore (lv' := [(8, .int 0), (0, .ref h0), (1, .long z), (3, .int kd), (4, .long v), (6, .long g)]) hx hb dX0_take_9 hl (by decide) rfl (fun ls hl => ?_)
    refine lv_iload hx hb dX0_take_11 (lv_at hl 0 rfl) ?_
    refine lv_if_eq (tgt := 23) hx hb dX0_take_13 (by decide) (fun c_2 => ?_) (fun c_2 => ?_)
    · skip
      refine lv_aload_n hx hb dX0_take_23 rfl (lv_at hl 1 rfl) ?_
      refine va_get (D := D) (ci := 0) (v := .long (e 3)) (C := RX0) (T := TX0) (N := 8) hx hb hts izX0_take_0 hown hK hP 0 rfl rfl 3 (by decide) (hm 2 (.fieldLink RX0 23 "TankFilter$Estimate" "covariance" "J") rfl) (fun _ h9 => h9) rfl dX0_take_24 ?_
      refine lv_lstore (lv' := [(9, .long (e 3)), (8, .int 0), (0, .ref h0), (1, .long z), (3, .int kd), (4, .long v), (6, .long g)]) hx hb dX0_take_27 hl (by decide) rfl (fun ls hl => ?_)
      refine lv_iload hx hb dX0_take_29 (lv_at hl 1 rfl) ?_
      refine lv_if_eq (tgt := 41) hx hb dX0_take_31 (by decide) (fun c_3 => ?_) (fun c_3 => ?_)
      · skip
        refine lv_aload_n hx hb dX0_take_41 rfl (lv_at hl 2 rfl) ?_
        refine va_get (D := D) (ci := 0) (v := .long (e 4)) (C := RX0) (T := TX0) (N := 8) hx hb hts izX0_take_0 hown hK hP 0 rfl rfl 4 (by decide) (hm 3 (.fieldLink RX0 26 "TankFilter$Estimate" "flowVariance" "J") rfl) (fun _ h9 => h9) rfl dX0_take_42 ?_
        refine lv_lstore (lv' := [(11, .long (e 4)), (9, .long (e 3)), (8, .int 0), (0, .ref h0), (1, .long z), (3, .int kd), (4, .long v), (6, .long g)]) hx hb dX0_take_45 hl (by decide) rfl (fun ls hl => ?_)
        refine lv_lload_n hx hb dX0_take_47 rfl (lv_at hl 4 rfl) ?_
        refine lv_aload_n hx hb dX0_take_48 rfl (lv_at hl 3 rfl) ?_
        refine lv_iload_n hx hb dX0_take_49 rfl (lv_at hl 5 rfl) ?_
        refine kc_l (wc := [(h0, .inr (0, tk_ev e))]) (wr := []) (va_runV (As := [.int kd]) (rest := [.long z]) ⟨hx, hb, hml, hown, hts⟩ (k_X0_mean l D cI cM cJ _ h0 e kd) (cwV 1 hts gX0_take_X0_mean rfl rfl rfl (by decide +kernel) ⟨Nat.le_of_ble_eq_true rfl, Nat.le_of_ble_eq_true rfl⟩) (kp_preV (q := (RX0, TX0, 8)) (wc := [(h0, .inr (0, tk_ev e))]) (wr := []) hN hK hP hD 0 rfl rfl) rfl rfl hl.1 rfl (lv_room (Nat.le_of_ble_eq_true rfl)) dX0_take_50 ⟨Nat.le_of_ble_eq_true rfl, Nat.le_of_ble_eq_true rfl⟩) hP hD hS hA (fun r_4 u_4 H locs p_4 hP hD hS => ?_)
        obtain rfl : r_4 = e 1 := p_4.trans (co_m1 c_1)
        have hP : va_P D vwCl ([(h0, .inr (0, tk_ev e))]) H := hP
        have hD : va_D A ([(h0, .inr (0, tk_ev e))]) := hD
        refine lv_lsub hx hb dX0_take_53 ?_
        refine lv_lstore (lv' := [(13, .long (z - (e 1))), (11, .long (e 4)), (9, .long (e 3)), (8, .int 0), (0, .ref h0), (1, .long z), (3, .int kd), (4, .long v), (6, .long g)]) hx hb dX0_take_54 hl (by decide) rfl (fun ls hl => ?_)
        refine lv_iload hx hb dX0_take_56 (lv_at hl 3 rfl) ?_
        refine lv_if_eq (tgt := 68) hx hb dX0_take_58 (by decide) (fun c_5 => ?_) (fun c_5 => ?_)
        · skip
          refine lv_aload_n hx hb dX0_take_68 rfl (lv_at hl 4 rfl) ?_
          refine va_get (D := D) (ci := 0) (v := .long (e 4)) (C := RX0) (T := TX0) (N := 8) hx hb hts izX0_take_0 hown hK hP 0 rfl rfl 4 (by decide) (hm 3 (.fieldLink RX0 26 "TankFilter$Estimate" "flowVariance" "J") rfl) (fun _ h9 => h9) rfl dX0_take_69 ?_
          refine lv_lload hx hb dX0_take_72 (lv_at hl 7 rfl) ?_
          refine lv_ladd hx hb dX0_take_74 ?_
          refine lv_lstore (lv' := [(15, .long ((e 4) + v)), (13, .long (z - (e 1))), (11, .long (e 4)), (9, .long (e 3)), (8, .int 0), (0, .ref h0), (1, .long z), (3, .int kd), (4, .long v), (6, .long g)]) hx hb dX0_take_75 hl (by decide) rfl (fun ls hl => ?_)
          refine lv_lload hx hb dX0_take_77 (lv_at hl 9 rfl) ?_
          refine lv_lconst (v := 0) hx hb dX0_take_79 (by decide) ?_
          refine W.lcmp hx hb dX0_take_80 ?_
          refine lv_if_eq (tgt := 110) hx hb dX0_take_81 (by decide) (fun c_6 => ?_) (fun c_6 => ?_)
          · have c_6 := (lg_cmp_eq _ _).mp c_6
            refine lv_lload hx hb dX0_take_110 (lv_at hl 3 rfl) ?_
            refine lv_lload hx hb dX0_take_112 (lv_at hl 0 rfl) ?_
            refine kc_l (wc := []) (wr := [(h0, .inr (0, tk_ev e))]) (va_runSN (As := [.long (e 3), .long ((e 4) + v)]) (rest := []) ⟨hx, hb, hml, hown, hts⟩ (k_X3_dividedBy l D cI cM cJ _ (e 3) ((e 4) + v) (by have z := hs; rw [co_p1 c_1] at z; exact z)) ⟨va_cnB 2 hts gX0_take_X3_dividedBy_n50 rfl rfl rfl (hN.at 37 rfl) (hm 17 (.initialized RX3) rfl) (by decide +kernel) ⟨Nat.le_of_ble_eq_true rfl, Nat.le_of_ble_eq_true rfl⟩, (hm 16 (.static yX3_dividedBy) rfl), trivial⟩ (kp_preS (wc := []) (wr := [(h0, .inr (0, tk_ev e))]) hN hK hP hD) rfl rfl hl.1 rfl (lv_room (Nat.le_of_ble_eq_true rfl)) dX0_take_114 ⟨Nat.le_of_ble_eq_true rfl, Nat.le_of_ble_eq_true rfl⟩) hP hD hS hA (fun r_7 u_7 H locs p_7 hP hD hS => ?_)
            obtain rfl : r_7 = tk_div (e 3) ((e 4) + v) := p_7
            have hP : va_P D vwCl ([(h0, .inr (0, tk_ev e))]) H := hP
            have hD : va_D A ([(h0, .inr (0, tk_ev e))]) := hD
            refine lv_lstore (lv' := [(17, .long (tk_div (e 3) ((e 4) + v))), (15, .long ((e 4) + v)), (13, .long (z - (e 1))), (11, .long (e 4)), (9, .long (e 3)), (8, .int 0), (0, .ref h0), (1, .long z), (3, .int kd), (4, .long v), (6, .long g)]) hx hb dX0_take_117 hl (by decide) rfl (fun ls hl => ?_)
            refine lv_lload hx hb dX0_take_119 (lv_at hl 3 rfl) ?_
            refine lv_lload hx hb dX0_take_121 (lv_at hl 1 rfl) ?_
            refine kc_l (wc := []) (wr := [(h0, .inr (0, tk_ev e))]) (va_runSN (As := [.long (e 4), .long ((e 4) + v)]) (rest := []) ⟨hx, hb, hml, hown, hts⟩ (k_X3_dividedBy l D cI cM cJ _ (e 4) ((e 4) + v) (by have z := hs; rw [co_p1 c_1] at z; exact z)) ⟨va_cnB 2 hts gX0_take_X3_dividedBy_n50 rfl rfl rfl (hN.at 37 rfl) (hm 17 (.initialized RX3) rfl) (by decide +kernel) ⟨Nat.le_of_ble_eq_true rfl, Nat.le_of_ble_eq_true rfl⟩, (hm 16 (.static yX3_dividedBy) rfl), trivial⟩ (kp_preS (wc := []) (wr := [(h0, .inr (0, tk_ev e))]) hN hK hP hD) rfl rfl hl.1 rfl (lv_room (Nat.le_of_ble_eq_true rfl)) dX0_take_123 ⟨Nat.le_of_ble_eq_true rfl, Nat.le_of_ble_eq_true rfl⟩) hP hD hS hA (fun r_8 u_8 H locs p_8 hP hD hS => ?_)
            obtain rfl : r_8 = tk_div (e 4) ((e 4) + v) := p_8
            have hP : va_P D vwCl ([(h0, .inr (0, tk_ev e))]) H := hP
            have hD : va_D A ([(h0, .inr (0, tk_ev e))]) := hD
            refine lv_lstore (lv' := [(19, .long (tk_div (e 4) ((e 4) + v))), (17, .long (tk_div (e 3) ((e 4) + v))), (15, .long ((e 4) + v)), (13, .long (z - (e 1))), (11, .long (e 4)), (9, .long (e 3)), (8, .int 0), (0, .ref h0), (1, .long z), (3, .int kd), (4, .long v), (6, .long g)]) hx hb dX0_take_126 hl (by decide) rfl (fun ls hl => ?_)
            refine lv_lload hx hb dX0_take_128 (lv_at hl 1 rfl) ?_
            refine kc_i (wc := []) (wr := [(h0, .inr (0, tk_ev e))]) (va_runSN (As := [.long (tk_div (e 3) ((e 4) + v))]) (rest := []) ⟨hx, hb, hml, hown, hts⟩ (k_X3_isInLimit l D cI cM cJ _ (tk_div (e 3) ((e 4) + v))) ⟨va_cnB 1 hts gX0_take_X3_isInLimit_n54 rfl rfl rfl (hN.at 34 rfl) (hm 17 (.initialized RX3) rfl) (by decide +kernel) ⟨Nat.le_of_ble_eq_true rfl, Nat.le_of_ble_eq_true rfl⟩, (hm 25 (.static yX3_isInLimit) rfl), trivial⟩ (kp_preS (wc := []) (wr := [(h0, .inr (0, tk_ev e))]) hN hK hP hD) rfl rfl hl.1 rfl (lv_room (Nat.le_of_ble_eq_true rfl)) dX0_take_130 ⟨Nat.le_of_ble_eq_true rfl, Nat.le_of_ble_eq_true rfl⟩) hP hD hS hA (fun r_9 u_9 H locs p_9 hP hD hS => ?_)
            rcases p_9 with ⟨p_9, rfl⟩ | ⟨p_9, rfl⟩
            · have hP : va_P D vwCl ([(h0, .inr (0, tk_ev e))]) H := hP
              have hD : va_D A ([(h0, .inr (0, tk_ev e))]) := hD
              refine lv_if_eq (tgt := 144) hx hb dX0_take_133 (by decide) (fun c_10 => ?_) (fun c_10 => ?_)
              · exact absurd c_10 (by decide)
              · skip
                refine lv_lload hx hb dX0_take_136 (lv_at hl 0 rfl) ?_
                refine kc_i (wc := []) (wr := [(h0, .inr (0, tk_ev e))]) (va_runSN (As := [.long (tk_div (e 4) ((e 4) + v))]) (rest := []) ⟨hx, hb, hml, hown, hts⟩ (k_X3_isInLimit l D cI cM cJ _ (tk_div (e 4) ((e 4) + v))) ⟨va_cnB 1 hts gX0_take_X3_isInLimit_n54 rfl rfl rfl (hN.at 34 rfl) (hm 17 (.initialized RX3) rfl) (by decide +kernel) ⟨Nat.le_of_ble_eq_true rfl, Nat.le_of_ble_eq_true rfl⟩, (hm 25 (.static yX3_isInLimit) rfl), trivial⟩ (kp_preS (wc := []) (wr := [(h0, .inr (0, tk_ev e))]) hN hK hP hD) rfl rfl hl.1 rfl (lv_room (Nat.le_of_ble_eq_true rfl)) dX0_take_138 ⟨Nat.le_of_ble_eq_true rfl, Nat.le_of_ble_eq_true rfl⟩) hP hD hS hA (fun r_11 u_11 H locs p_11 hP hD hS => ?_)
                rcases p_11 with ⟨p_11, rfl⟩ | ⟨p_11, rfl⟩
                · have hP : va_P D vwCl ([(h0, .inr (0, tk_ev e))]) H := hP
                  have hD : va_D A ([(h0, .inr (0, tk_ev e))]) := hD
                  refine lv_if_ne (tgt := 147) hx hb dX0_take_141 (by decide) (fun c_12 => ?_) (fun c_12 => ?_)
                  · skip
                    refine lv_aload_n hx hb dX0_take_147 rfl (lv_at hl 7 rfl) ?_
                    refine lv_aload_n hx hb dX0_take_148 rfl (lv_at hl 7 rfl) ?_
                    refine va_get (D := D) (ci := 0) (v := .long (e 0)) (C := RX0) (T := TX0) (N := 8) hx hb hts izX0_take_0 hown hK hP 0 rfl rfl 0 (by decide) (hm 7 (.fieldLink RX0 9 "TankFilter$Estimate" "level" "J") rfl) (fun _ h9 => h9) rfl dX0_take_149 ?_
                    refine lv_lload hx hb dX0_take_152 (lv_at hl 1 rfl) ?_
                    refine lv_lload hx hb dX0_take_154 (lv_at hl 3 rfl) ?_
                    refine kc_l (wc := []) (wr := [(h0, .inr (0, tk_ev e))]) (va_runSN (As := [.long (tk_div (e 3) ((e 4) + v)), .long (z - (e 1))]) (rest := [.long (e 0), .ref h0]) ⟨hx, hb, hml, hown, hts⟩ (k_X3_times l D cI cM cJ _ (tk_div (e 3) ((e 4) + v)) (z - (e 1))) ⟨va_cnB 2 hts gX0_take_X3_times_n59 rfl rfl rfl (hN.at 38 rfl) (hm 17 (.initialized RX3) rfl) (by decide +kernel) ⟨Nat.le_of_ble_eq_true rfl, Nat.le_of_ble_eq_true rfl⟩, (hm 29 (.static yX3_times) rfl), trivial⟩ (kp_preS (wc := []) (wr := [(h0, .inr (0, tk_ev e))]) hN hK hP hD) rfl rfl hl.1 rfl (lv_room (Nat.le_of_ble_eq_true rfl)) dX0_take_156 ⟨Nat.le_of_ble_eq_true rfl, Nat.le_of_ble_eq_true rfl⟩) hP hD hS hA (fun r_13 u_13 H locs p_13 hP hD hS => ?_)
                    obtain rfl : r_13 = tk_mul (tk_div (e 3) ((e 4) + v)) (z - (e 1)) := p_13
                    have hP : va_P D vwCl ([(h0, .inr (0, tk_ev e))]) H := hP
                    have hD : va_D A ([(h0, .inr (0, tk_ev e))]) := hD
                    refine lv_ladd hx hb dX0_take_159 ?_
                    refine lv_aload_n hx hb dX0_take_160 rfl (lv_at hl 7 rfl) ?_
                    refine va_get (D := D) (ci := 0) (v := .long (e 1)) (C := RX0) (T := TX0) (N := 8) hx hb hts izX0_take_0 hown hK hP 0 rfl rfl 1 (by decide) (hm 8 (.fieldLink RX0 15 "TankFilter$Estimate" "flow" "J") rfl) (fun _ h9 => h9) rfl dX0_take_161 ?_
                    refine lv_lload hx hb dX0_take_164 (lv_at hl 0 rfl) ?_
                    refine lv_lload hx hb dX0_take_166 (lv_at hl 3 rfl) ?_
                    refine kc_l (wc := []) (wr := [(h0, .inr (0, tk_ev e))]) (va_runSN (As := [.long (tk_div (e 4) ((e 4) + v)), .long (z - (e 1))]) (rest := [.long (e 1), .long ((e 0) + (tk_mul (tk_div (e 3) ((e 4) + v)) (z - (e 1)))), .ref h0]) ⟨hx, hb, hml, hown, hts⟩ (k_X3_times l D cI cM cJ _ (tk_div (e 4) ((e 4) + v)) (z - (e 1))) ⟨va_cnB 2 hts gX0_take_X3_times_n59 rfl rfl rfl (hN.at 38 rfl) (hm 17 (.initialized RX3) rfl) (by decide +kernel) ⟨Nat.le_of_ble_eq_true rfl, Nat.le_of_ble_eq_true rfl⟩, (hm 29 (.static yX3_times) rfl), trivial⟩ (kp_preS (wc := []) (wr := [(h0, .inr (0, tk_ev e))]) hN hK hP hD) rfl rfl hl.1 rfl (lv_room (Nat.le_of_ble_eq_true rfl)) dX0_take_168 ⟨Nat.le_of_ble_eq_true rfl, Nat.le_of_ble_eq_true rfl⟩) hP hD hS hA (fun r_14 u_14 H locs p_14 hP hD hS => ?_)
                    obtain rfl : r_14 = tk_mul (tk_div (e 4) ((e 4) + v)) (z - (e 1)) := p_14
                    have hP : va_P D vwCl ([(h0, .inr (0, tk_ev e))]) H := hP
                    have hD : va_D A ([(h0, .inr (0, tk_ev e))]) := hD
                    refine lv_ladd hx hb dX0_take_171 ?_
                    refine lv_aload_n hx hb dX0_take_172 rfl (lv_at hl 7 rfl) ?_
                    refine va_get (D := D) (ci := 0) (v := .long (e 2)) (C := RX0) (T := TX0) (N := 8) hx hb hts izX0_take_0 hown hK hP 0 rfl rfl 2 (by decide) (hm 1 (.fieldLink RX0 20 "TankFilter$Estimate" "levelVariance" "J") rfl) (fun _ h9 => h9) rfl dX0_take_173 ?_
                    refine lv_lload hx hb dX0_take_176 (lv_at hl 1 rfl) ?_
                    refine lv_lload hx hb dX0_take_178 (lv_at hl 5 rfl) ?_
                    refine kc_l (wc := []) (wr := [(h0, .inr (0, tk_ev e))]) (va_runSN (As := [.long (tk_div (e 3) ((e 4) + v)), .long (e 3)]) (rest := [.long (e 2), .long ((e 1) + (tk_mul (tk_div (e 4) ((e 4) + v)) (z - (e 1)))), .long ((e 0) + (tk_mul (tk_div (e 3) ((e 4) + v)) (z - (e 1)))), .ref h0]) ⟨hx, hb, hml, hown, hts⟩ (k_X3_times l D cI cM cJ _ (tk_div (e 3) ((e 4) + v)) (e 3)) ⟨va_cnB 2 hts gX0_take_X3_times_n59 rfl rfl rfl (hN.at 38 rfl) (hm 17 (.initialized RX3) rfl) (by decide +kernel) ⟨Nat.le_of_ble_eq_true rfl, Nat.le_of_ble_eq_true rfl⟩, (hm 29 (.static yX3_times) rfl), trivial⟩ (kp_preS (wc := []) (wr := [(h0, .inr (0, tk_ev e))]) hN hK hP hD) rfl rfl hl.1 rfl (lv_room (Nat.le_of_ble_eq_true rfl)) dX0_take_180 ⟨Nat.le_of_ble_eq_true rfl, Nat.le_of_ble_eq_true rfl⟩) hP hD hS hA (fun r_15 u_15 H locs p_15 hP hD hS => ?_)
                    obtain rfl : r_15 = tk_mul (tk_div (e 3) ((e 4) + v)) (e 3) := p_15
                    have hP : va_P D vwCl ([(h0, .inr (0, tk_ev e))]) H := hP
                    have hD : va_D A ([(h0, .inr (0, tk_ev e))]) := hD
                    refine lv_lsub hx hb dX0_take_183 ?_
                    refine lv_aload_n hx hb dX0_take_184 rfl (lv_at hl 7 rfl) ?_
                    refine va_get (D := D) (ci := 0) (v := .long (e 3)) (C := RX0) (T := TX0) (N := 8) hx hb hts izX0_take_0 hown hK hP 0 rfl rfl 3 (by decide) (hm 2 (.fieldLink RX0 23 "TankFilter$Estimate" "covariance" "J") rfl) (fun _ h9 => h9) rfl dX0_take_185 ?_
                    refine lv_lload hx hb dX0_take_188 (lv_at hl 1 rfl) ?_
                    refine lv_lload hx hb dX0_take_190 (lv_at hl 4 rfl) ?_
                    refine kc_l (wc := []) (wr := [(h0, .inr (0, tk_ev e))]) (kw_runSN 16 2 (As := [.long (tk_div (e 3) ((e 4) + v)), .long (e 4)]) (rest := [.long (e 3), .long ((e 2) - (tk_mul (tk_div (e 3) ((e 4) + v)) (e 3))), .long ((e 1) + (tk_mul (tk_div (e 4) ((e 4) + v)) (z - (e 1)))), .long ((e 0) + (tk_mul (tk_div (e 3) ((e 4) + v)) (z - (e 1)))), .ref h0]) ⟨hx, hb, hml, hown, hts⟩ (k_X3_times l D cI cM cJ _ (tk_div (e 3) ((e 4) + v)) (e 4)) gX0_take_X3_times_n59 rfl rfl rfl (hN.at 38 rfl) (hm 17 (.initialized RX3) rfl) (hm 29 (.static yX3_times) rfl) (by decide +kernel) ⟨Nat.le_of_ble_eq_true rfl, Nat.le_of_ble_eq_true rfl⟩ (kp_preS (wc := []) (wr := [(h0, .inr (0, tk_ev e))]) hN hK hP hD) rfl rfl hl.1 rfl (kw_room (Nat.le_of_ble_eq_true rfl)) dX0_take_192 ⟨Nat.le_of_ble_eq_true rfl, Nat.le_of_ble_eq_true rfl⟩) hP hD hS hA (fun r_16 u_16 H locs p_16 hP hD hS => ?_)
                    obtain rfl : r_16 = tk_mul (tk_div (e 3) ((e 4) + v)) (e 4) := p_16
                    have hP : va_P D vwCl ([(h0, .inr (0, tk_ev e))]) H := hP
                    have hD : va_D A ([(h0, .inr (0, tk_ev e))]) := hD
                    refine lv_lsub hx hb dX0_take_195 ?_
                    refine lv_aload_n hx hb dX0_take_196 rfl (lv_at hl 7 rfl) ?_
                    refine va_get (D := D) (ci := 0) (v := .long (e 4)) (C := RX0) (T := TX0) (N := 8) hx hb hts izX0_take_0 hown hK hP 0 rfl rfl 4 (by decide) (hm 3 (.fieldLink RX0 26 "TankFilter$Estimate" "flowVariance" "J") rfl) (fun _ h9 => h9) rfl dX0_take_197 ?_
                    refine lv_lload hx hb dX0_take_200 (lv_at hl 0 rfl) ?_
                    refine lv_lload hx hb dX0_take_202 (lv_at hl 4 rfl) ?_
                    refine kc_l (wc := []) (wr := [(h0, .inr (0, tk_ev e))]) (kw_runSN 16 2 (As := [.long (tk_div (e 4) ((e 4) + v)), .long (e 4)]) (rest := [.long (e 4), .long ((e 3) - (tk_mul (tk_div (e 3) ((e 4) + v)) (e 4))), .long ((e 2) - (tk_mul (tk_div (e 3) ((e 4) + v)) (e 3))), .long ((e 1) + (tk_mul (tk_div (e 4) ((e 4) + v)) (z - (e 1)))), .long ((e 0) + (tk_mul (tk_div (e 3) ((e 4) + v)) (z - (e 1)))), .ref h0]) ⟨hx, hb, hml, hown, hts⟩ (k_X3_times l D cI cM cJ _ (tk_div (e 4) ((e 4) + v)) (e 4)) gX0_take_X3_times_n59 rfl rfl rfl (hN.at 38 rfl) (hm 17 (.initialized RX3) rfl) (hm 29 (.static yX3_times) rfl) (by decide +kernel) ⟨Nat.le_of_ble_eq_true rfl, Nat.le_of_ble_eq_true rfl⟩ (kp_preS (wc := []) (wr := [(h0, .inr (0, tk_ev e))]) hN hK hP hD) rfl rfl hl.1 rfl (kw_room (Nat.le_of_ble_eq_true rfl)) dX0_take_204 ⟨Nat.le_of_ble_eq_true rfl, Nat.le_of_ble_eq_true rfl⟩) hP hD hS hA (fun r_17 u_17 H locs p_17 hP hD hS => ?_)
                    obtain rfl : r_17 = tk_mul (tk_div (e 4) ((e 4) + v)) (e 4) := p_17
                    have hP : va_P D vwCl ([(h0, .inr (0, tk_ev e))]) H := hP
                    have hD : va_D A ([(h0, .inr (0, tk_ev e))]) := hD
                    refine lv_lsub hx hb dX0_take_207 ?_
                    refine kc_i (wc := [(h0, .inr (0, tk_ev e))]) (wr := []) (va_runV (As := [.long ((e 0) + (tk_mul (tk_div (e 3) ((e 4) + v)) (z - (e 1)))), .long ((e 1) + (tk_mul (tk_div (e 4) ((e 4) + v)) (z - (e 1)))), .long ((e 2) - (tk_mul (tk_div (e 3) ((e 4) + v)) (e 3))), .long ((e 3) - (tk_mul (tk_div (e 3) ((e 4) + v)) (e 4))), .long ((e 4) - (tk_mul (tk_div (e 4) ((e 4) + v)) (e 4)))]) (rest := []) ⟨hx, hb, hml, hown, hts⟩ (k_X0_move l D cI cM cJ _ h0 e ((e 0) + (tk_mul (tk_div (e 3) ((e 4) + v)) (z - (e 1)))) ((e 1) + (tk_mul (tk_div (e 4) ((e 4) + v)) (z - (e 1)))) ((e 2) - (tk_mul (tk_div (e 3) ((e 4) + v)) (e 3))) ((e 3) - (tk_mul (tk_div (e 3) ((e 4) + v)) (e 4))) ((e 4) - (tk_mul (tk_div (e 4) ((e 4) + v)) (e 4)))) (cwV 5 hts gX0_take_X0_move rfl rfl rfl (by decide +kernel) ⟨Nat.le_of_ble_eq_true rfl, Nat.le_of_ble_eq_true rfl⟩) (kp_preV (q := (RX0, TX0, 8)) (wc := [(h0, .inr (0, tk_ev e))]) (wr := []) hN hK hP hD 0 rfl rfl) rfl rfl hl.1 rfl (lv_room (Nat.le_of_ble_eq_true rfl)) dX0_take_208 ⟨Nat.le_of_ble_eq_true rfl, Nat.le_of_ble_eq_true rfl⟩) hP hD hS hA (fun r_18 u_18 H locs p_18 hP hD hS => ?_)
                    rcases p_18 with ⟨p_18, rfl, rfl⟩ | ⟨p_18, rfl, rfl⟩
                    · have hP : va_P D vwCl ([(h0, .inr (0, tk_ev (tk_mv e ((e 0) + (tk_mul (tk_div (e 3) ((e 4) + v)) (z - (e 1)))) ((e 1) + (tk_mul (tk_div (e 4) ((e 4) + v)) (z - (e 1)))) ((e 2) - (tk_mul (tk_div (e 3) ((e 4) + v)) (e 3))) ((e 3) - (tk_mul (tk_div (e 3) ((e 4) + v)) (e 4))) ((e 4) - (tk_mul (tk_div (e 4) ((e 4) + v)) (e 4))))))]) H := hP
                      have hD : va_D A ([(h0, .inr (0, tk_ev (tk_mv e ((e 0) + (tk_mul (tk_div (e 3) ((e 4) + v)) (z - (e 1)))) ((e 1) + (tk_mul (tk_div (e 4) ((e 4) + v)) (z - (e 1)))) ((e 2) - (tk_mul (tk_div (e 3) ((e 4) + v)) (e 3))) ((e 3) - (tk_mul (tk_div (e 3) ((e 4) + v)) (e 4))) ((e 4) - (tk_mul (tk_div (e 4) ((e 4) + v)) (e 4))))))]) := hD
                      refine lv_istore (lv' := [(21, .int 1), (19, .long (tk_div (e 4) ((e 4) + v))), (17, .long (tk_div (e 3) ((e 4) + v))), (15, .long ((e 4) + v)), (13, .long (z - (e 1))), (11, .long (e 4)), (9, .long (e 3)), (8, .int 0), (0, .ref h0), (1, .long z), (3, .int kd), (4, .long v), (6, .long g)]) hx hb dX0_take_211 hl (by decide) rfl (fun ls hl => ?_)
                      refine lv_iload hx hb dX0_take_213 (lv_at hl 0 rfl) ?_
                      refine lv_if_ne (tgt := 221) hx hb dX0_take_215 (by decide) (fun c_19 => ?_) (fun c_19 => ?_)
                      · skip
                        refine lv_aload_n hx hb dX0_take_221 rfl (lv_at hl 8 rfl) ?_
                        refine lv_lload hx hb dX0_take_222 (lv_at hl 4 rfl) ?_
                        refine va_put (D := D) (ci := 0) (v := .long (z - (e 1))) (ty := .long) (C := RX0) (T := TX0) (N := 8) hx hb hts izX0_take_0 tyX0 tyX0_ok nmX0 hown hK hP hD hS 0 rfl rfl 5 (by decide) (hm 5 (.fieldLink RX0 31 "TankFilter$Estimate" "innovation" "J") rfl) (fun _ h9 => h9) rfl (by decide +kernel) rfl rfl (Nat.le_of_ble_eq_true rfl) dX0_take_224 (fun H locs hP hD hS => ?_)
                        have hP : va_P D vwCl ([(h0, .inr (0, [.long ((tk_mv e ((e 0) + (tk_mul (tk_div (e 3) ((e 4) + v)) (z - (e 1)))) ((e 1) + (tk_mul (tk_div (e 4) ((e 4) + v)) (z - (e 1)))) ((e 2) - (tk_mul (tk_div (e 3) ((e 4) + v)) (e 3))) ((e 3) - (tk_mul (tk_div (e 3) ((e 4) + v)) (e 4))) ((e 4) - (tk_mul (tk_div (e 4) ((e 4) + v)) (e 4)))) 0), .long ((tk_mv e ((e 0) + (tk_mul (tk_div (e 3) ((e 4) + v)) (z - (e 1)))) ((e 1) + (tk_mul (tk_div (e 4) ((e 4) + v)) (z - (e 1)))) ((e 2) - (tk_mul (tk_div (e 3) ((e 4) + v)) (e 3))) ((e 3) - (tk_mul (tk_div (e 3) ((e 4) + v)) (e 4))) ((e 4) - (tk_mul (tk_div (e 4) ((e 4) + v)) (e 4)))) 1), .long ((tk_mv e ((e 0) + (tk_mul (tk_div (e 3) ((e 4) + v)) (z - (e 1)))) ((e 1) + (tk_mul (tk_div (e 4) ((e 4) + v)) (z - (e 1)))) ((e 2) - (tk_mul (tk_div (e 3) ((e 4) + v)) (e 3))) ((e 3) - (tk_mul (tk_div (e 3) ((e 4) + v)) (e 4))) ((e 4) - (tk_mul (tk_div (e 4) ((e 4) + v)) (e 4)))) 2), .long ((tk_mv e ((e 0) + (tk_mul (tk_div (e 3) ((e 4) + v)) (z - (e 1)))) ((e 1) + (tk_mul (tk_div (e 4) ((e 4) + v)) (z - (e 1)))) ((e 2) - (tk_mul (tk_div (e 3) ((e 4) + v)) (e 3))) ((e 3) - (tk_mul (tk_div (e 3) ((e 4) + v)) (e 4))) ((e 4) - (tk_mul (tk_div (e 4) ((e 4) + v)) (e 4)))) 3), .long ((tk_mv e ((e 0) + (tk_mul (tk_div (e 3) ((e 4) + v)) (z - (e 1)))) ((e 1) + (tk_mul (tk_div (e 4) ((e 4) + v)) (z - (e 1)))) ((e 2) - (tk_mul (tk_div (e 3) ((e 4) + v)) (e 3))) ((e 3) - (tk_mul (tk_div (e 3) ((e 4) + v)) (e 4))) ((e 4) - (tk_mul (tk_div (e 4) ((e 4) + v)) (e 4)))) 4), .long (z - (e 1)), .long ((tk_mv e ((e 0) + (tk_mul (tk_div (e 3) ((e 4) + v)) (z - (e 1)))) ((e 1) + (tk_mul (tk_div (e 4) ((e 4) + v)) (z - (e 1)))) ((e 2) - (tk_mul (tk_div (e 3) ((e 4) + v)) (e 3))) ((e 3) - (tk_mul (tk_div (e 3) ((e 4) + v)) (e 4))) ((e 4) - (tk_mul (tk_div (e 4) ((e 4) + v)) (e 4)))) 6), .long ((tk_mv e ((e 0) + (tk_mul (tk_div (e 3) ((e 4) + v)) (z - (e 1)))) ((e 1) + (tk_mul (tk_div (e 4) ((e 4) + v)) (z - (e 1)))) ((e 2) - (tk_mul (tk_div (e 3) ((e 4) + v)) (e 3))) ((e 3) - (tk_mul (tk_div (e 3) ((e 4) + v)) (e 4))) ((e 4) - (tk_mul (tk_div (e 4) ((e 4) + v)) (e 4)))) 7)]))]) H := hP
                        have hD : va_D A ([(h0, .inr (0, [.long ((tk_mv e ((e 0) + (tk_mul (tk_div (e 3) ((e 4) + v)) (z - (e 1)))) ((e 1) + (tk_mul (tk_div (e 4) ((e 4) + v)) (z - (e 1)))) ((e 2) - (tk_mul (tk_div (e 3) ((e 4) + v)) (e 3))) ((e 3) - (tk_mul (tk_div (e 3) ((e 4) + v)) (e 4))) ((e 4) - (tk_mul (tk_div (e 4) ((e 4) + v)) (e 4)))) 0), .long ((tk_mv e ((e 0) + (tk_mul (tk_div (e 3) ((e 4) + v)) (z - (e 1)))) ((e 1) + (tk_mul (tk_div (e 4) ((e 4) + v)) (z - (e 1)))) ((e 2) - (tk_mul (tk_div (e 3) ((e 4) + v)) (e 3))) ((e 3) - (tk_mul (tk_div (e 3) ((e 4) + v)) (e 4))) ((e 4) - (tk_mul (tk_div (e 4) ((e 4) + v)) (e 4)))) 1), .long ((tk_mv e ((e 0) + (tk_mul (tk_div (e 3) ((e 4) + v)) (z - (e 1)))) ((e 1) + (tk_mul (tk_div (e 4) ((e 4) + v)) (z - (e 1)))) ((e 2) - (tk_mul (tk_div (e 3) ((e 4) + v)) (e 3))) ((e 3) - (tk_mul (tk_div (e 3) ((e 4) + v)) (e 4))) ((e 4) - (tk_mul (tk_div (e 4) ((e 4) + v)) (e 4)))) 2), .long ((tk_mv e ((e 0) + (tk_mul (tk_div (e 3) ((e 4) + v)) (z - (e 1)))) ((e 1) + (tk_mul (tk_div (e 4) ((e 4) + v)) (z - (e 1)))) ((e 2) - (tk_mul (tk_div (e 3) ((e 4) + v)) (e 3))) ((e 3) - (tk_mul (tk_div (e 3) ((e 4) + v)) (e 4))) ((e 4) - (tk_mul (tk_div (e 4) ((e 4) + v)) (e 4)))) 3), .long ((tk_mv e ((e 0) + (tk_mul (tk_div (e 3) ((e 4) + v)) (z - (e 1)))) ((e 1) + (tk_mul (tk_div (e 4) ((e 4) + v)) (z - (e 1)))) ((e 2) - (tk_mul (tk_div (e 3) ((e 4) + v)) (e 3))) ((e 3) - (tk_mul (tk_div (e 3) ((e 4) + v)) (e 4))) ((e 4) - (tk_mul (tk_div (e 4) ((e 4) + v)) (e 4)))) 4), .long (z - (e 1)), .long ((tk_mv e ((e 0) + (tk_mul (tk_div (e 3) ((e 4) + v)) (z - (e 1)))) ((e 1) + (tk_mul (tk_div (e 4) ((e 4) + v)) (z - (e 1)))) ((e 2) - (tk_mul (tk_div (e 3) ((e 4) + v)) (e 3))) ((e 3) - (tk_mul (tk_div (e 3) ((e 4) + v)) (e 4))) ((e 4) - (tk_mul (tk_div (e 4) ((e 4) + v)) (e 4)))) 6), .long ((tk_mv e ((e 0) + (tk_mul (tk_div (e 3) ((e 4) + v)) (z - (e 1)))) ((e 1) + (tk_mul (tk_div (e 4) ((e 4) + v)) (z - (e 1)))) ((e 2) - (tk_mul (tk_div (e 3) ((e 4) + v)) (e 3))) ((e 3) - (tk_mul (tk_div (e 3) ((e 4) + v)) (e 4))) ((e 4) - (tk_mul (tk_div (e 4) ((e 4) + v)) (e 4)))) 7)]))]) := hD
                        refine lv_aload_n hx hb dX0_take_227 rfl (lv_at hl 8 rfl) ?_
                        refine lv_lload hx hb dX0_take_228 (lv_at hl 2 rfl) ?_
                        refine va_put (D := D) (ci := 0) (v := .long (tk_div (e 3) ((e 4) + v))) (ty := .long) (C := RX0) (T := TX0) (N := 8) hx hb hts izX0_take_0 tyX0 tyX0_ok nmX0 hown hK hP hD hS 0 rfl rfl 6 (by decide) (hm 9 (.fieldLink RX0 34 "TankFilter$Estimate" "levelGain" "J") rfl) (fun _ h9 => h9) rfl (by decide +kernel) rfl rfl (Nat.le_of_ble_eq_true rfl) dX0_take_230 (fun H locs hP hD hS => ?_)
                        have hP : va_P D vwCl ([(h0, .inr (0, [.long ((tk_mv e ((e 0) + (tk_mul (tk_div (e 3) ((e 4) + v)) (z - (e 1)))) ((e 1) + (tk_mul (tk_div (e 4) ((e 4) + v)) (z - (e 1)))) ((e 2) - (tk_mul (tk_div (e 3) ((e 4) + v)) (e 3))) ((e 3) - (tk_mul (tk_div (e 3) ((e 4) + v)) (e 4))) ((e 4) - (tk_mul (tk_div (e 4) ((e 4) + v)) (e 4)))) 0), .long ((tk_mv e ((e 0) + (tk_mul (tk_div (e 3) ((e 4) + v)) (z - (e 1)))) ((e 1) + (tk_mul (tk_div (e 4) ((e 4) + v)) (z - (e 1)))) ((e 2) - (tk_mul (tk_div (e 3) ((e 4) + v)) (e 3))) ((e 3) - (tk_mul (tk_div (e 3) ((e 4) + v)) (e 4))) ((e 4) - (tk_mul (tk_div (e 4) ((e 4) + v)) (e 4)))) 1), .long ((tk_mv e ((e 0) + (tk_mul (tk_div (e 3) ((e 4) + v)) (z - (e 1)))) ((e 1) + (tk_mul (tk_div (e 4) ((e 4) + v)) (z - (e 1)))) ((e 2) - (tk_mul (tk_div (e 3) ((e 4) + v)) (e 3))) ((e 3) - (tk_mul (tk_div (e 3) ((e 4) + v)) (e 4))) ((e 4) - (tk_mul (tk_div (e 4) ((e 4) + v)) (e 4)))) 2), .long ((tk_mv e ((e 0) + (tk_mul (tk_div (e 3) ((e 4) + v)) (z - (e 1)))) ((e 1) + (tk_mul (tk_div (e 4) ((e 4) + v)) (z - (e 1)))) ((e 2) - (tk_mul (tk_div (e 3) ((e 4) + v)) (e 3))) ((e 3) - (tk_mul (tk_div (e 3) ((e 4) + v)) (e 4))) ((e 4) - (tk_mul (tk_div (e 4) ((e 4) + v)) (e 4)))) 3), .long ((tk_mv e ((e 0) + (tk_mul (tk_div (e 3) ((e 4) + v)) (z - (e 1)))) ((e 1) + (tk_mul (tk_div (e 4) ((e 4) + v)) (z - (e 1)))) ((e 2) - (tk_mul (tk_div (e 3) ((e 4) + v)) (e 3))) ((e 3) - (tk_mul (tk_div (e 3) ((e 4) + v)) (e 4))) ((e 4) - (tk_mul (tk_div (e 4) ((e 4) + v)) (e 4)))) 4), .long (z - (e 1)), .long (tk_div (e 3) ((e 4) + v)), .long ((tk_mv e ((e 0) + (tk_mul (tk_div (e 3) ((e 4) + v)) (z - (e 1)))) ((e 1) + (tk_mul (tk_div (e 4) ((e 4) + v)) (z - (e 1)))) ((e 2) - (tk_mul (tk_div (e 3) ((e 4) + v)) (e 3))) ((e 3) - (tk_mul (tk_div (e 3) ((e 4) + v)) (e 4))) ((e 4) - (tk_mul (tk_div (e 4) ((e 4) + v)) (e 4)))) 7)]))]) H := hP
                        have hD : va_D A ([(h0, .inr (0, [.long ((tk_mv e ((e 0) + (tk_mul (tk_div (e 3) ((e 4) + v)) (z - (e 1)))) ((e 1) + (tk_mul (tk_div (e 4) ((e 4) + v)) (z - (e 1)))) ((e 2) - (tk_mul (tk_div (e 3) ((e 4) + v)) (e 3))) ((e 3) - (tk_mul (tk_div (e 3) ((e 4) + v)) (e 4))) ((e 4) - (tk_mul (tk_div (e 4) ((e 4) + v)) (e 4)))) 0), .long ((tk_mv e ((e 0) + (tk_mul (tk_div (e 3) ((e 4) + v)) (z - (e 1)))) ((e 1) + (tk_mul (tk_div (e 4) ((e 4) + v)) (z - (e 1)))) ((e 2) - (tk_mul (tk_div (e 3) ((e 4) + v)) (e 3))) ((e 3) - (tk_mul (tk_div (e 3) ((e 4) + v)) (e 4))) ((e 4) - (tk_mul (tk_div (e 4) ((e 4) + v)) (e 4)))) 1), .long ((tk_mv e ((e 0) + (tk_mul (tk_div (e 3) ((e 4) + v)) (z - (e 1)))) ((e 1) + (tk_mul (tk_div (e 4) ((e 4) + v)) (z - (e 1)))) ((e 2) - (tk_mul (tk_div (e 3) ((e 4) + v)) (e 3))) ((e 3) - (tk_mul (tk_div (e 3) ((e 4) + v)) (e 4))) ((e 4) - (tk_mul (tk_div (e 4) ((e 4) + v)) (e 4)))) 2), .long ((tk_mv e ((e 0) + (tk_mul (tk_div (e 3) ((e 4) + v)) (z - (e 1)))) ((e 1) + (tk_mul (tk_div (e 4) ((e 4) + v)) (z - (e 1)))) ((e 2) - (tk_mul (tk_div (e 3) ((e 4) + v)) (e 3))) ((e 3) - (tk_mul (tk_div (e 3) ((e 4) + v)) (e 4))) ((e 4) - (tk_mul (tk_div (e 4) ((e 4) + v)) (e 4)))) 3), .long ((tk_mv e ((e 0) + (tk_mul (tk_div (e 3) ((e 4) + v)) (z - (e 1)))) ((e 1) + (tk_mul (tk_div (e 4) ((e 4) + v)) (z - (e 1)))) ((e 2) - (tk_mul (tk_div (e 3) ((e 4) + v)) (e 3))) ((e 3) - (tk_mul (tk_div (e 3) ((e 4) + v)) (e 4))) ((e 4) - (tk_mul (tk_div (e 4) ((e 4) + v)) (e 4)))) 4), .long (z - (e 1)), .long (tk_div (e 3) ((e 4) + v)), .long ((tk_mv e ((e 0) + (tk_mul (tk_div (e 3) ((e 4) + v)) (z - (e 1)))) ((e 1) + (tk_mul (tk_div (e 4) ((e 4) + v)) (z - (e 1)))) ((e 2) - (tk_mul (tk_div (e 3) ((e 4) + v)) (e 3))) ((e 3) - (tk_mul (tk_div (e 3) ((e 4) + v)) (e 4))) ((e 4) - (tk_mul (tk_div (e 4) ((e 4) + v)) (e 4)))) 7)]))]) := hD
                        refine lv_aload_n hx hb dX0_take_233 rfl (lv_at hl 8 rfl) ?_
                        refine lv_lload hx hb dX0_take_234 (lv_at hl 1 rfl) ?_
                        refine va_put (D := D) (ci := 0) (v := .long (tk_div (e 4) ((e 4) + v))) (ty := .long) (C := RX0) (T := TX0) (N := 8) hx hb hts izX0_take_0 tyX0 tyX0_ok nmX0 hown hK hP hD hS 0 rfl rfl 7 (by decide) (hm 10 (.fieldLink RX0 37 "TankFilter$Estimate" "flowGain" "J") rfl) (fun _ h9 => h9) rfl (by decide +kernel) rfl rfl (Nat.le_of_ble_eq_true rfl) dX0_take_236 (fun H locs hP hD hS => ?_)
                        have hP : va_P D vwCl ([(h0, .inr (0, [.long ((tk_mv e ((e 0) + (tk_mul (tk_div (e 3) ((e 4) + v)) (z - (e 1)))) ((e 1) + (tk_mul (tk_div (e 4) ((e 4) + v)) (z - (e 1)))) ((e 2) - (tk_mul (tk_div (e 3) ((e 4) + v)) (e 3))) ((e 3) - (tk_mul (tk_div (e 3) ((e 4) + v)) (e 4))) ((e 4) - (tk_mul (tk_div (e 4) ((e 4) + v)) (e 4)))) 0), .long ((tk_mv e ((e 0) + (tk_mul (tk_div (e 3) ((e 4) + v)) (z - (e 1)))) ((e 1) + (tk_mul (tk_div (e 4) ((e 4) + v)) (z - (e 1)))) ((e 2) - (tk_mul (tk_div (e 3) ((e 4) + v)) (e 3))) ((e 3) - (tk_mul (tk_div (e 3) ((e 4) + v)) (e 4))) ((e 4) - (tk_mul (tk_div (e 4) ((e 4) + v)) (e 4)))) 1), .long ((tk_mv e ((e 0) + (tk_mul (tk_div (e 3) ((e 4) + v)) (z - (e 1)))) ((e 1) + (tk_mul (tk_div (e 4) ((e 4) + v)) (z - (e 1)))) ((e 2) - (tk_mul (tk_div (e 3) ((e 4) + v)) (e 3))) ((e 3) - (tk_mul (tk_div (e 3) ((e 4) + v)) (e 4))) ((e 4) - (tk_mul (tk_div (e 4) ((e 4) + v)) (e 4)))) 2), .long ((tk_mv e ((e 0) + (tk_mul (tk_div (e 3) ((e 4) + v)) (z - (e 1)))) ((e 1) + (tk_mul (tk_div (e 4) ((e 4) + v)) (z - (e 1)))) ((e 2) - (tk_mul (tk_div (e 3) ((e 4) + v)) (e 3))) ((e 3) - (tk_mul (tk_div (e 3) ((e 4) + v)) (e 4))) ((e 4) - (tk_mul (tk_div (e 4) ((e 4) + v)) (e 4)))) 3), .long ((tk_mv e ((e 0) + (tk_mul (tk_div (e 3) ((e 4) + v)) (z - (e 1)))) ((e 1) + (tk_mul (tk_div (e 4) ((e 4) + v)) (z - (e 1)))) ((e 2) - (tk_mul (tk_div (e 3) ((e 4) + v)) (e 3))) ((e 3) - (tk_mul (tk_div (e 3) ((e 4) + v)) (e 4))) ((e 4) - (tk_mul (tk_div (e 4) ((e 4) + v)) (e 4)))) 4), .long (z - (e 1)), .long (tk_div (e 3) ((e 4) + v)), .long (tk_div (e 4) ((e 4) + v))]))]) H := hP
                        have hD : va_D A ([(h0, .inr (0, [.long ((tk_mv e ((e 0) + (tk_mul (tk_div (e 3) ((e 4) + v)) (z - (e 1)))) ((e 1) + (tk_mul (tk_div (e 4) ((e 4) + v)) (z - (e 1)))) ((e 2) - (tk_mul (tk_div (e 3) ((e 4) + v)) (e 3))) ((e 3) - (tk_mul (tk_div (e 3) ((e 4) + v)) (e 4))) ((e 4) - (tk_mul (tk_div (e 4) ((e 4) + v)) (e 4)))) 0), .long ((tk_mv e ((e 0) + (tk_mul (tk_div (e 3) ((e 4) + v)) (z - (e 1)))) ((e 1) + (tk_mul (tk_div (e 4) ((e 4) + v)) (z - (e 1)))) ((e 2) - (tk_mul (tk_div (e 3) ((e 4) + v)) (e 3))) ((e 3) - (tk_mul (tk_div (e 3) ((e 4) + v)) (e 4))) ((e 4) - (tk_mul (tk_div (e 4) ((e 4) + v)) (e 4)))) 1), .long ((tk_mv e ((e 0) + (tk_mul (tk_div (e 3) ((e 4) + v)) (z - (e 1)))) ((e 1) + (tk_mul (tk_div (e 4) ((e 4) + v)) (z - (e 1)))) ((e 2) - (tk_mul (tk_div (e 3) ((e 4) + v)) (e 3))) ((e 3) - (tk_mul (tk_div (e 3) ((e 4) + v)) (e 4))) ((e 4) - (tk_mul (tk_div (e 4) ((e 4) + v)) (e 4)))) 2), .long ((tk_mv e ((e 0) + (tk_mul (tk_div (e 3) ((e 4) + v)) (z - (e 1)))) ((e 1) + (tk_mul (tk_div (e 4) ((e 4) + v)) (z - (e 1)))) ((e 2) - (tk_mul (tk_div (e 3) ((e 4) + v)) (e 3))) ((e 3) - (tk_mul (tk_div (e 3) ((e 4) + v)) (e 4))) ((e 4) - (tk_mul (tk_div (e 4) ((e 4) + v)) (e 4)))) 3), .long ((tk_mv e ((e 0) + (tk_mul (tk_div (e 3) ((e 4) + v)) (z - (e 1)))) ((e 1) + (tk_mul (tk_div (e 4) ((e 4) + v)) (z - (e 1)))) ((e 2) - (tk_mul (tk_div (e 3) ((e 4) + v)) (e 3))) ((e 3) - (tk_mul (tk_div (e 3) ((e 4) + v)) (e 4))) ((e 4) - (tk_mul (tk_div (e 4) ((e 4) + v)) (e 4)))) 4), .long (z - (e 1)), .long (tk_div (e 3) ((e 4) + v)), .long (tk_div (e 4) ((e 4) + v))]))]) := hD
                        refine lv_iconst (v := 1) hx hb dX0_take_239 (by decide) ?_
                        exact W.iret (v := 1) hx hb hr (fun t ht hW => ⟨⟨1, cq_e e (e 3) (e 4) (e 4) (e 1) z v, rfl, Or.inr (Or.inl ⟨(fun y => cq_rej_1 c_6 ((co_rej1 c_1).mp y)), by rw [co_ok1 c_1, cq_ok, p_9, p_11, p_18]; rfl, rfl, (co_e1 c_1).symm⟩), KB.of hAe (by rw [ht, cq_e, tk_yk_ev]; exact hP) (by rw [cq_e, tk_yk_ev]; exact hD)⟩, hS.F ht⟩) hS.2.2 dX0_take_240
                      · exact absurd c_19 (by decide)
                    · have hP : va_P D vwCl ([(h0, .inr (0, tk_ev e))]) H := hP
                      have hD : va_D A ([(h0, .inr (0, tk_ev e))]) := hD
                      refine lv_istore (lv' := [(21, .int 0), (19, .long (tk_div (e 4) ((e 4) + v))), (17, .long (tk_div (e 3) ((e 4) + v))), (15, .long ((e 4) + v)), (13, .long (z - (e 1))), (11, .long (e 4)), (9, .long (e 3)), (8, .int 0), (0, .ref h0), (1, .long z), (3, .int kd), (4, .long v), (6, .long g)]) hx hb dX0_take_211 hl (by decide) rfl (fun ls hl => ?_)
                      refine lv_iload hx hb dX0_take_213 (lv_at hl 0 rfl) ?_
                      refine lv_if_ne (tgt := 221) hx hb dX0_take_215 (by decide) (fun c_20 => ?_) (fun c_20 => ?_)
                      · exact absurd c_20 (by decide)
                      · skip
                        refine lv_ldc (v := -2000000004) hx hb hown (hm 6 (.constant RX0 58 (-2000000004)) rfl) dX0_take_218 ?_
                        exact W.iret (v := (-2000000004)) hx hb hr (fun t ht hW => ⟨⟨(-2000000004), e, rfl, Or.inr (Or.inr ⟨(fun y => cq_rej_1 c_6 ((co_rej1 c_1).mp y)), by rw [co_ok1 c_1, cq_ok, p_9, p_11, p_18]; rfl, rfl, rfl⟩), KB.of hAe (by rw [ht]; exact hP) hD⟩, hS.F ht⟩) hS.2.2 dX0_take_220
                  · exact absurd c_12 (by decide)
                · have hP : va_P D vwCl ([(h0, .inr (0, tk_ev e))]) H := hP
                  have hD : va_D A ([(h0, .inr (0, tk_ev e))]) := hD
                  refine lv_if_ne (tgt := 147) hx hb dX0_take_141 (by decide) (fun c_21 => ?_) (fun c_21 => ?_)
                  · exact absurd c_21 (by decide)
                  · skip
                    refine lv_ldc (v := -2000000004) hx hb hown (hm 6 (.constant RX0 58 (-2000000004)) rfl) dX0_take_144 ?_
                    exact W.iret (v := (-2000000004)) hx hb hr (fun t ht hW => ⟨⟨(-2000000004), e, rfl, Or.inr (Or.inr ⟨(fun y => cq_rej_1 c_6 ((co_rej1 c_1).mp y)), by rw [co_ok1 c_1, cq_ok, p_9, p_11]; rfl, rfl, rfl⟩), KB.of hAe (by rw [ht]; exact hP) hD⟩, hS.F ht⟩) hS.2.2 dX0_take_146
            · have hP : va_P D vwCl ([(h0, .inr (0, tk_ev e))]) H := hP
              have hD : va_D A ([(h0, .inr (0, tk_ev e))]) := hD
              refine lv_if_eq (tgt := 144) hx hb dX0_take_133 (by decide) (fun c_22 => ?_) (fun c_22 => ?_)
              · skip
                refine lv_ldc (v := -2000000004) hx hb hown (hm 6 (.constant RX0 58 (-2000000004)) rfl) dX0_take_144 ?_
                exact W.iret (v := (-2000000004)) hx hb hr (fun t ht hW => ⟨⟨(-2000000004), e, rfl, Or.inr (Or.inr ⟨(fun y => cq_rej_1 c_6 ((co_rej1 c_1).mp y)), by rw [co_ok1 c_1, cq_ok, p_9]; rfl, rfl, rfl⟩), KB.of hAe (by rw [ht]; exact hP) hD⟩, hS.F ht⟩) hS.2.2 dX0_take_146
              · exact absurd c_22 (by decide)
          · have c_6 := mt (lg_cmp_eq _ _).mpr c_6
            refine lv_lload hx hb dX0_take_84 (lv_at hl 1 rfl) ?_
            refine lv_lload hx hb dX0_take_86 (lv_at hl 1 rfl) ?_
            refine lv_lmul hx hb dX0_take_88 ?_
            refine lv_lload hx hb dX0_take_89 (lv_at hl 9 rfl) ?_
            refine lv_lload hx hb dX0_take_91 (lv_at hl 0 rfl) ?_
            refine lv_lmul hx hb dX0_take_93 ?_
            refine lv_ldc2 (v := 4096) hx hb hown (hm 4 (.constantLong RX0 18 (4096)) rfl) dX0_take_94 ?_
            refine lv_lmul hx hb dX0_take_97 ?_
            refine W.lcmp hx hb dX0_take_98 ?_
            refine lv_if_le (tgt := 110) hx hb dX0_take_99 (by decide) (fun c_23 => ?_) (fun c_23 => ?_)
            · have c_23 := (lg_cmp_le _ _).mp c_23
              refine lv_lload hx hb dX0_take_110 (lv_at hl 3 rfl) ?_
              refine lv_lload hx hb dX0_take_112 (lv_at hl 0 rfl) ?_
              refine kc_l (wc := []) (wr := [(h0, .inr (0, tk_ev e))]) (va_runSN (As := [.long (e 3), .long ((e 4) + v)]) (rest := []) ⟨hx, hb, hml, hown, hts⟩ (k_X3_dividedBy l D cI cM cJ _ (e 3) ((e 4) + v) (by have z := hs; rw [co_p1 c_1] at z; exact z)) ⟨va_cnB 2 hts gX0_take_X3_dividedBy_n50 rfl rfl rfl (hN.at 37 rfl) (hm 17 (.initialized RX3) rfl) (by decide +kernel) ⟨Nat.le_of_ble_eq_true rfl, Nat.le_of_ble_eq_true rfl⟩, (hm 16 (.static yX3_dividedBy) rfl), trivial⟩ (kp_preS (wc := []) (wr := [(h0, .inr (0, tk_ev e))]) hN hK hP hD) rfl rfl hl.1 rfl (lv_room (Nat.le_of_ble_eq_true rfl)) dX0_take_114 ⟨Nat.le_of_ble_eq_true rfl, Nat.le_of_ble_eq_true rfl⟩) hP hD hS hA (fun r_24 u_24 H locs p_24 hP hD hS => ?_)
              obtain rfl : r_24 = tk_div (e 3) ((e 4) + v) := p_24
              have hP : va_P D vwCl ([(h0, .inr (0, tk_ev e))]) H := hP
              have hD : va_D A ([(h0, .inr (0, tk_ev e))]) := hD
              refine lv_lstore (lv' := [(17, .long (tk_div (e 3) ((e 4) + v))), (15, .long ((e 4) + v)), (13, .long (z - (e 1))), (11, .long (e 4)), (9, .long (e 3)), (8, .int 0), (0, .ref h0), (1, .long z), (3, .int kd), (4, .long v), (6, .long g)]) hx hb dX0_take_117 hl (by decide) rfl (fun ls hl => ?_)
              refine lv_lload hx hb dX0_take_119 (lv_at hl 3 rfl) ?_
              refine lv_lload hx hb dX0_take_121 (lv_at hl 1 rfl) ?_
              refine kc_l (wc := []) (wr := [(h0, .inr (0, tk_ev e))]) (va_runSN (As := [.long (e 4), .long ((e 4) + v)]) (rest := []) ⟨hx, hb, hml, hown, hts⟩ (k_X3_dividedBy l D cI cM cJ _ (e 4) ((e 4) + v) (by have z := hs; rw [co_p1 c_1] at z; exact z)) ⟨va_cnB 2 hts gX0_take_X3_dividedBy_n50 rfl rfl rfl (hN.at 37 rfl) (hm 17 (.initialized RX3) rfl) (by decide +kernel) ⟨Nat.le_of_ble_eq_true rfl, Nat.le_of_ble_eq_true rfl⟩, (hm 16 (.static yX3_dividedBy) rfl), trivial⟩ (kp_preS (wc := []) (wr := [(h0, .inr (0, tk_ev e))]) hN hK hP hD) rfl rfl hl.1 rfl (lv_room (Nat.le_of_ble_eq_true rfl)) dX0_take_123 ⟨Nat.le_of_ble_eq_true rfl, Nat.le_of_ble_eq_true rfl⟩) hP hD hS hA (fun r_25 u_25 H locs p_25 hP hD hS => ?_)
              obtain rfl : r_25 = tk_div (e 4) ((e 4) + v) := p_25
              have hP : va_P D vwCl ([(h0, .inr (0, tk_ev e))]) H := hP
              have hD : va_D A ([(h0, .inr (0, tk_ev e))]) := hD
              refine lv_lstore (lv' := [(19, .long (tk_div (e 4) ((e 4) + v))), (17, .long (tk_div (e 3) ((e 4) + v))), (15, .long ((e 4) + v)), (13, .long (z - (e 1))), (11, .long (e 4)), (9, .long (e 3)), (8, .int 0), (0, .ref h0), (1, .long z), (3, .int kd), (4, .long v), (6, .long g)]) hx hb dX0_take_126 hl (by decide) rfl (fun ls hl => ?_)
              refine lv_lload hx hb dX0_take_128 (lv_at hl 1 rfl) ?_
              refine kc_i (wc := []) (wr := [(h0, .inr (0, tk_ev e))]) (va_runSN (As := [.long (tk_div (e 3) ((e 4) + v))]) (rest := []) ⟨hx, hb, hml, hown, hts⟩ (k_X3_isInLimit l D cI cM cJ _ (tk_div (e 3) ((e 4) + v))) ⟨va_cnB 1 hts gX0_take_X3_isInLimit_n54 rfl rfl rfl (hN.at 34 rfl) (hm 17 (.initialized RX3) rfl) (by decide +kernel) ⟨Nat.le_of_ble_eq_true rfl, Nat.le_of_ble_eq_true rfl⟩, (hm 25 (.static yX3_isInLimit) rfl), trivial⟩ (kp_preS (wc := []) (wr := [(h0, .inr (0, tk_ev e))]) hN hK hP hD) rfl rfl hl.1 rfl (lv_room (Nat.le_of_ble_eq_true rfl)) dX0_take_130 ⟨Nat.le_of_ble_eq_true rfl, Nat.le_of_ble_eq_true rfl⟩) hP hD hS hA (fun r_26 u_26 H locs p_26 hP hD hS => ?_)
              rcases p_26 with ⟨p_26, rfl⟩ | ⟨p_26, rfl⟩
              · have hP : va_P D vwCl ([(h0, .inr (0, tk_ev e))]) H := hP
                have hD : va_D A ([(h0, .inr (0, tk_ev e))]) := hD
                refine lv_if_eq (tgt := 144) hx hb dX0_take_133 (by decide) (fun c_27 => ?_) (fun c_27 => ?_)
                · exact absurd c_27 (by decide)
                · skip
                  refine lv_lload hx hb dX0_take_136 (lv_at hl 0 rfl) ?_
                  refine kc_i (wc := []) (wr := [(h0, .inr (0, tk_ev e))]) (va_runSN (As := [.long (tk_div (e 4) ((e 4) + v))]) (rest := []) ⟨hx, hb, hml, hown, hts⟩ (k_X3_isInLimit l D cI cM cJ _ (tk_div (e 4) ((e 4) + v))) ⟨va_cnB 1 hts gX0_take_X3_isInLimit_n54 rfl rfl rfl (hN.at 34 rfl) (hm 17 (.initialized RX3) rfl) (by decide +kernel) ⟨Nat.le_of_ble_eq_true rfl, Nat.le_of_ble_eq_true rfl⟩, (hm 25 (.static yX3_isInLimit) rfl), trivial⟩ (kp_preS (wc := []) (wr := [(h0, .inr (0, tk_ev e))]) hN hK hP hD) rfl rfl hl.1 rfl (lv_room (Nat.le_of_ble_eq_true rfl)) dX0_take_138 ⟨Nat.le_of_ble_eq_true rfl, Nat.le_of_ble_eq_true rfl⟩) hP hD hS hA (fun r_28 u_28 H locs p_28 hP hD hS => ?_)
                  rcases p_28 with ⟨p_28, rfl⟩ | ⟨p_28, rfl⟩
                  · have hP : va_P D vwCl ([(h0, .inr (0, tk_ev e))]) H := hP
                    have hD : va_D A ([(h0, .inr (0, tk_ev e))]) := hD
                    refine lv_if_ne (tgt := 147) hx hb dX0_take_141 (by decide) (fun c_29 => ?_) (fun c_29 => ?_)
                    · skip
                      refine lv_aload_n hx hb dX0_take_147 rfl (lv_at hl 7 rfl) ?_
                      refine lv_aload_n hx hb dX0_take_148 rfl (lv_at hl 7 rfl) ?_
                      refine va_get (D := D) (ci := 0) (v := .long (e 0)) (C := RX0) (T := TX0) (N := 8) hx hb hts izX0_take_0 hown hK hP 0 rfl rfl 0 (by decide) (hm 7 (.fieldLink RX0 9 "TankFilter$Estimate" "level" "J") rfl) (fun _ h9 => h9) rfl dX0_take_149 ?_
                      refine lv_lload hx hb dX0_take_152 (lv_at hl 1 rfl) ?_
                      refine lv_lload hx hb dX0_take_154 (lv_at hl 3 rfl) ?_
                      refine kc_l (wc := []) (wr := [(h0, .inr (0, tk_ev e))]) (va_runSN (As := [.long (tk_div (e 3) ((e 4) + v)), .long (z - (e 1))]) (rest := [.long (e 0), .ref h0]) ⟨hx, hb, hml, hown, hts⟩ (k_X3_times l D cI cM cJ _ (tk_div (e 3) ((e 4) + v)) (z - (e 1))) ⟨va_cnB 2 hts gX0_take_X3_times_n59 rfl rfl rfl (hN.at 38 rfl) (hm 17 (.initialized RX3) rfl) (by decide +kernel) ⟨Nat.le_of_ble_eq_true rfl, Nat.le_of_ble_eq_true rfl⟩, (hm 29 (.static yX3_times) rfl), trivial⟩ (kp_preS (wc := []) (wr := [(h0, .inr (0, tk_ev e))]) hN hK hP hD) rfl rfl hl.1 rfl (lv_room (Nat.le_of_ble_eq_true rfl)) dX0_take_156 ⟨Nat.le_of_ble_eq_true rfl, Nat.le_of_ble_eq_true rfl⟩) hP hD hS hA (fun r_30 u_30 H locs p_30 hP hD hS => ?_)
                      obtain rfl : r_30 = tk_mul (tk_div (e 3) ((e 4) + v)) (z - (e 1)) := p_30
                      have hP : va_P D vwCl ([(h0, .inr (0, tk_ev e))]) H := hP
                      have hD : va_D A ([(h0, .inr (0, tk_ev e))]) := hD
                      refine lv_ladd hx hb dX0_take_159 ?_
                      refine lv_aload_n hx hb dX0_take_160 rfl (lv_at hl 7 rfl) ?_
                      refine va_get (D := D) (ci := 0) (v := .long (e 1)) (C := RX0) (T := TX0) (N := 8) hx hb hts izX0_take_0 hown hK hP 0 rfl rfl 1 (by decide) (hm 8 (.fieldLink RX0 15 "TankFilter$Estimate" "flow" "J") rfl) (fun _ h9 => h9) rfl dX0_take_161 ?_
                      refine lv_lload hx hb dX0_take_164 (lv_at hl 0 rfl) ?_
                      refine lv_lload hx hb dX0_take_166 (lv_at hl 3 rfl) ?_
                      refine kc_l (wc := []) (wr := [(h0, .inr (0, tk_ev e))]) (va_runSN (As := [.long (tk_div (e 4) ((e 4) + v)), .long (z - (e 1))]) (rest := [.long (e 1), .long ((e 0) + (tk_mul (tk_div (e 3) ((e 4) + v)) (z - (e 1)))), .ref h0]) ⟨hx, hb, hml, hown, hts⟩ (k_X3_times l D cI cM cJ _ (tk_div (e 4) ((e 4) + v)) (z - (e 1))) ⟨va_cnB 2 hts gX0_take_X3_times_n59 rfl rfl rfl (hN.at 38 rfl) (hm 17 (.initialized RX3) rfl) (by decide +kernel) ⟨Nat.le_of_ble_eq_true rfl, Nat.le_of_ble_eq_true rfl⟩, (hm 29 (.static yX3_times) rfl), trivial⟩ (kp_preS (wc := []) (wr := [(h0, .inr (0, tk_ev e))]) hN hK hP hD) rfl rfl hl.1 rfl (lv_room (Nat.le_of_ble_eq_true rfl)) dX0_take_168 ⟨Nat.le_of_ble_eq_true rfl, Nat.le_of_ble_eq_true rfl⟩) hP hD hS hA (fun r_31 u_31 H locs p_31 hP hD hS => ?_)
                      obtain rfl : r_31 = tk_mul (tk_div (e 4) ((e 4) + v)) (z - (e 1)) := p_31
                      have hP : va_P D vwCl ([(h0, .inr (0, tk_ev e))]) H := hP
                      have hD : va_D A ([(h0, .inr (0, tk_ev e))]) := hD
                      refine lv_ladd hx hb dX0_take_171 ?_
                      refine lv_aload_n hx hb dX0_take_172 rfl (lv_at hl 7 rfl) ?_
                      refine va_get (D := D) (ci := 0) (v := .long (e 2)) (C := RX0) (T := TX0) (N := 8) hx hb hts izX0_take_0 hown hK hP 0 rfl rfl 2 (by decide) (hm 1 (.fieldLink RX0 20 "TankFilter$Estimate" "levelVariance" "J") rfl) (fun _ h9 => h9) rfl dX0_take_173 ?_
                      refine lv_lload hx hb dX0_take_176 (lv_at hl 1 rfl) ?_
                      refine lv_lload hx hb dX0_take_178 (lv_at hl 5 rfl) ?_
                      refine kc_l (wc := []) (wr := [(h0, .inr (0, tk_ev e))]) (va_runSN (As := [.long (tk_div (e 3) ((e 4) + v)), .long (e 3)]) (rest := [.long (e 2), .long ((e 1) + (tk_mul (tk_div (e 4) ((e 4) + v)) (z - (e 1)))), .long ((e 0) + (tk_mul (tk_div (e 3) ((e 4) + v)) (z - (e 1)))), .ref h0]) ⟨hx, hb, hml, hown, hts⟩ (k_X3_times l D cI cM cJ _ (tk_div (e 3) ((e 4) + v)) (e 3)) ⟨va_cnB 2 hts gX0_take_X3_times_n59 rfl rfl rfl (hN.at 38 rfl) (hm 17 (.initialized RX3) rfl) (by decide +kernel) ⟨Nat.le_of_ble_eq_true rfl, Nat.le_of_ble_eq_true rfl⟩, (hm 29 (.static yX3_times) rfl), trivial⟩ (kp_preS (wc := []) (wr := [(h0, .inr (0, tk_ev e))]) hN hK hP hD) rfl rfl hl.1 rfl (lv_room (Nat.le_of_ble_eq_true rfl)) dX0_take_180 ⟨Nat.le_of_ble_eq_true rfl, Nat.le_of_ble_eq_true rfl⟩) hP hD hS hA (fun r_32 u_32 H locs p_32 hP hD hS => ?_)
                      obtain rfl : r_32 = tk_mul (tk_div (e 3) ((e 4) + v)) (e 3) := p_32
                      have hP : va_P D vwCl ([(h0, .inr (0, tk_ev e))]) H := hP
                      have hD : va_D A ([(h0, .inr (0, tk_ev e))]) := hD
                      refine lv_lsub hx hb dX0_take_183 ?_
                      refine lv_aload_n hx hb dX0_take_184 rfl (lv_at hl 7 rfl) ?_
                      refine va_get (D := D) (ci := 0) (v := .long (e 3)) (C := RX0) (T := TX0) (N := 8) hx hb hts izX0_take_0 hown hK hP 0 rfl rfl 3 (by decide) (hm 2 (.fieldLink RX0 23 "TankFilter$Estimate" "covariance" "J") rfl) (fun _ h9 => h9) rfl dX0_take_185 ?_
                      refine lv_lload hx hb dX0_take_188 (lv_at hl 1 rfl) ?_
                      refine lv_lload hx hb dX0_take_190 (lv_at hl 4 rfl) ?_
                      refine kc_l (wc := []) (wr := [(h0, .inr (0, tk_ev e))]) (kw_runSN 16 2 (As := [.long (tk_div (e 3) ((e 4) + v)), .long (e 4)]) (rest := [.long (e 3), .long ((e 2) - (tk_mul (tk_div (e 3) ((e 4) + v)) (e 3))), .long ((e 1) + (tk_mul (tk_div (e 4) ((e 4) + v)) (z - (e 1)))), .long ((e 0) + (tk_mul (tk_div (e 3) ((e 4) + v)) (z - (e 1)))), .ref h0]) ⟨hx, hb, hml, hown, hts⟩ (k_X3_times l D cI cM cJ _ (tk_div (e 3) ((e 4) + v)) (e 4)) gX0_take_X3_times_n59 rfl rfl rfl (hN.at 38 rfl) (hm 17 (.initialized RX3) rfl) (hm 29 (.static yX3_times) rfl) (by decide +kernel) ⟨Nat.le_of_ble_eq_true rfl, Nat.le_of_ble_eq_true rfl⟩ (kp_preS (wc := []) (wr := [(h0, .inr (0, tk_ev e))]) hN hK hP hD) rfl rfl hl.1 rfl (kw_room (Nat.le_of_ble_eq_true rfl)) dX0_take_192 ⟨Nat.le_of_ble_eq_true rfl, Nat.le_of_ble_eq_true rfl⟩) hP hD hS hA (fun r_33 u_33 H locs p_33 hP hD hS => ?_)
                      obtain rfl : r_33 = tk_mul (tk_div (e 3) ((e 4) + v)) (e 4) := p_33
                      have hP : va_P D vwCl ([(h0, .inr (0, tk_ev e))]) H := hP
                      have hD : va_D A ([(h0, .inr (0, tk_ev e))]) := hD
                      refine lv_lsub hx hb dX0_take_195 ?_
                      refine lv_aload_n hx hb dX0_take_196 rfl (lv_at hl 7 rfl) ?_
                      refine va_get (D := D) (ci := 0) (v := .long (e 4)) (C := RX0) (T := TX0) (N := 8) hx hb hts izX0_take_0 hown hK hP 0 rfl rfl 4 (by decide) (hm 3 (.fieldLink RX0 26 "TankFilter$Estimate" "flowVariance" "J") rfl) (fun _ h9 => h9) rfl dX0_take_197 ?_
                      refine lv_lload hx hb dX0_take_200 (lv_at hl 0 rfl) ?_
                      refine lv_lload hx hb dX0_take_202 (lv_at hl 4 rfl) ?_
                      refine kc_l (wc := []) (wr := [(h0, .inr (0, tk_ev e))]) (kw_runSN 16 2 (As := [.long (tk_div (e 4) ((e 4) + v)), .long (e 4)]) (rest := [.long (e 4), .long ((e 3) - (tk_mul (tk_div (e 3) ((e 4) + v)) (e 4))), .long ((e 2) - (tk_mul (tk_div (e 3) ((e 4) + v)) (e 3))), .long ((e 1) + (tk_mul (tk_div (e 4) ((e 4) + v)) (z - (e 1)))), .long ((e 0) + (tk_mul (tk_div (e 3) ((e 4) + v)) (z - (e 1)))), .ref h0]) ⟨hx, hb, hml, hown, hts⟩ (k_X3_times l D cI cM cJ _ (tk_div (e 4) ((e 4) + v)) (e 4)) gX0_take_X3_times_n59 rfl rfl rfl (hN.at 38 rfl) (hm 17 (.initialized RX3) rfl) (hm 29 (.static yX3_times) rfl) (by decide +kernel) ⟨Nat.le_of_ble_eq_true rfl, Nat.le_of_ble_eq_true rfl⟩ (kp_preS (wc := []) (wr := [(h0, .inr (0, tk_ev e))]) hN hK hP hD) rfl rfl hl.1 rfl (kw_room (Nat.le_of_ble_eq_true rfl)) dX0_take_204 ⟨Nat.le_of_ble_eq_true rfl, Nat.le_of_ble_eq_true rfl⟩) hP hD hS hA (fun r_34 u_34 H locs p_34 hP hD hS => ?_)
                      obtain rfl : r_34 = tk_mul (tk_div (e 4) ((e 4) + v)) (e 4) := p_34
                      have hP : va_P D vwCl ([(h0, .inr (0, tk_ev e))]) H := hP
                      have hD : va_D A ([(h0, .inr (0, tk_ev e))]) := hD
                      refine lv_lsub hx hb dX0_take_207 ?_
                      refine kc_i (wc := [(h0, .inr (0, tk_ev e))]) (wr := []) (va_runV (As := [.long ((e 0) + (tk_mul (tk_div (e 3) ((e 4) + v)) (z - (e 1)))), .long ((e 1) + (tk_mul (tk_div (e 4) ((e 4) + v)) (z - (e 1)))), .long ((e 2) - (tk_mul (tk_div (e 3) ((e 4) + v)) (e 3))), .long ((e 3) - (tk_mul (tk_div (e 3) ((e 4) + v)) (e 4))), .long ((e 4) - (tk_mul (tk_div (e 4) ((e 4) + v)) (e 4)))]) (rest := []) ⟨hx, hb, hml, hown, hts⟩ (k_X0_move l D cI cM cJ _ h0 e ((e 0) + (tk_mul (tk_div (e 3) ((e 4) + v)) (z - (e 1)))) ((e 1) + (tk_mul (tk_div (e 4) ((e 4) + v)) (z - (e 1)))) ((e 2) - (tk_mul (tk_div (e 3) ((e 4) + v)) (e 3))) ((e 3) - (tk_mul (tk_div (e 3) ((e 4) + v)) (e 4))) ((e 4) - (tk_mul (tk_div (e 4) ((e 4) + v)) (e 4)))) (cwV 5 hts gX0_take_X0_move rfl rfl rfl (by decide +kernel) ⟨Nat.le_of_ble_eq_true rfl, Nat.le_of_ble_eq_true rfl⟩) (kp_preV (q := (RX0, TX0, 8)) (wc := [(h0, .inr (0, tk_ev e))]) (wr := []) hN hK hP hD 0 rfl rfl) rfl rfl hl.1 rfl (lv_room (Nat.le_of_ble_eq_true rfl)) dX0_take_208 ⟨Nat.le_of_ble_eq_true rfl, Nat.le_of_ble_eq_true rfl⟩) hP hD hS hA (fun r_35 u_35 H locs p_35 hP hD hS => ?_)
                      rcases p_35 with ⟨p_35, rfl, rfl⟩ | ⟨p_35, rfl, rfl⟩
                      · have hP : va_P D vwCl ([(h0, .inr (0, tk_ev (tk_mv e ((e 0) + (tk_mul (tk_div (e 3) ((e 4) + v)) (z - (e 1)))) ((e 1) + (tk_mul (tk_div (e 4) ((e 4) + v)) (z - (e 1)))) ((e 2) - (tk_mul (tk_div (e 3) ((e 4) + v)) (e 3))) ((e 3) - (tk_mul (tk_div (e 3) ((e 4) + v)) (e 4))) ((e 4) - (tk_mul (tk_div (e 4) ((e 4) + v)) (e 4))))))]) H := hP
                        have hD : va_D A ([(h0, .inr (0, tk_ev (tk_mv e ((e 0) + (tk_mul (tk_div (e 3) ((e 4) + v)) (z - (e 1)))) ((e 1) + (tk_mul (tk_div (e 4) ((e 4) + v)) (z - (e 1)))) ((e 2) - (tk_mul (tk_div (e 3) ((e 4) + v)) (e 3))) ((e 3) - (tk_mul (tk_div (e 3) ((e 4) + v)) (e 4))) ((e 4) - (tk_mul (tk_div (e 4) ((e 4) + v)) (e 4))))))]) := hD
                        refine lv_istore (lv' := [(21, .int 1), (19, .long (tk_div (e 4) ((e 4) + v))), (17, .long (tk_div (e 3) ((e 4) + v))), (15, .long ((e 4) + v)), (13, .long (z - (e 1))), (11, .long (e 4)), (9, .long (e 3)), (8, .int 0), (0, .ref h0), (1, .long z), (3, .int kd), (4, .long v), (6, .long g)]) hx hb dX0_take_211 hl (by decide) rfl (fun ls hl => ?_)
                        refine lv_iload hx hb dX0_take_213 (lv_at hl 0 rfl) ?_
                        refine lv_if_ne (tgt := 221) hx hb dX0_take_215 (by decide) (fun c_36 => ?_) (fun c_36 => ?_)
                        · skip
                          refine lv_aload_n hx hb dX0_take_221 rfl (lv_at hl 8 rfl) ?_
                          refine lv_lload hx hb dX0_take_222 (lv_at hl 4 rfl) ?_
                          refine va_put (D := D) (ci := 0) (v := .long (z - (e 1))) (ty := .long) (C := RX0) (T := TX0) (N := 8) hx hb hts izX0_take_0 tyX0 tyX0_ok nmX0 hown hK hP hD hS 0 rfl rfl 5 (by decide) (hm 5 (.fieldLink RX0 31 "TankFilter$Estimate" "innovation" "J") rfl) (fun _ h9 => h9) rfl (by decide +kernel) rfl rfl (Nat.le_of_ble_eq_true rfl) dX0_take_224 (fun H locs hP hD hS => ?_)
                          have hP : va_P D vwCl ([(h0, .inr (0, [.long ((tk_mv e ((e 0) + (tk_mul (tk_div (e 3) ((e 4) + v)) (z - (e 1)))) ((e 1) + (tk_mul (tk_div (e 4) ((e 4) + v)) (z - (e 1)))) ((e 2) - (tk_mul (tk_div (e 3) ((e 4) + v)) (e 3))) ((e 3) - (tk_mul (tk_div (e 3) ((e 4) + v)) (e 4))) ((e 4) - (tk_mul (tk_div (e 4) ((e 4) + v)) (e 4)))) 0), .long ((tk_mv e ((e 0) + (tk_mul (tk_div (e 3) ((e 4) + v)) (z - (e 1)))) ((e 1) + (tk_mul (tk_div (e 4) ((e 4) + v)) (z - (e 1)))) ((e 2) - (tk_mul (tk_div (e 3) ((e 4) + v)) (e 3))) ((e 3) - (tk_mul (tk_div (e 3) ((e 4) + v)) (e 4))) ((e 4) - (tk_mul (tk_div (e 4) ((e 4) + v)) (e 4)))) 1), .long ((tk_mv e ((e 0) + (tk_mul (tk_div (e 3) ((e 4) + v)) (z - (e 1)))) ((e 1) + (tk_mul (tk_div (e 4) ((e 4) + v)) (z - (e 1)))) ((e 2) - (tk_mul (tk_div (e 3) ((e 4) + v)) (e 3))) ((e 3) - (tk_mul (tk_div (e 3) ((e 4) + v)) (e 4))) ((e 4) - (tk_mul (tk_div (e 4) ((e 4) + v)) (e 4)))) 2), .long ((tk_mv e ((e 0) + (tk_mul (tk_div (e 3) ((e 4) + v)) (z - (e 1)))) ((e 1) + (tk_mul (tk_div (e 4) ((e 4) + v)) (z - (e 1)))) ((e 2) - (tk_mul (tk_div (e 3) ((e 4) + v)) (e 3))) ((e 3) - (tk_mul (tk_div (e 3) ((e 4) + v)) (e 4))) ((e 4) - (tk_mul (tk_div (e 4) ((e 4) + v)) (e 4)))) 3), .long ((tk_mv e ((e 0) + (tk_mul (tk_div (e 3) ((e 4) + v)) (z - (e 1)))) ((e 1) + (tk_mul (tk_div (e 4) ((e 4) + v)) (z - (e 1)))) ((e 2) - (tk_mul (tk_div (e 3) ((e 4) + v)) (e 3))) ((e 3) - (tk_mul (tk_div (e 3) ((e 4) + v)) (e 4))) ((e 4) - (tk_mul (tk_div (e 4) ((e 4) + v)) (e 4)))) 4), .long (z - (e 1)), .long ((tk_mv e ((e 0) + (tk_mul (tk_div (e 3) ((e 4) + v)) (z - (e 1)))) ((e 1) + (tk_mul (tk_div (e 4) ((e 4) + v)) (z - (e 1)))) ((e 2) - (tk_mul (tk_div (e 3) ((e 4) + v)) (e 3))) ((e 3) - (tk_mul (tk_div (e 3) ((e 4) + v)) (e 4))) ((e 4) - (tk_mul (tk_div (e 4) ((e 4) + v)) (e 4)))) 6), .long ((tk_mv e ((e 0) + (tk_mul (tk_div (e 3) ((e 4) + v)) (z - (e 1)))) ((e 1) + (tk_mul (tk_div (e 4) ((e 4) + v)) (z - (e 1)))) ((e 2) - (tk_mul (tk_div (e 3) ((e 4) + v)) (e 3))) ((e 3) - (tk_mul (tk_div (e 3) ((e 4) + v)) (e 4))) ((e 4) - (tk_mul (tk_div (e 4) ((e 4) + v)) (e 4)))) 7)]))]) H := hP
                          have hD : va_D A ([(h0, .inr (0, [.long ((tk_mv e ((e 0) + (tk_mul (tk_div (e 3) ((e 4) + v)) (z - (e 1)))) ((e 1) + (tk_mul (tk_div (e 4) ((e 4) + v)) (z - (e 1)))) ((e 2) - (tk_mul (tk_div (e 3) ((e 4) + v)) (e 3))) ((e 3) - (tk_mul (tk_div (e 3) ((e 4) + v)) (e 4))) ((e 4) - (tk_mul (tk_div (e 4) ((e 4) + v)) (e 4)))) 0), .long ((tk_mv e ((e 0) + (tk_mul (tk_div (e 3) ((e 4) + v)) (z - (e 1)))) ((e 1) + (tk_mul (tk_div (e 4) ((e 4) + v)) (z - (e 1)))) ((e 2) - (tk_mul (tk_div (e 3) ((e 4) + v)) (e 3))) ((e 3) - (tk_mul (tk_div (e 3) ((e 4) + v)) (e 4))) ((e 4) - (tk_mul (tk_div (e 4) ((e 4) + v)) (e 4)))) 1), .long ((tk_mv e ((e 0) + (tk_mul (tk_div (e 3) ((e 4) + v)) (z - (e 1)))) ((e 1) + (tk_mul (tk_div (e 4) ((e 4) + v)) (z - (e 1)))) ((e 2) - (tk_mul (tk_div (e 3) ((e 4) + v)) (e 3))) ((e 3) - (tk_mul (tk_div (e 3) ((e 4) + v)) (e 4))) ((e 4) - (tk_mul (tk_div (e 4) ((e 4) + v)) (e 4)))) 2), .long ((tk_mv e ((e 0) + (tk_mul (tk_div (e 3) ((e 4) + v)) (z - (e 1)))) ((e 1) + (tk_mul (tk_div (e 4) ((e 4) + v)) (z - (e 1)))) ((e 2) - (tk_mul (tk_div (e 3) ((e 4) + v)) (e 3))) ((e 3) - (tk_mul (tk_div (e 3) ((e 4) + v)) (e 4))) ((e 4) - (tk_mul (tk_div (e 4) ((e 4) + v)) (e 4)))) 3), .long ((tk_mv e ((e 0) + (tk_mul (tk_div (e 3) ((e 4) + v)) (z - (e 1)))) ((e 1) + (tk_mul (tk_div (e 4) ((e 4) + v)) (z - (e 1)))) ((e 2) - (tk_mul (tk_div (e 3) ((e 4) + v)) (e 3))) ((e 3) - (tk_mul (tk_div (e 3) ((e 4) + v)) (e 4))) ((e 4) - (tk_mul (tk_div (e 4) ((e 4) + v)) (e 4)))) 4), .long (z - (e 1)), .long ((tk_mv e ((e 0) + (tk_mul (tk_div (e 3) ((e 4) + v)) (z - (e 1)))) ((e 1) + (tk_mul (tk_div (e 4) ((e 4) + v)) (z - (e 1)))) ((e 2) - (tk_mul (tk_div (e 3) ((e 4) + v)) (e 3))) ((e 3) - (tk_mul (tk_div (e 3) ((e 4) + v)) (e 4))) ((e 4) - (tk_mul (tk_div (e 4) ((e 4) + v)) (e 4)))) 6), .long ((tk_mv e ((e 0) + (tk_mul (tk_div (e 3) ((e 4) + v)) (z - (e 1)))) ((e 1) + (tk_mul (tk_div (e 4) ((e 4) + v)) (z - (e 1)))) ((e 2) - (tk_mul (tk_div (e 3) ((e 4) + v)) (e 3))) ((e 3) - (tk_mul (tk_div (e 3) ((e 4) + v)) (e 4))) ((e 4) - (tk_mul (tk_div (e 4) ((e 4) + v)) (e 4)))) 7)]))]) := hD
                          refine lv_aload_n hx hb dX0_take_227 rfl (lv_at hl 8 rfl) ?_
                          refine lv_lload hx hb dX0_take_228 (lv_at hl 2 rfl) ?_
                          refine va_put (D := D) (ci := 0) (v := .long (tk_div (e 3) ((e 4) + v))) (ty := .long) (C := RX0) (T := TX0) (N := 8) hx hb hts izX0_take_0 tyX0 tyX0_ok nmX0 hown hK hP hD hS 0 rfl rfl 6 (by decide) (hm 9 (.fieldLink RX0 34 "TankFilter$Estimate" "levelGain" "J") rfl) (fun _ h9 => h9) rfl (by decide +kernel) rfl rfl (Nat.le_of_ble_eq_true rfl) dX0_take_230 (fun H locs hP hD hS => ?_)
                          have hP : va_P D vwCl ([(h0, .inr (0, [.long ((tk_mv e ((e 0) + (tk_mul (tk_div (e 3) ((e 4) + v)) (z - (e 1)))) ((e 1) + (tk_mul (tk_div (e 4) ((e 4) + v)) (z - (e 1)))) ((e 2) - (tk_mul (tk_div (e 3) ((e 4) + v)) (e 3))) ((e 3) - (tk_mul (tk_div (e 3) ((e 4) + v)) (e 4))) ((e 4) - (tk_mul (tk_div (e 4) ((e 4) + v)) (e 4)))) 0), .long ((tk_mv e ((e 0) + (tk_mul (tk_div (e 3) ((e 4) + v)) (z - (e 1)))) ((e 1) + (tk_mul (tk_div (e 4) ((e 4) + v)) (z - (e 1)))) ((e 2) - (tk_mul (tk_div (e 3) ((e 4) + v)) (e 3))) ((e 3) - (tk_mul (tk_div (e 3) ((e 4) + v)) (e 4))) ((e 4) - (tk_mul (tk_div (e 4) ((e 4) + v)) (e 4)))) 1), .long ((tk_mv e ((e 0) + (tk_mul (tk_div (e 3) ((e 4) + v)) (z - (e 1)))) ((e 1) + (tk_mul (tk_div (e 4) ((e 4) + v)) (z - (e 1)))) ((e 2) - (tk_mul (tk_div (e 3) ((e 4) + v)) (e 3))) ((e 3) - (tk_mul (tk_div (e 3) ((e 4) + v)) (e 4))) ((e 4) - (tk_mul (tk_div (e 4) ((e 4) + v)) (e 4)))) 2), .long ((tk_mv e ((e 0) + (tk_mul (tk_div (e 3) ((e 4) + v)) (z - (e 1)))) ((e 1) + (tk_mul (tk_div (e 4) ((e 4) + v)) (z - (e 1)))) ((e 2) - (tk_mul (tk_div (e 3) ((e 4) + v)) (e 3))) ((e 3) - (tk_mul (tk_div (e 3) ((e 4) + v)) (e 4))) ((e 4) - (tk_mul (tk_div (e 4) ((e 4) + v)) (e 4)))) 3), .long ((tk_mv e ((e 0) + (tk_mul (tk_div (e 3) ((e 4) + v)) (z - (e 1)))) ((e 1) + (tk_mul (tk_div (e 4) ((e 4) + v)) (z - (e 1)))) ((e 2) - (tk_mul (tk_div (e 3) ((e 4) + v)) (e 3))) ((e 3) - (tk_mul (tk_div (e 3) ((e 4) + v)) (e 4))) ((e 4) - (tk_mul (tk_div (e 4) ((e 4) + v)) (e 4)))) 4), .long (z - (e 1)), .long (tk_div (e 3) ((e 4) + v)), .long ((tk_mv e ((e 0) + (tk_mul (tk_div (e 3) ((e 4) + v)) (z - (e 1)))) ((e 1) + (tk_mul (tk_div (e 4) ((e 4) + v)) (z - (e 1)))) ((e 2) - (tk_mul (tk_div (e 3) ((e 4) + v)) (e 3))) ((e 3) - (tk_mul (tk_div (e 3) ((e 4) + v)) (e 4))) ((e 4) - (tk_mul (tk_div (e 4) ((e 4) + v)) (e 4)))) 7)]))]) H := hP
                          have hD : va_D A ([(h0, .inr (0, [.long ((tk_mv e ((e 0) + (tk_mul (tk_div (e 3) ((e 4) + v)) (z - (e 1)))) ((e 1) + (tk_mul (tk_div (e 4) ((e 4) + v)) (z - (e 1)))) ((e 2) - (tk_mul (tk_div (e 3) ((e 4) + v)) (e 3))) ((e 3) - (tk_mul (tk_div (e 3) ((e 4) + v)) (e 4))) ((e 4) - (tk_mul (tk_div (e 4) ((e 4) + v)) (e 4)))) 0), .long ((tk_mv e ((e 0) + (tk_mul (tk_div (e 3) ((e 4) + v)) (z - (e 1)))) ((e 1) + (tk_mul (tk_div (e 4) ((e 4) + v)) (z - (e 1)))) ((e 2) - (tk_mul (tk_div (e 3) ((e 4) + v)) (e 3))) ((e 3) - (tk_mul (tk_div (e 3) ((e 4) + v)) (e 4))) ((e 4) - (tk_mul (tk_div (e 4) ((e 4) + v)) (e 4)))) 1), .long ((tk_mv e ((e 0) + (tk_mul (tk_div (e 3) ((e 4) + v)) (z - (e 1)))) ((e 1) + (tk_mul (tk_div (e 4) ((e 4) + v)) (z - (e 1)))) ((e 2) - (tk_mul (tk_div (e 3) ((e 4) + v)) (e 3))) ((e 3) - (tk_mul (tk_div (e 3) ((e 4) + v)) (e 4))) ((e 4) - (tk_mul (tk_div (e 4) ((e 4) + v)) (e 4)))) 2), .long ((tk_mv e ((e 0) + (tk_mul (tk_div (e 3) ((e 4) + v)) (z - (e 1)))) ((e 1) + (tk_mul (tk_div (e 4) ((e 4) + v)) (z - (e 1)))) ((e 2) - (tk_mul (tk_div (e 3) ((e 4) + v)) (e 3))) ((e 3) - (tk_mul (tk_div (e 3) ((e 4) + v)) (e 4))) ((e 4) - (tk_mul (tk_div (e 4) ((e 4) + v)) (e 4)))) 3), .long ((tk_mv e ((e 0) + (tk_mul (tk_div (e 3) ((e 4) + v)) (z - (e 1)))) ((e 1) + (tk_mul (tk_div (e 4) ((e 4) + v)) (z - (e 1)))) ((e 2) - (tk_mul (tk_div (e 3) ((e 4) + v)) (e 3))) ((e 3) - (tk_mul (tk_div (e 3) ((e 4) + v)) (e 4))) ((e 4) - (tk_mul (tk_div (e 4) ((e 4) + v)) (e 4)))) 4), .long (z - (e 1)), .long (tk_div (e 3) ((e 4) + v)), .long ((tk_mv e ((e 0) + (tk_mul (tk_div (e 3) ((e 4) + v)) (z - (e 1)))) ((e 1) + (tk_mul (tk_div (e 4) ((e 4) + v)) (z - (e 1)))) ((e 2) - (tk_mul (tk_div (e 3) ((e 4) + v)) (e 3))) ((e 3) - (tk_mul (tk_div (e 3) ((e 4) + v)) (e 4))) ((e 4) - (tk_mul (tk_div (e 4) ((e 4) + v)) (e 4)))) 7)]))]) := hD
                          refine lv_aload_n hx hb dX0_take_233 rfl (lv_at hl 8 rfl) ?_
                          refine lv_lload hx hb dX0_take_234 (lv_at hl 1 rfl) ?_
                          refine va_put (D := D) (ci := 0) (v := .long (tk_div (e 4) ((e 4) + v))) (ty := .long) (C := RX0) (T := TX0) (N := 8) hx hb hts izX0_take_0 tyX0 tyX0_ok nmX0 hown hK hP hD hS 0 rfl rfl 7 (by decide) (hm 10 (.fieldLink RX0 37 "TankFilter$Estimate" "flowGain" "J") rfl) (fun _ h9 => h9) rfl (by decide +kernel) rfl rfl (Nat.le_of_ble_eq_true rfl) dX0_take_236 (fun H locs hP hD hS => ?_)
                          have hP : va_P D vwCl ([(h0, .inr (0, [.long ((tk_mv e ((e 0) + (tk_mul (tk_div (e 3) ((e 4) + v)) (z - (e 1)))) ((e 1) + (tk_mul (tk_div (e 4) ((e 4) + v)) (z - (e 1)))) ((e 2) - (tk_mul (tk_div (e 3) ((e 4) + v)) (e 3))) ((e 3) - (tk_mul (tk_div (e 3) ((e 4) + v)) (e 4))) ((e 4) - (tk_mul (tk_div (e 4) ((e 4) + v)) (e 4)))) 0), .long ((tk_mv e ((e 0) + (tk_mul (tk_div (e 3) ((e 4) + v)) (z - (e 1)))) ((e 1) + (tk_mul (tk_div (e 4) ((e 4) + v)) (z - (e 1)))) ((e 2) - (tk_mul (tk_div (e 3) ((e 4) + v)) (e 3))) ((e 3) - (tk_mul (tk_div (e 3) ((e 4) + v)) (e 4))) ((e 4) - (tk_mul (tk_div (e 4) ((e 4) + v)) (e 4)))) 1), .long ((tk_mv e ((e 0) + (tk_mul (tk_div (e 3) ((e 4) + v)) (z - (e 1)))) ((e 1) + (tk_mul (tk_div (e 4) ((e 4) + v)) (z - (e 1)))) ((e 2) - (tk_mul (tk_div (e 3) ((e 4) + v)) (e 3))) ((e 3) - (tk_mul (tk_div (e 3) ((e 4) + v)) (e 4))) ((e 4) - (tk_mul (tk_div (e 4) ((e 4) + v)) (e 4)))) 2), .long ((tk_mv e ((e 0) + (tk_mul (tk_div (e 3) ((e 4) + v)) (z - (e 1)))) ((e 1) + (tk_mul (tk_div (e 4) ((e 4) + v)) (z - (e 1)))) ((e 2) - (tk_mul (tk_div (e 3) ((e 4) + v)) (e 3))) ((e 3) - (tk_mul (tk_div (e 3) ((e 4) + v)) (e 4))) ((e 4) - (tk_mul (tk_div (e 4) ((e 4) + v)) (e 4)))) 3), .long ((tk_mv e ((e 0) + (tk_mul (tk_div (e 3) ((e 4) + v)) (z - (e 1)))) ((e 1) + (tk_mul (tk_div (e 4) ((e 4) + v)) (z - (e 1)))) ((e 2) - (tk_mul (tk_div (e 3) ((e 4) + v)) (e 3))) ((e 3) - (tk_mul (tk_div (e 3) ((e 4) + v)) (e 4))) ((e 4) - (tk_mul (tk_div (e 4) ((e 4) + v)) (e 4)))) 4), .long (z - (e 1)), .long (tk_div (e 3) ((e 4) + v)), .long (tk_div (e 4) ((e 4) + v))]))]) H := hP
                          have hD : va_D A ([(h0, .inr (0, [.long ((tk_mv e ((e 0) + (tk_mul (tk_div (e 3) ((e 4) + v)) (z - (e 1)))) ((e 1) + (tk_mul (tk_div (e 4) ((e 4) + v)) (z - (e 1)))) ((e 2) - (tk_mul (tk_div (e 3) ((e 4) + v)) (e 3))) ((e 3) - (tk_mul (tk_div (e 3) ((e 4) + v)) (e 4))) ((e 4) - (tk_mul (tk_div (e 4) ((e 4) + v)) (e 4)))) 0), .long ((tk_mv e ((e 0) + (tk_mul (tk_div (e 3) ((e 4) + v)) (z - (e 1)))) ((e 1) + (tk_mul (tk_div (e 4) ((e 4) + v)) (z - (e 1)))) ((e 2) - (tk_mul (tk_div (e 3) ((e 4) + v)) (e 3))) ((e 3) - (tk_mul (tk_div (e 3) ((e 4) + v)) (e 4))) ((e 4) - (tk_mul (tk_div (e 4) ((e 4) + v)) (e 4)))) 1), .long ((tk_mv e ((e 0) + (tk_mul (tk_div (e 3) ((e 4) + v)) (z - (e 1)))) ((e 1) + (tk_mul (tk_div (e 4) ((e 4) + v)) (z - (e 1)))) ((e 2) - (tk_mul (tk_div (e 3) ((e 4) + v)) (e 3))) ((e 3) - (tk_mul (tk_div (e 3) ((e 4) + v)) (e 4))) ((e 4) - (tk_mul (tk_div (e 4) ((e 4) + v)) (e 4)))) 2), .long ((tk_mv e ((e 0) + (tk_mul (tk_div (e 3) ((e 4) + v)) (z - (e 1)))) ((e 1) + (tk_mul (tk_div (e 4) ((e 4) + v)) (z - (e 1)))) ((e 2) - (tk_mul (tk_div (e 3) ((e 4) + v)) (e 3))) ((e 3) - (tk_mul (tk_div (e 3) ((e 4) + v)) (e 4))) ((e 4) - (tk_mul (tk_div (e 4) ((e 4) + v)) (e 4)))) 3), .long ((tk_mv e ((e 0) + (tk_mul (tk_div (e 3) ((e 4) + v)) (z - (e 1)))) ((e 1) + (tk_mul (tk_div (e 4) ((e 4) + v)) (z - (e 1)))) ((e 2) - (tk_mul (tk_div (e 3) ((e 4) + v)) (e 3))) ((e 3) - (tk_mul (tk_div (e 3) ((e 4) + v)) (e 4))) ((e 4) - (tk_mul (tk_div (e 4) ((e 4) + v)) (e 4)))) 4), .long (z - (e 1)), .long (tk_div (e 3) ((e 4) + v)), .long (tk_div (e 4) ((e 4) + v))]))]) := hD
                          refine lv_iconst (v := 1) hx hb dX0_take_239 (by decide) ?_
                          exact W.iret (v := 1) hx hb hr (fun t ht hW => ⟨⟨1, cq_e e (e 3) (e 4) (e 4) (e 1) z v, rfl, Or.inr (Or.inl ⟨(fun y => cq_rej_2 c_23 ((co_rej1 c_1).mp y)), by rw [co_ok1 c_1, cq_ok, p_26, p_28, p_35]; rfl, rfl, (co_e1 c_1).symm⟩), KB.of hAe (by rw [ht, cq_e, tk_yk_ev]; exact hP) (by rw [cq_e, tk_yk_ev]; exact hD)⟩, hS.F ht⟩) hS.2.2 dX0_take_240
                        · exact absurd c_36 (by decide)
                      · have hP : va_P D vwCl ([(h0, .inr (0, tk_ev e))]) H := hP
                        have hD : va_D A ([(h0, .inr (0, tk_ev e))]) := hD
                        refine lv_istore (lv' := [(21, .int 0), (19, .long (tk_div (e 4) ((e 4) + v))), (17, .long (tk_div (e 3) ((e 4) + v))), (15, .long ((e 4) + v)), (13, .long (z - (e 1))), (11, .long (e 4)), (9, .long (e 3)), (8, .int 0), (0, .ref h0), (1, .long z), (3, .int kd), (4, .long v), (6, .long g)]) hx hb dX0_take_211 hl (by decide) rfl (fun ls hl => ?_)
                        refine lv_iload hx hb dX0_take_213 (lv_at hl 0 rfl) ?_
                        refine lv_if_ne (tgt := 221) hx hb dX0_take_215 (by decide) (fun c_37 => ?_) (fun c_37 => ?_)
                        · exact absurd c_37 (by decide)
                        · skip
                          refine lv_ldc (v := -2000000004) hx hb hown (hm 6 (.constant RX0 58 (-2000000004)) rfl) dX0_take_218 ?_
                          exact W.iret (v := (-2000000004)) hx hb hr (fun t ht hW => ⟨⟨(-2000000004), e, rfl, Or.inr (Or.inr ⟨(fun y => cq_rej_2 c_23 ((co_rej1 c_1).mp y)), by rw [co_ok1 c_1, cq_ok, p_26, p_28, p_35]; rfl, rfl, rfl⟩), KB.of hAe (by rw [ht]; exact hP) hD⟩, hS.F ht⟩) hS.2.2 dX0_take_220
                    · exact absurd c_29 (by decide)
                  · have hP : va_P D vwCl ([(h0, .inr (0, tk_ev e))]) H := hP
                    have hD : va_D A ([(h0, .inr (0, tk_ev e))]) := hD
                    refine lv_if_ne (tgt := 147) hx hb dX0_take_141 (by decide) (fun c_38 => ?_) (fun c_38 => ?_)
                    · exact absurd c_38 (by decide)
                    · skip
                      refine lv_ldc (v := -2000000004) hx hb hown (hm 6 (.constant RX0 58 (-2000000004)) rfl) dX0_take_144 ?_
                      exact W.iret (v := (-2000000004)) hx hb hr (fun t ht hW => ⟨⟨(-2000000004), e, rfl, Or.inr (Or.inr ⟨(fun y => cq_rej_2 c_23 ((co_rej1 c_1).mp y)), by rw [co_ok1 c_1, cq_ok, p_26, p_28]; rfl, rfl, rfl⟩), KB.of hAe (by rw [ht]; exact hP) hD⟩, hS.F ht⟩) hS.2.2 dX0_take_146
              · have hP : va_P D vwCl ([(h0, .inr (0, tk_ev e))]) H := hP
                have hD : va_D A ([(h0, .inr (0, tk_ev e))]) := hD
                refine lv_if_eq (tgt := 144) hx hb dX0_take_133 (by decide) (fun c_39 => ?_) (fun c_39 => ?_)
                · skip
                  refine lv_ldc (v := -2000000004) hx hb hown (hm 6 (.constant RX0 58 (-2000000004)) rfl) dX0_take_144 ?_
                  exact W.iret (v := (-2000000004)) hx hb hr (fun t ht hW => ⟨⟨(-2000000004), e, rfl, Or.inr (Or.inr ⟨(fun y => cq_rej_2 c_23 ((co_rej1 c_1).mp y)), by rw [co_ok1 c_1, cq_ok, p_26]; rfl, rfl, rfl⟩), KB.of hAe (by rw [ht]; exact hP) hD⟩, hS.F ht⟩) hS.2.2 dX0_take_146
                · exact absurd c_39 (by decide)
            · have c_23 := mt (lg_cmp_le _ _).mpr c_23
              refine lv_aload_n hx hb dX0_take_102 rfl (lv_at hl 5 rfl) ?_
              refine lv_lload hx hb dX0_take_103 (lv_at hl 1 rfl) ?_
              refine va_put (D := D) (ci := 0) (v := .long (z - (e 1))) (ty := .long) (C := RX0) (T := TX0) (N := 8) hx hb hts izX0_take_0 tyX0 tyX0_ok nmX0 hown hK hP hD hS 0 rfl rfl 5 (by decide) (hm 5 (.fieldLink RX0 31 "TankFilter$Estimate" "innovation" "J") rfl) (fun _ h9 => h9) rfl (by decide +kernel) rfl rfl (Nat.le_of_ble_eq_true rfl) dX0_take_105 (fun H locs hP hD hS => ?_)
              have hP : va_P D vwCl ([(h0, .inr (0, [.long (e 0), .long (e 1), .long (e 2), .long (e 3), .long (e 4), .long (z - (e 1)), .long (e 6), .long (e 7)]))]) H := hP
              have hD : va_D A ([(h0, .inr (0, [.long (e 0), .long (e 1), .long (e 2), .long (e 3), .long (e 4), .long (z - (e 1)), .long (e 6), .long (e 7)]))]) := hD
              refine lv_iconst (v := 0) hx hb dX0_take_108 (by decide) ?_
              exact W.iret (v := 0) hx hb hr (fun t ht hW => ⟨⟨0, tk_y e (z - e 1), rfl, Or.inl ⟨(co_rej1 c_1).mpr (cq_rej_t c_6 c_23), rfl, by rw [co_m1 c_1]⟩, KB.of hAe (by rw [ht, tk_y_ev]; exact hP) (by rw [tk_y_ev]; exact hD)⟩, hS.F ht⟩) hS.2.2 dX0_take_109
        · exact absurd c_5 (by decide)
      · exact absurd c_3 (by decide)
    · exact absurd c_2 (by decide)
  · skip
    refine lv_iconst (v := 1) hx hb dX0_take_4 (by decide) ?_
    refine lv_goto (tgt := 9) hx hb dX0_take_5 (by decide) ?_
    refine lv_istore (lv' := [(8, .int 1), (0, .ref h0), (1, .long z), (3, .int kd), (4, .long v), (6, .long g)]) hx hb dX0_take_9 hl (by decide) rfl (fun ls hl => ?_)
    refine lv_iload hx hb dX0_take_11 (lv_at hl 0 rfl) ?_
    refine lv_if_eq (tgt := 23) hx hb dX0_take_13 (by decide) (fun c_40 => ?_) (fun c_40 => ?_)
    · exact absurd c_40 (by decide)
    · skip
      refine lv_aload_n hx hb dX0_take_16 rfl (lv_at hl 1 rfl) ?_
      refine va_get (D := D) (ci := 0) (v := .long (e 2)) (C := RX0) (T := TX0) (N := 8) hx hb hts izX0_take_0 hown hK hP 0 rfl rfl 2 (by decide) (hm 1 (.fieldLink RX0 20 "TankFilter$Estimate" "levelVariance" "J") rfl) (fun _ h9 => h9) rfl dX0_take_17 ?_
      refine lv_goto (tgt := 27) hx hb dX0_take_20 (by decide) ?_
      refine lv_lstore (lv' := [(9, .long (e 2)), (8, .int 1), (0, .ref h0), (1, .long z), (3, .int kd), (4, .long v), (6, .long g)]) hx hb dX0_take_27 hl (by decide) rfl (fun ls hl => ?_)
      refine lv_iload hx hb dX0_take_29 (lv_at hl 1 rfl) ?_
      refine lv_if_eq (tgt := 41) hx hb dX0_take_31 (by decide) (fun c_41 => ?_) (fun c_41 => ?_)
      · exact absurd c_41 (by decide)
      · skip
        refine lv_aload_n hx hb dX0_take_34 rfl (lv_at hl 2 rfl) ?_
        refine va_get (D := D) (ci := 0) (v := .long (e 3)) (C := RX0) (T := TX0) (N := 8) hx hb hts izX0_take_0 hown hK hP 0 rfl rfl 3 (by decide) (hm 2 (.fieldLink RX0 23 "TankFilter$Estimate" "covariance" "J") rfl) (fun _ h9 => h9) rfl dX0_take_35 ?_
        refine lv_goto (tgt := 45) hx hb dX0_take_38 (by decide) ?_
        refine lv_lstore (lv' := [(11, .long (e 3)), (9, .long (e 2)), (8, .int 1), (0, .ref h0), (1, .long z), (3, .int kd), (4, .long v), (6, .long g)]) hx hb dX0_take_45 hl (by decide) rfl (fun ls hl => ?_)
        refine lv_lload_n hx hb dX0_take_47 rfl (lv_at hl 4 rfl) ?_
        refine lv_aload_n hx hb dX0_take_48 rfl (lv_at hl 3 rfl) ?_
        refine lv_iload_n hx hb dX0_take_49 rfl (lv_at hl 5 rfl) ?_
        refine kc_l (wc := [(h0, .inr (0, tk_ev e))]) (wr := []) (va_runV (As := [.int kd]) (rest := [.long z]) ⟨hx, hb, hml, hown, hts⟩ (k_X0_mean l D cI cM cJ _ h0 e kd) (cwV 1 hts gX0_take_X0_mean rfl rfl rfl (by decide +kernel) ⟨Nat.le_of_ble_eq_true rfl, Nat.le_of_ble_eq_true rfl⟩) (kp_preV (q := (RX0, TX0, 8)) (wc := [(h0, .inr (0, tk_ev e))]) (wr := []) hN hK hP hD 0 rfl rfl) rfl rfl hl.1 rfl (lv_room (Nat.le_of_ble_eq_true rfl)) dX0_take_50 ⟨Nat.le_of_ble_eq_true rfl, Nat.le_of_ble_eq_true rfl⟩) hP hD hS hA (fun r_42 u_42 H locs p_42 hP hD hS => ?_)
        obtain rfl : r_42 = e 0 := p_42.trans (co_m0 c_1)
        have hP : va_P D vwCl ([(h0, .inr (0, tk_ev e))]) H := hP
        have hD : va_D A ([(h0, .inr (0, tk_ev e))]) := hD
        refine lv_lsub hx hb dX0_take_53 ?_
        refine lv_lstore (lv' := [(13, .long (z - (e 0))), (11, .long (e 3)), (9, .long (e 2)), (8, .int 1), (0, .ref h0), (1, .long z), (3, .int kd), (4, .long v), (6, .long g)]) hx hb dX0_take_54 hl (by decide) rfl (fun ls hl => ?_)
        refine lv_iload hx hb dX0_take_56 (lv_at hl 3 rfl) ?_
        refine lv_if_eq (tgt := 68) hx hb dX0_take_58 (by decide) (fun c_43 => ?_) (fun c_43 => ?_)
        · exact absurd c_43 (by decide)
        · skip
          refine lv_aload_n hx hb dX0_take_61 rfl (lv_at hl 4 rfl) ?_
          refine va_get (D := D) (ci := 0) (v := .long (e 2)) (C := RX0) (T := TX0) (N := 8) hx hb hts izX0_take_0 hown hK hP 0 rfl rfl 2 (by decide) (hm 1 (.fieldLink RX0 20 "TankFilter$Estimate" "levelVariance" "J") rfl) (fun _ h9 => h9) rfl dX0_take_62 ?_
          refine lv_goto (tgt := 72) hx hb dX0_take_65 (by decide) ?_
          refine lv_lload hx hb dX0_take_72 (lv_at hl 7 rfl) ?_
          refine lv_ladd hx hb dX0_take_74 ?_
          refine lv_lstore (lv' := [(15, .long ((e 2) + v)), (13, .long (z - (e 0))), (11, .long (e 3)), (9, .long (e 2)), (8, .int 1), (0, .ref h0), (1, .long z), (3, .int kd), (4, .long v), (6, .long g)]) hx hb dX0_take_75 hl (by decide) rfl (fun ls hl => ?_)
          refine lv_lload hx hb dX0_take_77 (lv_at hl 9 rfl) ?_
          refine lv_lconst (v := 0) hx hb dX0_take_79 (by decide) ?_
          refine W.lcmp hx hb dX0_take_80 ?_
          refine lv_if_eq (tgt := 110) hx hb dX0_take_81 (by decide) (fun c_44 => ?_) (fun c_44 => ?_)
          · have c_44 := (lg_cmp_eq _ _).mp c_44
            refine lv_lload hx hb dX0_take_110 (lv_at hl 3 rfl) ?_
            refine lv_lload hx hb dX0_take_112 (lv_at hl 0 rfl) ?_
            refine kc_l (wc := []) (wr := [(h0, .inr (0, tk_ev e))]) (va_runSN (As := [.long (e 2), .long ((e 2) + v)]) (rest := []) ⟨hx, hb, hml, hown, hts⟩ (k_X3_dividedBy l D cI cM cJ _ (e 2) ((e 2) + v) (by have z := hs; rw [co_p0 c_1] at z; exact z)) ⟨va_cnB 2 hts gX0_take_X3_dividedBy_n50 rfl rfl rfl (hN.at 37 rfl) (hm 17 (.initialized RX3) rfl) (by decide +kernel) ⟨Nat.le_of_ble_eq_true rfl, Nat.le_of_ble_eq_true rfl⟩, (hm 16 (.static yX3_dividedBy) rfl), trivial⟩ (kp_preS (wc := []) (wr := [(h0, .inr (0, tk_ev e))]) hN hK hP hD) rfl rfl hl.1 rfl (lv_room (Nat.le_of_ble_eq_true rfl)) dX0_take_114 ⟨Nat.le_of_ble_eq_true rfl, Nat.le_of_ble_eq_true rfl⟩) hP hD hS hA (fun r_45 u_45 H locs p_45 hP hD hS => ?_)
            obtain rfl : r_45 = tk_div (e 2) ((e 2) + v) := p_45
            have hP : va_P D vwCl ([(h0, .inr (0, tk_ev e))]) H := hP
            have hD : va_D A ([(h0, .inr (0, tk_ev e))]) := hD
            refine lv_lstore (lv' := [(17, .long (tk_div (e 2) ((e 2) + v))), (15, .long ((e 2) + v)), (13, .long (z - (e 0))), (11, .long (e 3)), (9, .long (e 2)), (8, .int 1), (0, .ref h0), (1, .long z), (3, .int kd), (4, .long v), (6, .long g)]) hx hb dX0_take_117 hl (by decide) rfl (fun ls hl => ?_)
            refine lv_lload hx hb dX0_take_119 (lv_at hl 3 rfl) ?_
            refine lv_lload hx hb dX0_take_121 (lv_at hl 1 rfl) ?_
            refine kc_l (wc := []) (wr := [(h0, .inr (0, tk_ev e))]) (va_runSN (As := [.long (e 3), .long ((e 2) + v)]) (rest := []) ⟨hx, hb, hml, hown, hts⟩ (k_X3_dividedBy l D cI cM cJ _ (e 3) ((e 2) + v) (by have z := hs; rw [co_p0 c_1] at z; exact z)) ⟨va_cnB 2 hts gX0_take_X3_dividedBy_n50 rfl rfl rfl (hN.at 37 rfl) (hm 17 (.initialized RX3) rfl) (by decide +kernel) ⟨Nat.le_of_ble_eq_true rfl, Nat.le_of_ble_eq_true rfl⟩, (hm 16 (.static yX3_dividedBy) rfl), trivial⟩ (kp_preS (wc := []) (wr := [(h0, .inr (0, tk_ev e))]) hN hK hP hD) rfl rfl hl.1 rfl (lv_room (Nat.le_of_ble_eq_true rfl)) dX0_take_123 ⟨Nat.le_of_ble_eq_true rfl, Nat.le_of_ble_eq_true rfl⟩) hP hD hS hA (fun r_46 u_46 H locs p_46 hP hD hS => ?_)
            obtain rfl : r_46 = tk_div (e 3) ((e 2) + v) := p_46
            have hP : va_P D vwCl ([(h0, .inr (0, tk_ev e))]) H := hP
            have hD : va_D A ([(h0, .inr (0, tk_ev e))]) := hD
            refine lv_lstore (lv' := [(19, .long (tk_div (e 3) ((e 2) + v))), (17, .long (tk_div (e 2) ((e 2) + v))), (15, .long ((e 2) + v)), (13, .long (z - (e 0))), (11, .long (e 3)), (9, .long (e 2)), (8, .int 1), (0, .ref h0), (1, .long z), (3, .int kd), (4, .long v), (6, .long g)]) hx hb dX0_take_126 hl (by decide) rfl (fun ls hl => ?_)
            refine lv_lload hx hb dX0_take_128 (lv_at hl 1 rfl) ?_
            refine kc_i (wc := []) (wr := [(h0, .inr (0, tk_ev e))]) (va_runSN (As := [.long (tk_div (e 2) ((e 2) + v))]) (rest := []) ⟨hx, hb, hml, hown, hts⟩ (k_X3_isInLimit l D cI cM cJ _ (tk_div (e 2) ((e 2) + v))) ⟨va_cnB 1 hts gX0_take_X3_isInLimit_n54 rfl rfl rfl (hN.at 34 rfl) (hm 17 (.initialized RX3) rfl) (by decide +kernel) ⟨Nat.le_of_ble_eq_true rfl, Nat.le_of_ble_eq_true rfl⟩, (hm 25 (.static yX3_isInLimit) rfl), trivial⟩ (kp_preS (wc := []) (wr := [(h0, .inr (0, tk_ev e))]) hN hK hP hD) rfl rfl hl.1 rfl (lv_room (Nat.le_of_ble_eq_true rfl)) dX0_take_130 ⟨Nat.le_of_ble_eq_true rfl, Nat.le_of_ble_eq_true rfl⟩) hP hD hS hA (fun r_47 u_47 H locs p_47 hP hD hS => ?_)
            rcases p_47 with ⟨p_47, rfl⟩ | ⟨p_47, rfl⟩
            · have hP : va_P D vwCl ([(h0, .inr (0, tk_ev e))]) H := hP
              have hD : va_D A ([(h0, .inr (0, tk_ev e))]) := hD
              refine lv_if_eq (tgt := 144) hx hb dX0_take_133 (by decide) (fun c_48 => ?_) (fun c_48 => ?_)
              · exact absurd c_48 (by decide)
              · skip
                refine lv_lload hx hb dX0_take_136 (lv_at hl 0 rfl) ?_
                refine kc_i (wc := []) (wr := [(h0, .inr (0, tk_ev e))]) (va_runSN (As := [.long (tk_div (e 3) ((e 2) + v))]) (rest := []) ⟨hx, hb, hml, hown, hts⟩ (k_X3_isInLimit l D cI cM cJ _ (tk_div (e 3) ((e 2) + v))) ⟨va_cnB 1 hts gX0_take_X3_isInLimit_n54 rfl rfl rfl (hN.at 34 rfl) (hm 17 (.initialized RX3) rfl) (by decide +kernel) ⟨Nat.le_of_ble_eq_true rfl, Nat.le_of_ble_eq_true rfl⟩, (hm 25 (.static yX3_isInLimit) rfl), trivial⟩ (kp_preS (wc := []) (wr := [(h0, .inr (0, tk_ev e))]) hN hK hP hD) rfl rfl hl.1 rfl (lv_room (Nat.le_of_ble_eq_true rfl)) dX0_take_138 ⟨Nat.le_of_ble_eq_true rfl, Nat.le_of_ble_eq_true rfl⟩) hP hD hS hA (fun r_49 u_49 H locs p_49 hP hD hS => ?_)
                rcases p_49 with ⟨p_49, rfl⟩ | ⟨p_49, rfl⟩
                · have hP : va_P D vwCl ([(h0, .inr (0, tk_ev e))]) H := hP
                  have hD : va_D A ([(h0, .inr (0, tk_ev e))]) := hD
                  refine lv_if_ne (tgt := 147) hx hb dX0_take_141 (by decide) (fun c_50 => ?_) (fun c_50 => ?_)
                  · skip
                    refine lv_aload_n hx hb dX0_take_147 rfl (lv_at hl 7 rfl) ?_
                    refine lv_aload_n hx hb dX0_take_148 rfl (lv_at hl 7 rfl) ?_
                    refine va_get (D := D) (ci := 0) (v := .long (e 0)) (C := RX0) (T := TX0) (N := 8) hx hb hts izX0_take_0 hown hK hP 0 rfl rfl 0 (by decide) (hm 7 (.fieldLink RX0 9 "TankFilter$Estimate" "level" "J") rfl) (fun _ h9 => h9) rfl dX0_take_149 ?_
                    refine lv_lload hx hb dX0_take_152 (lv_at hl 1 rfl) ?_
                    refine lv_lload hx hb dX0_take_154 (lv_at hl 3 rfl) ?_
                    refine kc_l (wc := []) (wr := [(h0, .inr (0, tk_ev e))]) (va_runSN (As := [.long (tk_div (e 2) ((e 2) + v)), .long (z - (e 0))]) (rest := [.long (e 0), .ref h0]) ⟨hx, hb, hml, hown, hts⟩ (k_X3_times l D cI cM cJ _ (tk_div (e 2) ((e 2) + v)) (z - (e 0))) ⟨va_cnB 2 hts gX0_take_X3_times_n59 rfl rfl rfl (hN.at 38 rfl) (hm 17 (.initialized RX3) rfl) (by decide +kernel) ⟨Nat.le_of_ble_eq_true rfl, Nat.le_of_ble_eq_true rfl⟩, (hm 29 (.static yX3_times) rfl), trivial⟩ (kp_preS (wc := []) (wr := [(h0, .inr (0, tk_ev e))]) hN hK hP hD) rfl rfl hl.1 rfl (lv_room (Nat.le_of_ble_eq_true rfl)) dX0_take_156 ⟨Nat.le_of_ble_eq_true rfl, Nat.le_of_ble_eq_true rfl⟩) hP hD hS hA (fun r_51 u_51 H locs p_51 hP hD hS => ?_)
                    obtain rfl : r_51 = tk_mul (tk_div (e 2) ((e 2) + v)) (z - (e 0)) := p_51
                    have hP : va_P D vwCl ([(h0, .inr (0, tk_ev e))]) H := hP
                    have hD : va_D A ([(h0, .inr (0, tk_ev e))]) := hD
                    refine lv_ladd hx hb dX0_take_159 ?_
                    refine lv_aload_n hx hb dX0_take_160 rfl (lv_at hl 7 rfl) ?_
                    refine va_get (D := D) (ci := 0) (v := .long (e 1)) (C := RX0) (T := TX0) (N := 8) hx hb hts izX0_take_0 hown hK hP 0 rfl rfl 1 (by decide) (hm 8 (.fieldLink RX0 15 "TankFilter$Estimate" "flow" "J") rfl) (fun _ h9 => h9) rfl dX0_take_161 ?_
                    refine lv_lload hx hb dX0_take_164 (lv_at hl 0 rfl) ?_
                    refine lv_lload hx hb dX0_take_166 (lv_at hl 3 rfl) ?_
                    refine kc_l (wc := []) (wr := [(h0, .inr (0, tk_ev e))]) (va_runSN (As := [.long (tk_div (e 3) ((e 2) + v)), .long (z - (e 0))]) (rest := [.long (e 1), .long ((e 0) + (tk_mul (tk_div (e 2) ((e 2) + v)) (z - (e 0)))), .ref h0]) ⟨hx, hb, hml, hown, hts⟩ (k_X3_times l D cI cM cJ _ (tk_div (e 3) ((e 2) + v)) (z - (e 0))) ⟨va_cnB 2 hts gX0_take_X3_times_n59 rfl rfl rfl (hN.at 38 rfl) (hm 17 (.initialized RX3) rfl) (by decide +kernel) ⟨Nat.le_of_ble_eq_true rfl, Nat.le_of_ble_eq_true rfl⟩, (hm 29 (.static yX3_times) rfl), trivial⟩ (kp_preS (wc := []) (wr := [(h0, .inr (0, tk_ev e))]) hN hK hP hD) rfl rfl hl.1 rfl (lv_room (Nat.le_of_ble_eq_true rfl)) dX0_take_168 ⟨Nat.le_of_ble_eq_true rfl, Nat.le_of_ble_eq_true rfl⟩) hP hD hS hA (fun r_52 u_52 H locs p_52 hP hD hS => ?_)
                    obtain rfl : r_52 = tk_mul (tk_div (e 3) ((e 2) + v)) (z - (e 0)) := p_52
                    have hP : va_P D vwCl ([(h0, .inr (0, tk_ev e))]) H := hP
                    have hD : va_D A ([(h0, .inr (0, tk_ev e))]) := hD
                    refine lv_ladd hx hb dX0_take_171 ?_
                    refine lv_aload_n hx hb dX0_take_172 rfl (lv_at hl 7 rfl) ?_
                    refine va_get (D := D) (ci := 0) (v := .long (e 2)) (C := RX0) (T := TX0) (N := 8) hx hb hts izX0_take_0 hown hK hP 0 rfl rfl 2 (by decide) (hm 1 (.fieldLink RX0 20 "TankFilter$Estimate" "levelVariance" "J") rfl) (fun _ h9 => h9) rfl dX0_take_173 ?_
                    refine lv_lload hx hb dX0_take_176 (lv_at hl 1 rfl) ?_
                    refine lv_lload hx hb dX0_take_178 (lv_at hl 5 rfl) ?_
                    refine kc_l (wc := []) (wr := [(h0, .inr (0, tk_ev e))]) (va_runSN (As := [.long (tk_div (e 2) ((e 2) + v)), .long (e 2)]) (rest := [.long (e 2), .long ((e 1) + (tk_mul (tk_div (e 3) ((e 2) + v)) (z - (e 0)))), .long ((e 0) + (tk_mul (tk_div (e 2) ((e 2) + v)) (z - (e 0)))), .ref h0]) ⟨hx, hb, hml, hown, hts⟩ (k_X3_times l D cI cM cJ _ (tk_div (e 2) ((e 2) + v)) (e 2)) ⟨va_cnB 2 hts gX0_take_X3_times_n59 rfl rfl rfl (hN.at 38 rfl) (hm 17 (.initialized RX3) rfl) (by decide +kernel) ⟨Nat.le_of_ble_eq_true rfl, Nat.le_of_ble_eq_true rfl⟩, (hm 29 (.static yX3_times) rfl), trivial⟩ (kp_preS (wc := []) (wr := [(h0, .inr (0, tk_ev e))]) hN hK hP hD) rfl rfl hl.1 rfl (lv_room (Nat.le_of_ble_eq_true rfl)) dX0_take_180 ⟨Nat.le_of_ble_eq_true rfl, Nat.le_of_ble_eq_true rfl⟩) hP hD hS hA (fun r_53 u_53 H locs p_53 hP hD hS => ?_)
                    obtain rfl : r_53 = tk_mul (tk_div (e 2) ((e 2) + v)) (e 2) := p_53
                    have hP : va_P D vwCl ([(h0, .inr (0, tk_ev e))]) H := hP
                    have hD : va_D A ([(h0, .inr (0, tk_ev e))]) := hD
                    refine lv_lsub hx hb dX0_take_183 ?_
                    refine lv_aload_n hx hb dX0_take_184 rfl (lv_at hl 7 rfl) ?_
                    refine va_get (D := D) (ci := 0) (v := .long (e 3)) (C := RX0) (T := TX0) (N := 8) hx hb hts izX0_take_0 hown hK hP 0 rfl rfl 3 (by decide) (hm 2 (.fieldLink RX0 23 "TankFilter$Estimate" "covariance" "J") rfl) (fun _ h9 => h9) rfl dX0_take_185 ?_
                    refine lv_lload hx hb dX0_take_188 (lv_at hl 1 rfl) ?_
                    refine lv_lload hx hb dX0_take_190 (lv_at hl 4 rfl) ?_
                    refine kc_l (wc := []) (wr := [(h0, .inr (0, tk_ev e))]) (kw_runSN 16 2 (As := [.long (tk_div (e 2) ((e 2) + v)), .long (e 3)]) (rest := [.long (e 3), .long ((e 2) - (tk_mul (tk_div (e 2) ((e 2) + v)) (e 2))), .long ((e 1) + (tk_mul (tk_div (e 3) ((e 2) + v)) (z - (e 0)))), .long ((e 0) + (tk_mul (tk_div (e 2) ((e 2) + v)) (z - (e 0)))), .ref h0]) ⟨hx, hb, hml, hown, hts⟩ (k_X3_times l D cI cM cJ _ (tk_div (e 2) ((e 2) + v)) (e 3)) gX0_take_X3_times_n59 rfl rfl rfl (hN.at 38 rfl) (hm 17 (.initialized RX3) rfl) (hm 29 (.static yX3_times) rfl) (by decide +kernel) ⟨Nat.le_of_ble_eq_true rfl, Nat.le_of_ble_eq_true rfl⟩ (kp_preS (wc := []) (wr := [(h0, .inr (0, tk_ev e))]) hN hK hP hD) rfl rfl hl.1 rfl (kw_room (Nat.le_of_ble_eq_true rfl)) dX0_take_192 ⟨Nat.le_of_ble_eq_true rfl, Nat.le_of_ble_eq_true rfl⟩) hP hD hS hA (fun r_54 u_54 H locs p_54 hP hD hS => ?_)
                    obtain rfl : r_54 = tk_mul (tk_div (e 2) ((e 2) + v)) (e 3) := p_54
                    have hP : va_P D vwCl ([(h0, .inr (0, tk_ev e))]) H := hP
                    have hD : va_D A ([(h0, .inr (0, tk_ev e))]) := hD
                    refine lv_lsub hx hb dX0_take_195 ?_
                    refine lv_aload_n hx hb dX0_take_196 rfl (lv_at hl 7 rfl) ?_
                    refine va_get (D := D) (ci := 0) (v := .long (e 4)) (C := RX0) (T := TX0) (N := 8) hx hb hts izX0_take_0 hown hK hP 0 rfl rfl 4 (by decide) (hm 3 (.fieldLink RX0 26 "TankFilter$Estimate" "flowVariance" "J") rfl) (fun _ h9 => h9) rfl dX0_take_197 ?_
                    refine lv_lload hx hb dX0_take_200 (lv_at hl 0 rfl) ?_
                    refine lv_lload hx hb dX0_take_202 (lv_at hl 4 rfl) ?_
                    refine kc_l (wc := []) (wr := [(h0, .inr (0, tk_ev e))]) (kw_runSN 16 2 (As := [.long (tk_div (e 3) ((e 2) + v)), .long (e 3)]) (rest := [.long (e 4), .long ((e 3) - (tk_mul (tk_div (e 2) ((e 2) + v)) (e 3))), .long ((e 2) - (tk_mul (tk_div (e 2) ((e 2) + v)) (e 2))), .long ((e 1) + (tk_mul (tk_div (e 3) ((e 2) + v)) (z - (e 0)))), .long ((e 0) + (tk_mul (tk_div (e 2) ((e 2) + v)) (z - (e 0)))), .ref h0]) ⟨hx, hb, hml, hown, hts⟩ (k_X3_times l D cI cM cJ _ (tk_div (e 3) ((e 2) + v)) (e 3)) gX0_take_X3_times_n59 rfl rfl rfl (hN.at 38 rfl) (hm 17 (.initialized RX3) rfl) (hm 29 (.static yX3_times) rfl) (by decide +kernel) ⟨Nat.le_of_ble_eq_true rfl, Nat.le_of_ble_eq_true rfl⟩ (kp_preS (wc := []) (wr := [(h0, .inr (0, tk_ev e))]) hN hK hP hD) rfl rfl hl.1 rfl (kw_room (Nat.le_of_ble_eq_true rfl)) dX0_take_204 ⟨Nat.le_of_ble_eq_true rfl, Nat.le_of_ble_eq_true rfl⟩) hP hD hS hA (fun r_55 u_55 H locs p_55 hP hD hS => ?_)
                    obtain rfl : r_55 = tk_mul (tk_div (e 3) ((e 2) + v)) (e 3) := p_55
                    have hP : va_P D vwCl ([(h0, .inr (0, tk_ev e))]) H := hP
                    have hD : va_D A ([(h0, .inr (0, tk_ev e))]) := hD
                    refine lv_lsub hx hb dX0_take_207 ?_
                    refine kc_i (wc := [(h0, .inr (0, tk_ev e))]) (wr := []) (va_runV (As := [.long ((e 0) + (tk_mul (tk_div (e 2) ((e 2) + v)) (z - (e 0)))), .long ((e 1) + (tk_mul (tk_div (e 3) ((e 2) + v)) (z - (e 0)))), .long ((e 2) - (tk_mul (tk_div (e 2) ((e 2) + v)) (e 2))), .long ((e 3) - (tk_mul (tk_div (e 2) ((e 2) + v)) (e 3))), .long ((e 4) - (tk_mul (tk_div (e 3) ((e 2) + v)) (e 3)))]) (rest := []) ⟨hx, hb, hml, hown, hts⟩ (k_X0_move l D cI cM cJ _ h0 e ((e 0) + (tk_mul (tk_div (e 2) ((e 2) + v)) (z - (e 0)))) ((e 1) + (tk_mul (tk_div (e 3) ((e 2) + v)) (z - (e 0)))) ((e 2) - (tk_mul (tk_div (e 2) ((e 2) + v)) (e 2))) ((e 3) - (tk_mul (tk_div (e 2) ((e 2) + v)) (e 3))) ((e 4) - (tk_mul (tk_div (e 3) ((e 2) + v)) (e 3)))) (cwV 5 hts gX0_take_X0_move rfl rfl rfl (by decide +kernel) ⟨Nat.le_of_ble_eq_true rfl, Nat.le_of_ble_eq_true rfl⟩) (kp_preV (q := (RX0, TX0, 8)) (wc := [(h0, .inr (0, tk_ev e))]) (wr := []) hN hK hP hD 0 rfl rfl) rfl rfl hl.1 rfl (lv_room (Nat.le_of_ble_eq_true rfl)) dX0_take_208 ⟨Nat.le_of_ble_eq_true rfl, Nat.le_of_ble_eq_true rfl⟩) hP hD hS hA (fun r_56 u_56 H locs p_56 hP hD hS => ?_)
                    rcases p_56 with ⟨p_56, rfl, rfl⟩ | ⟨p_56, rfl, rfl⟩
                    · have hP : va_P D vwCl ([(h0, .inr (0, tk_ev (tk_mv e ((e 0) + (tk_mul (tk_div (e 2) ((e 2) + v)) (z - (e 0)))) ((e 1) + (tk_mul (tk_div (e 3) ((e 2) + v)) (z - (e 0)))) ((e 2) - (tk_mul (tk_div (e 2) ((e 2) + v)) (e 2))) ((e 3) - (tk_mul (tk_div (e 2) ((e 2) + v)) (e 3))) ((e 4) - (tk_mul (tk_div (e 3) ((e 2) + v)) (e 3))))))]) H := hP
                      have hD : va_D A ([(h0, .inr (0, tk_ev (tk_mv e ((e 0) + (tk_mul (tk_div (e 2) ((e 2) + v)) (z - (e 0)))) ((e 1) + (tk_mul (tk_div (e 3) ((e 2) + v)) (z - (e 0)))) ((e 2) - (tk_mul (tk_div (e 2) ((e 2) + v)) (e 2))) ((e 3) - (tk_mul (tk_div (e 2) ((e 2) + v)) (e 3))) ((e 4) - (tk_mul (tk_div (e 3) ((e 2) + v)) (e 3))))))]) := hD
                      refine lv_istore (lv' := [(21, .int 1), (19, .long (tk_div (e 3) ((e 2) + v))), (17, .long (tk_div (e 2) ((e 2) + v))), (15, .long ((e 2) + v)), (13, .long (z - (e 0))), (11, .long (e 3)), (9, .long (e 2)), (8, .int 1), (0, .ref h0), (1, .long z), (3, .int kd), (4, .long v), (6, .long g)]) hx hb dX0_take_211 hl (by decide) rfl (fun ls hl => ?_)
                      refine lv_iload hx hb dX0_take_213 (lv_at hl 0 rfl) ?_
                      refine lv_if_ne (tgt := 221) hx hb dX0_take_215 (by decide) (fun c_57 => ?_) (fun c_57 => ?_)
                      · skip
                        refine lv_aload_n hx hb dX0_take_221 rfl (lv_at hl 8 rfl) ?_
                        refine lv_lload hx hb dX0_take_222 (lv_at hl 4 rfl) ?_
                        refine va_put (D := D) (ci := 0) (v := .long (z - (e 0))) (ty := .long) (C := RX0) (T := TX0) (N := 8) hx hb hts izX0_take_0 tyX0 tyX0_ok nmX0 hown hK hP hD hS 0 rfl rfl 5 (by decide) (hm 5 (.fieldLink RX0 31 "TankFilter$Estimate" "innovation" "J") rfl) (fun _ h9 => h9) rfl (by decide +kernel) rfl rfl (Nat.le_of_ble_eq_true rfl) dX0_take_224 (fun H locs hP hD hS => ?_)
                        have hP : va_P D vwCl ([(h0, .inr (0, [.long ((tk_mv e ((e 0) + (tk_mul (tk_div (e 2) ((e 2) + v)) (z - (e 0)))) ((e 1) + (tk_mul (tk_div (e 3) ((e 2) + v)) (z - (e 0)))) ((e 2) - (tk_mul (tk_div (e 2) ((e 2) + v)) (e 2))) ((e 3) - (tk_mul (tk_div (e 2) ((e 2) + v)) (e 3))) ((e 4) - (tk_mul (tk_div (e 3) ((e 2) + v)) (e 3)))) 0), .long ((tk_mv e ((e 0) + (tk_mul (tk_div (e 2) ((e 2) + v)) (z - (e 0)))) ((e 1) + (tk_mul (tk_div (e 3) ((e 2) + v)) (z - (e 0)))) ((e 2) - (tk_mul (tk_div (e 2) ((e 2) + v)) (e 2))) ((e 3) - (tk_mul (tk_div (e 2) ((e 2) + v)) (e 3))) ((e 4) - (tk_mul (tk_div (e 3) ((e 2) + v)) (e 3)))) 1), .long ((tk_mv e ((e 0) + (tk_mul (tk_div (e 2) ((e 2) + v)) (z - (e 0)))) ((e 1) + (tk_mul (tk_div (e 3) ((e 2) + v)) (z - (e 0)))) ((e 2) - (tk_mul (tk_div (e 2) ((e 2) + v)) (e 2))) ((e 3) - (tk_mul (tk_div (e 2) ((e 2) + v)) (e 3))) ((e 4) - (tk_mul (tk_div (e 3) ((e 2) + v)) (e 3)))) 2), .long ((tk_mv e ((e 0) + (tk_mul (tk_div (e 2) ((e 2) + v)) (z - (e 0)))) ((e 1) + (tk_mul (tk_div (e 3) ((e 2) + v)) (z - (e 0)))) ((e 2) - (tk_mul (tk_div (e 2) ((e 2) + v)) (e 2))) ((e 3) - (tk_mul (tk_div (e 2) ((e 2) + v)) (e 3))) ((e 4) - (tk_mul (tk_div (e 3) ((e 2) + v)) (e 3)))) 3), .long ((tk_mv e ((e 0) + (tk_mul (tk_div (e 2) ((e 2) + v)) (z - (e 0)))) ((e 1) + (tk_mul (tk_div (e 3) ((e 2) + v)) (z - (e 0)))) ((e 2) - (tk_mul (tk_div (e 2) ((e 2) + v)) (e 2))) ((e 3) - (tk_mul (tk_div (e 2) ((e 2) + v)) (e 3))) ((e 4) - (tk_mul (tk_div (e 3) ((e 2) + v)) (e 3)))) 4), .long (z - (e 0)), .long ((tk_mv e ((e 0) + (tk_mul (tk_div (e 2) ((e 2) + v)) (z - (e 0)))) ((e 1) + (tk_mul (tk_div (e 3) ((e 2) + v)) (z - (e 0)))) ((e 2) - (tk_mul (tk_div (e 2) ((e 2) + v)) (e 2))) ((e 3) - (tk_mul (tk_div (e 2) ((e 2) + v)) (e 3))) ((e 4) - (tk_mul (tk_div (e 3) ((e 2) + v)) (e 3)))) 6), .long ((tk_mv e ((e 0) + (tk_mul (tk_div (e 2) ((e 2) + v)) (z - (e 0)))) ((e 1) + (tk_mul (tk_div (e 3) ((e 2) + v)) (z - (e 0)))) ((e 2) - (tk_mul (tk_div (e 2) ((e 2) + v)) (e 2))) ((e 3) - (tk_mul (tk_div (e 2) ((e 2) + v)) (e 3))) ((e 4) - (tk_mul (tk_div (e 3) ((e 2) + v)) (e 3)))) 7)]))]) H := hP
                        have hD : va_D A ([(h0, .inr (0, [.long ((tk_mv e ((e 0) + (tk_mul (tk_div (e 2) ((e 2) + v)) (z - (e 0)))) ((e 1) + (tk_mul (tk_div (e 3) ((e 2) + v)) (z - (e 0)))) ((e 2) - (tk_mul (tk_div (e 2) ((e 2) + v)) (e 2))) ((e 3) - (tk_mul (tk_div (e 2) ((e 2) + v)) (e 3))) ((e 4) - (tk_mul (tk_div (e 3) ((e 2) + v)) (e 3)))) 0), .long ((tk_mv e ((e 0) + (tk_mul (tk_div (e 2) ((e 2) + v)) (z - (e 0)))) ((e 1) + (tk_mul (tk_div (e 3) ((e 2) + v)) (z - (e 0)))) ((e 2) - (tk_mul (tk_div (e 2) ((e 2) + v)) (e 2))) ((e 3) - (tk_mul (tk_div (e 2) ((e 2) + v)) (e 3))) ((e 4) - (tk_mul (tk_div (e 3) ((e 2) + v)) (e 3)))) 1), .long ((tk_mv e ((e 0) + (tk_mul (tk_div (e 2) ((e 2) + v)) (z - (e 0)))) ((e 1) + (tk_mul (tk_div (e 3) ((e 2) + v)) (z - (e 0)))) ((e 2) - (tk_mul (tk_div (e 2) ((e 2) + v)) (e 2))) ((e 3) - (tk_mul (tk_div (e 2) ((e 2) + v)) (e 3))) ((e 4) - (tk_mul (tk_div (e 3) ((e 2) + v)) (e 3)))) 2), .long ((tk_mv e ((e 0) + (tk_mul (tk_div (e 2) ((e 2) + v)) (z - (e 0)))) ((e 1) + (tk_mul (tk_div (e 3) ((e 2) + v)) (z - (e 0)))) ((e 2) - (tk_mul (tk_div (e 2) ((e 2) + v)) (e 2))) ((e 3) - (tk_mul (tk_div (e 2) ((e 2) + v)) (e 3))) ((e 4) - (tk_mul (tk_div (e 3) ((e 2) + v)) (e 3)))) 3), .long ((tk_mv e ((e 0) + (tk_mul (tk_div (e 2) ((e 2) + v)) (z - (e 0)))) ((e 1) + (tk_mul (tk_div (e 3) ((e 2) + v)) (z - (e 0)))) ((e 2) - (tk_mul (tk_div (e 2) ((e 2) + v)) (e 2))) ((e 3) - (tk_mul (tk_div (e 2) ((e 2) + v)) (e 3))) ((e 4) - (tk_mul (tk_div (e 3) ((e 2) + v)) (e 3)))) 4), .long (z - (e 0)), .long ((tk_mv e ((e 0) + (tk_mul (tk_div (e 2) ((e 2) + v)) (z - (e 0)))) ((e 1) + (tk_mul (tk_div (e 3) ((e 2) + v)) (z - (e 0)))) ((e 2) - (tk_mul (tk_div (e 2) ((e 2) + v)) (e 2))) ((e 3) - (tk_mul (tk_div (e 2) ((e 2) + v)) (e 3))) ((e 4) - (tk_mul (tk_div (e 3) ((e 2) + v)) (e 3)))) 6), .long ((tk_mv e ((e 0) + (tk_mul (tk_div (e 2) ((e 2) + v)) (z - (e 0)))) ((e 1) + (tk_mul (tk_div (e 3) ((e 2) + v)) (z - (e 0)))) ((e 2) - (tk_mul (tk_div (e 2) ((e 2) + v)) (e 2))) ((e 3) - (tk_mul (tk_div (e 2) ((e 2) + v)) (e 3))) ((e 4) - (tk_mul (tk_div (e 3) ((e 2) + v)) (e 3)))) 7)]))]) := hD
                        refine lv_aload_n hx hb dX0_take_227 rfl (lv_at hl 8 rfl) ?_
                        refine lv_lload hx hb dX0_take_228 (lv_at hl 2 rfl) ?_
                        refine va_put (D := D) (ci := 0) (v := .long (tk_div (e 2) ((e 2) + v))) (ty := .long) (C := RX0) (T := TX0) (N := 8) hx hb hts izX0_take_0 tyX0 tyX0_ok nmX0 hown hK hP hD hS 0 rfl rfl 6 (by decide) (hm 9 (.fieldLink RX0 34 "TankFilter$Estimate" "levelGain" "J") rfl) (fun _ h9 => h9) rfl (by decide +kernel) rfl rfl (Nat.le_of_ble_eq_true rfl) dX0_take_230 (fun H locs hP hD hS => ?_)
                        have hP : va_P D vwCl ([(h0, .inr (0, [.long ((tk_mv e ((e 0) + (tk_mul (tk_div (e 2) ((e 2) + v)) (z - (e 0)))) ((e 1) + (tk_mul (tk_div (e 3) ((e 2) + v)) (z - (e 0)))) ((e 2) - (tk_mul (tk_div (e 2) ((e 2) + v)) (e 2))) ((e 3) - (tk_mul (tk_div (e 2) ((e 2) + v)) (e 3))) ((e 4) - (tk_mul (tk_div (e 3) ((e 2) + v)) (e 3)))) 0), .long ((tk_mv e ((e 0) + (tk_mul (tk_div (e 2) ((e 2) + v)) (z - (e 0)))) ((e 1) + (tk_mul (tk_div (e 3) ((e 2) + v)) (z - (e 0)))) ((e 2) - (tk_mul (tk_div (e 2) ((e 2) + v)) (e 2))) ((e 3) - (tk_mul (tk_div (e 2) ((e 2) + v)) (e 3))) ((e 4) - (tk_mul (tk_div (e 3) ((e 2) + v)) (e 3)))) 1), .long ((tk_mv e ((e 0) + (tk_mul (tk_div (e 2) ((e 2) + v)) (z - (e 0)))) ((e 1) + (tk_mul (tk_div (e 3) ((e 2) + v)) (z - (e 0)))) ((e 2) - (tk_mul (tk_div (e 2) ((e 2) + v)) (e 2))) ((e 3) - (tk_mul (tk_div (e 2) ((e 2) + v)) (e 3))) ((e 4) - (tk_mul (tk_div (e 3) ((e 2) + v)) (e 3)))) 2), .long ((tk_mv e ((e 0) + (tk_mul (tk_div (e 2) ((e 2) + v)) (z - (e 0)))) ((e 1) + (tk_mul (tk_div (e 3) ((e 2) + v)) (z - (e 0)))) ((e 2) - (tk_mul (tk_div (e 2) ((e 2) + v)) (e 2))) ((e 3) - (tk_mul (tk_div (e 2) ((e 2) + v)) (e 3))) ((e 4) - (tk_mul (tk_div (e 3) ((e 2) + v)) (e 3)))) 3), .long ((tk_mv e ((e 0) + (tk_mul (tk_div (e 2) ((e 2) + v)) (z - (e 0)))) ((e 1) + (tk_mul (tk_div (e 3) ((e 2) + v)) (z - (e 0)))) ((e 2) - (tk_mul (tk_div (e 2) ((e 2) + v)) (e 2))) ((e 3) - (tk_mul (tk_div (e 2) ((e 2) + v)) (e 3))) ((e 4) - (tk_mul (tk_div (e 3) ((e 2) + v)) (e 3)))) 4), .long (z - (e 0)), .long (tk_div (e 2) ((e 2) + v)), .long ((tk_mv e ((e 0) + (tk_mul (tk_div (e 2) ((e 2) + v)) (z - (e 0)))) ((e 1) + (tk_mul (tk_div (e 3) ((e 2) + v)) (z - (e 0)))) ((e 2) - (tk_mul (tk_div (e 2) ((e 2) + v)) (e 2))) ((e 3) - (tk_mul (tk_div (e 2) ((e 2) + v)) (e 3))) ((e 4) - (tk_mul (tk_div (e 3) ((e 2) + v)) (e 3)))) 7)]))]) H := hP
                        have hD : va_D A ([(h0, .inr (0, [.long ((tk_mv e ((e 0) + (tk_mul (tk_div (e 2) ((e 2) + v)) (z - (e 0)))) ((e 1) + (tk_mul (tk_div (e 3) ((e 2) + v)) (z - (e 0)))) ((e 2) - (tk_mul (tk_div (e 2) ((e 2) + v)) (e 2))) ((e 3) - (tk_mul (tk_div (e 2) ((e 2) + v)) (e 3))) ((e 4) - (tk_mul (tk_div (e 3) ((e 2) + v)) (e 3)))) 0), .long ((tk_mv e ((e 0) + (tk_mul (tk_div (e 2) ((e 2) + v)) (z - (e 0)))) ((e 1) + (tk_mul (tk_div (e 3) ((e 2) + v)) (z - (e 0)))) ((e 2) - (tk_mul (tk_div (e 2) ((e 2) + v)) (e 2))) ((e 3) - (tk_mul (tk_div (e 2) ((e 2) + v)) (e 3))) ((e 4) - (tk_mul (tk_div (e 3) ((e 2) + v)) (e 3)))) 1), .long ((tk_mv e ((e 0) + (tk_mul (tk_div (e 2) ((e 2) + v)) (z - (e 0)))) ((e 1) + (tk_mul (tk_div (e 3) ((e 2) + v)) (z - (e 0)))) ((e 2) - (tk_mul (tk_div (e 2) ((e 2) + v)) (e 2))) ((e 3) - (tk_mul (tk_div (e 2) ((e 2) + v)) (e 3))) ((e 4) - (tk_mul (tk_div (e 3) ((e 2) + v)) (e 3)))) 2), .long ((tk_mv e ((e 0) + (tk_mul (tk_div (e 2) ((e 2) + v)) (z - (e 0)))) ((e 1) + (tk_mul (tk_div (e 3) ((e 2) + v)) (z - (e 0)))) ((e 2) - (tk_mul (tk_div (e 2) ((e 2) + v)) (e 2))) ((e 3) - (tk_mul (tk_div (e 2) ((e 2) + v)) (e 3))) ((e 4) - (tk_mul (tk_div (e 3) ((e 2) + v)) (e 3)))) 3), .long ((tk_mv e ((e 0) + (tk_mul (tk_div (e 2) ((e 2) + v)) (z - (e 0)))) ((e 1) + (tk_mul (tk_div (e 3) ((e 2) + v)) (z - (e 0)))) ((e 2) - (tk_mul (tk_div (e 2) ((e 2) + v)) (e 2))) ((e 3) - (tk_mul (tk_div (e 2) ((e 2) + v)) (e 3))) ((e 4) - (tk_mul (tk_div (e 3) ((e 2) + v)) (e 3)))) 4), .long (z - (e 0)), .long (tk_div (e 2) ((e 2) + v)), .long ((tk_mv e ((e 0) + (tk_mul (tk_div (e 2) ((e 2) + v)) (z - (e 0)))) ((e 1) + (tk_mul (tk_div (e 3) ((e 2) + v)) (z - (e 0)))) ((e 2) - (tk_mul (tk_div (e 2) ((e 2) + v)) (e 2))) ((e 3) - (tk_mul (tk_div (e 2) ((e 2) + v)) (e 3))) ((e 4) - (tk_mul (tk_div (e 3) ((e 2) + v)) (e 3)))) 7)]))]) := hD
                        refine lv_aload_n hx hb dX0_take_233 rfl (lv_at hl 8 rfl) ?_
                        refine lv_lload hx hb dX0_take_234 (lv_at hl 1 rfl) ?_
                        refine va_put (D := D) (ci := 0) (v := .long (tk_div (e 3) ((e 2) + v))) (ty := .long) (C := RX0) (T := TX0) (N := 8) hx hb hts izX0_take_0 tyX0 tyX0_ok nmX0 hown hK hP hD hS 0 rfl rfl 7 (by decide) (hm 10 (.fieldLink RX0 37 "TankFilter$Estimate" "flowGain" "J") rfl) (fun _ h9 => h9) rfl (by decide +kernel) rfl rfl (Nat.le_of_ble_eq_true rfl) dX0_take_236 (fun H locs hP hD hS => ?_)
                        have hP : va_P D vwCl ([(h0, .inr (0, [.long ((tk_mv e ((e 0) + (tk_mul (tk_div (e 2) ((e 2) + v)) (z - (e 0)))) ((e 1) + (tk_mul (tk_div (e 3) ((e 2) + v)) (z - (e 0)))) ((e 2) - (tk_mul (tk_div (e 2) ((e 2) + v)) (e 2))) ((e 3) - (tk_mul (tk_div (e 2) ((e 2) + v)) (e 3))) ((e 4) - (tk_mul (tk_div (e 3) ((e 2) + v)) (e 3)))) 0), .long ((tk_mv e ((e 0) + (tk_mul (tk_div (e 2) ((e 2) + v)) (z - (e 0)))) ((e 1) + (tk_mul (tk_div (e 3) ((e 2) + v)) (z - (e 0)))) ((e 2) - (tk_mul (tk_div (e 2) ((e 2) + v)) (e 2))) ((e 3) - (tk_mul (tk_div (e 2) ((e 2) + v)) (e 3))) ((e 4) - (tk_mul (tk_div (e 3) ((e 2) + v)) (e 3)))) 1), .long ((tk_mv e ((e 0) + (tk_mul (tk_div (e 2) ((e 2) + v)) (z - (e 0)))) ((e 1) + (tk_mul (tk_div (e 3) ((e 2) + v)) (z - (e 0)))) ((e 2) - (tk_mul (tk_div (e 2) ((e 2) + v)) (e 2))) ((e 3) - (tk_mul (tk_div (e 2) ((e 2) + v)) (e 3))) ((e 4) - (tk_mul (tk_div (e 3) ((e 2) + v)) (e 3)))) 2), .long ((tk_mv e ((e 0) + (tk_mul (tk_div (e 2) ((e 2) + v)) (z - (e 0)))) ((e 1) + (tk_mul (tk_div (e 3) ((e 2) + v)) (z - (e 0)))) ((e 2) - (tk_mul (tk_div (e 2) ((e 2) + v)) (e 2))) ((e 3) - (tk_mul (tk_div (e 2) ((e 2) + v)) (e 3))) ((e 4) - (tk_mul (tk_div (e 3) ((e 2) + v)) (e 3)))) 3), .long ((tk_mv e ((e 0) + (tk_mul (tk_div (e 2) ((e 2) + v)) (z - (e 0)))) ((e 1) + (tk_mul (tk_div (e 3) ((e 2) + v)) (z - (e 0)))) ((e 2) - (tk_mul (tk_div (e 2) ((e 2) + v)) (e 2))) ((e 3) - (tk_mul (tk_div (e 2) ((e 2) + v)) (e 3))) ((e 4) - (tk_mul (tk_div (e 3) ((e 2) + v)) (e 3)))) 4), .long (z - (e 0)), .long (tk_div (e 2) ((e 2) + v)), .long (tk_div (e 3) ((e 2) + v))]))]) H := hP
                        have hD : va_D A ([(h0, .inr (0, [.long ((tk_mv e ((e 0) + (tk_mul (tk_div (e 2) ((e 2) + v)) (z - (e 0)))) ((e 1) + (tk_mul (tk_div (e 3) ((e 2) + v)) (z - (e 0)))) ((e 2) - (tk_mul (tk_div (e 2) ((e 2) + v)) (e 2))) ((e 3) - (tk_mul (tk_div (e 2) ((e 2) + v)) (e 3))) ((e 4) - (tk_mul (tk_div (e 3) ((e 2) + v)) (e 3)))) 0), .long ((tk_mv e ((e 0) + (tk_mul (tk_div (e 2) ((e 2) + v)) (z - (e 0)))) ((e 1) + (tk_mul (tk_div (e 3) ((e 2) + v)) (z - (e 0)))) ((e 2) - (tk_mul (tk_div (e 2) ((e 2) + v)) (e 2))) ((e 3) - (tk_mul (tk_div (e 2) ((e 2) + v)) (e 3))) ((e 4) - (tk_mul (tk_div (e 3) ((e 2) + v)) (e 3)))) 1), .long ((tk_mv e ((e 0) + (tk_mul (tk_div (e 2) ((e 2) + v)) (z - (e 0)))) ((e 1) + (tk_mul (tk_div (e 3) ((e 2) + v)) (z - (e 0)))) ((e 2) - (tk_mul (tk_div (e 2) ((e 2) + v)) (e 2))) ((e 3) - (tk_mul (tk_div (e 2) ((e 2) + v)) (e 3))) ((e 4) - (tk_mul (tk_div (e 3) ((e 2) + v)) (e 3)))) 2), .long ((tk_mv e ((e 0) + (tk_mul (tk_div (e 2) ((e 2) + v)) (z - (e 0)))) ((e 1) + (tk_mul (tk_div (e 3) ((e 2) + v)) (z - (e 0)))) ((e 2) - (tk_mul (tk_div (e 2) ((e 2) + v)) (e 2))) ((e 3) - (tk_mul (tk_div (e 2) ((e 2) + v)) (e 3))) ((e 4) - (tk_mul (tk_div (e 3) ((e 2) + v)) (e 3)))) 3), .long ((tk_mv e ((e 0) + (tk_mul (tk_div (e 2) ((e 2) + v)) (z - (e 0)))) ((e 1) + (tk_mul (tk_div (e 3) ((e 2) + v)) (z - (e 0)))) ((e 2) - (tk_mul (tk_div (e 2) ((e 2) + v)) (e 2))) ((e 3) - (tk_mul (tk_div (e 2) ((e 2) + v)) (e 3))) ((e 4) - (tk_mul (tk_div (e 3) ((e 2) + v)) (e 3)))) 4), .long (z - (e 0)), .long (tk_div (e 2) ((e 2) + v)), .long (tk_div (e 3) ((e 2) + v))]))]) := hD
                        refine lv_iconst (v := 1) hx hb dX0_take_239 (by decide) ?_
                        exact W.iret (v := 1) hx hb hr (fun t ht hW => ⟨⟨1, cq_e e (e 2) (e 3) (e 2) (e 0) z v, rfl, Or.inr (Or.inl ⟨(fun y => cq_rej_1 c_44 ((co_rej0 c_1).mp y)), by rw [co_ok0 c_1, cq_ok, p_47, p_49, p_56]; rfl, rfl, (co_e0 c_1).symm⟩), KB.of hAe (by rw [ht, cq_e, tk_yk_ev]; exact hP) (by rw [cq_e, tk_yk_ev]; exact hD)⟩, hS.F ht⟩) hS.2.2 dX0_take_240
                      · exact absurd c_57 (by decide)
                    · have hP : va_P D vwCl ([(h0, .inr (0, tk_ev e))]) H := hP
                      have hD : va_D A ([(h0, .inr (0, tk_ev e))]) := hD
                      refine lv_istore (lv' := [(21, .int 0), (19, .long (tk_div (e 3) ((e 2) + v))), (17, .long (tk_div (e 2) ((e 2) + v))), (15, .long ((e 2) + v)), (13, .long (z - (e 0))), (11, .long (e 3)), (9, .long (e 2)), (8, .int 1), (0, .ref h0), (1, .long z), (3, .int kd), (4, .long v), (6, .long g)]) hx hb dX0_take_211 hl (by decide) rfl (fun ls hl => ?_)
                      refine lv_iload hx hb dX0_take_213 (lv_at hl 0 rfl) ?_
                      refine lv_if_ne (tgt := 221) hx hb dX0_take_215 (by decide) (fun c_58 => ?_) (fun c_58 => ?_)
                      · exact absurd c_58 (by decide)
                      · skip
                        refine lv_ldc (v := -2000000004) hx hb hown (hm 6 (.constant RX0 58 (-2000000004)) rfl) dX0_take_218 ?_
                        exact W.iret (v := (-2000000004)) hx hb hr (fun t ht hW => ⟨⟨(-2000000004), e, rfl, Or.inr (Or.inr ⟨(fun y => cq_rej_1 c_44 ((co_rej0 c_1).mp y)), by rw [co_ok0 c_1, cq_ok, p_47, p_49, p_56]; rfl, rfl, rfl⟩), KB.of hAe (by rw [ht]; exact hP) hD⟩, hS.F ht⟩) hS.2.2 dX0_take_220
                  · exact absurd c_50 (by decide)
                · have hP : va_P D vwCl ([(h0, .inr (0, tk_ev e))]) H := hP
                  have hD : va_D A ([(h0, .inr (0, tk_ev e))]) := hD
                  refine lv_if_ne (tgt := 147) hx hb dX0_take_141 (by decide) (fun c_59 => ?_) (fun c_59 => ?_)
                  · exact absurd c_59 (by decide)
                  · skip
                    refine lv_ldc (v := -2000000004) hx hb hown (hm 6 (.constant RX0 58 (-2000000004)) rfl) dX0_take_144 ?_
                    exact W.iret (v := (-2000000004)) hx hb hr (fun t ht hW => ⟨⟨(-2000000004), e, rfl, Or.inr (Or.inr ⟨(fun y => cq_rej_1 c_44 ((co_rej0 c_1).mp y)), by rw [co_ok0 c_1, cq_ok, p_47, p_49]; rfl, rfl, rfl⟩), KB.of hAe (by rw [ht]; exact hP) hD⟩, hS.F ht⟩) hS.2.2 dX0_take_146
            · have hP : va_P D vwCl ([(h0, .inr (0, tk_ev e))]) H := hP
              have hD : va_D A ([(h0, .inr (0, tk_ev e))]) := hD
              refine lv_if_eq (tgt := 144) hx hb dX0_take_133 (by decide) (fun c_60 => ?_) (fun c_60 => ?_)
              · skip
                refine lv_ldc (v := -2000000004) hx hb hown (hm 6 (.constant RX0 58 (-2000000004)) rfl) dX0_take_144 ?_
                exact W.iret (v := (-2000000004)) hx hb hr (fun t ht hW => ⟨⟨(-2000000004), e, rfl, Or.inr (Or.inr ⟨(fun y => cq_rej_1 c_44 ((co_rej0 c_1).mp y)), by rw [co_ok0 c_1, cq_ok, p_47]; rfl, rfl, rfl⟩), KB.of hAe (by rw [ht]; exact hP) hD⟩, hS.F ht⟩) hS.2.2 dX0_take_146
              · exact absurd c_60 (by decide)
          · have c_44 := mt (lg_cmp_eq _ _).mpr c_44
            refine lv_lload hx hb dX0_take_84 (lv_at hl 1 rfl) ?_
            refine lv_lload hx hb dX0_take_86 (lv_at hl 1 rfl) ?_
            refine lv_lmul hx hb dX0_take_88 ?_
            refine lv_lload hx hb dX0_take_89 (lv_at hl 9 rfl) ?_
            refine lv_lload hx hb dX0_take_91 (lv_at hl 0 rfl) ?_
            refine lv_lmul hx hb dX0_take_93 ?_
            refine lv_ldc2 (v := 4096) hx hb hown (hm 4 (.constantLong RX0 18 (4096)) rfl) dX0_take_94 ?_
            refine lv_lmul hx hb dX0_take_97 ?_
            refine W.lcmp hx hb dX0_take_98 ?_
            refine lv_if_le (tgt := 110) hx hb dX0_take_99 (by decide) (fun c_61 => ?_) (fun c_61 => ?_)
            · have c_61 := (lg_cmp_le _ _).mp c_61
              refine lv_lload hx hb dX0_take_110 (lv_at hl 3 rfl) ?_
              refine lv_lload hx hb dX0_take_112 (lv_at hl 0 rfl) ?_
              refine kc_l (wc := []) (wr := [(h0, .inr (0, tk_ev e))]) (va_runSN (As := [.long (e 2), .long ((e 2) + v)]) (rest := []) ⟨hx, hb, hml, hown, hts⟩ (k_X3_dividedBy l D cI cM cJ _ (e 2) ((e 2) + v) (by have z := hs; rw [co_p0 c_1] at z; exact z)) ⟨va_cnB 2 hts gX0_take_X3_dividedBy_n50 rfl rfl rfl (hN.at 37 rfl) (hm 17 (.initialized RX3) rfl) (by decide +kernel) ⟨Nat.le_of_ble_eq_true rfl, Nat.le_of_ble_eq_true rfl⟩, (hm 16 (.static yX3_dividedBy) rfl), trivial⟩ (kp_preS (wc := []) (wr := [(h0, .inr (0, tk_ev e))]) hN hK hP hD) rfl rfl hl.1 rfl (lv_room (Nat.le_of_ble_eq_true rfl)) dX0_take_114 ⟨Nat.le_of_ble_eq_true rfl, Nat.le_of_ble_eq_true rfl⟩) hP hD hS hA (fun r_62 u_62 H locs p_62 hP hD hS => ?_)
              obtain rfl : r_62 = tk_div (e 2) ((e 2) + v) := p_62
              have hP : va_P D vwCl ([(h0, .inr (0, tk_ev e))]) H := hP
              have hD : va_D A ([(h0, .inr (0, tk_ev e))]) := hD
              refine lv_lstore (lv' := [(17, .long (tk_div (e 2) ((e 2) + v))), (15, .long ((e 2) + v)), (13, .long (z - (e 0))), (11, .long (e 3)), (9, .long (e 2)), (8, .int 1), (0, .ref h0), (1, .long z), (3, .int kd), (4, .long v), (6, .long g)]) hx hb dX0_take_117 hl (by decide) rfl (fun ls hl => ?_)
              refine lv_lload hx hb dX0_take_119 (lv_at hl 3 rfl) ?_
              refine lv_lload hx hb dX0_take_121 (lv_at hl 1 rfl) ?_
              refine kc_l (wc := []) (wr := [(h0, .inr (0, tk_ev e))]) (va_runSN (As := [.long (e 3), .long ((e 2) + v)]) (rest := []) ⟨hx, hb, hml, hown, hts⟩ (k_X3_dividedBy l D cI cM cJ _ (e 3) ((e 2) + v) (by have z := hs; rw [co_p0 c_1] at z; exact z)) ⟨va_cnB 2 hts gX0_take_X3_dividedBy_n50 rfl rfl rfl (hN.at 37 rfl) (hm 17 (.initialized RX3) rfl) (by decide +kernel) ⟨Nat.le_of_ble_eq_true rfl, Nat.le_of_ble_eq_true rfl⟩, (hm 16 (.static yX3_dividedBy) rfl), trivial⟩ (kp_preS (wc := []) (wr := [(h0, .inr (0, tk_ev e))]) hN hK hP hD) rfl rfl hl.1 rfl (lv_room (Nat.le_of_ble_eq_true rfl)) dX0_take_123 ⟨Nat.le_of_ble_eq_true rfl, Nat.le_of_ble_eq_true rfl⟩) hP hD hS hA (fun r_63 u_63 H locs p_63 hP hD hS => ?_)
              obtain rfl : r_63 = tk_div (e 3) ((e 2) + v) := p_63
              have hP : va_P D vwCl ([(h0, .inr (0, tk_ev e))]) H := hP
              have hD : va_D A ([(h0, .inr (0, tk_ev e))]) := hD
              refine lv_lstore (lv' := [(19, .long (tk_div (e 3) ((e 2) + v))), (17, .long (tk_div (e 2) ((e 2) + v))), (15, .long ((e 2) + v)), (13, .long (z - (e 0))), (11, .long (e 3)), (9, .long (e 2)), (8, .int 1), (0, .ref h0), (1, .long z), (3, .int kd), (4, .long v), (6, .long g)]) hx hb dX0_take_126 hl (by decide) rfl (fun ls hl => ?_)
              refine lv_lload hx hb dX0_take_128 (lv_at hl 1 rfl) ?_
              refine kc_i (wc := []) (wr := [(h0, .inr (0, tk_ev e))]) (va_runSN (As := [.long (tk_div (e 2) ((e 2) + v))]) (rest := []) ⟨hx, hb, hml, hown, hts⟩ (k_X3_isInLimit l D cI cM cJ _ (tk_div (e 2) ((e 2) + v))) ⟨va_cnB 1 hts gX0_take_X3_isInLimit_n54 rfl rfl rfl (hN.at 34 rfl) (hm 17 (.initialized RX3) rfl) (by decide +kernel) ⟨Nat.le_of_ble_eq_true rfl, Nat.le_of_ble_eq_true rfl⟩, (hm 25 (.static yX3_isInLimit) rfl), trivial⟩ (kp_preS (wc := []) (wr := [(h0, .inr (0, tk_ev e))]) hN hK hP hD) rfl rfl hl.1 rfl (lv_room (Nat.le_of_ble_eq_true rfl)) dX0_take_130 ⟨Nat.le_of_ble_eq_true rfl, Nat.le_of_ble_eq_true rfl⟩) hP hD hS hA (fun r_64 u_64 H locs p_64 hP hD hS => ?_)
              rcases p_64 with ⟨p_64, rfl⟩ | ⟨p_64, rfl⟩
              · have hP : va_P D vwCl ([(h0, .inr (0, tk_ev e))]) H := hP
                have hD : va_D A ([(h0, .inr (0, tk_ev e))]) := hD
                refine lv_if_eq (tgt := 144) hx hb dX0_take_133 (by decide) (fun c_65 => ?_) (fun c_65 => ?_)
                · exact absurd c_65 (by decide)
                · skip
                  refine lv_lload hx hb dX0_take_136 (lv_at hl 0 rfl) ?_
                  refine kc_i (wc := []) (wr := [(h0, .inr (0, tk_ev e))]) (va_runSN (As := [.long (tk_div (e 3) ((e 2) + v))]) (rest := []) ⟨hx, hb, hml, hown, hts⟩ (k_X3_isInLimit l D cI cM cJ _ (tk_div (e 3) ((e 2) + v))) ⟨va_cnB 1 hts gX0_take_X3_isInLimit_n54 rfl rfl rfl (hN.at 34 rfl) (hm 17 (.initialized RX3) rfl) (by decide +kernel) ⟨Nat.le_of_ble_eq_true rfl, Nat.le_of_ble_eq_true rfl⟩, (hm 25 (.static yX3_isInLimit) rfl), trivial⟩ (kp_preS (wc := []) (wr := [(h0, .inr (0, tk_ev e))]) hN hK hP hD) rfl rfl hl.1 rfl (lv_room (Nat.le_of_ble_eq_true rfl)) dX0_take_138 ⟨Nat.le_of_ble_eq_true rfl, Nat.le_of_ble_eq_true rfl⟩) hP hD hS hA (fun r_66 u_66 H locs p_66 hP hD hS => ?_)
                  rcases p_66 with ⟨p_66, rfl⟩ | ⟨p_66, rfl⟩
                  · have hP : va_P D vwCl ([(h0, .inr (0, tk_ev e))]) H := hP
                    have hD : va_D A ([(h0, .inr (0, tk_ev e))]) := hD
                    refine lv_if_ne (tgt := 147) hx hb dX0_take_141 (by decide) (fun c_67 => ?_) (fun c_67 => ?_)
                    · skip
                      refine lv_aload_n hx hb dX0_take_147 rfl (lv_at hl 7 rfl) ?_
                      refine lv_aload_n hx hb dX0_take_148 rfl (lv_at hl 7 rfl) ?_
                      refine va_get (D := D) (ci := 0) (v := .long (e 0)) (C := RX0) (T := TX0) (N := 8) hx hb hts izX0_take_0 hown hK hP 0 rfl rfl 0 (by decide) (hm 7 (.fieldLink RX0 9 "TankFilter$Estimate" "level" "J") rfl) (fun _ h9 => h9) rfl dX0_take_149 ?_
                      refine lv_lload hx hb dX0_take_152 (lv_at hl 1 rfl) ?_
                      refine lv_lload hx hb dX0_take_154 (lv_at hl 3 rfl) ?_
                      refine kc_l (wc := []) (wr := [(h0, .inr (0, tk_ev e))]) (va_runSN (As := [.long (tk_div (e 2) ((e 2) + v)), .long (z - (e 0))]) (rest := [.long (e 0), .ref h0]) ⟨hx, hb, hml, hown, hts⟩ (k_X3_times l D cI cM cJ _ (tk_div (e 2) ((e 2) + v)) (z - (e 0))) ⟨va_cnB 2 hts gX0_take_X3_times_n59 rfl rfl rfl (hN.at 38 rfl) (hm 17 (.initialized RX3) rfl) (by decide +kernel) ⟨Nat.le_of_ble_eq_true rfl, Nat.le_of_ble_eq_true rfl⟩, (hm 29 (.static yX3_times) rfl), trivial⟩ (kp_preS (wc := []) (wr := [(h0, .inr (0, tk_ev e))]) hN hK hP hD) rfl rfl hl.1 rfl (lv_room (Nat.le_of_ble_eq_true rfl)) dX0_take_156 ⟨Nat.le_of_ble_eq_true rfl, Nat.le_of_ble_eq_true rfl⟩) hP hD hS hA (fun r_68 u_68 H locs p_68 hP hD hS => ?_)
                      obtain rfl : r_68 = tk_mul (tk_div (e 2) ((e 2) + v)) (z - (e 0)) := p_68
                      have hP : va_P D vwCl ([(h0, .inr (0, tk_ev e))]) H := hP
                      have hD : va_D A ([(h0, .inr (0, tk_ev e))]) := hD
                      refine lv_ladd hx hb dX0_take_159 ?_
                      refine lv_aload_n hx hb dX0_take_160 rfl (lv_at hl 7 rfl) ?_
                      refine va_get (D := D) (ci := 0) (v := .long (e 1)) (C := RX0) (T := TX0) (N := 8) hx hb hts izX0_take_0 hown hK hP 0 rfl rfl 1 (by decide) (hm 8 (.fieldLink RX0 15 "TankFilter$Estimate" "flow" "J") rfl) (fun _ h9 => h9) rfl dX0_take_161 ?_
                      refine lv_lload hx hb dX0_take_164 (lv_at hl 0 rfl) ?_
                      refine lv_lload hx hb dX0_take_166 (lv_at hl 3 rfl) ?_
                      refine kc_l (wc := []) (wr := [(h0, .inr (0, tk_ev e))]) (va_runSN (As := [.long (tk_div (e 3) ((e 2) + v)), .long (z - (e 0))]) (rest := [.long (e 1), .long ((e 0) + (tk_mul (tk_div (e 2) ((e 2) + v)) (z - (e 0)))), .ref h0]) ⟨hx, hb, hml, hown, hts⟩ (k_X3_times l D cI cM cJ _ (tk_div (e 3) ((e 2) + v)) (z - (e 0))) ⟨va_cnB 2 hts gX0_take_X3_times_n59 rfl rfl rfl (hN.at 38 rfl) (hm 17 (.initialized RX3) rfl) (by decide +kernel) ⟨Nat.le_of_ble_eq_true rfl, Nat.le_of_ble_eq_true rfl⟩, (hm 29 (.static yX3_times) rfl), trivial⟩ (kp_preS (wc := []) (wr := [(h0, .inr (0, tk_ev e))]) hN hK hP hD) rfl rfl hl.1 rfl (lv_room (Nat.le_of_ble_eq_true rfl)) dX0_take_168 ⟨Nat.le_of_ble_eq_true rfl, Nat.le_of_ble_eq_true rfl⟩) hP hD hS hA (fun r_69 u_69 H locs p_69 hP hD hS => ?_)
                      obtain rfl : r_69 = tk_mul (tk_div (e 3) ((e 2) + v)) (z - (e 0)) := p_69
                      have hP : va_P D vwCl ([(h0, .inr (0, tk_ev e))]) H := hP
                      have hD : va_D A ([(h0, .inr (0, tk_ev e))]) := hD
                      refine lv_ladd hx hb dX0_take_171 ?_
                      refine lv_aload_n hx hb dX0_take_172 rfl (lv_at hl 7 rfl) ?_
                      refine va_get (D := D) (ci := 0) (v := .long (e 2)) (C := RX0) (T := TX0) (N := 8) hx hb hts izX0_take_0 hown hK hP 0 rfl rfl 2 (by decide) (hm 1 (.fieldLink RX0 20 "TankFilter$Estimate" "levelVariance" "J") rfl) (fun _ h9 => h9) rfl dX0_take_173 ?_
                      refine lv_lload hx hb dX0_take_176 (lv_at hl 1 rfl) ?_
                      refine lv_lload hx hb dX0_take_178 (lv_at hl 5 rfl) ?_
                      refine kc_l (wc := []) (wr := [(h0, .inr (0, tk_ev e))]) (va_runSN (As := [.long (tk_div (e 2) ((e 2) + v)), .long (e 2)]) (rest := [.long (e 2), .long ((e 1) + (tk_mul (tk_div (e 3) ((e 2) + v)) (z - (e 0)))), .long ((e 0) + (tk_mul (tk_div (e 2) ((e 2) + v)) (z - (e 0)))), .ref h0]) ⟨hx, hb, hml, hown, hts⟩ (k_X3_times l D cI cM cJ _ (tk_div (e 2) ((e 2) + v)) (e 2)) ⟨va_cnB 2 hts gX0_take_X3_times_n59 rfl rfl rfl (hN.at 38 rfl) (hm 17 (.initialized RX3) rfl) (by decide +kernel) ⟨Nat.le_of_ble_eq_true rfl, Nat.le_of_ble_eq_true rfl⟩, (hm 29 (.static yX3_times) rfl), trivial⟩ (kp_preS (wc := []) (wr := [(h0, .inr (0, tk_ev e))]) hN hK hP hD) rfl rfl hl.1 rfl (lv_room (Nat.le_of_ble_eq_true rfl)) dX0_take_180 ⟨Nat.le_of_ble_eq_true rfl, Nat.le_of_ble_eq_true rfl⟩) hP hD hS hA (fun r_70 u_70 H locs p_70 hP hD hS => ?_)
                      obtain rfl : r_70 = tk_mul (tk_div (e 2) ((e 2) + v)) (e 2) := p_70
                      have hP : va_P D vwCl ([(h0, .inr (0, tk_ev e))]) H := hP
                      have hD : va_D A ([(h0, .inr (0, tk_ev e))]) := hD
                      refine lv_lsub hx hb dX0_take_183 ?_
                      refine lv_aload_n hx hb dX0_take_184 rfl (lv_at hl 7 rfl) ?_
                      refine va_get (D := D) (ci := 0) (v := .long (e 3)) (C := RX0) (T := TX0) (N := 8) hx hb hts izX0_take_0 hown hK hP 0 rfl rfl 3 (by decide) (hm 2 (.fieldLink RX0 23 "TankFilter$Estimate" "covariance" "J") rfl) (fun _ h9 => h9) rfl dX0_take_185 ?_
                      refine lv_lload hx hb dX0_take_188 (lv_at hl 1 rfl) ?_
                      refine lv_lload hx hb dX0_take_190 (lv_at hl 4 rfl) ?_
                      refine kc_l (wc := []) (wr := [(h0, .inr (0, tk_ev e))]) (kw_runSN 16 2 (As := [.long (tk_div (e 2) ((e 2) + v)), .long (e 3)]) (rest := [.long (e 3), .long ((e 2) - (tk_mul (tk_div (e 2) ((e 2) + v)) (e 2))), .long ((e 1) + (tk_mul (tk_div (e 3) ((e 2) + v)) (z - (e 0)))), .long ((e 0) + (tk_mul (tk_div (e 2) ((e 2) + v)) (z - (e 0)))), .ref h0]) ⟨hx, hb, hml, hown, hts⟩ (k_X3_times l D cI cM cJ _ (tk_div (e 2) ((e 2) + v)) (e 3)) gX0_take_X3_times_n59 rfl rfl rfl (hN.at 38 rfl) (hm 17 (.initialized RX3) rfl) (hm 29 (.static yX3_times) rfl) (by decide +kernel) ⟨Nat.le_of_ble_eq_true rfl, Nat.le_of_ble_eq_true rfl⟩ (kp_preS (wc := []) (wr := [(h0, .inr (0, tk_ev e))]) hN hK hP hD) rfl rfl hl.1 rfl (kw_room (Nat.le_of_ble_eq_true rfl)) dX0_take_192 ⟨Nat.le_of_ble_eq_true rfl, Nat.le_of_ble_eq_true rfl⟩) hP hD hS hA (fun r_71 u_71 H locs p_71 hP hD hS => ?_)
                      obtain rfl : r_71 = tk_mul (tk_div (e 2) ((e 2) + v)) (e 3) := p_71
                      have hP : va_P D vwCl ([(h0, .inr (0, tk_ev e))]) H := hP
                      have hD : va_D A ([(h0, .inr (0, tk_ev e))]) := hD
                      refine lv_lsub hx hb dX0_take_195 ?_
                      refine lv_aload_n hx hb dX0_take_196 rfl (lv_at hl 7 rfl) ?_
                      refine va_get (D := D) (ci := 0) (v := .long (e 4)) (C := RX0) (T := TX0) (N := 8) hx hb hts izX0_take_0 hown hK hP 0 rfl rfl 4 (by decide) (hm 3 (.fieldLink RX0 26 "TankFilter$Estimate" "flowVariance" "J") rfl) (fun _ h9 => h9) rfl dX0_take_197 ?_
                      refine lv_lload hx hb dX0_take_200 (lv_at hl 0 rfl) ?_
                      refine lv_lload hx hb dX0_take_202 (lv_at hl 4 rfl) ?_
                      refine kc_l (wc := []) (wr := [(h0, .inr (0, tk_ev e))]) (kw_runSN 16 2 (As := [.long (tk_div (e 3) ((e 2) + v)), .long (e 3)]) (rest := [.long (e 4), .long ((e 3) - (tk_mul (tk_div (e 2) ((e 2) + v)) (e 3))), .long ((e 2) - (tk_mul (tk_div (e 2) ((e 2) + v)) (e 2))), .long ((e 1) + (tk_mul (tk_div (e 3) ((e 2) + v)) (z - (e 0)))), .long ((e 0) + (tk_mul (tk_div (e 2) ((e 2) + v)) (z - (e 0)))), .ref h0]) ⟨hx, hb, hml, hown, hts⟩ (k_X3_times l D cI cM cJ _ (tk_div (e 3) ((e 2) + v)) (e 3)) gX0_take_X3_times_n59 rfl rfl rfl (hN.at 38 rfl) (hm 17 (.initialized RX3) rfl) (hm 29 (.static yX3_times) rfl) (by decide +kernel) ⟨Nat.le_of_ble_eq_true rfl, Nat.le_of_ble_eq_true rfl⟩ (kp_preS (wc := []) (wr := [(h0, .inr (0, tk_ev e))]) hN hK hP hD) rfl rfl hl.1 rfl (kw_room (Nat.le_of_ble_eq_true rfl)) dX0_take_204 ⟨Nat.le_of_ble_eq_true rfl, Nat.le_of_ble_eq_true rfl⟩) hP hD hS hA (fun r_72 u_72 H locs p_72 hP hD hS => ?_)
                      obtain rfl : r_72 = tk_mul (tk_div (e 3) ((e 2) + v)) (e 3) := p_72
                      have hP : va_P D vwCl ([(h0, .inr (0, tk_ev e))]) H := hP
                      have hD : va_D A ([(h0, .inr (0, tk_ev e))]) := hD
                      refine lv_lsub hx hb dX0_take_207 ?_
                      refine kc_i (wc := [(h0, .inr (0, tk_ev e))]) (wr := []) (va_runV (As := [.long ((e 0) + (tk_mul (tk_div (e 2) ((e 2) + v)) (z - (e 0)))), .long ((e 1) + (tk_mul (tk_div (e 3) ((e 2) + v)) (z - (e 0)))), .long ((e 2) - (tk_mul (tk_div (e 2) ((e 2) + v)) (e 2))), .long ((e 3) - (tk_mul (tk_div (e 2) ((e 2) + v)) (e 3))), .long ((e 4) - (tk_mul (tk_div (e 3) ((e 2) + v)) (e 3)))]) (rest := []) ⟨hx, hb, hml, hown, hts⟩ (k_X0_move l D cI cM cJ _ h0 e ((e 0) + (tk_mul (tk_div (e 2) ((e 2) + v)) (z - (e 0)))) ((e 1) + (tk_mul (tk_div (e 3) ((e 2) + v)) (z - (e 0)))) ((e 2) - (tk_mul (tk_div (e 2) ((e 2) + v)) (e 2))) ((e 3) - (tk_mul (tk_div (e 2) ((e 2) + v)) (e 3))) ((e 4) - (tk_mul (tk_div (e 3) ((e 2) + v)) (e 3)))) (cwV 5 hts gX0_take_X0_move rfl rfl rfl (by decide +kernel) ⟨Nat.le_of_ble_eq_true rfl, Nat.le_of_ble_eq_true rfl⟩) (kp_preV (q := (RX0, TX0, 8)) (wc := [(h0, .inr (0, tk_ev e))]) (wr := []) hN hK hP hD 0 rfl rfl) rfl rfl hl.1 rfl (lv_room (Nat.le_of_ble_eq_true rfl)) dX0_take_208 ⟨Nat.le_of_ble_eq_true rfl, Nat.le_of_ble_eq_true rfl⟩) hP hD hS hA (fun r_73 u_73 H locs p_73 hP hD hS => ?_)
                      rcases p_73 with ⟨p_73, rfl, rfl⟩ | ⟨p_73, rfl, rfl⟩
                      · have hP : va_P D vwCl ([(h0, .inr (0, tk_ev (tk_mv e ((e 0) + (tk_mul (tk_div (e 2) ((e 2) + v)) (z - (e 0)))) ((e 1) + (tk_mul (tk_div (e 3) ((e 2) + v)) (z - (e 0)))) ((e 2) - (tk_mul (tk_div (e 2) ((e 2) + v)) (e 2))) ((e 3) - (tk_mul (tk_div (e 2) ((e 2) + v)) (e 3))) ((e 4) - (tk_mul (tk_div (e 3) ((e 2) + v)) (e 3))))))]) H := hP
                        have hD : va_D A ([(h0, .inr (0, tk_ev (tk_mv e ((e 0) + (tk_mul (tk_div (e 2) ((e 2) + v)) (z - (e 0)))) ((e 1) + (tk_mul (tk_div (e 3) ((e 2) + v)) (z - (e 0)))) ((e 2) - (tk_mul (tk_div (e 2) ((e 2) + v)) (e 2))) ((e 3) - (tk_mul (tk_div (e 2) ((e 2) + v)) (e 3))) ((e 4) - (tk_mul (tk_div (e 3) ((e 2) + v)) (e 3))))))]) := hD
                        refine lv_istore (lv' := [(21, .int 1), (19, .long (tk_div (e 3) ((e 2) + v))), (17, .long (tk_div (e 2) ((e 2) + v))), (15, .long ((e 2) + v)), (13, .long (z - (e 0))), (11, .long (e 3)), (9, .long (e 2)), (8, .int 1), (0, .ref h0), (1, .long z), (3, .int kd), (4, .long v), (6, .long g)]) hx hb dX0_take_211 hl (by decide) rfl (fun ls hl => ?_)
                        refine lv_iload hx hb dX0_take_213 (lv_at hl 0 rfl) ?_
                        refine lv_if_ne (tgt := 221) hx hb dX0_take_215 (by decide) (fun c_74 => ?_) (fun c_74 => ?_)
                        · skip
                          refine lv_aload_n hx hb dX0_take_221 rfl (lv_at hl 8 rfl) ?_
                          refine lv_lload hx hb dX0_take_222 (lv_at hl 4 rfl) ?_
                          refine va_put (D := D) (ci := 0) (v := .long (z - (e 0))) (ty := .long) (C := RX0) (T := TX0) (N := 8) hx hb hts izX0_take_0 tyX0 tyX0_ok nmX0 hown hK hP hD hS 0 rfl rfl 5 (by decide) (hm 5 (.fieldLink RX0 31 "TankFilter$Estimate" "innovation" "J") rfl) (fun _ h9 => h9) rfl (by decide +kernel) rfl rfl (Nat.le_of_ble_eq_true rfl) dX0_take_224 (fun H locs hP hD hS => ?_)
                          have hP : va_P D vwCl ([(h0, .inr (0, [.long ((tk_mv e ((e 0) + (tk_mul (tk_div (e 2) ((e 2) + v)) (z - (e 0)))) ((e 1) + (tk_mul (tk_div (e 3) ((e 2) + v)) (z - (e 0)))) ((e 2) - (tk_mul (tk_div (e 2) ((e 2) + v)) (e 2))) ((e 3) - (tk_mul (tk_div (e 2) ((e 2) + v)) (e 3))) ((e 4) - (tk_mul (tk_div (e 3) ((e 2) + v)) (e 3)))) 0), .long ((tk_mv e ((e 0) + (tk_mul (tk_div (e 2) ((e 2) + v)) (z - (e 0)))) ((e 1) + (tk_mul (tk_div (e 3) ((e 2) + v)) (z - (e 0)))) ((e 2) - (tk_mul (tk_div (e 2) ((e 2) + v)) (e 2))) ((e 3) - (tk_mul (tk_div (e 2) ((e 2) + v)) (e 3))) ((e 4) - (tk_mul (tk_div (e 3) ((e 2) + v)) (e 3)))) 1), .long ((tk_mv e ((e 0) + (tk_mul (tk_div (e 2) ((e 2) + v)) (z - (e 0)))) ((e 1) + (tk_mul (tk_div (e 3) ((e 2) + v)) (z - (e 0)))) ((e 2) - (tk_mul (tk_div (e 2) ((e 2) + v)) (e 2))) ((e 3) - (tk_mul (tk_div (e 2) ((e 2) + v)) (e 3))) ((e 4) - (tk_mul (tk_div (e 3) ((e 2) + v)) (e 3)))) 2), .long ((tk_mv e ((e 0) + (tk_mul (tk_div (e 2) ((e 2) + v)) (z - (e 0)))) ((e 1) + (tk_mul (tk_div (e 3) ((e 2) + v)) (z - (e 0)))) ((e 2) - (tk_mul (tk_div (e 2) ((e 2) + v)) (e 2))) ((e 3) - (tk_mul (tk_div (e 2) ((e 2) + v)) (e 3))) ((e 4) - (tk_mul (tk_div (e 3) ((e 2) + v)) (e 3)))) 3), .long ((tk_mv e ((e 0) + (tk_mul (tk_div (e 2) ((e 2) + v)) (z - (e 0)))) ((e 1) + (tk_mul (tk_div (e 3) ((e 2) + v)) (z - (e 0)))) ((e 2) - (tk_mul (tk_div (e 2) ((e 2) + v)) (e 2))) ((e 3) - (tk_mul (tk_div (e 2) ((e 2) + v)) (e 3))) ((e 4) - (tk_mul (tk_div (e 3) ((e 2) + v)) (e 3)))) 4), .long (z - (e 0)), .long ((tk_mv e ((e 0) + (tk_mul (tk_div (e 2) ((e 2) + v)) (z - (e 0)))) ((e 1) + (tk_mul (tk_div (e 3) ((e 2) + v)) (z - (e 0)))) ((e 2) - (tk_mul (tk_div (e 2) ((e 2) + v)) (e 2))) ((e 3) - (tk_mul (tk_div (e 2) ((e 2) + v)) (e 3))) ((e 4) - (tk_mul (tk_div (e 3) ((e 2) + v)) (e 3)))) 6), .long ((tk_mv e ((e 0) + (tk_mul (tk_div (e 2) ((e 2) + v)) (z - (e 0)))) ((e 1) + (tk_mul (tk_div (e 3) ((e 2) + v)) (z - (e 0)))) ((e 2) - (tk_mul (tk_div (e 2) ((e 2) + v)) (e 2))) ((e 3) - (tk_mul (tk_div (e 2) ((e 2) + v)) (e 3))) ((e 4) - (tk_mul (tk_div (e 3) ((e 2) + v)) (e 3)))) 7)]))]) H := hP
                          have hD : va_D A ([(h0, .inr (0, [.long ((tk_mv e ((e 0) + (tk_mul (tk_div (e 2) ((e 2) + v)) (z - (e 0)))) ((e 1) + (tk_mul (tk_div (e 3) ((e 2) + v)) (z - (e 0)))) ((e 2) - (tk_mul (tk_div (e 2) ((e 2) + v)) (e 2))) ((e 3) - (tk_mul (tk_div (e 2) ((e 2) + v)) (e 3))) ((e 4) - (tk_mul (tk_div (e 3) ((e 2) + v)) (e 3)))) 0), .long ((tk_mv e ((e 0) + (tk_mul (tk_div (e 2) ((e 2) + v)) (z - (e 0)))) ((e 1) + (tk_mul (tk_div (e 3) ((e 2) + v)) (z - (e 0)))) ((e 2) - (tk_mul (tk_div (e 2) ((e 2) + v)) (e 2))) ((e 3) - (tk_mul (tk_div (e 2) ((e 2) + v)) (e 3))) ((e 4) - (tk_mul (tk_div (e 3) ((e 2) + v)) (e 3)))) 1), .long ((tk_mv e ((e 0) + (tk_mul (tk_div (e 2) ((e 2) + v)) (z - (e 0)))) ((e 1) + (tk_mul (tk_div (e 3) ((e 2) + v)) (z - (e 0)))) ((e 2) - (tk_mul (tk_div (e 2) ((e 2) + v)) (e 2))) ((e 3) - (tk_mul (tk_div (e 2) ((e 2) + v)) (e 3))) ((e 4) - (tk_mul (tk_div (e 3) ((e 2) + v)) (e 3)))) 2), .long ((tk_mv e ((e 0) + (tk_mul (tk_div (e 2) ((e 2) + v)) (z - (e 0)))) ((e 1) + (tk_mul (tk_div (e 3) ((e 2) + v)) (z - (e 0)))) ((e 2) - (tk_mul (tk_div (e 2) ((e 2) + v)) (e 2))) ((e 3) - (tk_mul (tk_div (e 2) ((e 2) + v)) (e 3))) ((e 4) - (tk_mul (tk_div (e 3) ((e 2) + v)) (e 3)))) 3), .long ((tk_mv e ((e 0) + (tk_mul (tk_div (e 2) ((e 2) + v)) (z - (e 0)))) ((e 1) + (tk_mul (tk_div (e 3) ((e 2) + v)) (z - (e 0)))) ((e 2) - (tk_mul (tk_div (e 2) ((e 2) + v)) (e 2))) ((e 3) - (tk_mul (tk_div (e 2) ((e 2) + v)) (e 3))) ((e 4) - (tk_mul (tk_div (e 3) ((e 2) + v)) (e 3)))) 4), .long (z - (e 0)), .long ((tk_mv e ((e 0) + (tk_mul (tk_div (e 2) ((e 2) + v)) (z - (e 0)))) ((e 1) + (tk_mul (tk_div (e 3) ((e 2) + v)) (z - (e 0)))) ((e 2) - (tk_mul (tk_div (e 2) ((e 2) + v)) (e 2))) ((e 3) - (tk_mul (tk_div (e 2) ((e 2) + v)) (e 3))) ((e 4) - (tk_mul (tk_div (e 3) ((e 2) + v)) (e 3)))) 6), .long ((tk_mv e ((e 0) + (tk_mul (tk_div (e 2) ((e 2) + v)) (z - (e 0)))) ((e 1) + (tk_mul (tk_div (e 3) ((e 2) + v)) (z - (e 0)))) ((e 2) - (tk_mul (tk_div (e 2) ((e 2) + v)) (e 2))) ((e 3) - (tk_mul (tk_div (e 2) ((e 2) + v)) (e 3))) ((e 4) - (tk_mul (tk_div (e 3) ((e 2) + v)) (e 3)))) 7)]))]) := hD
                          refine lv_aload_n hx hb dX0_take_227 rfl (lv_at hl 8 rfl) ?_
                          refine lv_lload hx hb dX0_take_228 (lv_at hl 2 rfl) ?_
                          refine va_put (D := D) (ci := 0) (v := .long (tk_div (e 2) ((e 2) + v))) (ty := .long) (C := RX0) (T := TX0) (N := 8) hx hb hts izX0_take_0 tyX0 tyX0_ok nmX0 hown hK hP hD hS 0 rfl rfl 6 (by decide) (hm 9 (.fieldLink RX0 34 "TankFilter$Estimate" "levelGain" "J") rfl) (fun _ h9 => h9) rfl (by decide +kernel) rfl rfl (Nat.le_of_ble_eq_true rfl) dX0_take_230 (fun H locs hP hD hS => ?_)
                          have hP : va_P D vwCl ([(h0, .inr (0, [.long ((tk_mv e ((e 0) + (tk_mul (tk_div (e 2) ((e 2) + v)) (z - (e 0)))) ((e 1) + (tk_mul (tk_div (e 3) ((e 2) + v)) (z - (e 0)))) ((e 2) - (tk_mul (tk_div (e 2) ((e 2) + v)) (e 2))) ((e 3) - (tk_mul (tk_div (e 2) ((e 2) + v)) (e 3))) ((e 4) - (tk_mul (tk_div (e 3) ((e 2) + v)) (e 3)))) 0), .long ((tk_mv e ((e 0) + (tk_mul (tk_div (e 2) ((e 2) + v)) (z - (e 0)))) ((e 1) + (tk_mul (tk_div (e 3) ((e 2) + v)) (z - (e 0)))) ((e 2) - (tk_mul (tk_div (e 2) ((e 2) + v)) (e 2))) ((e 3) - (tk_mul (tk_div (e 2) ((e 2) + v)) (e 3))) ((e 4) - (tk_mul (tk_div (e 3) ((e 2) + v)) (e 3)))) 1), .long ((tk_mv e ((e 0) + (tk_mul (tk_div (e 2) ((e 2) + v)) (z - (e 0)))) ((e 1) + (tk_mul (tk_div (e 3) ((e 2) + v)) (z - (e 0)))) ((e 2) - (tk_mul (tk_div (e 2) ((e 2) + v)) (e 2))) ((e 3) - (tk_mul (tk_div (e 2) ((e 2) + v)) (e 3))) ((e 4) - (tk_mul (tk_div (e 3) ((e 2) + v)) (e 3)))) 2), .long ((tk_mv e ((e 0) + (tk_mul (tk_div (e 2) ((e 2) + v)) (z - (e 0)))) ((e 1) + (tk_mul (tk_div (e 3) ((e 2) + v)) (z - (e 0)))) ((e 2) - (tk_mul (tk_div (e 2) ((e 2) + v)) (e 2))) ((e 3) - (tk_mul (tk_div (e 2) ((e 2) + v)) (e 3))) ((e 4) - (tk_mul (tk_div (e 3) ((e 2) + v)) (e 3)))) 3), .long ((tk_mv e ((e 0) + (tk_mul (tk_div (e 2) ((e 2) + v)) (z - (e 0)))) ((e 1) + (tk_mul (tk_div (e 3) ((e 2) + v)) (z - (e 0)))) ((e 2) - (tk_mul (tk_div (e 2) ((e 2) + v)) (e 2))) ((e 3) - (tk_mul (tk_div (e 2) ((e 2) + v)) (e 3))) ((e 4) - (tk_mul (tk_div (e 3) ((e 2) + v)) (e 3)))) 4), .long (z - (e 0)), .long (tk_div (e 2) ((e 2) + v)), .long ((tk_mv e ((e 0) + (tk_mul (tk_div (e 2) ((e 2) + v)) (z - (e 0)))) ((e 1) + (tk_mul (tk_div (e 3) ((e 2) + v)) (z - (e 0)))) ((e 2) - (tk_mul (tk_div (e 2) ((e 2) + v)) (e 2))) ((e 3) - (tk_mul (tk_div (e 2) ((e 2) + v)) (e 3))) ((e 4) - (tk_mul (tk_div (e 3) ((e 2) + v)) (e 3)))) 7)]))]) H := hP
                          have hD : va_D A ([(h0, .inr (0, [.long ((tk_mv e ((e 0) + (tk_mul (tk_div (e 2) ((e 2) + v)) (z - (e 0)))) ((e 1) + (tk_mul (tk_div (e 3) ((e 2) + v)) (z - (e 0)))) ((e 2) - (tk_mul (tk_div (e 2) ((e 2) + v)) (e 2))) ((e 3) - (tk_mul (tk_div (e 2) ((e 2) + v)) (e 3))) ((e 4) - (tk_mul (tk_div (e 3) ((e 2) + v)) (e 3)))) 0), .long ((tk_mv e ((e 0) + (tk_mul (tk_div (e 2) ((e 2) + v)) (z - (e 0)))) ((e 1) + (tk_mul (tk_div (e 3) ((e 2) + v)) (z - (e 0)))) ((e 2) - (tk_mul (tk_div (e 2) ((e 2) + v)) (e 2))) ((e 3) - (tk_mul (tk_div (e 2) ((e 2) + v)) (e 3))) ((e 4) - (tk_mul (tk_div (e 3) ((e 2) + v)) (e 3)))) 1), .long ((tk_mv e ((e 0) + (tk_mul (tk_div (e 2) ((e 2) + v)) (z - (e 0)))) ((e 1) + (tk_mul (tk_div (e 3) ((e 2) + v)) (z - (e 0)))) ((e 2) - (tk_mul (tk_div (e 2) ((e 2) + v)) (e 2))) ((e 3) - (tk_mul (tk_div (e 2) ((e 2) + v)) (e 3))) ((e 4) - (tk_mul (tk_div (e 3) ((e 2) + v)) (e 3)))) 2), .long ((tk_mv e ((e 0) + (tk_mul (tk_div (e 2) ((e 2) + v)) (z - (e 0)))) ((e 1) + (tk_mul (tk_div (e 3) ((e 2) + v)) (z - (e 0)))) ((e 2) - (tk_mul (tk_div (e 2) ((e 2) + v)) (e 2))) ((e 3) - (tk_mul (tk_div (e 2) ((e 2) + v)) (e 3))) ((e 4) - (tk_mul (tk_div (e 3) ((e 2) + v)) (e 3)))) 3), .long ((tk_mv e ((e 0) + (tk_mul (tk_div (e 2) ((e 2) + v)) (z - (e 0)))) ((e 1) + (tk_mul (tk_div (e 3) ((e 2) + v)) (z - (e 0)))) ((e 2) - (tk_mul (tk_div (e 2) ((e 2) + v)) (e 2))) ((e 3) - (tk_mul (tk_div (e 2) ((e 2) + v)) (e 3))) ((e 4) - (tk_mul (tk_div (e 3) ((e 2) + v)) (e 3)))) 4), .long (z - (e 0)), .long (tk_div (e 2) ((e 2) + v)), .long ((tk_mv e ((e 0) + (tk_mul (tk_div (e 2) ((e 2) + v)) (z - (e 0)))) ((e 1) + (tk_mul (tk_div (e 3) ((e 2) + v)) (z - (e 0)))) ((e 2) - (tk_mul (tk_div (e 2) ((e 2) + v)) (e 2))) ((e 3) - (tk_mul (tk_div (e 2) ((e 2) + v)) (e 3))) ((e 4) - (tk_mul (tk_div (e 3) ((e 2) + v)) (e 3)))) 7)]))]) := hD
                          refine lv_aload_n hx hb dX0_take_233 rfl (lv_at hl 8 rfl) ?_
                          refine lv_lload hx hb dX0_take_234 (lv_at hl 1 rfl) ?_
                          refine va_put (D := D) (ci := 0) (v := .long (tk_div (e 3) ((e 2) + v))) (ty := .long) (C := RX0) (T := TX0) (N := 8) hx hb hts izX0_take_0 tyX0 tyX0_ok nmX0 hown hK hP hD hS 0 rfl rfl 7 (by decide) (hm 10 (.fieldLink RX0 37 "TankFilter$Estimate" "flowGain" "J") rfl) (fun _ h9 => h9) rfl (by decide +kernel) rfl rfl (Nat.le_of_ble_eq_true rfl) dX0_take_236 (fun H locs hP hD hS => ?_)
                          have hP : va_P D vwCl ([(h0, .inr (0, [.long ((tk_mv e ((e 0) + (tk_mul (tk_div (e 2) ((e 2) + v)) (z - (e 0)))) ((e 1) + (tk_mul (tk_div (e 3) ((e 2) + v)) (z - (e 0)))) ((e 2) - (tk_mul (tk_div (e 2) ((e 2) + v)) (e 2))) ((e 3) - (tk_mul (tk_div (e 2) ((e 2) + v)) (e 3))) ((e 4) - (tk_mul (tk_div (e 3) ((e 2) + v)) (e 3)))) 0), .long ((tk_mv e ((e 0) + (tk_mul (tk_div (e 2) ((e 2) + v)) (z - (e 0)))) ((e 1) + (tk_mul (tk_div (e 3) ((e 2) + v)) (z - (e 0)))) ((e 2) - (tk_mul (tk_div (e 2) ((e 2) + v)) (e 2))) ((e 3) - (tk_mul (tk_div (e 2) ((e 2) + v)) (e 3))) ((e 4) - (tk_mul (tk_div (e 3) ((e 2) + v)) (e 3)))) 1), .long ((tk_mv e ((e 0) + (tk_mul (tk_div (e 2) ((e 2) + v)) (z - (e 0)))) ((e 1) + (tk_mul (tk_div (e 3) ((e 2) + v)) (z - (e 0)))) ((e 2) - (tk_mul (tk_div (e 2) ((e 2) + v)) (e 2))) ((e 3) - (tk_mul (tk_div (e 2) ((e 2) + v)) (e 3))) ((e 4) - (tk_mul (tk_div (e 3) ((e 2) + v)) (e 3)))) 2), .long ((tk_mv e ((e 0) + (tk_mul (tk_div (e 2) ((e 2) + v)) (z - (e 0)))) ((e 1) + (tk_mul (tk_div (e 3) ((e 2) + v)) (z - (e 0)))) ((e 2) - (tk_mul (tk_div (e 2) ((e 2) + v)) (e 2))) ((e 3) - (tk_mul (tk_div (e 2) ((e 2) + v)) (e 3))) ((e 4) - (tk_mul (tk_div (e 3) ((e 2) + v)) (e 3)))) 3), .long ((tk_mv e ((e 0) + (tk_mul (tk_div (e 2) ((e 2) + v)) (z - (e 0)))) ((e 1) + (tk_mul (tk_div (e 3) ((e 2) + v)) (z - (e 0)))) ((e 2) - (tk_mul (tk_div (e 2) ((e 2) + v)) (e 2))) ((e 3) - (tk_mul (tk_div (e 2) ((e 2) + v)) (e 3))) ((e 4) - (tk_mul (tk_div (e 3) ((e 2) + v)) (e 3)))) 4), .long (z - (e 0)), .long (tk_div (e 2) ((e 2) + v)), .long (tk_div (e 3) ((e 2) + v))]))]) H := hP
                          have hD : va_D A ([(h0, .inr (0, [.long ((tk_mv e ((e 0) + (tk_mul (tk_div (e 2) ((e 2) + v)) (z - (e 0)))) ((e 1) + (tk_mul (tk_div (e 3) ((e 2) + v)) (z - (e 0)))) ((e 2) - (tk_mul (tk_div (e 2) ((e 2) + v)) (e 2))) ((e 3) - (tk_mul (tk_div (e 2) ((e 2) + v)) (e 3))) ((e 4) - (tk_mul (tk_div (e 3) ((e 2) + v)) (e 3)))) 0), .long ((tk_mv e ((e 0) + (tk_mul (tk_div (e 2) ((e 2) + v)) (z - (e 0)))) ((e 1) + (tk_mul (tk_div (e 3) ((e 2) + v)) (z - (e 0)))) ((e 2) - (tk_mul (tk_div (e 2) ((e 2) + v)) (e 2))) ((e 3) - (tk_mul (tk_div (e 2) ((e 2) + v)) (e 3))) ((e 4) - (tk_mul (tk_div (e 3) ((e 2) + v)) (e 3)))) 1), .long ((tk_mv e ((e 0) + (tk_mul (tk_div (e 2) ((e 2) + v)) (z - (e 0)))) ((e 1) + (tk_mul (tk_div (e 3) ((e 2) + v)) (z - (e 0)))) ((e 2) - (tk_mul (tk_div (e 2) ((e 2) + v)) (e 2))) ((e 3) - (tk_mul (tk_div (e 2) ((e 2) + v)) (e 3))) ((e 4) - (tk_mul (tk_div (e 3) ((e 2) + v)) (e 3)))) 2), .long ((tk_mv e ((e 0) + (tk_mul (tk_div (e 2) ((e 2) + v)) (z - (e 0)))) ((e 1) + (tk_mul (tk_div (e 3) ((e 2) + v)) (z - (e 0)))) ((e 2) - (tk_mul (tk_div (e 2) ((e 2) + v)) (e 2))) ((e 3) - (tk_mul (tk_div (e 2) ((e 2) + v)) (e 3))) ((e 4) - (tk_mul (tk_div (e 3) ((e 2) + v)) (e 3)))) 3), .long ((tk_mv e ((e 0) + (tk_mul (tk_div (e 2) ((e 2) + v)) (z - (e 0)))) ((e 1) + (tk_mul (tk_div (e 3) ((e 2) + v)) (z - (e 0)))) ((e 2) - (tk_mul (tk_div (e 2) ((e 2) + v)) (e 2))) ((e 3) - (tk_mul (tk_div (e 2) ((e 2) + v)) (e 3))) ((e 4) - (tk_mul (tk_div (e 3) ((e 2) + v)) (e 3)))) 4), .long (z - (e 0)), .long (tk_div (e 2) ((e 2) + v)), .long (tk_div (e 3) ((e 2) + v))]))]) := hD
                          refine lv_iconst (v := 1) hx hb dX0_take_239 (by decide) ?_
                          exact W.iret (v := 1) hx hb hr (fun t ht hW => ⟨⟨1, cq_e e (e 2) (e 3) (e 2) (e 0) z v, rfl, Or.inr (Or.inl ⟨(fun y => cq_rej_2 c_61 ((co_rej0 c_1).mp y)), by rw [co_ok0 c_1, cq_ok, p_64, p_66, p_73]; rfl, rfl, (co_e0 c_1).symm⟩), KB.of hAe (by rw [ht, cq_e, tk_yk_ev]; exact hP) (by rw [cq_e, tk_yk_ev]; exact hD)⟩, hS.F ht⟩) hS.2.2 dX0_take_240
                        · exact absurd c_74 (by decide)
                      · have hP : va_P D vwCl ([(h0, .inr (0, tk_ev e))]) H := hP
                        have hD : va_D A ([(h0, .inr (0, tk_ev e))]) := hD
                        refine lv_istore (lv' := [(21, .int 0), (19, .long (tk_div (e 3) ((e 2) + v))), (17, .long (tk_div (e 2) ((e 2) + v))), (15, .long ((e 2) + v)), (13, .long (z - (e 0))), (11, .long (e 3)), (9, .long (e 2)), (8, .int 1), (0, .ref h0), (1, .long z), (3, .int kd), (4, .long v), (6, .long g)]) hx hb dX0_take_211 hl (by decide) rfl (fun ls hl => ?_)
                        refine lv_iload hx hb dX0_take_213 (lv_at hl 0 rfl) ?_
                        refine lv_if_ne (tgt := 221) hx hb dX0_take_215 (by decide) (fun c_75 => ?_) (fun c_75 => ?_)
                        · exact absurd c_75 (by decide)
                        · skip
                          refine lv_ldc (v := -2000000004) hx hb hown (hm 6 (.constant RX0 58 (-2000000004)) rfl) dX0_take_218 ?_
                          exact W.iret (v := (-2000000004)) hx hb hr (fun t ht hW => ⟨⟨(-2000000004), e, rfl, Or.inr (Or.inr ⟨(fun y => cq_rej_2 c_61 ((co_rej0 c_1).mp y)), by rw [co_ok0 c_1, cq_ok, p_64, p_66, p_73]; rfl, rfl, rfl⟩), KB.of hAe (by rw [ht]; exact hP) hD⟩, hS.F ht⟩) hS.2.2 dX0_take_220
                    · exact absurd c_67 (by decide)
                  · have hP : va_P D vwCl ([(h0, .inr (0, tk_ev e))]) H := hP
                    have hD : va_D A ([(h0, .inr (0, tk_ev e))]) := hD
                    refine lv_if_ne (tgt := 147) hx hb dX0_take_141 (by decide) (fun c_76 => ?_) (fun c_76 => ?_)
                    · exact absurd c_76 (by decide)
                    · skip
                      refine lv_ldc (v := -2000000004) hx hb hown (hm 6 (.constant RX0 58 (-2000000004)) rfl) dX0_take_144 ?_
                      exact W.iret (v := (-2000000004)) hx hb hr (fun t ht hW => ⟨⟨(-2000000004), e, rfl, Or.inr (Or.inr ⟨(fun y => cq_rej_2 c_61 ((co_rej0 c_1).mp y)), by rw [co_ok0 c_1, cq_ok, p_64, p_66]; rfl, rfl, rfl⟩), KB.of hAe (by rw [ht]; exact hP) hD⟩, hS.F ht⟩) hS.2.2 dX0_take_146
              · have hP : va_P D vwCl ([(h0, .inr (0, tk_ev e))]) H := hP
                have hD : va_D A ([(h0, .inr (0, tk_ev e))]) := hD
                refine lv_if_eq (tgt := 144) hx hb dX0_take_133 (by decide) (fun c_77 => ?_) (fun c_77 => ?_)
                · skip
                  refine lv_ldc (v := -2000000004) hx hb hown (hm 6 (.constant RX0 58 (-2000000004)) rfl) dX0_take_144 ?_
                  exact W.iret (v := (-2000000004)) hx hb hr (fun t ht hW => ⟨⟨(-2000000004), e, rfl, Or.inr (Or.inr ⟨(fun y => cq_rej_2 c_61 ((co_rej0 c_1).mp y)), by rw [co_ok0 c_1, cq_ok, p_64]; rfl, rfl, rfl⟩), KB.of hAe (by rw [ht]; exact hP) hD⟩, hS.F ht⟩) hS.2.2 dX0_take_146
                · exact absurd c_77 (by decide)
            · have c_61 := mt (lg_cmp_le _ _).mpr c_61
              refine lv_aload_n hx hb dX0_take_102 rfl (lv_at hl 5 rfl) ?_
              refine lv_lload hx hb dX0_take_103 (lv_at hl 1 rfl) ?_
              refine va_put (D := D) (ci := 0) (v := .long (z - (e 0))) (ty := .long) (C := RX0) (T := TX0) (N := 8) hx hb hts izX0_take_0 tyX0 tyX0_ok nmX0 hown hK hP hD hS 0 rfl rfl 5 (by decide) (hm 5 (.fieldLink RX0 31 "TankFilter$Estimate" "innovation" "J") rfl) (fun _ h9 => h9) rfl (by decide +kernel) rfl rfl (Nat.le_of_ble_eq_true rfl) dX0_take_105 (fun H locs hP hD hS => ?_)
              have hP : va_P D vwCl ([(h0, .inr (0, [.long (e 0), .long (e 1), .long (e 2), .long (e 3), .long (e 4), .long (z - (e 0)), .long (e 6), .long (e 7)]))]) H := hP
              have hD : va_D A ([(h0, .inr (0, [.long (e 0), .long (e 1), .long (e 2), .long (e 3), .long (e 4), .long (z - (e 0)), .long (e 6), .long (e 7)]))]) := hD
              refine lv_iconst (v := 0) hx hb dX0_take_108 (by decide) ?_
              exact W.iret (v := 0) hx hb hr (fun t ht hW => ⟨⟨0, tk_y e (z - e 0), rfl, Or.inl ⟨(co_rej0 c_1).mpr (cq_rej_t c_44 c_61), rfl, by rw [co_m0 c_1]⟩, KB.of hAe (by rw [ht, tk_y_ev]; exact hP) (by rw [tk_y_ev]; exact hD)⟩, hS.F ht⟩) hS.2.2 dX0_take_109
end
