section
-- ===== PART A: goes FIRST, ahead of the names: the tables' words, and 'selects' of the private methods out of them =====
/-- a private method of a class that the tables say can be made, by its rows of tables_1 -/
def lw_okq (q : MethodName × Nat) : Prop := (q.1.cls ≠ "java/lang/invoke/MethodHandle" ∧ q.1.cls ≠ "java/lang/invoke/VarHandle") ∧ Cond.instantiable q.1.cls q.2 ∈ tables_1 ∧ Cond.privateMethod q.1 ∈ tables_1 ∧ Cond.instanceMethod q.1 ∈ tables_1
theorem lw_p0 : lw_okq (⟨"FadeLedger", "readTurn", "(II)J"⟩, 6) := ⟨⟨by decide +kernel, by decide +kernel⟩, List.mem_of_getElem? (i := 4) (by decide +kernel), List.mem_of_getElem? (i := 46) (by decide +kernel), List.mem_of_getElem? (i := 47) (by decide +kernel)⟩
theorem lw_p1 : lw_okq (⟨"FadeLedger", "takeTurn", "()Z"⟩, 6) := ⟨⟨by decide +kernel, by decide +kernel⟩, List.mem_of_getElem? (i := 4) (by decide +kernel), List.mem_of_getElem? (i := 50) (by decide +kernel), List.mem_of_getElem? (i := 51) (by decide +kernel)⟩
theorem lw_p2 : lw_okq (⟨"FadeLedger", "losePower", "()V"⟩, 6) := ⟨⟨by decide +kernel, by decide +kernel⟩, List.mem_of_getElem? (i := 4) (by decide +kernel), List.mem_of_getElem? (i := 54) (by decide +kernel), List.mem_of_getElem? (i := 55) (by decide +kernel)⟩
theorem lw_p3 : lw_okq (⟨"FadeLedger", "put", "(IJ)V"⟩, 6) := ⟨⟨by decide +kernel, by decide +kernel⟩, List.mem_of_getElem? (i := 4) (by decide +kernel), List.mem_of_getElem? (i := 72) (by decide +kernel), List.mem_of_getElem? (i := 73) (by decide +kernel)⟩
theorem lw_p4 : lw_okq (⟨"FadeLedger", "writeTurn", "(IIJ)V"⟩, 6) := ⟨⟨by decide +kernel, by decide +kernel⟩, List.mem_of_getElem? (i := 4) (by decide +kernel), List.mem_of_getElem? (i := 76) (by decide +kernel), List.mem_of_getElem? (i := 77) (by decide +kernel)⟩
theorem lw_p5 : lw_okq (⟨"FadeLedger", "answerOf", "(Z)I"⟩, 6) := ⟨⟨by decide +kernel, by decide +kernel⟩, List.mem_of_getElem? (i := 4) (by decide +kernel), List.mem_of_getElem? (i := 80) (by decide +kernel), List.mem_of_getElem? (i := 81) (by decide +kernel)⟩
theorem lw_p6 : lw_okq (⟨"FadeLedger", "look", "(I)J"⟩, 6) := ⟨⟨by decide +kernel, by decide +kernel⟩, List.mem_of_getElem? (i := 4) (by decide +kernel), List.mem_of_getElem? (i := 89) (by decide +kernel), List.mem_of_getElem? (i := 90) (by decide +kernel)⟩
theorem lw_p7 : lw_okq (⟨"FadeLedger", "restoreCell", "(I)V"⟩, 6) := ⟨⟨by decide +kernel, by decide +kernel⟩, List.mem_of_getElem? (i := 4) (by decide +kernel), List.mem_of_getElem? (i := 144) (by decide +kernel), List.mem_of_getElem? (i := 145) (by decide +kernel)⟩
theorem lw_p8 : lw_okq (⟨"FadeLedger", "writeWhereOther", "(IJ)V"⟩, 6) := ⟨⟨by decide +kernel, by decide +kernel⟩, List.mem_of_getElem? (i := 4) (by decide +kernel), List.mem_of_getElem? (i := 151) (by decide +kernel), List.mem_of_getElem? (i := 152) (by decide +kernel)⟩
theorem lw_p9 : lw_okq (⟨"FadeLedger", "slipIsPending", "()Z"⟩, 6) := ⟨⟨by decide +kernel, by decide +kernel⟩, List.mem_of_getElem? (i := 4) (by decide +kernel), List.mem_of_getElem? (i := 155) (by decide +kernel), List.mem_of_getElem? (i := 156) (by decide +kernel)⟩
theorem lw_p10 : lw_okq (⟨"FadeLedger", "foundIn", "(I)J"⟩, 6) := ⟨⟨by decide +kernel, by decide +kernel⟩, List.mem_of_getElem? (i := 4) (by decide +kernel), List.mem_of_getElem? (i := 159) (by decide +kernel), List.mem_of_getElem? (i := 160) (by decide +kernel)⟩
theorem lw_p11 : lw_okq (⟨"FadeLedger", "finishTransfer", "()V"⟩, 6) := ⟨⟨by decide +kernel, by decide +kernel⟩, List.mem_of_getElem? (i := 4) (by decide +kernel), List.mem_of_getElem? (i := 169) (by decide +kernel), List.mem_of_getElem? (i := 170) (by decide +kernel)⟩
theorem lw_p12 : lw_okq (⟨"FadeLedger", "finishAccount", "(III)V"⟩, 6) := ⟨⟨by decide +kernel, by decide +kernel⟩, List.mem_of_getElem? (i := 4) (by decide +kernel), List.mem_of_getElem? (i := 173) (by decide +kernel), List.mem_of_getElem? (i := 174) (by decide +kernel)⟩
theorem lw_p13 : lw_okq (⟨"FadeLedgerModel", "turn", "(IIIJ)V"⟩, 11) := ⟨⟨by decide +kernel, by decide +kernel⟩, List.mem_of_getElem? (i := 196) (by decide +kernel), List.mem_of_getElem? (i := 258) (by decide +kernel), List.mem_of_getElem? (i := 259) (by decide +kernel)⟩
theorem lw_p14 : lw_okq (⟨"FadeLedgerModel", "putAll", "(IJ)V"⟩, 11) := ⟨⟨by decide +kernel, by decide +kernel⟩, List.mem_of_getElem? (i := 196) (by decide +kernel), List.mem_of_getElem? (i := 262) (by decide +kernel), List.mem_of_getElem? (i := 263) (by decide +kernel)⟩
theorem lw_p15 : lw_okq (⟨"FadeLedgerModel", "works", "()Z"⟩, 11) := ⟨⟨by decide +kernel, by decide +kernel⟩, List.mem_of_getElem? (i := 196) (by decide +kernel), List.mem_of_getElem? (i := 266) (by decide +kernel), List.mem_of_getElem? (i := 267) (by decide +kernel)⟩
def lw_privs_1 : List (MethodName × Nat) := [(⟨"FadeLedger", "readTurn", "(II)J"⟩, 6), (⟨"FadeLedger", "takeTurn", "()Z"⟩, 6), (⟨"FadeLedger", "losePower", "()V"⟩, 6), (⟨"FadeLedger", "put", "(IJ)V"⟩, 6), (⟨"FadeLedger", "writeTurn", "(IIJ)V"⟩, 6), (⟨"FadeLedger", "answerOf", "(Z)I"⟩, 6), (⟨"FadeLedger", "look", "(I)J"⟩, 6), (⟨"FadeLedger", "restoreCell", "(I)V"⟩, 6), (⟨"FadeLedger", "writeWhereOther", "(IJ)V"⟩, 6), (⟨"FadeLedger", "slipIsPending", "()Z"⟩, 6), (⟨"FadeLedger", "foundIn", "(I)J"⟩, 6), (⟨"FadeLedger", "finishTransfer", "()V"⟩, 6), (⟨"FadeLedger", "finishAccount", "(III)V"⟩, 6), (⟨"FadeLedgerModel", "turn", "(IIIJ)V"⟩, 11), (⟨"FadeLedgerModel", "putAll", "(IJ)V"⟩, 11), (⟨"FadeLedgerModel", "works", "()Z"⟩, 11)]
theorem lw_r1 : ∀ q ∈ lw_privs_1, lw_okq q := List.forall_mem_cons.mpr ⟨lw_p0, List.forall_mem_cons.mpr ⟨lw_p1, List.forall_mem_cons.mpr ⟨lw_p2, List.forall_mem_cons.mpr ⟨lw_p3, List.forall_mem_cons.mpr ⟨lw_p4, List.forall_mem_cons.mpr ⟨lw_p5, List.forall_mem_cons.mpr ⟨lw_p6, List.forall_mem_cons.mpr ⟨lw_p7, List.forall_mem_cons.mpr ⟨lw_p8, List.forall_mem_cons.mpr ⟨lw_p9, List.forall_mem_cons.mpr ⟨lw_p10, List.forall_mem_cons.mpr ⟨lw_p11, List.forall_mem_cons.mpr ⟨lw_p12, List.forall_mem_cons.mpr ⟨lw_p13, List.forall_mem_cons.mpr ⟨lw_p14, List.forall_mem_cons.mpr ⟨lw_p15, fun _ h => absurd h List.not_mem_nil⟩⟩⟩⟩⟩⟩⟩⟩⟩⟩⟩⟩⟩⟩⟩⟩
theorem lw_p16 : lw_okq (⟨"FadeLedgerModel", "look", "(I)V"⟩, 11) := ⟨⟨by decide +kernel, by decide +kernel⟩, List.mem_of_getElem? (i := 196) (by decide +kernel), List.mem_of_getElem? (i := 275) (by decide +kernel), List.mem_of_getElem? (i := 276) (by decide +kernel)⟩
theorem lw_p17 : lw_okq (⟨"FadeLedgerModel", "mend", "(I)V"⟩, 11) := ⟨⟨by decide +kernel, by decide +kernel⟩, List.mem_of_getElem? (i := 196) (by decide +kernel), List.mem_of_getElem? (i := 327) (by decide +kernel), List.mem_of_getElem? (i := 328) (by decide +kernel)⟩
theorem lw_p18 : lw_okq (⟨"FadeLedgerModel", "best", "(I)J"⟩, 11) := ⟨⟨by decide +kernel, by decide +kernel⟩, List.mem_of_getElem? (i := 196) (by decide +kernel), List.mem_of_getElem? (i := 331) (by decide +kernel), List.mem_of_getElem? (i := 332) (by decide +kernel)⟩
theorem lw_p19 : lw_okq (⟨"FadeLedgerModel", "settle", "(III)V"⟩, 11) := ⟨⟨by decide +kernel, by decide +kernel⟩, List.mem_of_getElem? (i := 196) (by decide +kernel), List.mem_of_getElem? (i := 335) (by decide +kernel), List.mem_of_getElem? (i := 336) (by decide +kernel)⟩
def lw_privs_2 : List (MethodName × Nat) := [(⟨"FadeLedgerModel", "look", "(I)V"⟩, 11), (⟨"FadeLedgerModel", "mend", "(I)V"⟩, 11), (⟨"FadeLedgerModel", "best", "(I)J"⟩, 11), (⟨"FadeLedgerModel", "settle", "(III)V"⟩, 11)]
theorem lw_r2 : ∀ q ∈ lw_privs_2, lw_okq q := List.forall_mem_cons.mpr ⟨lw_p16, List.forall_mem_cons.mpr ⟨lw_p17, List.forall_mem_cons.mpr ⟨lw_p18, List.forall_mem_cons.mpr ⟨lw_p19, fun _ h => absurd h List.not_mem_nil⟩⟩⟩⟩
def lw_privs : List (MethodName × Nat) := lw_privs_1 ++ (lw_privs_2)
def lw_tbl : List Cond := k2_sels lw_privs ++ tables_1
theorem lw_privs_ok : ∀ q ∈ lw_privs, lw_okq q := by
  show ∀ q ∈ lw_privs_1 ++ (lw_privs_2), lw_okq q
  exact List.forall_mem_append.mpr ⟨lw_r1, lw_r2⟩
end
section
/-! ===== BEGIN words of one list among another's, by their places ===== -/
theorem goodIn_r {big : List Cond} (ws : List Cond) (ps : List Nat) (hp : ws = ps.filterMap (fun i => big[i]?)) (h : ws.all goodWord = true) : GoodIn big ws := by
  intro w hw
  have h1 := List.all_eq_true.mp h w hw
  rw [hp] at hw
  obtain ⟨i, -, hi⟩ := List.mem_filterMap.mp hw
  have hm : w ∈ big := by first | exact List.mem_of_getElem? hi | exact List.getElem?_mem hi
  exact ⟨hm, good_of_word h1⟩
theorem goodIn_app {big a b : List Cond} (ha : GoodIn big a) (hb : GoodIn big b) : GoodIn big (a ++ b) := fun w h => (List.mem_append.mp h).elim (ha w) (hb w)
theorem goodIn_ca {big a b : List Cond} {c : Cond} (ha : GoodIn big (c :: a)) (hb : GoodIn big b) : GoodIn big (c :: (a ++ b)) := fun w h => (List.mem_cons.mp h).elim (fun e => ha w (List.mem_cons.mpr (Or.inl e))) (fun h => (List.mem_append.mp h).elim (fun h => ha w (List.mem_cons.mpr (Or.inr h))) (hb w))
theorem goodIn_sub {big ws : List Cond} (hm : ∀ w ∈ ws, w ∈ big) (h : ws.all goodWord = true) : GoodIn big ws := fun w hw => ⟨hm w hw, good_of_word (List.all_eq_true.mp h w hw)⟩
/-! ===== END ===== -/

/-! ===== BEGIN printed: names, fields, word lists, decode rows ===== -/
def RX0 : String := "FadeLedger"
def TX0 : u_T := fun k => match k with
  | 0 => ("FadeLedger", "memory", "[J", true)
  | 1 => ("FadeLedger", "invalidPlanes", "[I", true)
  | 2 => ("FadeLedger", "powered", "Z", false)
  | 3 => ("FadeLedger", "turnsLeft", "I", false)
  | 4 => ("FadeLedger", "reads", "I", false)
  | _ => ("FadeLedger", "writes", "I", false)
def tyX0 : Nat → FieldType := fun k => match k with
  | 0 => .array .long
  | 1 => .array .int
  | 2 => .boolean
  | 3 => .int
  | 4 => .int
  | _ => .int
abbrev wsX00 : List Cond := u_ws RX0 TX0 6
theorem nmX0 : ∀ a, a < 6 → ∀ b, b < 6 → a ≠ b → (TX0 a).2.1 ≠ (TX0 b).2.1 := by decide +kernel
theorem tyX0_ok : ∀ k, k < 6 → parseFieldDescriptor (TX0 k).2.2.1 = some (tyX0 k) := by decide +kernel
abbrev cX0_init : ByteArray := prog_1_method_1_code
def yX0_init : MethodName := ⟨RX0, "<init>", "()V"⟩
abbrev cX0_open : ByteArray := prog_1_method_2_code
def yX0_open : MethodName := ⟨RX0, "open", "(II)I"⟩
abbrev cX0_balance : ByteArray := prog_1_method_3_code
def yX0_balance : MethodName := ⟨RX0, "balance", "(I)J"⟩
abbrev cX0_post : ByteArray := prog_1_method_4_code
def yX0_post : MethodName := ⟨RX0, "post", "(II)I"⟩
abbrev cX0_transfer : ByteArray := prog_1_method_5_code
def yX0_transfer : MethodName := ⟨RX0, "transfer", "(III)I"⟩
abbrev cX0_total : ByteArray := prog_1_method_6_code
def yX0_total : MethodName := ⟨RX0, "total", "()J"⟩
abbrev cX0_number : ByteArray := prog_1_method_7_code
def yX0_number : MethodName := ⟨RX0, "number", "(I)I"⟩
abbrev cX0_failAfter : ByteArray := prog_1_method_8_code
def yX0_failAfter : MethodName := ⟨RX0, "failAfter", "(I)Z"⟩
abbrev cX0_fail : ByteArray := prog_1_method_9_code
def yX0_fail : MethodName := ⟨RX0, "fail", "()Z"⟩
abbrev cX0_mount : ByteArray := prog_1_method_10_code
def yX0_mount : MethodName := ⟨RX0, "mount", "()I"⟩
abbrev cX0_on : ByteArray := prog_1_method_11_code
def yX0_on : MethodName := ⟨RX0, "on", "()Z"⟩
abbrev cX0_lost : ByteArray := prog_1_method_12_code
def yX0_lost : MethodName := ⟨RX0, "lost", "(I)I"⟩
abbrev cX0_word : ByteArray := prog_1_method_13_code
def yX0_word : MethodName := ⟨RX0, "word", "(II)J"⟩
abbrev cX0_done : ByteArray := prog_1_method_14_code
def yX0_done : MethodName := ⟨RX0, "done", "(I)I"⟩
abbrev cX0_restoreCell : ByteArray := prog_1_method_15_code
def yX0_restoreCell : MethodName := ⟨RX0, "restoreCell", "(I)V"⟩
abbrev cX0_writeWhereOther : ByteArray := prog_1_method_16_code
def yX0_writeWhereOther : MethodName := ⟨RX0, "writeWhereOther", "(IJ)V"⟩
abbrev cX0_slipIsPending : ByteArray := prog_1_method_17_code
def yX0_slipIsPending : MethodName := ⟨RX0, "slipIsPending", "()Z"⟩
abbrev cX0_finishTransfer : ByteArray := prog_1_method_18_code
def yX0_finishTransfer : MethodName := ⟨RX0, "finishTransfer", "()V"⟩
abbrev cX0_finishAccount : ByteArray := prog_1_method_19_code
def yX0_finishAccount : MethodName := ⟨RX0, "finishAccount", "(III)V"⟩
abbrev cX0_foundIn : ByteArray := prog_1_method_20_code
def yX0_foundIn : MethodName := ⟨RX0, "foundIn", "(I)J"⟩
abbrev cX0_fromOf : ByteArray := prog_1_method_21_code
def yX0_fromOf : MethodName := ⟨RX0, "fromOf", "(I)I"⟩
abbrev cX0_toOf : ByteArray := prog_1_method_22_code
def yX0_toOf : MethodName := ⟨RX0, "toOf", "(I)I"⟩
abbrev cX0_look : ByteArray := prog_1_method_23_code
def yX0_look : MethodName := ⟨RX0, "look", "(I)J"⟩
abbrev cX0_put : ByteArray := prog_1_method_24_code
def yX0_put : MethodName := ⟨RX0, "put", "(IJ)V"⟩
abbrev cX0_readTurn : ByteArray := prog_1_method_25_code
def yX0_readTurn : MethodName := ⟨RX0, "readTurn", "(II)J"⟩
abbrev cX0_writeTurn : ByteArray := prog_1_method_26_code
def yX0_writeTurn : MethodName := ⟨RX0, "writeTurn", "(IIJ)V"⟩
abbrev cX0_takeTurn : ByteArray := prog_1_method_27_code
def yX0_takeTurn : MethodName := ⟨RX0, "takeTurn", "()Z"⟩
abbrev cX0_losePower : ByteArray := prog_1_method_28_code
def yX0_losePower : MethodName := ⟨RX0, "losePower", "()V"⟩
abbrev cX0_answerOf : ByteArray := prog_1_method_29_code
def yX0_answerOf : MethodName := ⟨RX0, "answerOf", "(Z)I"⟩
abbrev cX0_slot : ByteArray := prog_1_method_30_code
def yX0_slot : MethodName := ⟨RX0, "slot", "(II)I"⟩
abbrev cX0_isAccount : ByteArray := prog_1_method_31_code
def yX0_isAccount : MethodName := ⟨RX0, "isAccount", "(I)Z"⟩
abbrev cX0_isCell : ByteArray := prog_1_method_32_code
def yX0_isCell : MethodName := ⟨RX0, "isCell", "(I)Z"⟩
abbrev cX0_makeWord : ByteArray := prog_1_method_33_code
def yX0_makeWord : MethodName := ⟨RX0, "makeWord", "(II)J"⟩
abbrev cX0_checkByte : ByteArray := prog_1_method_34_code
def yX0_checkByte : MethodName := ⟨RX0, "checkByte", "(J)I"⟩
abbrev cX0_isValid : ByteArray := prog_1_method_35_code
def yX0_isValid : MethodName := ⟨RX0, "isValid", "(J)Z"⟩
abbrev cX0_balanceOf : ByteArray := prog_1_method_36_code
def yX0_balanceOf : MethodName := ⟨RX0, "balanceOf", "(J)I"⟩
abbrev cX0_numberOf : ByteArray := prog_1_method_37_code
def yX0_numberOf : MethodName := ⟨RX0, "numberOf", "(J)I"⟩
abbrev cX0_isUnopened : ByteArray := prog_1_method_38_code
def yX0_isUnopened : MethodName := ⟨RX0, "isUnopened", "(J)Z"⟩
abbrev cX0_isOpen : ByteArray := prog_1_method_39_code
def yX0_isOpen : MethodName := ⟨RX0, "isOpen", "(J)Z"⟩
abbrev cX0_hasNextNumber : ByteArray := prog_1_method_40_code
def yX0_hasNextNumber : MethodName := ⟨RX0, "hasNextNumber", "(J)Z"⟩
abbrev cX0_isInt : ByteArray := prog_1_method_41_code
def yX0_isInt : MethodName := ⟨RX0, "isInt", "(J)Z"⟩
abbrev cX0_canTake : ByteArray := prog_1_method_42_code
def yX0_canTake : MethodName := ⟨RX0, "canTake", "(JJ)Z"⟩
abbrev cX0_nextWord : ByteArray := prog_1_method_43_code
def yX0_nextWord : MethodName := ⟨RX0, "nextWord", "(JI)J"⟩
abbrev cX0_betterOf : ByteArray := prog_1_method_44_code
def yX0_betterOf : MethodName := ⟨RX0, "betterOf", "(JJ)J"⟩
def RX1 : String := "FadeLedgerModel"
def TX1 : u_T := fun k => match k with
  | 0 => ("FadeLedgerModel", "words", "[J", true)
  | 1 => ("FadeLedgerModel", "losses", "[I", true)
  | 2 => ("FadeLedgerModel", "power", "Z", false)
  | 3 => ("FadeLedgerModel", "left", "I", false)
  | 4 => ("FadeLedgerModel", "reads", "I", false)
  | 5 => ("FadeLedgerModel", "writes", "I", false)
  | 6 => ("FadeLedgerModel", "kinds", "[I", true)
  | 7 => ("FadeLedgerModel", "places", "[I", true)
  | 8 => ("FadeLedgerModel", "puts", "[J", true)
  | 9 => ("FadeLedgerModel", "turns", "I", false)
  | _ => ("FadeLedgerModel", "bests", "[J", true)
def tyX1 : Nat → FieldType := fun k => match k with
  | 0 => .array .long
  | 1 => .array .int
  | 2 => .boolean
  | 3 => .int
  | 4 => .int
  | 5 => .int
  | 6 => .array .int
  | 7 => .array .int
  | 8 => .array .long
  | 9 => .int
  | _ => .array .long
abbrev wsX10 : List Cond := u_ws RX1 TX1 11
theorem nmX1 : ∀ a, a < 11 → ∀ b, b < 11 → a ≠ b → (TX1 a).2.1 ≠ (TX1 b).2.1 := by decide +kernel
theorem tyX1_ok : ∀ k, k < 11 → parseFieldDescriptor (TX1 k).2.2.1 = some (tyX1 k) := by decide +kernel
abbrev cX1_init : ByteArray := prog_3_method_1_code
def yX1_init : MethodName := ⟨RX1, "<init>", "()V"⟩
abbrev cX1_seal : ByteArray := prog_3_method_2_code
def yX1_seal : MethodName := ⟨RX1, "seal", "(J)J"⟩
abbrev cX1_isValid : ByteArray := prog_3_method_3_code
def yX1_isValid : MethodName := ⟨RX1, "isValid", "(J)Z"⟩
abbrev cX1_balanceOf : ByteArray := prog_3_method_4_code
def yX1_balanceOf : MethodName := ⟨RX1, "balanceOf", "(J)I"⟩
abbrev cX1_numberOf : ByteArray := prog_3_method_5_code
def yX1_numberOf : MethodName := ⟨RX1, "numberOf", "(J)I"⟩
abbrev cX1_wordOf : ByteArray := prog_3_method_6_code
def yX1_wordOf : MethodName := ⟨RX1, "wordOf", "(II)J"⟩
abbrev cX1_isOpen : ByteArray := prog_3_method_7_code
def yX1_isOpen : MethodName := ⟨RX1, "isOpen", "(J)Z"⟩
abbrev cX1_isInt : ByteArray := prog_3_method_8_code
def yX1_isInt : MethodName := ⟨RX1, "isInt", "(J)Z"⟩
abbrev cX1_isAccount : ByteArray := prog_3_method_9_code
def yX1_isAccount : MethodName := ⟨RX1, "isAccount", "(I)Z"⟩
abbrev cX1_turn : ByteArray := prog_3_method_10_code
def yX1_turn : MethodName := ⟨RX1, "turn", "(IIIJ)V"⟩
abbrev cX1_look : ByteArray := prog_3_method_11_code
def yX1_look : MethodName := ⟨RX1, "look", "(I)V"⟩
abbrev cX1_putAll : ByteArray := prog_3_method_12_code
def yX1_putAll : MethodName := ⟨RX1, "putAll", "(IJ)V"⟩
abbrev cX1_works : ByteArray := prog_3_method_13_code
def yX1_works : MethodName := ⟨RX1, "works", "()Z"⟩
abbrev cX1_open : ByteArray := prog_3_method_14_code
def yX1_open : MethodName := ⟨RX1, "open", "(II)I"⟩
abbrev cX1_balance : ByteArray := prog_3_method_15_code
def yX1_balance : MethodName := ⟨RX1, "balance", "(I)J"⟩
abbrev cX1_post : ByteArray := prog_3_method_16_code
def yX1_post : MethodName := ⟨RX1, "post", "(II)I"⟩
abbrev cX1_canBe : ByteArray := prog_3_method_17_code
def yX1_canBe : MethodName := ⟨RX1, "canBe", "(JJ)Z"⟩
abbrev cX1_transfer : ByteArray := prog_3_method_18_code
def yX1_transfer : MethodName := ⟨RX1, "transfer", "(III)I"⟩
abbrev cX1_total : ByteArray := prog_3_method_19_code
def yX1_total : MethodName := ⟨RX1, "total", "()J"⟩
abbrev cX1_number : ByteArray := prog_3_method_20_code
def yX1_number : MethodName := ⟨RX1, "number", "(I)I"⟩
abbrev cX1_failAfter : ByteArray := prog_3_method_21_code
def yX1_failAfter : MethodName := ⟨RX1, "failAfter", "(I)Z"⟩
abbrev cX1_fail : ByteArray := prog_3_method_22_code
def yX1_fail : MethodName := ⟨RX1, "fail", "()Z"⟩
abbrev cX1_best : ByteArray := prog_3_method_23_code
def yX1_best : MethodName := ⟨RX1, "best", "(I)J"⟩
abbrev cX1_mend : ByteArray := prog_3_method_24_code
def yX1_mend : MethodName := ⟨RX1, "mend", "(I)V"⟩
abbrev cX1_settle : ByteArray := prog_3_method_25_code
def yX1_settle : MethodName := ⟨RX1, "settle", "(III)V"⟩
abbrev cX1_mount : ByteArray := prog_3_method_26_code
def yX1_mount : MethodName := ⟨RX1, "mount", "()I"⟩
abbrev cX1_on : ByteArray := prog_3_method_27_code
def yX1_on : MethodName := ⟨RX1, "on", "()Z"⟩
abbrev cX1_lost : ByteArray := prog_3_method_28_code
def yX1_lost : MethodName := ⟨RX1, "lost", "(I)I"⟩
abbrev cX1_word : ByteArray := prog_3_method_29_code
def yX1_word : MethodName := ⟨RX1, "word", "(II)J"⟩
abbrev cX1_done : ByteArray := prog_3_method_30_code
def yX1_done : MethodName := ⟨RX1, "done", "(I)I"⟩
def RL : String := "FadeLedgerLaw"
abbrev cL_law : ByteArray := code
def yL_law : MethodName := ⟨RL, "law", "([I)Z"⟩
def wsX0_checkByte : List Cond := .code yX0_checkByte cX0_checkByte 4 (some .int) :: ([])
def wsX0_makeWord : List Cond := .code yX0_makeWord cX0_makeWord 4 (some .long) :: ([.methodLink RX0 144 yX0_checkByte, .static yX0_checkByte, .initialized RX0, .code yX0_checkByte cX0_checkByte 4 (some .int)])
def wsX0_init : List Cond := .code yX0_init cX0_init 4 none :: ([.methodLink RX0 1 objectInit, .instanceMethod objectInit, .code objectInit ⟨#[0xb1]⟩ 1 none, .arrayClass .long, .fieldLink RX0 9 "FadeLedger" "memory" "[J", .arrayClass .int, .fieldLink RX0 13 "FadeLedger" "invalidPlanes" "[I", .fieldLink RX0 17 "FadeLedger" "powered" "Z", .fieldLink RX0 21 "FadeLedger" "turnsLeft" "I", .methodLink RX0 25 yX0_makeWord, .static yX0_makeWord, .initialized RX0, .code yX0_makeWord cX0_makeWord 4 (some .long), .methodLink RX0 144 yX0_checkByte, .static yX0_checkByte, .code yX0_checkByte cX0_checkByte 4 (some .int)] ++ wsX00)
def wsX0_isAccount : List Cond := .code yX0_isAccount cX0_isAccount 1 (some .boolean) :: ([])
def wsX0_losePower : List Cond := .code yX0_losePower cX0_losePower 1 none :: ([.fieldLink RX0 17 "FadeLedger" "powered" "Z", .fieldLink RX0 21 "FadeLedger" "turnsLeft" "I"] ++ wsX00)
def wsX0_takeTurn : List Cond := .code yX0_takeTurn cX0_takeTurn 1 (some .boolean) :: ([.fieldLink RX0 17 "FadeLedger" "powered" "Z", .fieldLink RX0 21 "FadeLedger" "turnsLeft" "I", .methodLink RX0 93 yX0_losePower, .instanceMethod yX0_losePower, .selects RX0 yX0_losePower yX0_losePower, .initialized RX0, .code yX0_losePower cX0_losePower 1 none] ++ wsX00)
def wsX0_slot : List Cond := .code yX0_slot cX0_slot 2 (some .int) :: ([])
def wsX0_readTurn : List Cond := .code yX0_readTurn cX0_readTurn 6 (some .long) :: ([.fieldLink RX0 114 "FadeLedger" "reads" "I", .fieldLink RX0 9 "FadeLedger" "memory" "[J", .methodLink RX0 141 yX0_takeTurn, .instanceMethod yX0_takeTurn, .selects RX0 yX0_takeTurn yX0_takeTurn, .initialized RX0, .code yX0_takeTurn cX0_takeTurn 1 (some .boolean), .fieldLink RX0 17 "FadeLedger" "powered" "Z", .fieldLink RX0 21 "FadeLedger" "turnsLeft" "I", .methodLink RX0 93 yX0_losePower, .instanceMethod yX0_losePower, .selects RX0 yX0_losePower yX0_losePower, .code yX0_losePower cX0_losePower 1 none, .methodLink RX0 110 yX0_slot, .static yX0_slot, .code yX0_slot cX0_slot 2 (some .int)] ++ wsX00)
def wsX0_isValid : List Cond := .code yX0_isValid cX0_isValid 2 (some .boolean) :: ([.constantLong RX0 147 (255), .methodLink RX0 144 yX0_checkByte, .static yX0_checkByte, .initialized RX0, .code yX0_checkByte cX0_checkByte 4 (some .int)])
def wsX0_numberOf : List Cond := .code yX0_numberOf cX0_numberOf 2 (some .int) :: ([.constant RX0 149 (16777215)])
def wsX0_isUnopened : List Cond := .code yX0_isUnopened cX0_isUnopened 2 (some .boolean) :: ([.methodLink RX0 60 yX0_isValid, .static yX0_isValid, .initialized RX0, .code yX0_isValid cX0_isValid 2 (some .boolean), .constantLong RX0 147 (255), .methodLink RX0 144 yX0_checkByte, .static yX0_checkByte, .code yX0_checkByte cX0_checkByte 4 (some .int), .methodLink RX0 80 yX0_numberOf, .static yX0_numberOf, .code yX0_numberOf cX0_numberOf 2 (some .int), .constant RX0 149 (16777215)])
def wsX0_writeTurn : List Cond := .code yX0_writeTurn cX0_writeTurn 5 none :: ([.fieldLink RX0 117 "FadeLedger" "writes" "I", .fieldLink RX0 9 "FadeLedger" "memory" "[J", .methodLink RX0 141 yX0_takeTurn, .instanceMethod yX0_takeTurn, .selects RX0 yX0_takeTurn yX0_takeTurn, .initialized RX0, .code yX0_takeTurn cX0_takeTurn 1 (some .boolean), .fieldLink RX0 17 "FadeLedger" "powered" "Z", .fieldLink RX0 21 "FadeLedger" "turnsLeft" "I", .methodLink RX0 93 yX0_losePower, .instanceMethod yX0_losePower, .selects RX0 yX0_losePower yX0_losePower, .code yX0_losePower cX0_losePower 1 none, .methodLink RX0 110 yX0_slot, .static yX0_slot, .code yX0_slot cX0_slot 2 (some .int)] ++ wsX00)
def wsX0_put : List Cond := .code yX0_put cX0_put 5 none :: ([.methodLink RX0 44 yX0_writeTurn, .instanceMethod yX0_writeTurn, .selects RX0 yX0_writeTurn yX0_writeTurn, .initialized RX0, .code yX0_writeTurn cX0_writeTurn 5 none, .fieldLink RX0 117 "FadeLedger" "writes" "I", .fieldLink RX0 9 "FadeLedger" "memory" "[J", .methodLink RX0 141 yX0_takeTurn, .instanceMethod yX0_takeTurn, .selects RX0 yX0_takeTurn yX0_takeTurn, .code yX0_takeTurn cX0_takeTurn 1 (some .boolean), .fieldLink RX0 17 "FadeLedger" "powered" "Z", .fieldLink RX0 21 "FadeLedger" "turnsLeft" "I", .methodLink RX0 93 yX0_losePower, .instanceMethod yX0_losePower, .selects RX0 yX0_losePower yX0_losePower, .code yX0_losePower cX0_losePower 1 none, .methodLink RX0 110 yX0_slot, .static yX0_slot, .code yX0_slot cX0_slot 2 (some .int)] ++ wsX00)
def wsX0_answerOf : List Cond := .code yX0_answerOf cX0_answerOf 2 (some .int) :: ([.fieldLink RX0 17 "FadeLedger" "powered" "Z"] ++ wsX00)
def wsX0_open_r1 : List Cond := [Cond.methodLink RX0 29 yX0_isAccount, Cond.static yX0_isAccount, Cond.initialized RX0, Cond.code yX0_isAccount cX0_isAccount 1 (some .boolean), Cond.methodLink RX0 33 yX0_readTurn, Cond.instanceMethod yX0_readTurn, Cond.selects RX0 yX0_readTurn yX0_readTurn, Cond.code yX0_readTurn cX0_readTurn 6 (some .long), Cond.fieldLink RX0 114 "FadeLedger" "reads" "I", Cond.fieldLink RX0 9 "FadeLedger" "memory" "[J", Cond.methodLink RX0 141 yX0_takeTurn, Cond.instanceMethod yX0_takeTurn, Cond.selects RX0 yX0_takeTurn yX0_takeTurn, Cond.code yX0_takeTurn cX0_takeTurn 1 (some .boolean), Cond.fieldLink RX0 17 "FadeLedger" "powered" "Z", Cond.fieldLink RX0 21 "FadeLedger" "turnsLeft" "I", Cond.methodLink RX0 93 yX0_losePower, Cond.instanceMethod yX0_losePower, Cond.selects RX0 yX0_losePower yX0_losePower, Cond.code yX0_losePower cX0_losePower 1 none, Cond.methodLink RX0 110 yX0_slot, Cond.static yX0_slot, Cond.code yX0_slot cX0_slot 2 (some .int), Cond.methodLink RX0 36 yX0_isUnopened]
def wsX0_open_r2 : List Cond := [Cond.static yX0_isUnopened, Cond.code yX0_isUnopened cX0_isUnopened 2 (some .boolean), Cond.methodLink RX0 60 yX0_isValid, Cond.static yX0_isValid, Cond.code yX0_isValid cX0_isValid 2 (some .boolean), Cond.constantLong RX0 147 (255), Cond.methodLink RX0 144 yX0_checkByte, Cond.static yX0_checkByte, Cond.code yX0_checkByte cX0_checkByte 4 (some .int), Cond.methodLink RX0 80 yX0_numberOf, Cond.static yX0_numberOf, Cond.code yX0_numberOf cX0_numberOf 2 (some .int), Cond.constant RX0 149 (16777215), Cond.methodLink RX0 25 yX0_makeWord, Cond.static yX0_makeWord, Cond.code yX0_makeWord cX0_makeWord 4 (some .long), Cond.methodLink RX0 40 yX0_put, Cond.instanceMethod yX0_put, Cond.selects RX0 yX0_put yX0_put, Cond.code yX0_put cX0_put 5 none, Cond.methodLink RX0 44 yX0_writeTurn, Cond.instanceMethod yX0_writeTurn, Cond.selects RX0 yX0_writeTurn yX0_writeTurn, Cond.code yX0_writeTurn cX0_writeTurn 5 none]
def wsX0_open_r3 : List Cond := [Cond.fieldLink RX0 117 "FadeLedger" "writes" "I", Cond.methodLink RX0 48 yX0_answerOf, Cond.instanceMethod yX0_answerOf, Cond.selects RX0 yX0_answerOf yX0_answerOf, Cond.code yX0_answerOf cX0_answerOf 2 (some .int)]
def wsX0_open : List Cond := .code yX0_open cX0_open 6 (some .int) :: ((wsX0_open_r1 ++ (wsX0_open_r2 ++ wsX0_open_r3)) ++ wsX00)
def wsX0_look_r1 : List Cond := [Cond.methodLink RX0 33 yX0_readTurn, Cond.instanceMethod yX0_readTurn, Cond.selects RX0 yX0_readTurn yX0_readTurn, Cond.initialized RX0, Cond.code yX0_readTurn cX0_readTurn 6 (some .long), Cond.fieldLink RX0 114 "FadeLedger" "reads" "I", Cond.fieldLink RX0 9 "FadeLedger" "memory" "[J", Cond.methodLink RX0 141 yX0_takeTurn, Cond.instanceMethod yX0_takeTurn, Cond.selects RX0 yX0_takeTurn yX0_takeTurn, Cond.code yX0_takeTurn cX0_takeTurn 1 (some .boolean), Cond.fieldLink RX0 17 "FadeLedger" "powered" "Z", Cond.fieldLink RX0 21 "FadeLedger" "turnsLeft" "I", Cond.methodLink RX0 93 yX0_losePower, Cond.instanceMethod yX0_losePower, Cond.selects RX0 yX0_losePower yX0_losePower, Cond.code yX0_losePower cX0_losePower 1 none, Cond.methodLink RX0 110 yX0_slot, Cond.static yX0_slot, Cond.code yX0_slot cX0_slot 2 (some .int), Cond.methodLink RX0 44 yX0_writeTurn, Cond.instanceMethod yX0_writeTurn, Cond.selects RX0 yX0_writeTurn yX0_writeTurn, Cond.code yX0_writeTurn cX0_writeTurn 5 none]
def wsX0_look_r2 : List Cond := [Cond.fieldLink RX0 117 "FadeLedger" "writes" "I"]
def wsX0_look : List Cond := .code yX0_look cX0_look 4 (some .long) :: ((wsX0_look_r1 ++ wsX0_look_r2) ++ wsX00)
def wsX0_balanceOf : List Cond := .code yX0_balanceOf cX0_balanceOf 2 (some .int) :: ([])
def wsX0_balance_r1 : List Cond := [Cond.constantLong RX0 52 (8796093022208), Cond.fieldLink RX0 17 "FadeLedger" "powered" "Z", Cond.constantLong RX0 58 (4398046511104), Cond.constantLong RX0 63 (2199023255552), Cond.constantLong RX0 65 (1099511627776), Cond.methodLink RX0 29 yX0_isAccount, Cond.static yX0_isAccount, Cond.initialized RX0, Cond.code yX0_isAccount cX0_isAccount 1 (some .boolean), Cond.methodLink RX0 54 yX0_look, Cond.instanceMethod yX0_look, Cond.selects RX0 yX0_look yX0_look, Cond.code yX0_look cX0_look 4 (some .long), Cond.methodLink RX0 33 yX0_readTurn, Cond.instanceMethod yX0_readTurn, Cond.selects RX0 yX0_readTurn yX0_readTurn, Cond.code yX0_readTurn cX0_readTurn 6 (some .long), Cond.fieldLink RX0 114 "FadeLedger" "reads" "I", Cond.fieldLink RX0 9 "FadeLedger" "memory" "[J", Cond.methodLink RX0 141 yX0_takeTurn, Cond.instanceMethod yX0_takeTurn, Cond.selects RX0 yX0_takeTurn yX0_takeTurn, Cond.code yX0_takeTurn cX0_takeTurn 1 (some .boolean), Cond.fieldLink RX0 21 "FadeLedger" "turnsLeft" "I"]
def wsX0_balance_r2 : List Cond := [Cond.methodLink RX0 93 yX0_losePower, Cond.instanceMethod yX0_losePower, Cond.selects RX0 yX0_losePower yX0_losePower, Cond.code yX0_losePower cX0_losePower 1 none, Cond.methodLink RX0 110 yX0_slot, Cond.static yX0_slot, Cond.code yX0_slot cX0_slot 2 (some .int), Cond.methodLink RX0 44 yX0_writeTurn, Cond.instanceMethod yX0_writeTurn, Cond.selects RX0 yX0_writeTurn yX0_writeTurn, Cond.code yX0_writeTurn cX0_writeTurn 5 none, Cond.fieldLink RX0 117 "FadeLedger" "writes" "I", Cond.methodLink RX0 60 yX0_isValid, Cond.static yX0_isValid, Cond.code yX0_isValid cX0_isValid 2 (some .boolean), Cond.constantLong RX0 147 (255), Cond.methodLink RX0 144 yX0_checkByte, Cond.static yX0_checkByte, Cond.code yX0_checkByte cX0_checkByte 4 (some .int), Cond.methodLink RX0 36 yX0_isUnopened, Cond.static yX0_isUnopened, Cond.code yX0_isUnopened cX0_isUnopened 2 (some .boolean), Cond.methodLink RX0 80 yX0_numberOf, Cond.static yX0_numberOf]
def wsX0_balance_r3 : List Cond := [Cond.code yX0_numberOf cX0_numberOf 2 (some .int), Cond.constant RX0 149 (16777215), Cond.methodLink RX0 67 yX0_balanceOf, Cond.static yX0_balanceOf, Cond.code yX0_balanceOf cX0_balanceOf 2 (some .int)]
def wsX0_balance : List Cond := .code yX0_balance cX0_balance 4 (some .long) :: ((wsX0_balance_r1 ++ (wsX0_balance_r2 ++ wsX0_balance_r3)) ++ wsX00)
def wsX0_isOpen : List Cond := .code yX0_isOpen cX0_isOpen 2 (some .boolean) :: ([.methodLink RX0 60 yX0_isValid, .static yX0_isValid, .initialized RX0, .code yX0_isValid cX0_isValid 2 (some .boolean), .constantLong RX0 147 (255), .methodLink RX0 144 yX0_checkByte, .static yX0_checkByte, .code yX0_checkByte cX0_checkByte 4 (some .int), .methodLink RX0 80 yX0_numberOf, .static yX0_numberOf, .code yX0_numberOf cX0_numberOf 2 (some .int), .constant RX0 149 (16777215)])
def wsX0_hasNextNumber : List Cond := .code yX0_hasNextNumber cX0_hasNextNumber 2 (some .boolean) :: ([.constant RX0 149 (16777215), .methodLink RX0 80 yX0_numberOf, .static yX0_numberOf, .initialized RX0, .code yX0_numberOf cX0_numberOf 2 (some .int)])
def wsX0_isInt : List Cond := .code yX0_isInt cX0_isInt 2 (some .boolean) :: ([])
def wsX0_post_r1 : List Cond := [Cond.methodLink RX0 29 yX0_isAccount, Cond.static yX0_isAccount, Cond.initialized RX0, Cond.code yX0_isAccount cX0_isAccount 1 (some .boolean), Cond.methodLink RX0 33 yX0_readTurn, Cond.instanceMethod yX0_readTurn, Cond.selects RX0 yX0_readTurn yX0_readTurn, Cond.code yX0_readTurn cX0_readTurn 6 (some .long), Cond.fieldLink RX0 114 "FadeLedger" "reads" "I", Cond.fieldLink RX0 9 "FadeLedger" "memory" "[J", Cond.methodLink RX0 141 yX0_takeTurn, Cond.instanceMethod yX0_takeTurn, Cond.selects RX0 yX0_takeTurn yX0_takeTurn, Cond.code yX0_takeTurn cX0_takeTurn 1 (some .boolean), Cond.fieldLink RX0 17 "FadeLedger" "powered" "Z", Cond.fieldLink RX0 21 "FadeLedger" "turnsLeft" "I", Cond.methodLink RX0 93 yX0_losePower, Cond.instanceMethod yX0_losePower, Cond.selects RX0 yX0_losePower yX0_losePower, Cond.code yX0_losePower cX0_losePower 1 none, Cond.methodLink RX0 110 yX0_slot, Cond.static yX0_slot, Cond.code yX0_slot cX0_slot 2 (some .int), Cond.methodLink RX0 67 yX0_balanceOf]
def wsX0_post_r2 : List Cond := [Cond.static yX0_balanceOf, Cond.code yX0_balanceOf cX0_balanceOf 2 (some .int), Cond.methodLink RX0 71 yX0_isOpen, Cond.static yX0_isOpen, Cond.code yX0_isOpen cX0_isOpen 2 (some .boolean), Cond.methodLink RX0 60 yX0_isValid, Cond.static yX0_isValid, Cond.code yX0_isValid cX0_isValid 2 (some .boolean), Cond.constantLong RX0 147 (255), Cond.methodLink RX0 144 yX0_checkByte, Cond.static yX0_checkByte, Cond.code yX0_checkByte cX0_checkByte 4 (some .int), Cond.methodLink RX0 80 yX0_numberOf, Cond.static yX0_numberOf, Cond.code yX0_numberOf cX0_numberOf 2 (some .int), Cond.constant RX0 149 (16777215), Cond.methodLink RX0 74 yX0_hasNextNumber, Cond.static yX0_hasNextNumber, Cond.code yX0_hasNextNumber cX0_hasNextNumber 2 (some .boolean), Cond.methodLink RX0 77 yX0_isInt, Cond.static yX0_isInt, Cond.code yX0_isInt cX0_isInt 2 (some .boolean), Cond.methodLink RX0 25 yX0_makeWord, Cond.static yX0_makeWord]
def wsX0_post_r3 : List Cond := [Cond.code yX0_makeWord cX0_makeWord 4 (some .long), Cond.methodLink RX0 40 yX0_put, Cond.instanceMethod yX0_put, Cond.selects RX0 yX0_put yX0_put, Cond.code yX0_put cX0_put 5 none, Cond.methodLink RX0 44 yX0_writeTurn, Cond.instanceMethod yX0_writeTurn, Cond.selects RX0 yX0_writeTurn yX0_writeTurn, Cond.code yX0_writeTurn cX0_writeTurn 5 none, Cond.fieldLink RX0 117 "FadeLedger" "writes" "I", Cond.methodLink RX0 48 yX0_answerOf, Cond.instanceMethod yX0_answerOf, Cond.selects RX0 yX0_answerOf yX0_answerOf, Cond.code yX0_answerOf cX0_answerOf 2 (some .int)]
def wsX0_post : List Cond := .code yX0_post cX0_post 8 (some .int) :: ((wsX0_post_r1 ++ (wsX0_post_r2 ++ wsX0_post_r3)) ++ wsX00)
def wsX0_canTake : List Cond := .code yX0_canTake cX0_canTake 6 (some .boolean) :: ([.methodLink RX0 67 yX0_balanceOf, .static yX0_balanceOf, .initialized RX0, .code yX0_balanceOf cX0_balanceOf 2 (some .int), .methodLink RX0 71 yX0_isOpen, .static yX0_isOpen, .code yX0_isOpen cX0_isOpen 2 (some .boolean), .methodLink RX0 60 yX0_isValid, .static yX0_isValid, .code yX0_isValid cX0_isValid 2 (some .boolean), .constantLong RX0 147 (255), .methodLink RX0 144 yX0_checkByte, .static yX0_checkByte, .code yX0_checkByte cX0_checkByte 4 (some .int), .methodLink RX0 80 yX0_numberOf, .static yX0_numberOf, .code yX0_numberOf cX0_numberOf 2 (some .int), .constant RX0 149 (16777215), .methodLink RX0 74 yX0_hasNextNumber, .static yX0_hasNextNumber, .code yX0_hasNextNumber cX0_hasNextNumber 2 (some .boolean), .methodLink RX0 77 yX0_isInt, .static yX0_isInt, .code yX0_isInt cX0_isInt 2 (some .boolean)])
def wsX0_nextWord : List Cond := .code yX0_nextWord cX0_nextWord 3 (some .long) :: ([.methodLink RX0 67 yX0_balanceOf, .static yX0_balanceOf, .initialized RX0, .code yX0_balanceOf cX0_balanceOf 2 (some .int), .methodLink RX0 80 yX0_numberOf, .static yX0_numberOf, .code yX0_numberOf cX0_numberOf 2 (some .int), .constant RX0 149 (16777215), .methodLink RX0 25 yX0_makeWord, .static yX0_makeWord, .code yX0_makeWord cX0_makeWord 4 (some .long), .methodLink RX0 144 yX0_checkByte, .static yX0_checkByte, .code yX0_checkByte cX0_checkByte 4 (some .int)])
def wsX0_transfer_r1 : List Cond := [Cond.constant RX0 91 (65536), Cond.constant RX0 92 (131072), Cond.methodLink RX0 29 yX0_isAccount, Cond.static yX0_isAccount, Cond.initialized RX0, Cond.code yX0_isAccount cX0_isAccount 1 (some .boolean), Cond.methodLink RX0 54 yX0_look, Cond.instanceMethod yX0_look, Cond.selects RX0 yX0_look yX0_look, Cond.code yX0_look cX0_look 4 (some .long), Cond.methodLink RX0 33 yX0_readTurn, Cond.instanceMethod yX0_readTurn, Cond.selects RX0 yX0_readTurn yX0_readTurn, Cond.code yX0_readTurn cX0_readTurn 6 (some .long), Cond.fieldLink RX0 114 "FadeLedger" "reads" "I", Cond.fieldLink RX0 9 "FadeLedger" "memory" "[J", Cond.methodLink RX0 141 yX0_takeTurn, Cond.instanceMethod yX0_takeTurn, Cond.selects RX0 yX0_takeTurn yX0_takeTurn, Cond.code yX0_takeTurn cX0_takeTurn 1 (some .boolean), Cond.fieldLink RX0 17 "FadeLedger" "powered" "Z", Cond.fieldLink RX0 21 "FadeLedger" "turnsLeft" "I", Cond.methodLink RX0 93 yX0_losePower, Cond.instanceMethod yX0_losePower]
def wsX0_transfer_r2 : List Cond := [Cond.selects RX0 yX0_losePower yX0_losePower, Cond.code yX0_losePower cX0_losePower 1 none, Cond.methodLink RX0 110 yX0_slot, Cond.static yX0_slot, Cond.code yX0_slot cX0_slot 2 (some .int), Cond.methodLink RX0 44 yX0_writeTurn, Cond.instanceMethod yX0_writeTurn, Cond.selects RX0 yX0_writeTurn yX0_writeTurn, Cond.code yX0_writeTurn cX0_writeTurn 5 none, Cond.fieldLink RX0 117 "FadeLedger" "writes" "I", Cond.methodLink RX0 83 yX0_canTake, Cond.static yX0_canTake, Cond.code yX0_canTake cX0_canTake 6 (some .boolean), Cond.methodLink RX0 67 yX0_balanceOf, Cond.static yX0_balanceOf, Cond.code yX0_balanceOf cX0_balanceOf 2 (some .int), Cond.methodLink RX0 71 yX0_isOpen, Cond.static yX0_isOpen, Cond.code yX0_isOpen cX0_isOpen 2 (some .boolean), Cond.methodLink RX0 60 yX0_isValid, Cond.static yX0_isValid, Cond.code yX0_isValid cX0_isValid 2 (some .boolean), Cond.constantLong RX0 147 (255), Cond.methodLink RX0 144 yX0_checkByte]
def wsX0_transfer_r3 : List Cond := [Cond.static yX0_checkByte, Cond.code yX0_checkByte cX0_checkByte 4 (some .int), Cond.methodLink RX0 80 yX0_numberOf, Cond.static yX0_numberOf, Cond.code yX0_numberOf cX0_numberOf 2 (some .int), Cond.constant RX0 149 (16777215), Cond.methodLink RX0 74 yX0_hasNextNumber, Cond.static yX0_hasNextNumber, Cond.code yX0_hasNextNumber cX0_hasNextNumber 2 (some .boolean), Cond.methodLink RX0 77 yX0_isInt, Cond.static yX0_isInt, Cond.code yX0_isInt cX0_isInt 2 (some .boolean), Cond.methodLink RX0 87 yX0_nextWord, Cond.static yX0_nextWord, Cond.code yX0_nextWord cX0_nextWord 3 (some .long), Cond.methodLink RX0 25 yX0_makeWord, Cond.static yX0_makeWord, Cond.code yX0_makeWord cX0_makeWord 4 (some .long), Cond.methodLink RX0 40 yX0_put, Cond.instanceMethod yX0_put, Cond.selects RX0 yX0_put yX0_put, Cond.code yX0_put cX0_put 5 none, Cond.methodLink RX0 48 yX0_answerOf, Cond.instanceMethod yX0_answerOf]
def wsX0_transfer_r4 : List Cond := [Cond.selects RX0 yX0_answerOf yX0_answerOf, Cond.code yX0_answerOf cX0_answerOf 2 (some .int)]
def wsX0_transfer : List Cond := .code yX0_transfer cX0_transfer 17 (some .int) :: ((wsX0_transfer_r1 ++ (wsX0_transfer_r2 ++ (wsX0_transfer_r3 ++ wsX0_transfer_r4))) ++ wsX00)
def wsX0_total_r1 : List Cond := [Cond.fieldLink RX0 17 "FadeLedger" "powered" "Z", Cond.constantLong RX0 58 (4398046511104), Cond.methodLink RX0 54 yX0_look, Cond.instanceMethod yX0_look, Cond.selects RX0 yX0_look yX0_look, Cond.initialized RX0, Cond.code yX0_look cX0_look 4 (some .long), Cond.methodLink RX0 33 yX0_readTurn, Cond.instanceMethod yX0_readTurn, Cond.selects RX0 yX0_readTurn yX0_readTurn, Cond.code yX0_readTurn cX0_readTurn 6 (some .long), Cond.fieldLink RX0 114 "FadeLedger" "reads" "I", Cond.fieldLink RX0 9 "FadeLedger" "memory" "[J", Cond.methodLink RX0 141 yX0_takeTurn, Cond.instanceMethod yX0_takeTurn, Cond.selects RX0 yX0_takeTurn yX0_takeTurn, Cond.code yX0_takeTurn cX0_takeTurn 1 (some .boolean), Cond.fieldLink RX0 21 "FadeLedger" "turnsLeft" "I", Cond.methodLink RX0 93 yX0_losePower, Cond.instanceMethod yX0_losePower, Cond.selects RX0 yX0_losePower yX0_losePower, Cond.code yX0_losePower cX0_losePower 1 none, Cond.methodLink RX0 110 yX0_slot, Cond.static yX0_slot]
def wsX0_total_r2 : List Cond := [Cond.code yX0_slot cX0_slot 2 (some .int), Cond.methodLink RX0 44 yX0_writeTurn, Cond.instanceMethod yX0_writeTurn, Cond.selects RX0 yX0_writeTurn yX0_writeTurn, Cond.code yX0_writeTurn cX0_writeTurn 5 none, Cond.fieldLink RX0 117 "FadeLedger" "writes" "I", Cond.methodLink RX0 71 yX0_isOpen, Cond.static yX0_isOpen, Cond.code yX0_isOpen cX0_isOpen 2 (some .boolean), Cond.methodLink RX0 60 yX0_isValid, Cond.static yX0_isValid, Cond.code yX0_isValid cX0_isValid 2 (some .boolean), Cond.constantLong RX0 147 (255), Cond.methodLink RX0 144 yX0_checkByte, Cond.static yX0_checkByte, Cond.code yX0_checkByte cX0_checkByte 4 (some .int), Cond.methodLink RX0 80 yX0_numberOf, Cond.static yX0_numberOf, Cond.code yX0_numberOf cX0_numberOf 2 (some .int), Cond.constant RX0 149 (16777215), Cond.methodLink RX0 67 yX0_balanceOf, Cond.static yX0_balanceOf, Cond.code yX0_balanceOf cX0_balanceOf 2 (some .int)]
def wsX0_total : List Cond := .code yX0_total cX0_total 6 (some .long) :: ((wsX0_total_r1 ++ wsX0_total_r2) ++ wsX00)
def wsX0_number_r1 : List Cond := [Cond.fieldLink RX0 17 "FadeLedger" "powered" "Z", Cond.methodLink RX0 29 yX0_isAccount, Cond.static yX0_isAccount, Cond.initialized RX0, Cond.code yX0_isAccount cX0_isAccount 1 (some .boolean), Cond.methodLink RX0 54 yX0_look, Cond.instanceMethod yX0_look, Cond.selects RX0 yX0_look yX0_look, Cond.code yX0_look cX0_look 4 (some .long), Cond.methodLink RX0 33 yX0_readTurn, Cond.instanceMethod yX0_readTurn, Cond.selects RX0 yX0_readTurn yX0_readTurn, Cond.code yX0_readTurn cX0_readTurn 6 (some .long), Cond.fieldLink RX0 114 "FadeLedger" "reads" "I", Cond.fieldLink RX0 9 "FadeLedger" "memory" "[J", Cond.methodLink RX0 141 yX0_takeTurn, Cond.instanceMethod yX0_takeTurn, Cond.selects RX0 yX0_takeTurn yX0_takeTurn, Cond.code yX0_takeTurn cX0_takeTurn 1 (some .boolean), Cond.fieldLink RX0 21 "FadeLedger" "turnsLeft" "I", Cond.methodLink RX0 93 yX0_losePower, Cond.instanceMethod yX0_losePower, Cond.selects RX0 yX0_losePower yX0_losePower, Cond.code yX0_losePower cX0_losePower 1 none]
def wsX0_number_r2 : List Cond := [Cond.methodLink RX0 110 yX0_slot, Cond.static yX0_slot, Cond.code yX0_slot cX0_slot 2 (some .int), Cond.methodLink RX0 44 yX0_writeTurn, Cond.instanceMethod yX0_writeTurn, Cond.selects RX0 yX0_writeTurn yX0_writeTurn, Cond.code yX0_writeTurn cX0_writeTurn 5 none, Cond.fieldLink RX0 117 "FadeLedger" "writes" "I", Cond.methodLink RX0 60 yX0_isValid, Cond.static yX0_isValid, Cond.code yX0_isValid cX0_isValid 2 (some .boolean), Cond.constantLong RX0 147 (255), Cond.methodLink RX0 144 yX0_checkByte, Cond.static yX0_checkByte, Cond.code yX0_checkByte cX0_checkByte 4 (some .int), Cond.methodLink RX0 80 yX0_numberOf, Cond.static yX0_numberOf, Cond.code yX0_numberOf cX0_numberOf 2 (some .int), Cond.constant RX0 149 (16777215)]
def wsX0_number : List Cond := .code yX0_number cX0_number 4 (some .int) :: ((wsX0_number_r1 ++ wsX0_number_r2) ++ wsX00)
def wsX0_failAfter : List Cond := .code yX0_failAfter cX0_failAfter 2 (some .boolean) :: ([.fieldLink RX0 21 "FadeLedger" "turnsLeft" "I"] ++ wsX00)
def wsX0_fail : List Cond := .code yX0_fail cX0_fail 1 (some .boolean) :: ([.fieldLink RX0 17 "FadeLedger" "powered" "Z", .methodLink RX0 93 yX0_losePower, .instanceMethod yX0_losePower, .selects RX0 yX0_losePower yX0_losePower, .initialized RX0, .code yX0_losePower cX0_losePower 1 none, .fieldLink RX0 21 "FadeLedger" "turnsLeft" "I"] ++ wsX00)
def wsX0_betterOf : List Cond := .code yX0_betterOf cX0_betterOf 4 (some .long) :: ([.methodLink RX0 60 yX0_isValid, .static yX0_isValid, .initialized RX0, .code yX0_isValid cX0_isValid 2 (some .boolean), .constantLong RX0 147 (255), .methodLink RX0 144 yX0_checkByte, .static yX0_checkByte, .code yX0_checkByte cX0_checkByte 4 (some .int), .methodLink RX0 80 yX0_numberOf, .static yX0_numberOf, .code yX0_numberOf cX0_numberOf 2 (some .int), .constant RX0 149 (16777215), .methodLink RX0 67 yX0_balanceOf, .static yX0_balanceOf, .code yX0_balanceOf cX0_balanceOf 2 (some .int)])
def wsX0_writeWhereOther : List Cond := .code yX0_writeWhereOther cX0_writeWhereOther 5 none :: ([.fieldLink RX0 9 "FadeLedger" "memory" "[J", .methodLink RX0 110 yX0_slot, .static yX0_slot, .initialized RX0, .code yX0_slot cX0_slot 2 (some .int), .methodLink RX0 44 yX0_writeTurn, .instanceMethod yX0_writeTurn, .selects RX0 yX0_writeTurn yX0_writeTurn, .code yX0_writeTurn cX0_writeTurn 5 none, .fieldLink RX0 117 "FadeLedger" "writes" "I", .methodLink RX0 141 yX0_takeTurn, .instanceMethod yX0_takeTurn, .selects RX0 yX0_takeTurn yX0_takeTurn, .code yX0_takeTurn cX0_takeTurn 1 (some .boolean), .fieldLink RX0 17 "FadeLedger" "powered" "Z", .fieldLink RX0 21 "FadeLedger" "turnsLeft" "I", .methodLink RX0 93 yX0_losePower, .instanceMethod yX0_losePower, .selects RX0 yX0_losePower yX0_losePower, .code yX0_losePower cX0_losePower 1 none] ++ wsX00)
def wsX0_restoreCell_r1 : List Cond := [Cond.fieldLink RX0 17 "FadeLedger" "powered" "Z", Cond.fieldLink RX0 13 "FadeLedger" "invalidPlanes" "[I", Cond.methodLink RX0 33 yX0_readTurn, Cond.instanceMethod yX0_readTurn, Cond.selects RX0 yX0_readTurn yX0_readTurn, Cond.initialized RX0, Cond.code yX0_readTurn cX0_readTurn 6 (some .long), Cond.fieldLink RX0 114 "FadeLedger" "reads" "I", Cond.fieldLink RX0 9 "FadeLedger" "memory" "[J", Cond.methodLink RX0 141 yX0_takeTurn, Cond.instanceMethod yX0_takeTurn, Cond.selects RX0 yX0_takeTurn yX0_takeTurn, Cond.code yX0_takeTurn cX0_takeTurn 1 (some .boolean), Cond.fieldLink RX0 21 "FadeLedger" "turnsLeft" "I", Cond.methodLink RX0 93 yX0_losePower, Cond.instanceMethod yX0_losePower, Cond.selects RX0 yX0_losePower yX0_losePower, Cond.code yX0_losePower cX0_losePower 1 none, Cond.methodLink RX0 110 yX0_slot, Cond.static yX0_slot, Cond.code yX0_slot cX0_slot 2 (some .int), Cond.methodLink RX0 120 yX0_betterOf, Cond.static yX0_betterOf, Cond.code yX0_betterOf cX0_betterOf 4 (some .long)]
def wsX0_restoreCell_r2 : List Cond := [Cond.methodLink RX0 60 yX0_isValid, Cond.static yX0_isValid, Cond.code yX0_isValid cX0_isValid 2 (some .boolean), Cond.constantLong RX0 147 (255), Cond.methodLink RX0 144 yX0_checkByte, Cond.static yX0_checkByte, Cond.code yX0_checkByte cX0_checkByte 4 (some .int), Cond.methodLink RX0 80 yX0_numberOf, Cond.static yX0_numberOf, Cond.code yX0_numberOf cX0_numberOf 2 (some .int), Cond.constant RX0 149 (16777215), Cond.methodLink RX0 67 yX0_balanceOf, Cond.static yX0_balanceOf, Cond.code yX0_balanceOf cX0_balanceOf 2 (some .int), Cond.methodLink RX0 44 yX0_writeTurn, Cond.instanceMethod yX0_writeTurn, Cond.selects RX0 yX0_writeTurn yX0_writeTurn, Cond.code yX0_writeTurn cX0_writeTurn 5 none, Cond.fieldLink RX0 117 "FadeLedger" "writes" "I", Cond.methodLink RX0 124 yX0_writeWhereOther, Cond.instanceMethod yX0_writeWhereOther, Cond.selects RX0 yX0_writeWhereOther yX0_writeWhereOther, Cond.code yX0_writeWhereOther cX0_writeWhereOther 5 none]
def wsX0_restoreCell : List Cond := .code yX0_restoreCell cX0_restoreCell 8 none :: ((wsX0_restoreCell_r1 ++ wsX0_restoreCell_r2) ++ wsX00)
def wsX0_foundIn : List Cond := .code yX0_foundIn cX0_foundIn 2 (some .long) :: ([.fieldLink RX0 9 "FadeLedger" "memory" "[J", .methodLink RX0 110 yX0_slot, .static yX0_slot, .initialized RX0, .code yX0_slot cX0_slot 2 (some .int)] ++ wsX00)
def wsX0_fromOf : List Cond := .code yX0_fromOf cX0_fromOf 1 (some .int) :: ([])
def wsX0_toOf : List Cond := .code yX0_toOf cX0_toOf 1 (some .int) :: ([])
def wsX0_slipIsPending_r1 : List Cond := [Cond.constant RX0 91 (65536), Cond.methodLink RX0 127 yX0_foundIn, Cond.instanceMethod yX0_foundIn, Cond.selects RX0 yX0_foundIn yX0_foundIn, Cond.initialized RX0, Cond.code yX0_foundIn cX0_foundIn 2 (some .long), Cond.fieldLink RX0 9 "FadeLedger" "memory" "[J", Cond.methodLink RX0 110 yX0_slot, Cond.static yX0_slot, Cond.code yX0_slot cX0_slot 2 (some .int), Cond.methodLink RX0 80 yX0_numberOf, Cond.static yX0_numberOf, Cond.code yX0_numberOf cX0_numberOf 2 (some .int), Cond.constant RX0 149 (16777215), Cond.methodLink RX0 60 yX0_isValid, Cond.static yX0_isValid, Cond.code yX0_isValid cX0_isValid 2 (some .boolean), Cond.constantLong RX0 147 (255), Cond.methodLink RX0 144 yX0_checkByte, Cond.static yX0_checkByte, Cond.code yX0_checkByte cX0_checkByte 4 (some .int), Cond.methodLink RX0 67 yX0_balanceOf, Cond.static yX0_balanceOf, Cond.code yX0_balanceOf cX0_balanceOf 2 (some .int)]
def wsX0_slipIsPending_r2 : List Cond := [Cond.methodLink RX0 130 yX0_fromOf, Cond.static yX0_fromOf, Cond.code yX0_fromOf cX0_fromOf 1 (some .int), Cond.methodLink RX0 29 yX0_isAccount, Cond.static yX0_isAccount, Cond.code yX0_isAccount cX0_isAccount 1 (some .boolean), Cond.methodLink RX0 134 yX0_toOf, Cond.static yX0_toOf, Cond.code yX0_toOf cX0_toOf 1 (some .int)]
def wsX0_slipIsPending : List Cond := .code yX0_slipIsPending cX0_slipIsPending 5 (some .boolean) :: ((wsX0_slipIsPending_r1 ++ wsX0_slipIsPending_r2) ++ wsX00)
def wsX0_finishAccount_r1 : List Cond := [Cond.methodLink RX0 127 yX0_foundIn, Cond.instanceMethod yX0_foundIn, Cond.selects RX0 yX0_foundIn yX0_foundIn, Cond.initialized RX0, Cond.code yX0_foundIn cX0_foundIn 2 (some .long), Cond.fieldLink RX0 9 "FadeLedger" "memory" "[J", Cond.methodLink RX0 110 yX0_slot, Cond.static yX0_slot, Cond.code yX0_slot cX0_slot 2 (some .int), Cond.methodLink RX0 60 yX0_isValid, Cond.static yX0_isValid, Cond.code yX0_isValid cX0_isValid 2 (some .boolean), Cond.constantLong RX0 147 (255), Cond.methodLink RX0 144 yX0_checkByte, Cond.static yX0_checkByte, Cond.code yX0_checkByte cX0_checkByte 4 (some .int), Cond.methodLink RX0 80 yX0_numberOf, Cond.static yX0_numberOf, Cond.code yX0_numberOf cX0_numberOf 2 (some .int), Cond.constant RX0 149 (16777215), Cond.methodLink RX0 67 yX0_balanceOf, Cond.static yX0_balanceOf, Cond.code yX0_balanceOf cX0_balanceOf 2 (some .int), Cond.methodLink RX0 25 yX0_makeWord]
def wsX0_finishAccount_r2 : List Cond := [Cond.static yX0_makeWord, Cond.code yX0_makeWord cX0_makeWord 4 (some .long), Cond.methodLink RX0 40 yX0_put, Cond.instanceMethod yX0_put, Cond.selects RX0 yX0_put yX0_put, Cond.code yX0_put cX0_put 5 none, Cond.methodLink RX0 44 yX0_writeTurn, Cond.instanceMethod yX0_writeTurn, Cond.selects RX0 yX0_writeTurn yX0_writeTurn, Cond.code yX0_writeTurn cX0_writeTurn 5 none, Cond.fieldLink RX0 117 "FadeLedger" "writes" "I", Cond.methodLink RX0 141 yX0_takeTurn, Cond.instanceMethod yX0_takeTurn, Cond.selects RX0 yX0_takeTurn yX0_takeTurn, Cond.code yX0_takeTurn cX0_takeTurn 1 (some .boolean), Cond.fieldLink RX0 17 "FadeLedger" "powered" "Z", Cond.fieldLink RX0 21 "FadeLedger" "turnsLeft" "I", Cond.methodLink RX0 93 yX0_losePower, Cond.instanceMethod yX0_losePower, Cond.selects RX0 yX0_losePower yX0_losePower, Cond.code yX0_losePower cX0_losePower 1 none]
def wsX0_finishAccount : List Cond := .code yX0_finishAccount cX0_finishAccount 6 none :: ((wsX0_finishAccount_r1 ++ wsX0_finishAccount_r2) ++ wsX00)
def wsX0_finishTransfer_r1 : List Cond := [Cond.constant RX0 91 (65536), Cond.constant RX0 92 (131072), Cond.methodLink RX0 127 yX0_foundIn, Cond.instanceMethod yX0_foundIn, Cond.selects RX0 yX0_foundIn yX0_foundIn, Cond.initialized RX0, Cond.code yX0_foundIn cX0_foundIn 2 (some .long), Cond.fieldLink RX0 9 "FadeLedger" "memory" "[J", Cond.methodLink RX0 110 yX0_slot, Cond.static yX0_slot, Cond.code yX0_slot cX0_slot 2 (some .int), Cond.methodLink RX0 67 yX0_balanceOf, Cond.static yX0_balanceOf, Cond.code yX0_balanceOf cX0_balanceOf 2 (some .int), Cond.methodLink RX0 130 yX0_fromOf, Cond.static yX0_fromOf, Cond.code yX0_fromOf cX0_fromOf 1 (some .int), Cond.methodLink RX0 137 yX0_finishAccount, Cond.instanceMethod yX0_finishAccount, Cond.selects RX0 yX0_finishAccount yX0_finishAccount, Cond.code yX0_finishAccount cX0_finishAccount 6 none, Cond.methodLink RX0 60 yX0_isValid, Cond.static yX0_isValid, Cond.code yX0_isValid cX0_isValid 2 (some .boolean)]
def wsX0_finishTransfer_r2 : List Cond := [Cond.constantLong RX0 147 (255), Cond.methodLink RX0 144 yX0_checkByte, Cond.static yX0_checkByte, Cond.code yX0_checkByte cX0_checkByte 4 (some .int), Cond.methodLink RX0 80 yX0_numberOf, Cond.static yX0_numberOf, Cond.code yX0_numberOf cX0_numberOf 2 (some .int), Cond.constant RX0 149 (16777215), Cond.methodLink RX0 25 yX0_makeWord, Cond.static yX0_makeWord, Cond.code yX0_makeWord cX0_makeWord 4 (some .long), Cond.methodLink RX0 40 yX0_put, Cond.instanceMethod yX0_put, Cond.selects RX0 yX0_put yX0_put, Cond.code yX0_put cX0_put 5 none, Cond.methodLink RX0 44 yX0_writeTurn, Cond.instanceMethod yX0_writeTurn, Cond.selects RX0 yX0_writeTurn yX0_writeTurn, Cond.code yX0_writeTurn cX0_writeTurn 5 none, Cond.fieldLink RX0 117 "FadeLedger" "writes" "I", Cond.methodLink RX0 141 yX0_takeTurn, Cond.instanceMethod yX0_takeTurn, Cond.selects RX0 yX0_takeTurn yX0_takeTurn, Cond.code yX0_takeTurn cX0_takeTurn 1 (some .boolean)]
def wsX0_finishTransfer_r3 : List Cond := [Cond.fieldLink RX0 17 "FadeLedger" "powered" "Z", Cond.fieldLink RX0 21 "FadeLedger" "turnsLeft" "I", Cond.methodLink RX0 93 yX0_losePower, Cond.instanceMethod yX0_losePower, Cond.selects RX0 yX0_losePower yX0_losePower, Cond.code yX0_losePower cX0_losePower 1 none, Cond.methodLink RX0 134 yX0_toOf, Cond.static yX0_toOf, Cond.code yX0_toOf cX0_toOf 1 (some .int)]
def wsX0_finishTransfer : List Cond := .code yX0_finishTransfer cX0_finishTransfer 5 none :: ((wsX0_finishTransfer_r1 ++ (wsX0_finishTransfer_r2 ++ wsX0_finishTransfer_r3)) ++ wsX00)
def wsX0_mount_r1 : List Cond := [Cond.fieldLink RX0 17 "FadeLedger" "powered" "Z", Cond.methodLink RX0 96 yX0_restoreCell, Cond.instanceMethod yX0_restoreCell, Cond.selects RX0 yX0_restoreCell yX0_restoreCell, Cond.initialized RX0, Cond.code yX0_restoreCell cX0_restoreCell 8 none, Cond.fieldLink RX0 13 "FadeLedger" "invalidPlanes" "[I", Cond.methodLink RX0 33 yX0_readTurn, Cond.instanceMethod yX0_readTurn, Cond.selects RX0 yX0_readTurn yX0_readTurn, Cond.code yX0_readTurn cX0_readTurn 6 (some .long), Cond.fieldLink RX0 114 "FadeLedger" "reads" "I", Cond.fieldLink RX0 9 "FadeLedger" "memory" "[J", Cond.methodLink RX0 141 yX0_takeTurn, Cond.instanceMethod yX0_takeTurn, Cond.selects RX0 yX0_takeTurn yX0_takeTurn, Cond.code yX0_takeTurn cX0_takeTurn 1 (some .boolean), Cond.fieldLink RX0 21 "FadeLedger" "turnsLeft" "I", Cond.methodLink RX0 93 yX0_losePower, Cond.instanceMethod yX0_losePower, Cond.selects RX0 yX0_losePower yX0_losePower, Cond.code yX0_losePower cX0_losePower 1 none, Cond.methodLink RX0 110 yX0_slot, Cond.static yX0_slot]
def wsX0_mount_r2 : List Cond := [Cond.code yX0_slot cX0_slot 2 (some .int), Cond.methodLink RX0 120 yX0_betterOf, Cond.static yX0_betterOf, Cond.code yX0_betterOf cX0_betterOf 4 (some .long), Cond.methodLink RX0 60 yX0_isValid, Cond.static yX0_isValid, Cond.code yX0_isValid cX0_isValid 2 (some .boolean), Cond.constantLong RX0 147 (255), Cond.methodLink RX0 144 yX0_checkByte, Cond.static yX0_checkByte, Cond.code yX0_checkByte cX0_checkByte 4 (some .int), Cond.methodLink RX0 80 yX0_numberOf, Cond.static yX0_numberOf, Cond.code yX0_numberOf cX0_numberOf 2 (some .int), Cond.constant RX0 149 (16777215), Cond.methodLink RX0 67 yX0_balanceOf, Cond.static yX0_balanceOf, Cond.code yX0_balanceOf cX0_balanceOf 2 (some .int), Cond.methodLink RX0 44 yX0_writeTurn, Cond.instanceMethod yX0_writeTurn, Cond.selects RX0 yX0_writeTurn yX0_writeTurn, Cond.code yX0_writeTurn cX0_writeTurn 5 none, Cond.fieldLink RX0 117 "FadeLedger" "writes" "I", Cond.methodLink RX0 124 yX0_writeWhereOther]
def wsX0_mount_r3 : List Cond := [Cond.instanceMethod yX0_writeWhereOther, Cond.selects RX0 yX0_writeWhereOther yX0_writeWhereOther, Cond.code yX0_writeWhereOther cX0_writeWhereOther 5 none, Cond.methodLink RX0 100 yX0_slipIsPending, Cond.instanceMethod yX0_slipIsPending, Cond.selects RX0 yX0_slipIsPending yX0_slipIsPending, Cond.code yX0_slipIsPending cX0_slipIsPending 5 (some .boolean), Cond.constant RX0 91 (65536), Cond.methodLink RX0 127 yX0_foundIn, Cond.instanceMethod yX0_foundIn, Cond.selects RX0 yX0_foundIn yX0_foundIn, Cond.code yX0_foundIn cX0_foundIn 2 (some .long), Cond.methodLink RX0 130 yX0_fromOf, Cond.static yX0_fromOf, Cond.code yX0_fromOf cX0_fromOf 1 (some .int), Cond.methodLink RX0 29 yX0_isAccount, Cond.static yX0_isAccount, Cond.code yX0_isAccount cX0_isAccount 1 (some .boolean), Cond.methodLink RX0 134 yX0_toOf, Cond.static yX0_toOf, Cond.code yX0_toOf cX0_toOf 1 (some .int), Cond.methodLink RX0 104 yX0_finishTransfer, Cond.instanceMethod yX0_finishTransfer, Cond.selects RX0 yX0_finishTransfer yX0_finishTransfer]
def wsX0_mount_r4 : List Cond := [Cond.code yX0_finishTransfer cX0_finishTransfer 5 none, Cond.constant RX0 92 (131072), Cond.methodLink RX0 137 yX0_finishAccount, Cond.instanceMethod yX0_finishAccount, Cond.selects RX0 yX0_finishAccount yX0_finishAccount, Cond.code yX0_finishAccount cX0_finishAccount 6 none, Cond.methodLink RX0 25 yX0_makeWord, Cond.static yX0_makeWord, Cond.code yX0_makeWord cX0_makeWord 4 (some .long), Cond.methodLink RX0 40 yX0_put, Cond.instanceMethod yX0_put, Cond.selects RX0 yX0_put yX0_put, Cond.code yX0_put cX0_put 5 none, Cond.methodLink RX0 48 yX0_answerOf, Cond.instanceMethod yX0_answerOf, Cond.selects RX0 yX0_answerOf yX0_answerOf, Cond.code yX0_answerOf cX0_answerOf 2 (some .int)]
def wsX0_mount : List Cond := .code yX0_mount cX0_mount 2 (some .int) :: ((wsX0_mount_r1 ++ (wsX0_mount_r2 ++ (wsX0_mount_r3 ++ wsX0_mount_r4))) ++ wsX00)
def wsX0_on : List Cond := .code yX0_on cX0_on 1 (some .boolean) :: ([.fieldLink RX0 17 "FadeLedger" "powered" "Z"] ++ wsX00)
def wsX0_isCell : List Cond := .code yX0_isCell cX0_isCell 1 (some .boolean) :: ([])
def wsX0_lost : List Cond := .code yX0_lost cX0_lost 2 (some .int) :: ([.fieldLink RX0 13 "FadeLedger" "invalidPlanes" "[I", .methodLink RX0 107 yX0_isCell, .static yX0_isCell, .initialized RX0, .code yX0_isCell cX0_isCell 1 (some .boolean)] ++ wsX00)
def wsX0_word : List Cond := .code yX0_word cX0_word 3 (some .long) :: ([.fieldLink RX0 9 "FadeLedger" "memory" "[J", .methodLink RX0 107 yX0_isCell, .static yX0_isCell, .initialized RX0, .code yX0_isCell cX0_isCell 1 (some .boolean), .methodLink RX0 110 yX0_slot, .static yX0_slot, .code yX0_slot cX0_slot 2 (some .int)] ++ wsX00)
def wsX0_done : List Cond := .code yX0_done cX0_done 2 (some .int) :: ([.fieldLink RX0 114 "FadeLedger" "reads" "I", .fieldLink RX0 117 "FadeLedger" "writes" "I"] ++ wsX00)
def wsX1_seal : List Cond := .code yX1_seal cX1_seal 5 (some .long) :: ([.constantLong RX1 41 (255), .constantLong RX1 43 (251)])
def wsX1_wordOf : List Cond := .code yX1_wordOf cX1_wordOf 4 (some .long) :: ([.methodLink RX1 45 yX1_seal, .static yX1_seal, .initialized RX1, .code yX1_seal cX1_seal 5 (some .long), .constantLong RX1 41 (255), .constantLong RX1 43 (251)])
def wsX1_init : List Cond := .code yX1_init cX1_init 2 none :: ([.methodLink RX1 1 objectInit, .instanceMethod objectInit, .code objectInit ⟨#[0xb1]⟩ 1 none, .arrayClass .long, .fieldLink RX1 7 "FadeLedgerModel" "words" "[J", .arrayClass .int, .fieldLink RX1 13 "FadeLedgerModel" "losses" "[I", .fieldLink RX1 17 "FadeLedgerModel" "power" "Z", .fieldLink RX1 21 "FadeLedgerModel" "left" "I", .fieldLink RX1 25 "FadeLedgerModel" "kinds" "[I", .fieldLink RX1 28 "FadeLedgerModel" "places" "[I", .fieldLink RX1 31 "FadeLedgerModel" "puts" "[J", .fieldLink RX1 34 "FadeLedgerModel" "bests" "[J", .methodLink RX1 37 yX1_wordOf, .static yX1_wordOf, .initialized RX1, .code yX1_wordOf cX1_wordOf 4 (some .long), .methodLink RX1 45 yX1_seal, .static yX1_seal, .code yX1_seal cX1_seal 5 (some .long), .constantLong RX1 41 (255), .constantLong RX1 43 (251)] ++ wsX10)
def wsX1_isValid : List Cond := .code yX1_isValid cX1_isValid 2 (some .boolean) :: ([.constantLong RX1 41 (255), .methodLink RX1 45 yX1_seal, .static yX1_seal, .initialized RX1, .code yX1_seal cX1_seal 5 (some .long), .constantLong RX1 43 (251)])
def wsX1_balanceOf : List Cond := .code yX1_balanceOf cX1_balanceOf 2 (some .int) :: ([])
def wsX1_numberOf : List Cond := .code yX1_numberOf cX1_numberOf 2 (some .int) :: ([.constantLong RX1 49 (16777215)])
def wsX1_isOpen : List Cond := .code yX1_isOpen cX1_isOpen 2 (some .boolean) :: ([.methodLink RX1 51 yX1_isValid, .static yX1_isValid, .initialized RX1, .code yX1_isValid cX1_isValid 2 (some .boolean), .constantLong RX1 41 (255), .methodLink RX1 45 yX1_seal, .static yX1_seal, .code yX1_seal cX1_seal 5 (some .long), .constantLong RX1 43 (251), .methodLink RX1 55 yX1_numberOf, .static yX1_numberOf, .code yX1_numberOf cX1_numberOf 2 (some .int), .constantLong RX1 49 (16777215)])
def wsX1_isInt : List Cond := .code yX1_isInt cX1_isInt 2 (some .boolean) :: ([.constantLong RX1 59 (-2147483648), .constantLong RX1 61 (2147483647)])
def wsX1_isAccount : List Cond := .code yX1_isAccount cX1_isAccount 1 (some .boolean) :: ([])
def wsX1_turn : List Cond := .code yX1_turn cX1_turn 6 none :: ([.fieldLink RX1 25 "FadeLedgerModel" "kinds" "[I", .fieldLink RX1 63 "FadeLedgerModel" "turns" "I", .fieldLink RX1 28 "FadeLedgerModel" "places" "[I", .fieldLink RX1 31 "FadeLedgerModel" "puts" "[J"] ++ wsX10)
def wsX1_look : List Cond := .code yX1_look cX1_look 2 none :: ([.fieldLink RX1 7 "FadeLedgerModel" "words" "[J", .methodLink RX1 66 yX1_turn, .instanceMethod yX1_turn, .selects RX1 yX1_turn yX1_turn, .initialized RX1, .code yX1_turn cX1_turn 6 none, .fieldLink RX1 25 "FadeLedgerModel" "kinds" "[I", .fieldLink RX1 63 "FadeLedgerModel" "turns" "I", .fieldLink RX1 28 "FadeLedgerModel" "places" "[I", .fieldLink RX1 31 "FadeLedgerModel" "puts" "[J"] ++ wsX10)
def wsX1_putAll : List Cond := .code yX1_putAll cX1_putAll 5 none :: ([.methodLink RX1 66 yX1_turn, .instanceMethod yX1_turn, .selects RX1 yX1_turn yX1_turn, .initialized RX1, .code yX1_turn cX1_turn 6 none, .fieldLink RX1 25 "FadeLedgerModel" "kinds" "[I", .fieldLink RX1 63 "FadeLedgerModel" "turns" "I", .fieldLink RX1 28 "FadeLedgerModel" "places" "[I", .fieldLink RX1 31 "FadeLedgerModel" "puts" "[J"] ++ wsX10)
def wsX1_works : List Cond := .code yX1_works cX1_works 2 (some .boolean) :: ([.fieldLink RX1 63 "FadeLedgerModel" "turns" "I", .fieldLink RX1 17 "FadeLedgerModel" "power" "Z", .fieldLink RX1 21 "FadeLedgerModel" "left" "I", .fieldLink RX1 25 "FadeLedgerModel" "kinds" "[I", .fieldLink RX1 70 "FadeLedgerModel" "reads" "I", .fieldLink RX1 7 "FadeLedgerModel" "words" "[J", .fieldLink RX1 28 "FadeLedgerModel" "places" "[I", .fieldLink RX1 73 "FadeLedgerModel" "writes" "I", .fieldLink RX1 31 "FadeLedgerModel" "puts" "[J", .fieldLink RX1 13 "FadeLedgerModel" "losses" "[I"] ++ wsX10)
def wsX1_open_r1 : List Cond := [Cond.fieldLink RX1 7 "FadeLedgerModel" "words" "[J", Cond.fieldLink RX1 63 "FadeLedgerModel" "turns" "I", Cond.methodLink RX1 76 yX1_isAccount, Cond.static yX1_isAccount, Cond.initialized RX1, Cond.code yX1_isAccount cX1_isAccount 1 (some .boolean), Cond.methodLink RX1 51 yX1_isValid, Cond.static yX1_isValid, Cond.code yX1_isValid cX1_isValid 2 (some .boolean), Cond.constantLong RX1 41 (255), Cond.methodLink RX1 45 yX1_seal, Cond.static yX1_seal, Cond.code yX1_seal cX1_seal 5 (some .long), Cond.constantLong RX1 43 (251), Cond.methodLink RX1 55 yX1_numberOf, Cond.static yX1_numberOf, Cond.code yX1_numberOf cX1_numberOf 2 (some .int), Cond.constantLong RX1 49 (16777215), Cond.methodLink RX1 66 yX1_turn, Cond.instanceMethod yX1_turn, Cond.selects RX1 yX1_turn yX1_turn, Cond.code yX1_turn cX1_turn 6 none, Cond.fieldLink RX1 25 "FadeLedgerModel" "kinds" "[I", Cond.fieldLink RX1 28 "FadeLedgerModel" "places" "[I"]
def wsX1_open_r2 : List Cond := [Cond.fieldLink RX1 31 "FadeLedgerModel" "puts" "[J", Cond.methodLink RX1 37 yX1_wordOf, Cond.static yX1_wordOf, Cond.code yX1_wordOf cX1_wordOf 4 (some .long), Cond.methodLink RX1 80 yX1_putAll, Cond.instanceMethod yX1_putAll, Cond.selects RX1 yX1_putAll yX1_putAll, Cond.code yX1_putAll cX1_putAll 5 none, Cond.methodLink RX1 84 yX1_works, Cond.instanceMethod yX1_works, Cond.selects RX1 yX1_works yX1_works, Cond.code yX1_works cX1_works 2 (some .boolean), Cond.fieldLink RX1 17 "FadeLedgerModel" "power" "Z", Cond.fieldLink RX1 21 "FadeLedgerModel" "left" "I", Cond.fieldLink RX1 70 "FadeLedgerModel" "reads" "I", Cond.fieldLink RX1 73 "FadeLedgerModel" "writes" "I", Cond.fieldLink RX1 13 "FadeLedgerModel" "losses" "[I"]
def wsX1_open : List Cond := .code yX1_open cX1_open 6 (some .int) :: ((wsX1_open_r1 ++ wsX1_open_r2) ++ wsX10)
def wsX1_balance_r1 : List Cond := [Cond.constantLong RX1 88 (8796093022208), Cond.fieldLink RX1 7 "FadeLedgerModel" "words" "[J", Cond.fieldLink RX1 63 "FadeLedgerModel" "turns" "I", Cond.constantLong RX1 94 (4398046511104), Cond.constantLong RX1 96 (2199023255552), Cond.constantLong RX1 98 (1099511627776), Cond.methodLink RX1 76 yX1_isAccount, Cond.static yX1_isAccount, Cond.initialized RX1, Cond.code yX1_isAccount cX1_isAccount 1 (some .boolean), Cond.methodLink RX1 90 yX1_look, Cond.instanceMethod yX1_look, Cond.selects RX1 yX1_look yX1_look, Cond.code yX1_look cX1_look 2 none, Cond.methodLink RX1 66 yX1_turn, Cond.instanceMethod yX1_turn, Cond.selects RX1 yX1_turn yX1_turn, Cond.code yX1_turn cX1_turn 6 none, Cond.fieldLink RX1 25 "FadeLedgerModel" "kinds" "[I", Cond.fieldLink RX1 28 "FadeLedgerModel" "places" "[I", Cond.fieldLink RX1 31 "FadeLedgerModel" "puts" "[J", Cond.methodLink RX1 84 yX1_works, Cond.instanceMethod yX1_works, Cond.selects RX1 yX1_works yX1_works]
def wsX1_balance_r2 : List Cond := [Cond.code yX1_works cX1_works 2 (some .boolean), Cond.fieldLink RX1 17 "FadeLedgerModel" "power" "Z", Cond.fieldLink RX1 21 "FadeLedgerModel" "left" "I", Cond.fieldLink RX1 70 "FadeLedgerModel" "reads" "I", Cond.fieldLink RX1 73 "FadeLedgerModel" "writes" "I", Cond.fieldLink RX1 13 "FadeLedgerModel" "losses" "[I", Cond.methodLink RX1 51 yX1_isValid, Cond.static yX1_isValid, Cond.code yX1_isValid cX1_isValid 2 (some .boolean), Cond.constantLong RX1 41 (255), Cond.methodLink RX1 45 yX1_seal, Cond.static yX1_seal, Cond.code yX1_seal cX1_seal 5 (some .long), Cond.constantLong RX1 43 (251), Cond.methodLink RX1 55 yX1_numberOf, Cond.static yX1_numberOf, Cond.code yX1_numberOf cX1_numberOf 2 (some .int), Cond.constantLong RX1 49 (16777215), Cond.methodLink RX1 100 yX1_balanceOf, Cond.static yX1_balanceOf, Cond.code yX1_balanceOf cX1_balanceOf 2 (some .int)]
def wsX1_balance : List Cond := .code yX1_balance cX1_balance 4 (some .long) :: ((wsX1_balance_r1 ++ wsX1_balance_r2) ++ wsX10)
def wsX1_post_r1 : List Cond := [Cond.fieldLink RX1 7 "FadeLedgerModel" "words" "[J", Cond.constant RX1 106 (16777215), Cond.fieldLink RX1 63 "FadeLedgerModel" "turns" "I", Cond.methodLink RX1 76 yX1_isAccount, Cond.static yX1_isAccount, Cond.initialized RX1, Cond.code yX1_isAccount cX1_isAccount 1 (some .boolean), Cond.methodLink RX1 100 yX1_balanceOf, Cond.static yX1_balanceOf, Cond.code yX1_balanceOf cX1_balanceOf 2 (some .int), Cond.methodLink RX1 103 yX1_isOpen, Cond.static yX1_isOpen, Cond.code yX1_isOpen cX1_isOpen 2 (some .boolean), Cond.methodLink RX1 51 yX1_isValid, Cond.static yX1_isValid, Cond.code yX1_isValid cX1_isValid 2 (some .boolean), Cond.constantLong RX1 41 (255), Cond.methodLink RX1 45 yX1_seal, Cond.static yX1_seal, Cond.code yX1_seal cX1_seal 5 (some .long), Cond.constantLong RX1 43 (251), Cond.methodLink RX1 55 yX1_numberOf, Cond.static yX1_numberOf, Cond.code yX1_numberOf cX1_numberOf 2 (some .int)]
def wsX1_post_r2 : List Cond := [Cond.constantLong RX1 49 (16777215), Cond.methodLink RX1 107 yX1_isInt, Cond.static yX1_isInt, Cond.code yX1_isInt cX1_isInt 2 (some .boolean), Cond.constantLong RX1 59 (-2147483648), Cond.constantLong RX1 61 (2147483647), Cond.methodLink RX1 66 yX1_turn, Cond.instanceMethod yX1_turn, Cond.selects RX1 yX1_turn yX1_turn, Cond.code yX1_turn cX1_turn 6 none, Cond.fieldLink RX1 25 "FadeLedgerModel" "kinds" "[I", Cond.fieldLink RX1 28 "FadeLedgerModel" "places" "[I", Cond.fieldLink RX1 31 "FadeLedgerModel" "puts" "[J", Cond.methodLink RX1 37 yX1_wordOf, Cond.static yX1_wordOf, Cond.code yX1_wordOf cX1_wordOf 4 (some .long), Cond.methodLink RX1 80 yX1_putAll, Cond.instanceMethod yX1_putAll, Cond.selects RX1 yX1_putAll yX1_putAll, Cond.code yX1_putAll cX1_putAll 5 none, Cond.methodLink RX1 84 yX1_works, Cond.instanceMethod yX1_works, Cond.selects RX1 yX1_works yX1_works, Cond.code yX1_works cX1_works 2 (some .boolean)]
def wsX1_post_r3 : List Cond := [Cond.fieldLink RX1 17 "FadeLedgerModel" "power" "Z", Cond.fieldLink RX1 21 "FadeLedgerModel" "left" "I", Cond.fieldLink RX1 70 "FadeLedgerModel" "reads" "I", Cond.fieldLink RX1 73 "FadeLedgerModel" "writes" "I", Cond.fieldLink RX1 13 "FadeLedgerModel" "losses" "[I"]
def wsX1_post : List Cond := .code yX1_post cX1_post 8 (some .int) :: ((wsX1_post_r1 ++ (wsX1_post_r2 ++ wsX1_post_r3)) ++ wsX10)
def wsX1_canBe : List Cond := .code yX1_canBe cX1_canBe 4 (some .boolean) :: ([.constant RX1 106 (16777215), .methodLink RX1 103 yX1_isOpen, .static yX1_isOpen, .initialized RX1, .code yX1_isOpen cX1_isOpen 2 (some .boolean), .methodLink RX1 51 yX1_isValid, .static yX1_isValid, .code yX1_isValid cX1_isValid 2 (some .boolean), .constantLong RX1 41 (255), .methodLink RX1 45 yX1_seal, .static yX1_seal, .code yX1_seal cX1_seal 5 (some .long), .constantLong RX1 43 (251), .methodLink RX1 55 yX1_numberOf, .static yX1_numberOf, .code yX1_numberOf cX1_numberOf 2 (some .int), .constantLong RX1 49 (16777215), .methodLink RX1 107 yX1_isInt, .static yX1_isInt, .code yX1_isInt cX1_isInt 2 (some .boolean), .constantLong RX1 59 (-2147483648), .constantLong RX1 61 (2147483647)])
def wsX1_transfer_r1 : List Cond := [Cond.fieldLink RX1 7 "FadeLedgerModel" "words" "[J", Cond.constant RX1 106 (16777215), Cond.fieldLink RX1 63 "FadeLedgerModel" "turns" "I", Cond.constant RX1 114 (65536), Cond.constant RX1 115 (131072), Cond.methodLink RX1 76 yX1_isAccount, Cond.static yX1_isAccount, Cond.initialized RX1, Cond.code yX1_isAccount cX1_isAccount 1 (some .boolean), Cond.methodLink RX1 100 yX1_balanceOf, Cond.static yX1_balanceOf, Cond.code yX1_balanceOf cX1_balanceOf 2 (some .int), Cond.methodLink RX1 110 yX1_canBe, Cond.static yX1_canBe, Cond.code yX1_canBe cX1_canBe 4 (some .boolean), Cond.methodLink RX1 103 yX1_isOpen, Cond.static yX1_isOpen, Cond.code yX1_isOpen cX1_isOpen 2 (some .boolean), Cond.methodLink RX1 51 yX1_isValid, Cond.static yX1_isValid, Cond.code yX1_isValid cX1_isValid 2 (some .boolean), Cond.constantLong RX1 41 (255), Cond.methodLink RX1 45 yX1_seal, Cond.static yX1_seal]
def wsX1_transfer_r2 : List Cond := [Cond.code yX1_seal cX1_seal 5 (some .long), Cond.constantLong RX1 43 (251), Cond.methodLink RX1 55 yX1_numberOf, Cond.static yX1_numberOf, Cond.code yX1_numberOf cX1_numberOf 2 (some .int), Cond.constantLong RX1 49 (16777215), Cond.methodLink RX1 107 yX1_isInt, Cond.static yX1_isInt, Cond.code yX1_isInt cX1_isInt 2 (some .boolean), Cond.constantLong RX1 59 (-2147483648), Cond.constantLong RX1 61 (2147483647), Cond.methodLink RX1 90 yX1_look, Cond.instanceMethod yX1_look, Cond.selects RX1 yX1_look yX1_look, Cond.code yX1_look cX1_look 2 none, Cond.methodLink RX1 66 yX1_turn, Cond.instanceMethod yX1_turn, Cond.selects RX1 yX1_turn yX1_turn, Cond.code yX1_turn cX1_turn 6 none, Cond.fieldLink RX1 25 "FadeLedgerModel" "kinds" "[I", Cond.fieldLink RX1 28 "FadeLedgerModel" "places" "[I", Cond.fieldLink RX1 31 "FadeLedgerModel" "puts" "[J", Cond.methodLink RX1 37 yX1_wordOf, Cond.static yX1_wordOf]
def wsX1_transfer_r3 : List Cond := [Cond.code yX1_wordOf cX1_wordOf 4 (some .long), Cond.methodLink RX1 80 yX1_putAll, Cond.instanceMethod yX1_putAll, Cond.selects RX1 yX1_putAll yX1_putAll, Cond.code yX1_putAll cX1_putAll 5 none, Cond.methodLink RX1 84 yX1_works, Cond.instanceMethod yX1_works, Cond.selects RX1 yX1_works yX1_works, Cond.code yX1_works cX1_works 2 (some .boolean), Cond.fieldLink RX1 17 "FadeLedgerModel" "power" "Z", Cond.fieldLink RX1 21 "FadeLedgerModel" "left" "I", Cond.fieldLink RX1 70 "FadeLedgerModel" "reads" "I", Cond.fieldLink RX1 73 "FadeLedgerModel" "writes" "I", Cond.fieldLink RX1 13 "FadeLedgerModel" "losses" "[I"]
def wsX1_transfer : List Cond := .code yX1_transfer cX1_transfer 17 (some .int) :: ((wsX1_transfer_r1 ++ (wsX1_transfer_r2 ++ wsX1_transfer_r3)) ++ wsX10)
def wsX1_total_r1 : List Cond := [Cond.fieldLink RX1 63 "FadeLedgerModel" "turns" "I", Cond.fieldLink RX1 7 "FadeLedgerModel" "words" "[J", Cond.constantLong RX1 94 (4398046511104), Cond.methodLink RX1 90 yX1_look, Cond.instanceMethod yX1_look, Cond.selects RX1 yX1_look yX1_look, Cond.initialized RX1, Cond.code yX1_look cX1_look 2 none, Cond.methodLink RX1 66 yX1_turn, Cond.instanceMethod yX1_turn, Cond.selects RX1 yX1_turn yX1_turn, Cond.code yX1_turn cX1_turn 6 none, Cond.fieldLink RX1 25 "FadeLedgerModel" "kinds" "[I", Cond.fieldLink RX1 28 "FadeLedgerModel" "places" "[I", Cond.fieldLink RX1 31 "FadeLedgerModel" "puts" "[J", Cond.methodLink RX1 103 yX1_isOpen, Cond.static yX1_isOpen, Cond.code yX1_isOpen cX1_isOpen 2 (some .boolean), Cond.methodLink RX1 51 yX1_isValid, Cond.static yX1_isValid, Cond.code yX1_isValid cX1_isValid 2 (some .boolean), Cond.constantLong RX1 41 (255), Cond.methodLink RX1 45 yX1_seal, Cond.static yX1_seal]
def wsX1_total_r2 : List Cond := [Cond.code yX1_seal cX1_seal 5 (some .long), Cond.constantLong RX1 43 (251), Cond.methodLink RX1 55 yX1_numberOf, Cond.static yX1_numberOf, Cond.code yX1_numberOf cX1_numberOf 2 (some .int), Cond.constantLong RX1 49 (16777215), Cond.methodLink RX1 100 yX1_balanceOf, Cond.static yX1_balanceOf, Cond.code yX1_balanceOf cX1_balanceOf 2 (some .int), Cond.methodLink RX1 84 yX1_works, Cond.instanceMethod yX1_works, Cond.selects RX1 yX1_works yX1_works, Cond.code yX1_works cX1_works 2 (some .boolean), Cond.fieldLink RX1 17 "FadeLedgerModel" "power" "Z", Cond.fieldLink RX1 21 "FadeLedgerModel" "left" "I", Cond.fieldLink RX1 70 "FadeLedgerModel" "reads" "I", Cond.fieldLink RX1 73 "FadeLedgerModel" "writes" "I", Cond.fieldLink RX1 13 "FadeLedgerModel" "losses" "[I"]
def wsX1_total : List Cond := .code yX1_total cX1_total 4 (some .long) :: ((wsX1_total_r1 ++ wsX1_total_r2) ++ wsX10)
def wsX1_number_r1 : List Cond := [Cond.fieldLink RX1 7 "FadeLedgerModel" "words" "[J", Cond.fieldLink RX1 63 "FadeLedgerModel" "turns" "I", Cond.methodLink RX1 76 yX1_isAccount, Cond.static yX1_isAccount, Cond.initialized RX1, Cond.code yX1_isAccount cX1_isAccount 1 (some .boolean), Cond.methodLink RX1 90 yX1_look, Cond.instanceMethod yX1_look, Cond.selects RX1 yX1_look yX1_look, Cond.code yX1_look cX1_look 2 none, Cond.methodLink RX1 66 yX1_turn, Cond.instanceMethod yX1_turn, Cond.selects RX1 yX1_turn yX1_turn, Cond.code yX1_turn cX1_turn 6 none, Cond.fieldLink RX1 25 "FadeLedgerModel" "kinds" "[I", Cond.fieldLink RX1 28 "FadeLedgerModel" "places" "[I", Cond.fieldLink RX1 31 "FadeLedgerModel" "puts" "[J", Cond.methodLink RX1 84 yX1_works, Cond.instanceMethod yX1_works, Cond.selects RX1 yX1_works yX1_works, Cond.code yX1_works cX1_works 2 (some .boolean), Cond.fieldLink RX1 17 "FadeLedgerModel" "power" "Z", Cond.fieldLink RX1 21 "FadeLedgerModel" "left" "I", Cond.fieldLink RX1 70 "FadeLedgerModel" "reads" "I"]
def wsX1_number_r2 : List Cond := [Cond.fieldLink RX1 73 "FadeLedgerModel" "writes" "I", Cond.fieldLink RX1 13 "FadeLedgerModel" "losses" "[I", Cond.methodLink RX1 51 yX1_isValid, Cond.static yX1_isValid, Cond.code yX1_isValid cX1_isValid 2 (some .boolean), Cond.constantLong RX1 41 (255), Cond.methodLink RX1 45 yX1_seal, Cond.static yX1_seal, Cond.code yX1_seal cX1_seal 5 (some .long), Cond.constantLong RX1 43 (251), Cond.methodLink RX1 55 yX1_numberOf, Cond.static yX1_numberOf, Cond.code yX1_numberOf cX1_numberOf 2 (some .int), Cond.constantLong RX1 49 (16777215)]
def wsX1_number : List Cond := .code yX1_number cX1_number 4 (some .int) :: ((wsX1_number_r1 ++ wsX1_number_r2) ++ wsX10)
def wsX1_failAfter : List Cond := .code yX1_failAfter cX1_failAfter 2 (some .boolean) :: ([.fieldLink RX1 21 "FadeLedgerModel" "left" "I"] ++ wsX10)
def wsX1_fail : List Cond := .code yX1_fail cX1_fail 1 (some .boolean) :: ([.fieldLink RX1 17 "FadeLedgerModel" "power" "Z", .fieldLink RX1 21 "FadeLedgerModel" "left" "I"] ++ wsX10)
def wsX1_best : List Cond := .code yX1_best cX1_best 8 (some .long) :: ([.fieldLink RX1 7 "FadeLedgerModel" "words" "[J", .methodLink RX1 51 yX1_isValid, .static yX1_isValid, .initialized RX1, .code yX1_isValid cX1_isValid 2 (some .boolean), .constantLong RX1 41 (255), .methodLink RX1 45 yX1_seal, .static yX1_seal, .code yX1_seal cX1_seal 5 (some .long), .constantLong RX1 43 (251), .methodLink RX1 55 yX1_numberOf, .static yX1_numberOf, .code yX1_numberOf cX1_numberOf 2 (some .int), .constantLong RX1 49 (16777215), .methodLink RX1 100 yX1_balanceOf, .static yX1_balanceOf, .code yX1_balanceOf cX1_balanceOf 2 (some .int)] ++ wsX10)
def wsX1_mend_r1 : List Cond := [Cond.fieldLink RX1 7 "FadeLedgerModel" "words" "[J", Cond.fieldLink RX1 34 "FadeLedgerModel" "bests" "[J", Cond.methodLink RX1 51 yX1_isValid, Cond.static yX1_isValid, Cond.initialized RX1, Cond.code yX1_isValid cX1_isValid 2 (some .boolean), Cond.constantLong RX1 41 (255), Cond.methodLink RX1 45 yX1_seal, Cond.static yX1_seal, Cond.code yX1_seal cX1_seal 5 (some .long), Cond.constantLong RX1 43 (251), Cond.methodLink RX1 66 yX1_turn, Cond.instanceMethod yX1_turn, Cond.selects RX1 yX1_turn yX1_turn, Cond.code yX1_turn cX1_turn 6 none, Cond.fieldLink RX1 25 "FadeLedgerModel" "kinds" "[I", Cond.fieldLink RX1 63 "FadeLedgerModel" "turns" "I", Cond.fieldLink RX1 28 "FadeLedgerModel" "places" "[I", Cond.fieldLink RX1 31 "FadeLedgerModel" "puts" "[J", Cond.methodLink RX1 116 yX1_best, Cond.instanceMethod yX1_best, Cond.selects RX1 yX1_best yX1_best, Cond.code yX1_best cX1_best 8 (some .long), Cond.methodLink RX1 55 yX1_numberOf]
def wsX1_mend_r2 : List Cond := [Cond.static yX1_numberOf, Cond.code yX1_numberOf cX1_numberOf 2 (some .int), Cond.constantLong RX1 49 (16777215), Cond.methodLink RX1 100 yX1_balanceOf, Cond.static yX1_balanceOf, Cond.code yX1_balanceOf cX1_balanceOf 2 (some .int)]
def wsX1_mend : List Cond := .code yX1_mend cX1_mend 4 none :: ((wsX1_mend_r1 ++ wsX1_mend_r2) ++ wsX10)
def wsX1_settle_r1 : List Cond := [Cond.fieldLink RX1 34 "FadeLedgerModel" "bests" "[J", Cond.methodLink RX1 55 yX1_numberOf, Cond.static yX1_numberOf, Cond.initialized RX1, Cond.code yX1_numberOf cX1_numberOf 2 (some .int), Cond.constantLong RX1 49 (16777215), Cond.methodLink RX1 100 yX1_balanceOf, Cond.static yX1_balanceOf, Cond.code yX1_balanceOf cX1_balanceOf 2 (some .int), Cond.methodLink RX1 37 yX1_wordOf, Cond.static yX1_wordOf, Cond.code yX1_wordOf cX1_wordOf 4 (some .long), Cond.methodLink RX1 45 yX1_seal, Cond.static yX1_seal, Cond.code yX1_seal cX1_seal 5 (some .long), Cond.constantLong RX1 41 (255), Cond.constantLong RX1 43 (251), Cond.methodLink RX1 80 yX1_putAll, Cond.instanceMethod yX1_putAll, Cond.selects RX1 yX1_putAll yX1_putAll, Cond.code yX1_putAll cX1_putAll 5 none, Cond.methodLink RX1 66 yX1_turn, Cond.instanceMethod yX1_turn, Cond.selects RX1 yX1_turn yX1_turn]
def wsX1_settle_r2 : List Cond := [Cond.code yX1_turn cX1_turn 6 none, Cond.fieldLink RX1 25 "FadeLedgerModel" "kinds" "[I", Cond.fieldLink RX1 63 "FadeLedgerModel" "turns" "I", Cond.fieldLink RX1 28 "FadeLedgerModel" "places" "[I", Cond.fieldLink RX1 31 "FadeLedgerModel" "puts" "[J"]
def wsX1_settle : List Cond := .code yX1_settle cX1_settle 6 none :: ((wsX1_settle_r1 ++ wsX1_settle_r2) ++ wsX10)
def wsX1_mount_r1 : List Cond := [Cond.fieldLink RX1 17 "FadeLedgerModel" "power" "Z", Cond.fieldLink RX1 63 "FadeLedgerModel" "turns" "I", Cond.fieldLink RX1 34 "FadeLedgerModel" "bests" "[J", Cond.constant RX1 114 (65536), Cond.methodLink RX1 120 yX1_mend, Cond.instanceMethod yX1_mend, Cond.selects RX1 yX1_mend yX1_mend, Cond.initialized RX1, Cond.code yX1_mend cX1_mend 4 none, Cond.fieldLink RX1 7 "FadeLedgerModel" "words" "[J", Cond.methodLink RX1 51 yX1_isValid, Cond.static yX1_isValid, Cond.code yX1_isValid cX1_isValid 2 (some .boolean), Cond.constantLong RX1 41 (255), Cond.methodLink RX1 45 yX1_seal, Cond.static yX1_seal, Cond.code yX1_seal cX1_seal 5 (some .long), Cond.constantLong RX1 43 (251), Cond.methodLink RX1 66 yX1_turn, Cond.instanceMethod yX1_turn, Cond.selects RX1 yX1_turn yX1_turn, Cond.code yX1_turn cX1_turn 6 none, Cond.fieldLink RX1 25 "FadeLedgerModel" "kinds" "[I", Cond.fieldLink RX1 28 "FadeLedgerModel" "places" "[I"]
def wsX1_mount_r2 : List Cond := [Cond.fieldLink RX1 31 "FadeLedgerModel" "puts" "[J", Cond.methodLink RX1 116 yX1_best, Cond.instanceMethod yX1_best, Cond.selects RX1 yX1_best yX1_best, Cond.code yX1_best cX1_best 8 (some .long), Cond.methodLink RX1 55 yX1_numberOf, Cond.static yX1_numberOf, Cond.code yX1_numberOf cX1_numberOf 2 (some .int), Cond.constantLong RX1 49 (16777215), Cond.methodLink RX1 100 yX1_balanceOf, Cond.static yX1_balanceOf, Cond.code yX1_balanceOf cX1_balanceOf 2 (some .int), Cond.methodLink RX1 76 yX1_isAccount, Cond.static yX1_isAccount, Cond.code yX1_isAccount cX1_isAccount 1 (some .boolean), Cond.methodLink RX1 123 yX1_settle, Cond.instanceMethod yX1_settle, Cond.selects RX1 yX1_settle yX1_settle, Cond.code yX1_settle cX1_settle 6 none, Cond.methodLink RX1 37 yX1_wordOf, Cond.static yX1_wordOf, Cond.code yX1_wordOf cX1_wordOf 4 (some .long), Cond.methodLink RX1 80 yX1_putAll, Cond.instanceMethod yX1_putAll]
def wsX1_mount_r3 : List Cond := [Cond.selects RX1 yX1_putAll yX1_putAll, Cond.code yX1_putAll cX1_putAll 5 none, Cond.methodLink RX1 84 yX1_works, Cond.instanceMethod yX1_works, Cond.selects RX1 yX1_works yX1_works, Cond.code yX1_works cX1_works 2 (some .boolean), Cond.fieldLink RX1 21 "FadeLedgerModel" "left" "I", Cond.fieldLink RX1 70 "FadeLedgerModel" "reads" "I", Cond.fieldLink RX1 73 "FadeLedgerModel" "writes" "I", Cond.fieldLink RX1 13 "FadeLedgerModel" "losses" "[I"]
def wsX1_mount : List Cond := .code yX1_mount cX1_mount 6 (some .int) :: ((wsX1_mount_r1 ++ (wsX1_mount_r2 ++ wsX1_mount_r3)) ++ wsX10)
def wsX1_on : List Cond := .code yX1_on cX1_on 1 (some .boolean) :: ([.fieldLink RX1 17 "FadeLedgerModel" "power" "Z"] ++ wsX10)
def wsX1_lost : List Cond := .code yX1_lost cX1_lost 2 (some .int) :: ([.fieldLink RX1 13 "FadeLedgerModel" "losses" "[I"] ++ wsX10)
def wsX1_word : List Cond := .code yX1_word cX1_word 3 (some .long) :: ([.fieldLink RX1 7 "FadeLedgerModel" "words" "[J"] ++ wsX10)
def wsX1_done : List Cond := .code yX1_done cX1_done 2 (some .int) :: ([.fieldLink RX1 70 "FadeLedgerModel" "reads" "I", .fieldLink RX1 73 "FadeLedgerModel" "writes" "I"] ++ wsX10)
def wsL_law_r1 : List Cond := [Cond.classLink RL 7 RX0, Cond.instantiable RX0 6, Cond.initialized RX0, Cond.classLink RL 10 RX1, Cond.instantiable RX1 11, Cond.initialized RX1, Cond.methodLink RL 9 yX0_init, Cond.instanceMethod yX0_init, Cond.code yX0_init cX0_init 4 none, Cond.methodLink RX0 1 objectInit, Cond.instanceMethod objectInit, Cond.code objectInit ⟨#[0xb1]⟩ 1 none, Cond.arrayClass .long, Cond.fieldLink RX0 9 "FadeLedger" "memory" "[J", Cond.arrayClass .int, Cond.fieldLink RX0 13 "FadeLedger" "invalidPlanes" "[I", Cond.fieldLink RX0 17 "FadeLedger" "powered" "Z", Cond.fieldLink RX0 21 "FadeLedger" "turnsLeft" "I", Cond.methodLink RX0 25 yX0_makeWord, Cond.static yX0_makeWord, Cond.code yX0_makeWord cX0_makeWord 4 (some .long), Cond.methodLink RX0 144 yX0_checkByte, Cond.static yX0_checkByte, Cond.code yX0_checkByte cX0_checkByte 4 (some .int)]
def wsL_law_r2 : List Cond := [Cond.methodLink RL 12 yX1_init, Cond.instanceMethod yX1_init, Cond.code yX1_init cX1_init 2 none, Cond.methodLink RX1 1 objectInit, Cond.fieldLink RX1 7 "FadeLedgerModel" "words" "[J", Cond.fieldLink RX1 13 "FadeLedgerModel" "losses" "[I", Cond.fieldLink RX1 17 "FadeLedgerModel" "power" "Z", Cond.fieldLink RX1 21 "FadeLedgerModel" "left" "I", Cond.fieldLink RX1 25 "FadeLedgerModel" "kinds" "[I", Cond.fieldLink RX1 28 "FadeLedgerModel" "places" "[I", Cond.fieldLink RX1 31 "FadeLedgerModel" "puts" "[J", Cond.fieldLink RX1 34 "FadeLedgerModel" "bests" "[J", Cond.methodLink RX1 37 yX1_wordOf, Cond.static yX1_wordOf, Cond.code yX1_wordOf cX1_wordOf 4 (some .long), Cond.methodLink RX1 45 yX1_seal, Cond.static yX1_seal, Cond.code yX1_seal cX1_seal 5 (some .long), Cond.constantLong RX1 41 (255), Cond.constantLong RX1 43 (251), Cond.methodLink RL 13 yX0_open, Cond.instanceMethod yX0_open, Cond.selects RX0 yX0_open yX0_open, Cond.code yX0_open cX0_open 6 (some .int)]
def wsL_law_r3 : List Cond := [Cond.methodLink RX0 29 yX0_isAccount, Cond.static yX0_isAccount, Cond.code yX0_isAccount cX0_isAccount 1 (some .boolean), Cond.methodLink RX0 33 yX0_readTurn, Cond.instanceMethod yX0_readTurn, Cond.selects RX0 yX0_readTurn yX0_readTurn, Cond.code yX0_readTurn cX0_readTurn 6 (some .long), Cond.fieldLink RX0 114 "FadeLedger" "reads" "I", Cond.methodLink RX0 141 yX0_takeTurn, Cond.instanceMethod yX0_takeTurn, Cond.selects RX0 yX0_takeTurn yX0_takeTurn, Cond.code yX0_takeTurn cX0_takeTurn 1 (some .boolean), Cond.methodLink RX0 93 yX0_losePower, Cond.instanceMethod yX0_losePower, Cond.selects RX0 yX0_losePower yX0_losePower, Cond.code yX0_losePower cX0_losePower 1 none, Cond.methodLink RX0 110 yX0_slot, Cond.static yX0_slot, Cond.code yX0_slot cX0_slot 2 (some .int), Cond.methodLink RX0 36 yX0_isUnopened, Cond.static yX0_isUnopened, Cond.code yX0_isUnopened cX0_isUnopened 2 (some .boolean), Cond.methodLink RX0 60 yX0_isValid, Cond.static yX0_isValid]
def wsL_law_r4 : List Cond := [Cond.code yX0_isValid cX0_isValid 2 (some .boolean), Cond.constantLong RX0 147 (255), Cond.methodLink RX0 80 yX0_numberOf, Cond.static yX0_numberOf, Cond.code yX0_numberOf cX0_numberOf 2 (some .int), Cond.constant RX0 149 (16777215), Cond.methodLink RX0 40 yX0_put, Cond.instanceMethod yX0_put, Cond.selects RX0 yX0_put yX0_put, Cond.code yX0_put cX0_put 5 none, Cond.methodLink RX0 44 yX0_writeTurn, Cond.instanceMethod yX0_writeTurn, Cond.selects RX0 yX0_writeTurn yX0_writeTurn, Cond.code yX0_writeTurn cX0_writeTurn 5 none, Cond.fieldLink RX0 117 "FadeLedger" "writes" "I", Cond.methodLink RX0 48 yX0_answerOf, Cond.instanceMethod yX0_answerOf, Cond.selects RX0 yX0_answerOf yX0_answerOf, Cond.code yX0_answerOf cX0_answerOf 2 (some .int), Cond.methodLink RL 17 yX1_open, Cond.instanceMethod yX1_open, Cond.selects RX1 yX1_open yX1_open, Cond.code yX1_open cX1_open 6 (some .int), Cond.fieldLink RX1 63 "FadeLedgerModel" "turns" "I"]
def wsL_law_r5 : List Cond := [Cond.methodLink RX1 76 yX1_isAccount, Cond.static yX1_isAccount, Cond.code yX1_isAccount cX1_isAccount 1 (some .boolean), Cond.methodLink RX1 51 yX1_isValid, Cond.static yX1_isValid, Cond.code yX1_isValid cX1_isValid 2 (some .boolean), Cond.methodLink RX1 55 yX1_numberOf, Cond.static yX1_numberOf, Cond.code yX1_numberOf cX1_numberOf 2 (some .int), Cond.constantLong RX1 49 (16777215), Cond.methodLink RX1 66 yX1_turn, Cond.instanceMethod yX1_turn, Cond.selects RX1 yX1_turn yX1_turn, Cond.code yX1_turn cX1_turn 6 none, Cond.methodLink RX1 80 yX1_putAll, Cond.instanceMethod yX1_putAll, Cond.selects RX1 yX1_putAll yX1_putAll, Cond.code yX1_putAll cX1_putAll 5 none, Cond.methodLink RX1 84 yX1_works, Cond.instanceMethod yX1_works, Cond.selects RX1 yX1_works yX1_works, Cond.code yX1_works cX1_works 2 (some .boolean), Cond.fieldLink RX1 70 "FadeLedgerModel" "reads" "I", Cond.fieldLink RX1 73 "FadeLedgerModel" "writes" "I"]
def wsL_law_r6 : List Cond := [Cond.methodLink RL 18 yX0_balance, Cond.instanceMethod yX0_balance, Cond.selects RX0 yX0_balance yX0_balance, Cond.code yX0_balance cX0_balance 4 (some .long), Cond.constantLong RX0 52 (8796093022208), Cond.constantLong RX0 58 (4398046511104), Cond.constantLong RX0 63 (2199023255552), Cond.constantLong RX0 65 (1099511627776), Cond.methodLink RX0 54 yX0_look, Cond.instanceMethod yX0_look, Cond.selects RX0 yX0_look yX0_look, Cond.code yX0_look cX0_look 4 (some .long), Cond.methodLink RX0 67 yX0_balanceOf, Cond.static yX0_balanceOf, Cond.code yX0_balanceOf cX0_balanceOf 2 (some .int), Cond.methodLink RL 22 yX1_balance, Cond.instanceMethod yX1_balance, Cond.selects RX1 yX1_balance yX1_balance, Cond.code yX1_balance cX1_balance 4 (some .long), Cond.constantLong RX1 88 (8796093022208), Cond.constantLong RX1 94 (4398046511104), Cond.constantLong RX1 96 (2199023255552), Cond.constantLong RX1 98 (1099511627776), Cond.methodLink RX1 90 yX1_look]
def wsL_law_r7 : List Cond := [Cond.instanceMethod yX1_look, Cond.selects RX1 yX1_look yX1_look, Cond.code yX1_look cX1_look 2 none, Cond.methodLink RX1 100 yX1_balanceOf, Cond.static yX1_balanceOf, Cond.code yX1_balanceOf cX1_balanceOf 2 (some .int), Cond.methodLink RL 23 yX0_post, Cond.instanceMethod yX0_post, Cond.selects RX0 yX0_post yX0_post, Cond.code yX0_post cX0_post 8 (some .int), Cond.methodLink RX0 71 yX0_isOpen, Cond.static yX0_isOpen, Cond.code yX0_isOpen cX0_isOpen 2 (some .boolean), Cond.methodLink RX0 74 yX0_hasNextNumber, Cond.static yX0_hasNextNumber, Cond.code yX0_hasNextNumber cX0_hasNextNumber 2 (some .boolean), Cond.methodLink RX0 77 yX0_isInt, Cond.static yX0_isInt, Cond.code yX0_isInt cX0_isInt 2 (some .boolean), Cond.methodLink RL 26 yX1_post, Cond.instanceMethod yX1_post, Cond.selects RX1 yX1_post yX1_post, Cond.code yX1_post cX1_post 8 (some .int), Cond.constant RX1 106 (16777215)]
def wsL_law_r8 : List Cond := [Cond.methodLink RX1 103 yX1_isOpen, Cond.static yX1_isOpen, Cond.code yX1_isOpen cX1_isOpen 2 (some .boolean), Cond.methodLink RX1 107 yX1_isInt, Cond.static yX1_isInt, Cond.code yX1_isInt cX1_isInt 2 (some .boolean), Cond.constantLong RX1 59 (-2147483648), Cond.constantLong RX1 61 (2147483647), Cond.methodLink RL 27 yX0_transfer, Cond.instanceMethod yX0_transfer, Cond.selects RX0 yX0_transfer yX0_transfer, Cond.code yX0_transfer cX0_transfer 17 (some .int), Cond.constant RX0 91 (65536), Cond.constant RX0 92 (131072), Cond.methodLink RX0 83 yX0_canTake, Cond.static yX0_canTake, Cond.code yX0_canTake cX0_canTake 6 (some .boolean), Cond.methodLink RX0 87 yX0_nextWord, Cond.static yX0_nextWord, Cond.code yX0_nextWord cX0_nextWord 3 (some .long), Cond.methodLink RL 31 yX1_transfer, Cond.instanceMethod yX1_transfer, Cond.selects RX1 yX1_transfer yX1_transfer, Cond.code yX1_transfer cX1_transfer 17 (some .int)]
def wsL_law_r9 : List Cond := [Cond.constant RX1 114 (65536), Cond.constant RX1 115 (131072), Cond.methodLink RX1 110 yX1_canBe, Cond.static yX1_canBe, Cond.code yX1_canBe cX1_canBe 4 (some .boolean), Cond.methodLink RL 32 yX0_total, Cond.instanceMethod yX0_total, Cond.selects RX0 yX0_total yX0_total, Cond.code yX0_total cX0_total 6 (some .long), Cond.methodLink RL 36 yX1_total, Cond.instanceMethod yX1_total, Cond.selects RX1 yX1_total yX1_total, Cond.code yX1_total cX1_total 4 (some .long), Cond.methodLink RL 37 yX0_number, Cond.instanceMethod yX0_number, Cond.selects RX0 yX0_number yX0_number, Cond.code yX0_number cX0_number 4 (some .int), Cond.methodLink RL 41 yX1_number, Cond.instanceMethod yX1_number, Cond.selects RX1 yX1_number yX1_number, Cond.code yX1_number cX1_number 4 (some .int), Cond.methodLink RL 42 yX0_failAfter, Cond.instanceMethod yX0_failAfter, Cond.selects RX0 yX0_failAfter yX0_failAfter]
def wsL_law_r10 : List Cond := [Cond.code yX0_failAfter cX0_failAfter 2 (some .boolean), Cond.methodLink RL 46 yX1_failAfter, Cond.instanceMethod yX1_failAfter, Cond.selects RX1 yX1_failAfter yX1_failAfter, Cond.code yX1_failAfter cX1_failAfter 2 (some .boolean), Cond.methodLink RL 47 yX0_fail, Cond.instanceMethod yX0_fail, Cond.selects RX0 yX0_fail yX0_fail, Cond.code yX0_fail cX0_fail 1 (some .boolean), Cond.methodLink RL 51 yX1_fail, Cond.instanceMethod yX1_fail, Cond.selects RX1 yX1_fail yX1_fail, Cond.code yX1_fail cX1_fail 1 (some .boolean), Cond.methodLink RL 52 yX0_mount, Cond.instanceMethod yX0_mount, Cond.selects RX0 yX0_mount yX0_mount, Cond.code yX0_mount cX0_mount 2 (some .int), Cond.methodLink RX0 96 yX0_restoreCell, Cond.instanceMethod yX0_restoreCell, Cond.selects RX0 yX0_restoreCell yX0_restoreCell, Cond.code yX0_restoreCell cX0_restoreCell 8 none, Cond.methodLink RX0 120 yX0_betterOf, Cond.static yX0_betterOf, Cond.code yX0_betterOf cX0_betterOf 4 (some .long)]
def wsL_law_r11 : List Cond := [Cond.methodLink RX0 124 yX0_writeWhereOther, Cond.instanceMethod yX0_writeWhereOther, Cond.selects RX0 yX0_writeWhereOther yX0_writeWhereOther, Cond.code yX0_writeWhereOther cX0_writeWhereOther 5 none, Cond.methodLink RX0 100 yX0_slipIsPending, Cond.instanceMethod yX0_slipIsPending, Cond.selects RX0 yX0_slipIsPending yX0_slipIsPending, Cond.code yX0_slipIsPending cX0_slipIsPending 5 (some .boolean), Cond.methodLink RX0 127 yX0_foundIn, Cond.instanceMethod yX0_foundIn, Cond.selects RX0 yX0_foundIn yX0_foundIn, Cond.code yX0_foundIn cX0_foundIn 2 (some .long), Cond.methodLink RX0 130 yX0_fromOf, Cond.static yX0_fromOf, Cond.code yX0_fromOf cX0_fromOf 1 (some .int), Cond.methodLink RX0 134 yX0_toOf, Cond.static yX0_toOf, Cond.code yX0_toOf cX0_toOf 1 (some .int), Cond.methodLink RX0 104 yX0_finishTransfer, Cond.instanceMethod yX0_finishTransfer, Cond.selects RX0 yX0_finishTransfer yX0_finishTransfer, Cond.code yX0_finishTransfer cX0_finishTransfer 5 none, Cond.methodLink RX0 137 yX0_finishAccount, Cond.instanceMethod yX0_finishAccount]
def wsL_law_r12 : List Cond := [Cond.selects RX0 yX0_finishAccount yX0_finishAccount, Cond.code yX0_finishAccount cX0_finishAccount 6 none, Cond.methodLink RL 56 yX1_mount, Cond.instanceMethod yX1_mount, Cond.selects RX1 yX1_mount yX1_mount, Cond.code yX1_mount cX1_mount 6 (some .int), Cond.methodLink RX1 120 yX1_mend, Cond.instanceMethod yX1_mend, Cond.selects RX1 yX1_mend yX1_mend, Cond.code yX1_mend cX1_mend 4 none, Cond.methodLink RX1 116 yX1_best, Cond.instanceMethod yX1_best, Cond.selects RX1 yX1_best yX1_best, Cond.code yX1_best cX1_best 8 (some .long), Cond.methodLink RX1 123 yX1_settle, Cond.instanceMethod yX1_settle, Cond.selects RX1 yX1_settle yX1_settle, Cond.code yX1_settle cX1_settle 6 none, Cond.methodLink RL 57 yX0_on, Cond.instanceMethod yX0_on, Cond.selects RX0 yX0_on yX0_on, Cond.code yX0_on cX0_on 1 (some .boolean), Cond.methodLink RL 60 yX1_on, Cond.instanceMethod yX1_on]
def wsL_law_r13 : List Cond := [Cond.selects RX1 yX1_on yX1_on, Cond.code yX1_on cX1_on 1 (some .boolean), Cond.methodLink RL 61 yX0_lost, Cond.instanceMethod yX0_lost, Cond.selects RX0 yX0_lost yX0_lost, Cond.code yX0_lost cX0_lost 2 (some .int), Cond.methodLink RX0 107 yX0_isCell, Cond.static yX0_isCell, Cond.code yX0_isCell cX0_isCell 1 (some .boolean), Cond.methodLink RL 64 yX1_lost, Cond.instanceMethod yX1_lost, Cond.selects RX1 yX1_lost yX1_lost, Cond.code yX1_lost cX1_lost 2 (some .int), Cond.methodLink RL 65 yX0_word, Cond.instanceMethod yX0_word, Cond.selects RX0 yX0_word yX0_word, Cond.code yX0_word cX0_word 3 (some .long), Cond.methodLink RL 69 yX1_word, Cond.instanceMethod yX1_word, Cond.selects RX1 yX1_word yX1_word, Cond.code yX1_word cX1_word 3 (some .long), Cond.methodLink RL 70 yX0_done, Cond.instanceMethod yX0_done, Cond.selects RX0 yX0_done yX0_done]
def wsL_law_r14 : List Cond := [Cond.code yX0_done cX0_done 2 (some .int), Cond.methodLink RL 73 yX1_done, Cond.instanceMethod yX1_done, Cond.selects RX1 yX1_done yX1_done, Cond.code yX1_done cX1_done 2 (some .int)]
def wsL_law : List Cond := (wsL_law_r1 ++ (wsL_law_r2 ++ (wsL_law_r3 ++ (wsL_law_r4 ++ (wsL_law_r5 ++ (wsL_law_r6 ++ (wsL_law_r7 ++ (wsL_law_r8 ++ (wsL_law_r9 ++ (wsL_law_r10 ++ (wsL_law_r11 ++ (wsL_law_r12 ++ (wsL_law_r13 ++ wsL_law_r14))))))))))))) ++ wsX00 ++ wsX10 ++ ([] : List Cond)
abbrev vwCl : List vw_C := [(RX0, TX0, 6), (RX1, TX1, 11)]
end
section
set_option maxRecDepth 20000 in
theorem in_wsL_law_r1 : ∀ w ∈ wsL_law_r1, w ∈ lw_tbl := fun w h => (goodIn_r wsL_law_r1 [23, 24, 21, 215, 216, 22, 25, 26, 27, 28, 29, 30, 56, 37, 57, 38, 39, 40, 31, 32, 33, 34, 35, 36] (by decide +kernel) (by decide +kernel) w h).1
set_option maxRecDepth 20000 in
theorem in_wsL_law_r2 : ∀ w ∈ wsL_law_r2, w ∈ lw_tbl := fun w h => (goodIn_r wsL_law_r2 [217, 218, 219, 220, 229, 230, 231, 232, 235, 236, 237, 239, 221, 222, 223, 224, 225, 226, 227, 228, 58, 59, 60, 61] (by decide +kernel) (by decide +kernel) w h).1
set_option maxRecDepth 20000 in
theorem in_wsL_law_r3 : ∀ w ∈ wsL_law_r3, w ∈ lw_tbl := fun w h => (goodIn_r wsL_law_r3 [62, 63, 64, 65, 67, 0, 68, 41, 69, 71, 1, 72, 73, 75, 2, 76, 77, 78, 79, 80, 81, 82, 83, 84] (by decide +kernel) (by decide +kernel) w h).1
set_option maxRecDepth 20000 in
theorem in_wsL_law_r4 : ∀ w ∈ wsL_law_r4, w ∈ lw_tbl := fun w h => (goodIn_r wsL_law_r4 [85, 86, 87, 88, 89, 90, 91, 93, 3, 94, 95, 97, 4, 98, 42, 99, 101, 5, 102, 263, 264, 265, 266, 238] (by decide +kernel) (by decide +kernel) w h).1
set_option maxRecDepth 20000 in
theorem in_wsL_law_r5 : ∀ w ∈ wsL_law_r5, w ∈ lw_tbl := fun w h => (goodIn_r wsL_law_r5 [267, 268, 269, 270, 271, 272, 273, 274, 275, 276, 277, 279, 13, 280, 281, 283, 14, 284, 285, 287, 15, 288, 233, 234] (by decide +kernel) (by decide +kernel) w h).1
set_option maxRecDepth 20000 in
theorem in_wsL_law_r6 : ∀ w ∈ wsL_law_r6, w ∈ lw_tbl := fun w h => (goodIn_r wsL_law_r6 [103, 104, 105, 106, 107, 112, 113, 114, 108, 110, 6, 111, 115, 116, 117, 289, 290, 291, 292, 293, 298, 299, 300, 294] (by decide +kernel) (by decide +kernel) w h).1
set_option maxRecDepth 20000 in
theorem in_wsL_law_r7 : ∀ w ∈ wsL_law_r7, w ∈ lw_tbl := fun w h => (goodIn_r wsL_law_r7 [296, 16, 297, 301, 302, 303, 118, 119, 120, 121, 122, 123, 124, 125, 126, 127, 128, 129, 130, 304, 305, 306, 307, 311] (by decide +kernel) (by decide +kernel) w h).1
set_option maxRecDepth 20000 in
theorem in_wsL_law_r8 : ∀ w ∈ wsL_law_r8, w ∈ lw_tbl := fun w h => (goodIn_r wsL_law_r8 [308, 309, 310, 312, 313, 314, 315, 316, 131, 132, 133, 134, 141, 142, 135, 136, 137, 138, 139, 140, 317, 318, 319, 320] (by decide +kernel) (by decide +kernel) w h).1
set_option maxRecDepth 20000 in
theorem in_wsL_law_r9 : ∀ w ∈ wsL_law_r9, w ∈ lw_tbl := fun w h => (goodIn_r wsL_law_r9 [324, 325, 321, 322, 323, 143, 144, 145, 146, 326, 327, 328, 329, 147, 148, 149, 150, 330, 331, 332, 333, 151, 152, 153] (by decide +kernel) (by decide +kernel) w h).1
set_option maxRecDepth 20000 in
theorem in_wsL_law_r10 : ∀ w ∈ wsL_law_r10, w ∈ lw_tbl := fun w h => (goodIn_r wsL_law_r10 [154, 334, 335, 336, 337, 155, 156, 157, 158, 338, 339, 340, 341, 159, 160, 161, 162, 163, 165, 7, 166, 167, 168, 169] (by decide +kernel) (by decide +kernel) w h).1
set_option maxRecDepth 20000 in
theorem in_wsL_law_r11 : ∀ w ∈ wsL_law_r11, w ∈ lw_tbl := fun w h => (goodIn_r wsL_law_r11 [170, 172, 8, 173, 174, 176, 9, 177, 178, 180, 10, 181, 182, 183, 184, 185, 186, 187, 188, 190, 11, 191, 192, 194] (by decide +kernel) (by decide +kernel) w h).1
set_option maxRecDepth 20000 in
theorem in_wsL_law_r12 : ∀ w ∈ wsL_law_r12, w ∈ lw_tbl := fun w h => (goodIn_r wsL_law_r12 [12, 195, 342, 343, 344, 345, 346, 348, 17, 349, 350, 352, 18, 353, 354, 356, 19, 357, 196, 197, 198, 199, 358, 359] (by decide +kernel) (by decide +kernel) w h).1
set_option maxRecDepth 20000 in
theorem in_wsL_law_r13 : ∀ w ∈ wsL_law_r13, w ∈ lw_tbl := fun w h => (goodIn_r wsL_law_r13 [360, 361, 200, 201, 202, 203, 204, 205, 206, 362, 363, 364, 365, 207, 208, 209, 210, 366, 367, 368, 369, 211, 212, 213] (by decide +kernel) (by decide +kernel) w h).1
set_option maxRecDepth 20000 in
theorem in_wsL_law_r14 : ∀ w ∈ wsL_law_r14, w ∈ lw_tbl := fun w h => (goodIn_r wsL_law_r14 [214, 370, 371, 372, 373] (by decide +kernel) (by decide +kernel) w h).1
set_option maxRecDepth 20000 in
theorem in_wsX00 : ∀ w ∈ wsX00, w ∈ lw_tbl := fun w h => (goodIn_r wsX00 [43, 45, 47, 49, 51, 53] (by decide +kernel) (by decide +kernel) w h).1
set_option maxRecDepth 20000 in
theorem in_wsX10 : ∀ w ∈ wsX10, w ∈ lw_tbl := fun w h => (goodIn_r wsX10 [240, 242, 244, 246, 248, 250, 252, 254, 256, 258, 260] (by decide +kernel) (by decide +kernel) w h).1
theorem wsL_law_in : ∀ w ∈ wsL_law, w ∈ lw_tbl := fun w h => (List.mem_append.mp h).elim (fun h => (List.mem_append.mp h).elim (fun h => (List.mem_append.mp h).elim (fun h => (List.mem_append.mp h).elim (fun h => in_wsL_law_r1 w h) (fun h => (List.mem_append.mp h).elim (fun h => in_wsL_law_r2 w h) (fun h => (List.mem_append.mp h).elim (fun h => in_wsL_law_r3 w h) (fun h => (List.mem_append.mp h).elim (fun h => in_wsL_law_r4 w h) (fun h => (List.mem_append.mp h).elim (fun h => in_wsL_law_r5 w h) (fun h => (List.mem_append.mp h).elim (fun h => in_wsL_law_r6 w h) (fun h => (List.mem_append.mp h).elim (fun h => in_wsL_law_r7 w h) (fun h => (List.mem_append.mp h).elim (fun h => in_wsL_law_r8 w h) (fun h => (List.mem_append.mp h).elim (fun h => in_wsL_law_r9 w h) (fun h => (List.mem_append.mp h).elim (fun h => in_wsL_law_r10 w h) (fun h => (List.mem_append.mp h).elim (fun h => in_wsL_law_r11 w h) (fun h => (List.mem_append.mp h).elim (fun h => in_wsL_law_r12 w h) (fun h => (List.mem_append.mp h).elim (fun h => in_wsL_law_r13 w h) (fun h => in_wsL_law_r14 w h)))))))))))))) (in_wsX00 w)) (in_wsX10 w)) (fun h => by cases h)
theorem inlX0 : ∀ w ∈ wsX00, w ∈ wsL_law := fun _ h => List.mem_append_left _ (List.mem_append_left _ (List.mem_append_right _ h))
theorem inX0 : ∀ w ∈ wsX00, w ∈ lw_tbl := fun w h => wsL_law_in w (inlX0 w h)
theorem inlX1 : ∀ w ∈ wsX10, w ∈ wsL_law := fun _ h => List.mem_append_left _ (List.mem_append_right _ h)
theorem inX1 : ∀ w ∈ wsX10, w ∈ lw_tbl := fun w h => wsL_law_in w (inlX1 w h)
end
section
set_option maxRecDepth 20000 in
theorem ggX0_init_X0_makeWord : GoodIn wsX0_init wsX0_makeWord := goodIn_r _ [13, 14, 15, 12, 16] (by decide +kernel) (by decide +kernel)
set_option maxRecDepth 20000 in
theorem gX0_init_X0_makeWord : GoodIn wsX0_init (va_wsS RX0 25 yX0_makeWord wsX0_makeWord) := goodIn_app (goodIn_of _ (by decide +kernel)) ggX0_init_X0_makeWord
theorem dX0_init_0 : decode cX0_init 0 = .ok (.aload_n 0, 1) := by decide +kernel
theorem dX0_init_1 : decode cX0_init 1 = .ok (.invokespecial 1, 3) := by decide +kernel
theorem dX0_init_4 : decode cX0_init 4 = .ok (.aload_n 0, 1) := by decide +kernel
theorem dX0_init_5 : decode cX0_init 5 = .ok (.bipush 80, 2) := by decide +kernel
theorem dX0_init_7 : decode cX0_init 7 = .ok (.newarray .long, 2) := by decide +kernel
theorem dX0_init_9 : decode cX0_init 9 = .ok (.putfield 9, 3) := by decide +kernel
theorem dX0_init_12 : decode cX0_init 12 = .ok (.aload_n 0, 1) := by decide +kernel
theorem dX0_init_13 : decode cX0_init 13 = .ok (.bipush 20, 2) := by decide +kernel
theorem dX0_init_15 : decode cX0_init 15 = .ok (.newarray .int, 2) := by decide +kernel
theorem dX0_init_17 : decode cX0_init 17 = .ok (.putfield 13, 3) := by decide +kernel
theorem dX0_init_20 : decode cX0_init 20 = .ok (.aload_n 0, 1) := by decide +kernel
theorem dX0_init_21 : decode cX0_init 21 = .ok (.iconst 1, 1) := by decide +kernel
theorem dX0_init_22 : decode cX0_init 22 = .ok (.putfield 17, 3) := by decide +kernel
theorem dX0_init_25 : decode cX0_init 25 = .ok (.aload_n 0, 1) := by decide +kernel
theorem dX0_init_26 : decode cX0_init 26 = .ok (.iconst (-1), 1) := by decide +kernel
theorem dX0_init_27 : decode cX0_init 27 = .ok (.putfield 21, 3) := by decide +kernel
theorem dX0_init_30 : decode cX0_init 30 = .ok (.iconst 0, 1) := by decide +kernel
theorem dX0_init_31 : decode cX0_init 31 = .ok (.iconst 0, 1) := by decide +kernel
theorem dX0_init_32 : decode cX0_init 32 = .ok (.invokestatic 25, 3) := by decide +kernel
theorem dX0_init_35 : decode cX0_init 35 = .ok (.lstore_n 1, 1) := by decide +kernel
theorem dX0_init_36 : decode cX0_init 36 = .ok (.iconst 0, 1) := by decide +kernel
theorem dX0_init_37 : decode cX0_init 37 = .ok (.istore_n 3, 1) := by decide +kernel
theorem dX0_init_38 : decode cX0_init 38 = .ok (.iload_n 3, 1) := by decide +kernel
theorem dX0_init_39 : decode cX0_init 39 = .ok (.aload_n 0, 1) := by decide +kernel
theorem dX0_init_40 : decode cX0_init 40 = .ok (.getfield 9, 3) := by decide +kernel
theorem dX0_init_43 : decode cX0_init 43 = .ok (.arraylength, 1) := by decide +kernel
theorem dX0_init_44 : decode cX0_init 44 = .ok (.if_icmp .ge 16, 3) := by decide +kernel
theorem dX0_init_47 : decode cX0_init 47 = .ok (.aload_n 0, 1) := by decide +kernel
theorem dX0_init_48 : decode cX0_init 48 = .ok (.getfield 9, 3) := by decide +kernel
theorem dX0_init_51 : decode cX0_init 51 = .ok (.iload_n 3, 1) := by decide +kernel
theorem dX0_init_52 : decode cX0_init 52 = .ok (.lload_n 1, 1) := by decide +kernel
theorem dX0_init_53 : decode cX0_init 53 = .ok (.lastore, 1) := by decide +kernel
theorem dX0_init_54 : decode cX0_init 54 = .ok (.iinc 3 1, 3) := by decide +kernel
theorem dX0_init_57 : decode cX0_init 57 = .ok (.goto (-19), 3) := by decide +kernel
theorem dX0_init_60 : decode cX0_init 60 = .ok (.return_, 1) := by decide +kernel
set_option maxRecDepth 20000 in
theorem ggX0_open_X0_isAccount : GoodIn wsX0_open wsX0_isAccount := goodIn_r _ [4] (by decide +kernel) (by decide +kernel)
set_option maxRecDepth 20000 in
theorem gX0_open_X0_isAccount : GoodIn wsX0_open (va_wsS RX0 29 yX0_isAccount wsX0_isAccount) := goodIn_app (goodIn_of _ (by decide +kernel)) ggX0_open_X0_isAccount
set_option maxRecDepth 20000 in
theorem ggX0_open_X0_readTurn : GoodIn wsX0_open wsX0_readTurn := goodIn_r _ [8, 9, 10, 11, 12, 13, 3, 14, 15, 16, 17, 18, 19, 20, 21, 22, 23, 54, 55, 56, 57, 58, 59] (by decide +kernel) (by decide +kernel)
set_option maxRecDepth 20000 in
theorem gX0_open_X0_readTurn : GoodIn wsX0_open (wsV RX0 33 RX0 yX0_readTurn wsX0_readTurn) := goodIn_app (goodIn_of _ (by decide +kernel)) ggX0_open_X0_readTurn
set_option maxRecDepth 20000 in
theorem ggX0_open_X0_isUnopened : GoodIn wsX0_open wsX0_isUnopened := goodIn_r _ [26, 27, 28, 3, 29, 30, 31, 32, 33, 34, 35, 36, 37] (by decide +kernel) (by decide +kernel)
set_option maxRecDepth 20000 in
theorem gX0_open_X0_isUnopened : GoodIn wsX0_open (va_wsS RX0 36 yX0_isUnopened wsX0_isUnopened) := goodIn_app (goodIn_of _ (by decide +kernel)) ggX0_open_X0_isUnopened
set_option maxRecDepth 20000 in
theorem ggX0_open_X0_makeWord : GoodIn wsX0_open wsX0_makeWord := goodIn_r _ [40, 31, 32, 3, 33] (by decide +kernel) (by decide +kernel)
set_option maxRecDepth 20000 in
theorem gX0_open_X0_makeWord : GoodIn wsX0_open (va_wsS RX0 25 yX0_makeWord wsX0_makeWord) := goodIn_app (goodIn_of _ (by decide +kernel)) ggX0_open_X0_makeWord
set_option maxRecDepth 20000 in
theorem ggX0_open_X0_put : GoodIn wsX0_open wsX0_put := goodIn_r _ [44, 45, 46, 47, 3, 48, 49, 10, 11, 12, 13, 14, 15, 16, 17, 18, 19, 20, 21, 22, 23, 54, 55, 56, 57, 58, 59] (by decide +kernel) (by decide +kernel)
set_option maxRecDepth 20000 in
theorem gX0_open_X0_put : GoodIn wsX0_open (wsV RX0 40 RX0 yX0_put wsX0_put) := goodIn_app (goodIn_of _ (by decide +kernel)) ggX0_open_X0_put
set_option maxRecDepth 20000 in
theorem ggX0_open_X0_writeTurn : GoodIn wsX0_open wsX0_writeTurn := goodIn_r _ [48, 49, 10, 11, 12, 13, 3, 14, 15, 16, 17, 18, 19, 20, 21, 22, 23, 54, 55, 56, 57, 58, 59] (by decide +kernel) (by decide +kernel)
set_option maxRecDepth 20000 in
theorem gX0_open_X0_writeTurn : GoodIn wsX0_open (wsV RX0 44 RX0 yX0_writeTurn wsX0_writeTurn) := goodIn_app (goodIn_of _ (by decide +kernel)) ggX0_open_X0_writeTurn
set_option maxRecDepth 20000 in
theorem ggX0_open_X0_answerOf : GoodIn wsX0_open wsX0_answerOf := goodIn_r _ [53, 15, 54, 55, 56, 57, 58, 59] (by decide +kernel) (by decide +kernel)
set_option maxRecDepth 20000 in
theorem gX0_open_X0_answerOf : GoodIn wsX0_open (wsV RX0 48 RX0 yX0_answerOf wsX0_answerOf) := goodIn_app (goodIn_of _ (by decide +kernel)) ggX0_open_X0_answerOf
theorem dX0_open_0 : decode cX0_open 0 = .ok (.iload_n 1, 1) := by decide +kernel
theorem dX0_open_1 : decode cX0_open 1 = .ok (.invokestatic 29, 3) := by decide +kernel
theorem dX0_open_4 : decode cX0_open 4 = .ok (.ifCond .ne 5, 3) := by decide +kernel
theorem dX0_open_7 : decode cX0_open 7 = .ok (.iconst (-1), 1) := by decide +kernel
theorem dX0_open_8 : decode cX0_open 8 = .ok (.ireturn, 1) := by decide +kernel
theorem dX0_open_9 : decode cX0_open 9 = .ok (.aload_n 0, 1) := by decide +kernel
theorem dX0_open_10 : decode cX0_open 10 = .ok (.iconst 0, 1) := by decide +kernel
theorem dX0_open_11 : decode cX0_open 11 = .ok (.iload_n 1, 1) := by decide +kernel
theorem dX0_open_12 : decode cX0_open 12 = .ok (.invokevirtual 33, 3) := by decide +kernel
theorem dX0_open_15 : decode cX0_open 15 = .ok (.lstore_n 3, 1) := by decide +kernel
theorem dX0_open_16 : decode cX0_open 16 = .ok (.lload_n 3, 1) := by decide +kernel
theorem dX0_open_17 : decode cX0_open 17 = .ok (.invokestatic 36, 3) := by decide +kernel
theorem dX0_open_20 : decode cX0_open 20 = .ok (.istore 5, 2) := by decide +kernel
theorem dX0_open_22 : decode cX0_open 22 = .ok (.iload 5, 2) := by decide +kernel
theorem dX0_open_24 : decode cX0_open 24 = .ok (.ifCond .eq 16, 3) := by decide +kernel
theorem dX0_open_27 : decode cX0_open 27 = .ok (.aload_n 0, 1) := by decide +kernel
theorem dX0_open_28 : decode cX0_open 28 = .ok (.iload_n 1, 1) := by decide +kernel
theorem dX0_open_29 : decode cX0_open 29 = .ok (.iload_n 2, 1) := by decide +kernel
theorem dX0_open_30 : decode cX0_open 30 = .ok (.iconst 1, 1) := by decide +kernel
theorem dX0_open_31 : decode cX0_open 31 = .ok (.invokestatic 25, 3) := by decide +kernel
theorem dX0_open_34 : decode cX0_open 34 = .ok (.invokevirtual 40, 3) := by decide +kernel
theorem dX0_open_37 : decode cX0_open 37 = .ok (.goto 10, 3) := by decide +kernel
theorem dX0_open_40 : decode cX0_open 40 = .ok (.aload_n 0, 1) := by decide +kernel
theorem dX0_open_41 : decode cX0_open 41 = .ok (.iconst 0, 1) := by decide +kernel
theorem dX0_open_42 : decode cX0_open 42 = .ok (.iload_n 1, 1) := by decide +kernel
theorem dX0_open_43 : decode cX0_open 43 = .ok (.lload_n 3, 1) := by decide +kernel
theorem dX0_open_44 : decode cX0_open 44 = .ok (.invokevirtual 44, 3) := by decide +kernel
theorem dX0_open_47 : decode cX0_open 47 = .ok (.aload_n 0, 1) := by decide +kernel
theorem dX0_open_48 : decode cX0_open 48 = .ok (.iload 5, 2) := by decide +kernel
theorem dX0_open_50 : decode cX0_open 50 = .ok (.invokevirtual 48, 3) := by decide +kernel
theorem dX0_open_53 : decode cX0_open 53 = .ok (.ireturn, 1) := by decide +kernel
set_option maxRecDepth 20000 in
theorem ggX0_balance_X0_isAccount : GoodIn wsX0_balance wsX0_isAccount := goodIn_r _ [9] (by decide +kernel) (by decide +kernel)
set_option maxRecDepth 20000 in
theorem gX0_balance_X0_isAccount : GoodIn wsX0_balance (va_wsS RX0 29 yX0_isAccount wsX0_isAccount) := goodIn_app (goodIn_of _ (by decide +kernel)) ggX0_balance_X0_isAccount
set_option maxRecDepth 20000 in
theorem ggX0_balance_X0_look : GoodIn wsX0_balance wsX0_look := goodIn_r _ [13, 14, 15, 16, 8, 17, 18, 19, 20, 21, 22, 23, 2, 24, 25, 26, 27, 28, 29, 30, 31, 32, 33, 34, 35, 36, 54, 55, 56, 57, 58, 59] (by decide +kernel) (by decide +kernel)
set_option maxRecDepth 20000 in
theorem gX0_balance_X0_look : GoodIn wsX0_balance (wsV RX0 54 RX0 yX0_look wsX0_look) := goodIn_app (goodIn_of _ (by decide +kernel)) ggX0_balance_X0_look
set_option maxRecDepth 20000 in
theorem ggX0_balance_X0_isValid : GoodIn wsX0_balance wsX0_isValid := goodIn_r _ [39, 40, 41, 42, 8, 43] (by decide +kernel) (by decide +kernel)
set_option maxRecDepth 20000 in
theorem gX0_balance_X0_isValid : GoodIn wsX0_balance (va_wsS RX0 60 yX0_isValid wsX0_isValid) := goodIn_app (goodIn_of _ (by decide +kernel)) ggX0_balance_X0_isValid
set_option maxRecDepth 20000 in
theorem ggX0_balance_X0_isUnopened : GoodIn wsX0_balance wsX0_isUnopened := goodIn_r _ [46, 37, 38, 8, 39, 40, 41, 42, 43, 47, 48, 49, 50] (by decide +kernel) (by decide +kernel)
set_option maxRecDepth 20000 in
theorem gX0_balance_X0_isUnopened : GoodIn wsX0_balance (va_wsS RX0 36 yX0_isUnopened wsX0_isUnopened) := goodIn_app (goodIn_of _ (by decide +kernel)) ggX0_balance_X0_isUnopened
set_option maxRecDepth 20000 in
theorem ggX0_balance_X0_balanceOf : GoodIn wsX0_balance wsX0_balanceOf := goodIn_r _ [53] (by decide +kernel) (by decide +kernel)
set_option maxRecDepth 20000 in
theorem gX0_balance_X0_balanceOf : GoodIn wsX0_balance (va_wsS RX0 67 yX0_balanceOf wsX0_balanceOf) := goodIn_app (goodIn_of _ (by decide +kernel)) ggX0_balance_X0_balanceOf
theorem dX0_balance_0 : decode cX0_balance 0 = .ok (.iload_n 1, 1) := by decide +kernel
theorem dX0_balance_1 : decode cX0_balance 1 = .ok (.invokestatic 29, 3) := by decide +kernel
theorem dX0_balance_4 : decode cX0_balance 4 = .ok (.ifCond .ne 7, 3) := by decide +kernel
theorem dX0_balance_7 : decode cX0_balance 7 = .ok (.ldc2_w 52, 3) := by decide +kernel
theorem dX0_balance_10 : decode cX0_balance 10 = .ok (.lreturn, 1) := by decide +kernel
theorem dX0_balance_11 : decode cX0_balance 11 = .ok (.aload_n 0, 1) := by decide +kernel
theorem dX0_balance_12 : decode cX0_balance 12 = .ok (.iload_n 1, 1) := by decide +kernel
theorem dX0_balance_13 : decode cX0_balance 13 = .ok (.invokevirtual 54, 3) := by decide +kernel
theorem dX0_balance_16 : decode cX0_balance 16 = .ok (.lstore_n 2, 1) := by decide +kernel
theorem dX0_balance_17 : decode cX0_balance 17 = .ok (.aload_n 0, 1) := by decide +kernel
theorem dX0_balance_18 : decode cX0_balance 18 = .ok (.getfield 17, 3) := by decide +kernel
theorem dX0_balance_21 : decode cX0_balance 21 = .ok (.ifCond .ne 7, 3) := by decide +kernel
theorem dX0_balance_24 : decode cX0_balance 24 = .ok (.ldc2_w 58, 3) := by decide +kernel
theorem dX0_balance_27 : decode cX0_balance 27 = .ok (.lreturn, 1) := by decide +kernel
theorem dX0_balance_28 : decode cX0_balance 28 = .ok (.lload_n 2, 1) := by decide +kernel
theorem dX0_balance_29 : decode cX0_balance 29 = .ok (.invokestatic 60, 3) := by decide +kernel
theorem dX0_balance_32 : decode cX0_balance 32 = .ok (.ifCond .ne 7, 3) := by decide +kernel
theorem dX0_balance_35 : decode cX0_balance 35 = .ok (.ldc2_w 63, 3) := by decide +kernel
theorem dX0_balance_38 : decode cX0_balance 38 = .ok (.lreturn, 1) := by decide +kernel
theorem dX0_balance_39 : decode cX0_balance 39 = .ok (.lload_n 2, 1) := by decide +kernel
theorem dX0_balance_40 : decode cX0_balance 40 = .ok (.invokestatic 36, 3) := by decide +kernel
theorem dX0_balance_43 : decode cX0_balance 43 = .ok (.ifCond .eq 9, 3) := by decide +kernel
theorem dX0_balance_46 : decode cX0_balance 46 = .ok (.ldc2_w 65, 3) := by decide +kernel
theorem dX0_balance_49 : decode cX0_balance 49 = .ok (.goto 8, 3) := by decide +kernel
theorem dX0_balance_52 : decode cX0_balance 52 = .ok (.lload_n 2, 1) := by decide +kernel
theorem dX0_balance_53 : decode cX0_balance 53 = .ok (.invokestatic 67, 3) := by decide +kernel
theorem dX0_balance_56 : decode cX0_balance 56 = .ok (.i2l, 1) := by decide +kernel
theorem dX0_balance_57 : decode cX0_balance 57 = .ok (.lreturn, 1) := by decide +kernel
set_option maxRecDepth 20000 in
theorem ggX0_post_X0_isAccount : GoodIn wsX0_post wsX0_isAccount := goodIn_r _ [4] (by decide +kernel) (by decide +kernel)
set_option maxRecDepth 20000 in
theorem gX0_post_X0_isAccount : GoodIn wsX0_post (va_wsS RX0 29 yX0_isAccount wsX0_isAccount) := goodIn_app (goodIn_of _ (by decide +kernel)) ggX0_post_X0_isAccount
set_option maxRecDepth 20000 in
theorem ggX0_post_X0_readTurn : GoodIn wsX0_post wsX0_readTurn := goodIn_r _ [8, 9, 10, 11, 12, 13, 3, 14, 15, 16, 17, 18, 19, 20, 21, 22, 23, 63, 64, 65, 66, 67, 68] (by decide +kernel) (by decide +kernel)
set_option maxRecDepth 20000 in
theorem gX0_post_X0_readTurn : GoodIn wsX0_post (wsV RX0 33 RX0 yX0_readTurn wsX0_readTurn) := goodIn_app (goodIn_of _ (by decide +kernel)) ggX0_post_X0_readTurn
set_option maxRecDepth 20000 in
theorem ggX0_post_X0_balanceOf : GoodIn wsX0_post wsX0_balanceOf := goodIn_r _ [26] (by decide +kernel) (by decide +kernel)
set_option maxRecDepth 20000 in
theorem gX0_post_X0_balanceOf : GoodIn wsX0_post (va_wsS RX0 67 yX0_balanceOf wsX0_balanceOf) := goodIn_app (goodIn_of _ (by decide +kernel)) ggX0_post_X0_balanceOf
set_option maxRecDepth 20000 in
theorem ggX0_post_X0_isOpen : GoodIn wsX0_post wsX0_isOpen := goodIn_r _ [29, 30, 31, 3, 32, 33, 34, 35, 36, 37, 38, 39, 40] (by decide +kernel) (by decide +kernel)
set_option maxRecDepth 20000 in
theorem gX0_post_X0_isOpen : GoodIn wsX0_post (va_wsS RX0 71 yX0_isOpen wsX0_isOpen) := goodIn_app (goodIn_of _ (by decide +kernel)) ggX0_post_X0_isOpen
set_option maxRecDepth 20000 in
theorem ggX0_post_X0_hasNextNumber : GoodIn wsX0_post wsX0_hasNextNumber := goodIn_r _ [43, 40, 37, 38, 3, 39] (by decide +kernel) (by decide +kernel)
set_option maxRecDepth 20000 in
theorem gX0_post_X0_hasNextNumber : GoodIn wsX0_post (va_wsS RX0 74 yX0_hasNextNumber wsX0_hasNextNumber) := goodIn_app (goodIn_of _ (by decide +kernel)) ggX0_post_X0_hasNextNumber
set_option maxRecDepth 20000 in
theorem ggX0_post_X0_isInt : GoodIn wsX0_post wsX0_isInt := goodIn_r _ [46] (by decide +kernel) (by decide +kernel)
set_option maxRecDepth 20000 in
theorem gX0_post_X0_isInt : GoodIn wsX0_post (va_wsS RX0 77 yX0_isInt wsX0_isInt) := goodIn_app (goodIn_of _ (by decide +kernel)) ggX0_post_X0_isInt
set_option maxRecDepth 20000 in
theorem ggX0_post_X0_numberOf : GoodIn wsX0_post wsX0_numberOf := goodIn_r _ [39, 40] (by decide +kernel) (by decide +kernel)
set_option maxRecDepth 20000 in
theorem gX0_post_X0_numberOf : GoodIn wsX0_post (va_wsS RX0 80 yX0_numberOf wsX0_numberOf) := goodIn_app (goodIn_of _ (by decide +kernel)) ggX0_post_X0_numberOf
set_option maxRecDepth 20000 in
theorem ggX0_post_X0_makeWord : GoodIn wsX0_post wsX0_makeWord := goodIn_r _ [49, 34, 35, 3, 36] (by decide +kernel) (by decide +kernel)
set_option maxRecDepth 20000 in
theorem gX0_post_X0_makeWord : GoodIn wsX0_post (va_wsS RX0 25 yX0_makeWord wsX0_makeWord) := goodIn_app (goodIn_of _ (by decide +kernel)) ggX0_post_X0_makeWord
set_option maxRecDepth 20000 in
theorem ggX0_post_X0_put : GoodIn wsX0_post wsX0_put := goodIn_r _ [53, 54, 55, 56, 3, 57, 58, 10, 11, 12, 13, 14, 15, 16, 17, 18, 19, 20, 21, 22, 23, 63, 64, 65, 66, 67, 68] (by decide +kernel) (by decide +kernel)
set_option maxRecDepth 20000 in
theorem gX0_post_X0_put : GoodIn wsX0_post (wsV RX0 40 RX0 yX0_put wsX0_put) := goodIn_app (goodIn_of _ (by decide +kernel)) ggX0_post_X0_put
set_option maxRecDepth 20000 in
theorem ggX0_post_X0_writeTurn : GoodIn wsX0_post wsX0_writeTurn := goodIn_r _ [57, 58, 10, 11, 12, 13, 3, 14, 15, 16, 17, 18, 19, 20, 21, 22, 23, 63, 64, 65, 66, 67, 68] (by decide +kernel) (by decide +kernel)
set_option maxRecDepth 20000 in
theorem gX0_post_X0_writeTurn : GoodIn wsX0_post (wsV RX0 44 RX0 yX0_writeTurn wsX0_writeTurn) := goodIn_app (goodIn_of _ (by decide +kernel)) ggX0_post_X0_writeTurn
set_option maxRecDepth 20000 in
theorem ggX0_post_X0_answerOf : GoodIn wsX0_post wsX0_answerOf := goodIn_r _ [62, 15, 63, 64, 65, 66, 67, 68] (by decide +kernel) (by decide +kernel)
set_option maxRecDepth 20000 in
theorem gX0_post_X0_answerOf : GoodIn wsX0_post (wsV RX0 48 RX0 yX0_answerOf wsX0_answerOf) := goodIn_app (goodIn_of _ (by decide +kernel)) ggX0_post_X0_answerOf
theorem dX0_post_0 : decode cX0_post 0 = .ok (.iload_n 1, 1) := by decide +kernel
theorem dX0_post_1 : decode cX0_post 1 = .ok (.invokestatic 29, 3) := by decide +kernel
theorem dX0_post_4 : decode cX0_post 4 = .ok (.ifCond .ne 5, 3) := by decide +kernel
theorem dX0_post_7 : decode cX0_post 7 = .ok (.iconst (-1), 1) := by decide +kernel
theorem dX0_post_8 : decode cX0_post 8 = .ok (.ireturn, 1) := by decide +kernel
theorem dX0_post_9 : decode cX0_post 9 = .ok (.aload_n 0, 1) := by decide +kernel
theorem dX0_post_10 : decode cX0_post 10 = .ok (.iconst 0, 1) := by decide +kernel
theorem dX0_post_11 : decode cX0_post 11 = .ok (.iload_n 1, 1) := by decide +kernel
theorem dX0_post_12 : decode cX0_post 12 = .ok (.invokevirtual 33, 3) := by decide +kernel
theorem dX0_post_15 : decode cX0_post 15 = .ok (.lstore_n 3, 1) := by decide +kernel
theorem dX0_post_16 : decode cX0_post 16 = .ok (.lload_n 3, 1) := by decide +kernel
theorem dX0_post_17 : decode cX0_post 17 = .ok (.invokestatic 67, 3) := by decide +kernel
theorem dX0_post_20 : decode cX0_post 20 = .ok (.i2l, 1) := by decide +kernel
theorem dX0_post_21 : decode cX0_post 21 = .ok (.iload_n 2, 1) := by decide +kernel
theorem dX0_post_22 : decode cX0_post 22 = .ok (.i2l, 1) := by decide +kernel
theorem dX0_post_23 : decode cX0_post 23 = .ok (.ladd, 1) := by decide +kernel
theorem dX0_post_24 : decode cX0_post 24 = .ok (.lstore 5, 2) := by decide +kernel
theorem dX0_post_26 : decode cX0_post 26 = .ok (.lload_n 3, 1) := by decide +kernel
theorem dX0_post_27 : decode cX0_post 27 = .ok (.invokestatic 71, 3) := by decide +kernel
theorem dX0_post_30 : decode cX0_post 30 = .ok (.ifCond .eq 22, 3) := by decide +kernel
theorem dX0_post_33 : decode cX0_post 33 = .ok (.lload_n 3, 1) := by decide +kernel
theorem dX0_post_34 : decode cX0_post 34 = .ok (.invokestatic 74, 3) := by decide +kernel
theorem dX0_post_37 : decode cX0_post 37 = .ok (.ifCond .eq 15, 3) := by decide +kernel
theorem dX0_post_40 : decode cX0_post 40 = .ok (.lload 5, 2) := by decide +kernel
theorem dX0_post_42 : decode cX0_post 42 = .ok (.invokestatic 77, 3) := by decide +kernel
theorem dX0_post_45 : decode cX0_post 45 = .ok (.ifCond .eq 7, 3) := by decide +kernel
theorem dX0_post_48 : decode cX0_post 48 = .ok (.iconst 1, 1) := by decide +kernel
theorem dX0_post_49 : decode cX0_post 49 = .ok (.goto 4, 3) := by decide +kernel
theorem dX0_post_52 : decode cX0_post 52 = .ok (.iconst 0, 1) := by decide +kernel
theorem dX0_post_53 : decode cX0_post 53 = .ok (.istore 7, 2) := by decide +kernel
theorem dX0_post_55 : decode cX0_post 55 = .ok (.iload 7, 2) := by decide +kernel
theorem dX0_post_57 : decode cX0_post 57 = .ok (.ifCond .eq 23, 3) := by decide +kernel
theorem dX0_post_60 : decode cX0_post 60 = .ok (.aload_n 0, 1) := by decide +kernel
theorem dX0_post_61 : decode cX0_post 61 = .ok (.iload_n 1, 1) := by decide +kernel
theorem dX0_post_62 : decode cX0_post 62 = .ok (.lload 5, 2) := by decide +kernel
theorem dX0_post_64 : decode cX0_post 64 = .ok (.l2i, 1) := by decide +kernel
theorem dX0_post_65 : decode cX0_post 65 = .ok (.lload_n 3, 1) := by decide +kernel
theorem dX0_post_66 : decode cX0_post 66 = .ok (.invokestatic 80, 3) := by decide +kernel
theorem dX0_post_69 : decode cX0_post 69 = .ok (.iconst 1, 1) := by decide +kernel
theorem dX0_post_70 : decode cX0_post 70 = .ok (.iadd, 1) := by decide +kernel
theorem dX0_post_71 : decode cX0_post 71 = .ok (.invokestatic 25, 3) := by decide +kernel
theorem dX0_post_74 : decode cX0_post 74 = .ok (.invokevirtual 40, 3) := by decide +kernel
theorem dX0_post_77 : decode cX0_post 77 = .ok (.goto 10, 3) := by decide +kernel
theorem dX0_post_80 : decode cX0_post 80 = .ok (.aload_n 0, 1) := by decide +kernel
theorem dX0_post_81 : decode cX0_post 81 = .ok (.iconst 0, 1) := by decide +kernel
theorem dX0_post_82 : decode cX0_post 82 = .ok (.iload_n 1, 1) := by decide +kernel
theorem dX0_post_83 : decode cX0_post 83 = .ok (.lload_n 3, 1) := by decide +kernel
theorem dX0_post_84 : decode cX0_post 84 = .ok (.invokevirtual 44, 3) := by decide +kernel
theorem dX0_post_87 : decode cX0_post 87 = .ok (.aload_n 0, 1) := by decide +kernel
theorem dX0_post_88 : decode cX0_post 88 = .ok (.iload 7, 2) := by decide +kernel
theorem dX0_post_90 : decode cX0_post 90 = .ok (.invokevirtual 48, 3) := by decide +kernel
theorem dX0_post_93 : decode cX0_post 93 = .ok (.ireturn, 1) := by decide +kernel
set_option maxRecDepth 20000 in
theorem ggX0_transfer_X0_isAccount : GoodIn wsX0_transfer wsX0_isAccount := goodIn_r _ [6] (by decide +kernel) (by decide +kernel)
set_option maxRecDepth 20000 in
theorem gX0_transfer_X0_isAccount : GoodIn wsX0_transfer (va_wsS RX0 29 yX0_isAccount wsX0_isAccount) := goodIn_app (goodIn_of _ (by decide +kernel)) ggX0_transfer_X0_isAccount
set_option maxRecDepth 20000 in
theorem ggX0_transfer_X0_look : GoodIn wsX0_transfer wsX0_look := goodIn_r _ [10, 11, 12, 13, 5, 14, 15, 16, 17, 18, 19, 20, 21, 22, 23, 24, 25, 26, 27, 28, 29, 30, 31, 32, 33, 34, 75, 76, 77, 78, 79, 80] (by decide +kernel) (by decide +kernel)
set_option maxRecDepth 20000 in
theorem gX0_transfer_X0_look : GoodIn wsX0_transfer (wsV RX0 54 RX0 yX0_look wsX0_look) := goodIn_app (goodIn_of _ (by decide +kernel)) ggX0_transfer_X0_look
set_option maxRecDepth 20000 in
theorem ggX0_transfer_X0_canTake : GoodIn wsX0_transfer wsX0_canTake := goodIn_r _ [37, 38, 39, 5, 40, 41, 42, 43, 44, 45, 46, 47, 48, 49, 50, 51, 52, 53, 54, 55, 56, 57, 58, 59, 60] (by decide +kernel) (by decide +kernel)
set_option maxRecDepth 20000 in
theorem gX0_transfer_X0_canTake : GoodIn wsX0_transfer (va_wsS RX0 83 yX0_canTake wsX0_canTake) := goodIn_app (goodIn_of _ (by decide +kernel)) ggX0_transfer_X0_canTake
set_option maxRecDepth 20000 in
theorem ggX0_transfer_X0_isValid : GoodIn wsX0_transfer wsX0_isValid := goodIn_r _ [46, 47, 48, 49, 5, 50] (by decide +kernel) (by decide +kernel)
set_option maxRecDepth 20000 in
theorem gX0_transfer_X0_isValid : GoodIn wsX0_transfer (va_wsS RX0 60 yX0_isValid wsX0_isValid) := goodIn_app (goodIn_of _ (by decide +kernel)) ggX0_transfer_X0_isValid
set_option maxRecDepth 20000 in
theorem ggX0_transfer_X0_hasNextNumber : GoodIn wsX0_transfer wsX0_hasNextNumber := goodIn_r _ [57, 54, 51, 52, 5, 53] (by decide +kernel) (by decide +kernel)
set_option maxRecDepth 20000 in
theorem gX0_transfer_X0_hasNextNumber : GoodIn wsX0_transfer (va_wsS RX0 74 yX0_hasNextNumber wsX0_hasNextNumber) := goodIn_app (goodIn_of _ (by decide +kernel)) ggX0_transfer_X0_hasNextNumber
set_option maxRecDepth 20000 in
theorem ggX0_transfer_X0_nextWord : GoodIn wsX0_transfer wsX0_nextWord := goodIn_r _ [63, 38, 39, 5, 40, 51, 52, 53, 54, 64, 65, 66, 48, 49, 50] (by decide +kernel) (by decide +kernel)
set_option maxRecDepth 20000 in
theorem gX0_transfer_X0_nextWord : GoodIn wsX0_transfer (va_wsS RX0 87 yX0_nextWord wsX0_nextWord) := goodIn_app (goodIn_of _ (by decide +kernel)) ggX0_transfer_X0_nextWord
set_option maxRecDepth 20000 in
theorem ggX0_transfer_X0_numberOf : GoodIn wsX0_transfer wsX0_numberOf := goodIn_r _ [53, 54] (by decide +kernel) (by decide +kernel)
set_option maxRecDepth 20000 in
theorem gX0_transfer_X0_numberOf : GoodIn wsX0_transfer (va_wsS RX0 80 yX0_numberOf wsX0_numberOf) := goodIn_app (goodIn_of _ (by decide +kernel)) ggX0_transfer_X0_numberOf
set_option maxRecDepth 20000 in
theorem ggX0_transfer_X0_makeWord : GoodIn wsX0_transfer wsX0_makeWord := goodIn_r _ [66, 48, 49, 5, 50] (by decide +kernel) (by decide +kernel)
set_option maxRecDepth 20000 in
theorem gX0_transfer_X0_makeWord : GoodIn wsX0_transfer (va_wsS RX0 25 yX0_makeWord wsX0_makeWord) := goodIn_app (goodIn_of _ (by decide +kernel)) ggX0_transfer_X0_makeWord
set_option maxRecDepth 20000 in
theorem ggX0_transfer_X0_put : GoodIn wsX0_transfer wsX0_put := goodIn_r _ [70, 30, 31, 32, 5, 33, 34, 16, 17, 18, 19, 20, 21, 22, 23, 24, 25, 26, 27, 28, 29, 75, 76, 77, 78, 79, 80] (by decide +kernel) (by decide +kernel)
set_option maxRecDepth 20000 in
theorem gX0_transfer_X0_put : GoodIn wsX0_transfer (wsV RX0 40 RX0 yX0_put wsX0_put) := goodIn_app (goodIn_of _ (by decide +kernel)) ggX0_transfer_X0_put
set_option maxRecDepth 20000 in
theorem ggX0_transfer_X0_answerOf : GoodIn wsX0_transfer wsX0_answerOf := goodIn_r _ [74, 21, 75, 76, 77, 78, 79, 80] (by decide +kernel) (by decide +kernel)
set_option maxRecDepth 20000 in
theorem gX0_transfer_X0_answerOf : GoodIn wsX0_transfer (wsV RX0 48 RX0 yX0_answerOf wsX0_answerOf) := goodIn_app (goodIn_of _ (by decide +kernel)) ggX0_transfer_X0_answerOf
theorem dX0_transfer_0 : decode cX0_transfer 0 = .ok (.iload_n 1, 1) := by decide +kernel
theorem dX0_transfer_1 : decode cX0_transfer 1 = .ok (.invokestatic 29, 3) := by decide +kernel
theorem dX0_transfer_4 : decode cX0_transfer 4 = .ok (.ifCond .eq 19, 3) := by decide +kernel
theorem dX0_transfer_7 : decode cX0_transfer 7 = .ok (.iload_n 2, 1) := by decide +kernel
theorem dX0_transfer_8 : decode cX0_transfer 8 = .ok (.invokestatic 29, 3) := by decide +kernel
theorem dX0_transfer_11 : decode cX0_transfer 11 = .ok (.ifCond .eq 12, 3) := by decide +kernel
theorem dX0_transfer_14 : decode cX0_transfer 14 = .ok (.iload_n 1, 1) := by decide +kernel
theorem dX0_transfer_15 : decode cX0_transfer 15 = .ok (.iload_n 2, 1) := by decide +kernel
theorem dX0_transfer_16 : decode cX0_transfer 16 = .ok (.if_icmp .eq 7, 3) := by decide +kernel
theorem dX0_transfer_19 : decode cX0_transfer 19 = .ok (.iload_n 3, 1) := by decide +kernel
theorem dX0_transfer_20 : decode cX0_transfer 20 = .ok (.ifCond .ge 5, 3) := by decide +kernel
theorem dX0_transfer_23 : decode cX0_transfer 23 = .ok (.iconst (-1), 1) := by decide +kernel
theorem dX0_transfer_24 : decode cX0_transfer 24 = .ok (.ireturn, 1) := by decide +kernel
theorem dX0_transfer_25 : decode cX0_transfer 25 = .ok (.aload_n 0, 1) := by decide +kernel
theorem dX0_transfer_26 : decode cX0_transfer 26 = .ok (.iload_n 1, 1) := by decide +kernel
theorem dX0_transfer_27 : decode cX0_transfer 27 = .ok (.invokevirtual 54, 3) := by decide +kernel
theorem dX0_transfer_30 : decode cX0_transfer 30 = .ok (.lstore 4, 2) := by decide +kernel
theorem dX0_transfer_32 : decode cX0_transfer 32 = .ok (.aload_n 0, 1) := by decide +kernel
theorem dX0_transfer_33 : decode cX0_transfer 33 = .ok (.iload_n 2, 1) := by decide +kernel
theorem dX0_transfer_34 : decode cX0_transfer 34 = .ok (.invokevirtual 54, 3) := by decide +kernel
theorem dX0_transfer_37 : decode cX0_transfer 37 = .ok (.lstore 6, 2) := by decide +kernel
theorem dX0_transfer_39 : decode cX0_transfer 39 = .ok (.aload_n 0, 1) := by decide +kernel
theorem dX0_transfer_40 : decode cX0_transfer 40 = .ok (.bipush 16, 2) := by decide +kernel
theorem dX0_transfer_42 : decode cX0_transfer 42 = .ok (.invokevirtual 54, 3) := by decide +kernel
theorem dX0_transfer_45 : decode cX0_transfer 45 = .ok (.lstore 8, 2) := by decide +kernel
theorem dX0_transfer_47 : decode cX0_transfer 47 = .ok (.lload 4, 2) := by decide +kernel
theorem dX0_transfer_49 : decode cX0_transfer 49 = .ok (.iload_n 3, 1) := by decide +kernel
theorem dX0_transfer_50 : decode cX0_transfer 50 = .ok (.i2l, 1) := by decide +kernel
theorem dX0_transfer_51 : decode cX0_transfer 51 = .ok (.lneg, 1) := by decide +kernel
theorem dX0_transfer_52 : decode cX0_transfer 52 = .ok (.invokestatic 83, 3) := by decide +kernel
theorem dX0_transfer_55 : decode cX0_transfer 55 = .ok (.ifCond .eq 33, 3) := by decide +kernel
theorem dX0_transfer_58 : decode cX0_transfer 58 = .ok (.lload 6, 2) := by decide +kernel
theorem dX0_transfer_60 : decode cX0_transfer 60 = .ok (.iload_n 3, 1) := by decide +kernel
theorem dX0_transfer_61 : decode cX0_transfer 61 = .ok (.i2l, 1) := by decide +kernel
theorem dX0_transfer_62 : decode cX0_transfer 62 = .ok (.invokestatic 83, 3) := by decide +kernel
theorem dX0_transfer_65 : decode cX0_transfer 65 = .ok (.ifCond .eq 23, 3) := by decide +kernel
theorem dX0_transfer_68 : decode cX0_transfer 68 = .ok (.lload 8, 2) := by decide +kernel
theorem dX0_transfer_70 : decode cX0_transfer 70 = .ok (.invokestatic 60, 3) := by decide +kernel
theorem dX0_transfer_73 : decode cX0_transfer 73 = .ok (.ifCond .eq 15, 3) := by decide +kernel
theorem dX0_transfer_76 : decode cX0_transfer 76 = .ok (.lload 8, 2) := by decide +kernel
theorem dX0_transfer_78 : decode cX0_transfer 78 = .ok (.invokestatic 74, 3) := by decide +kernel
theorem dX0_transfer_81 : decode cX0_transfer 81 = .ok (.ifCond .eq 7, 3) := by decide +kernel
theorem dX0_transfer_84 : decode cX0_transfer 84 = .ok (.iconst 1, 1) := by decide +kernel
theorem dX0_transfer_85 : decode cX0_transfer 85 = .ok (.goto 4, 3) := by decide +kernel
theorem dX0_transfer_88 : decode cX0_transfer 88 = .ok (.iconst 0, 1) := by decide +kernel
theorem dX0_transfer_89 : decode cX0_transfer 89 = .ok (.istore 10, 2) := by decide +kernel
theorem dX0_transfer_91 : decode cX0_transfer 91 = .ok (.iload 10, 2) := by decide +kernel
theorem dX0_transfer_93 : decode cX0_transfer 93 = .ok (.ifCond .eq 128, 3) := by decide +kernel
theorem dX0_transfer_96 : decode cX0_transfer 96 = .ok (.lload 4, 2) := by decide +kernel
theorem dX0_transfer_98 : decode cX0_transfer 98 = .ok (.iload_n 3, 1) := by decide +kernel
theorem dX0_transfer_99 : decode cX0_transfer 99 = .ok (.ineg, 1) := by decide +kernel
theorem dX0_transfer_100 : decode cX0_transfer 100 = .ok (.invokestatic 87, 3) := by decide +kernel
theorem dX0_transfer_103 : decode cX0_transfer 103 = .ok (.lstore 11, 2) := by decide +kernel
theorem dX0_transfer_105 : decode cX0_transfer 105 = .ok (.lload 6, 2) := by decide +kernel
theorem dX0_transfer_107 : decode cX0_transfer 107 = .ok (.iload_n 3, 1) := by decide +kernel
theorem dX0_transfer_108 : decode cX0_transfer 108 = .ok (.invokestatic 87, 3) := by decide +kernel
theorem dX0_transfer_111 : decode cX0_transfer 111 = .ok (.lstore 13, 2) := by decide +kernel
theorem dX0_transfer_113 : decode cX0_transfer 113 = .ok (.lload 8, 2) := by decide +kernel
theorem dX0_transfer_115 : decode cX0_transfer 115 = .ok (.invokestatic 80, 3) := by decide +kernel
theorem dX0_transfer_118 : decode cX0_transfer 118 = .ok (.iconst 1, 1) := by decide +kernel
theorem dX0_transfer_119 : decode cX0_transfer 119 = .ok (.iadd, 1) := by decide +kernel
theorem dX0_transfer_120 : decode cX0_transfer 120 = .ok (.istore 15, 2) := by decide +kernel
theorem dX0_transfer_122 : decode cX0_transfer 122 = .ok (.iload_n 1, 1) := by decide +kernel
theorem dX0_transfer_123 : decode cX0_transfer 123 = .ok (.sipush 256, 3) := by decide +kernel
theorem dX0_transfer_126 : decode cX0_transfer 126 = .ok (.imul, 1) := by decide +kernel
theorem dX0_transfer_127 : decode cX0_transfer 127 = .ok (.iload_n 2, 1) := by decide +kernel
theorem dX0_transfer_128 : decode cX0_transfer 128 = .ok (.iadd, 1) := by decide +kernel
theorem dX0_transfer_129 : decode cX0_transfer 129 = .ok (.istore 16, 2) := by decide +kernel
theorem dX0_transfer_131 : decode cX0_transfer 131 = .ok (.aload_n 0, 1) := by decide +kernel
theorem dX0_transfer_132 : decode cX0_transfer 132 = .ok (.bipush 16, 2) := by decide +kernel
theorem dX0_transfer_134 : decode cX0_transfer 134 = .ok (.iload_n 3, 1) := by decide +kernel
theorem dX0_transfer_135 : decode cX0_transfer 135 = .ok (.iload 15, 2) := by decide +kernel
theorem dX0_transfer_137 : decode cX0_transfer 137 = .ok (.invokestatic 25, 3) := by decide +kernel
theorem dX0_transfer_140 : decode cX0_transfer 140 = .ok (.invokevirtual 40, 3) := by decide +kernel
theorem dX0_transfer_143 : decode cX0_transfer 143 = .ok (.aload_n 0, 1) := by decide +kernel
theorem dX0_transfer_144 : decode cX0_transfer 144 = .ok (.bipush 17, 2) := by decide +kernel
theorem dX0_transfer_146 : decode cX0_transfer 146 = .ok (.lload 11, 2) := by decide +kernel
theorem dX0_transfer_148 : decode cX0_transfer 148 = .ok (.invokestatic 80, 3) := by decide +kernel
theorem dX0_transfer_151 : decode cX0_transfer 151 = .ok (.iload 15, 2) := by decide +kernel
theorem dX0_transfer_153 : decode cX0_transfer 153 = .ok (.invokestatic 25, 3) := by decide +kernel
theorem dX0_transfer_156 : decode cX0_transfer 156 = .ok (.invokevirtual 40, 3) := by decide +kernel
theorem dX0_transfer_159 : decode cX0_transfer 159 = .ok (.aload_n 0, 1) := by decide +kernel
theorem dX0_transfer_160 : decode cX0_transfer 160 = .ok (.bipush 18, 2) := by decide +kernel
theorem dX0_transfer_162 : decode cX0_transfer 162 = .ok (.lload 13, 2) := by decide +kernel
theorem dX0_transfer_164 : decode cX0_transfer 164 = .ok (.invokestatic 80, 3) := by decide +kernel
theorem dX0_transfer_167 : decode cX0_transfer 167 = .ok (.iload 15, 2) := by decide +kernel
theorem dX0_transfer_169 : decode cX0_transfer 169 = .ok (.invokestatic 25, 3) := by decide +kernel
theorem dX0_transfer_172 : decode cX0_transfer 172 = .ok (.invokevirtual 40, 3) := by decide +kernel
theorem dX0_transfer_175 : decode cX0_transfer 175 = .ok (.aload_n 0, 1) := by decide +kernel
theorem dX0_transfer_176 : decode cX0_transfer 176 = .ok (.bipush 19, 2) := by decide +kernel
theorem dX0_transfer_178 : decode cX0_transfer 178 = .ok (.iload 16, 2) := by decide +kernel
theorem dX0_transfer_180 : decode cX0_transfer 180 = .ok (.ldc 91, 2) := by decide +kernel
theorem dX0_transfer_182 : decode cX0_transfer 182 = .ok (.iadd, 1) := by decide +kernel
theorem dX0_transfer_183 : decode cX0_transfer 183 = .ok (.iload 15, 2) := by decide +kernel
theorem dX0_transfer_185 : decode cX0_transfer 185 = .ok (.invokestatic 25, 3) := by decide +kernel
theorem dX0_transfer_188 : decode cX0_transfer 188 = .ok (.invokevirtual 40, 3) := by decide +kernel
theorem dX0_transfer_191 : decode cX0_transfer 191 = .ok (.aload_n 0, 1) := by decide +kernel
theorem dX0_transfer_192 : decode cX0_transfer 192 = .ok (.iload_n 1, 1) := by decide +kernel
theorem dX0_transfer_193 : decode cX0_transfer 193 = .ok (.lload 11, 2) := by decide +kernel
theorem dX0_transfer_195 : decode cX0_transfer 195 = .ok (.invokevirtual 40, 3) := by decide +kernel
theorem dX0_transfer_198 : decode cX0_transfer 198 = .ok (.aload_n 0, 1) := by decide +kernel
theorem dX0_transfer_199 : decode cX0_transfer 199 = .ok (.iload_n 2, 1) := by decide +kernel
theorem dX0_transfer_200 : decode cX0_transfer 200 = .ok (.lload 13, 2) := by decide +kernel
theorem dX0_transfer_202 : decode cX0_transfer 202 = .ok (.invokevirtual 40, 3) := by decide +kernel
theorem dX0_transfer_205 : decode cX0_transfer 205 = .ok (.aload_n 0, 1) := by decide +kernel
theorem dX0_transfer_206 : decode cX0_transfer 206 = .ok (.bipush 19, 2) := by decide +kernel
theorem dX0_transfer_208 : decode cX0_transfer 208 = .ok (.iload 16, 2) := by decide +kernel
theorem dX0_transfer_210 : decode cX0_transfer 210 = .ok (.ldc 92, 2) := by decide +kernel
theorem dX0_transfer_212 : decode cX0_transfer 212 = .ok (.iadd, 1) := by decide +kernel
theorem dX0_transfer_213 : decode cX0_transfer 213 = .ok (.iload 15, 2) := by decide +kernel
theorem dX0_transfer_215 : decode cX0_transfer 215 = .ok (.invokestatic 25, 3) := by decide +kernel
theorem dX0_transfer_218 : decode cX0_transfer 218 = .ok (.invokevirtual 40, 3) := by decide +kernel
theorem dX0_transfer_221 : decode cX0_transfer 221 = .ok (.aload_n 0, 1) := by decide +kernel
theorem dX0_transfer_222 : decode cX0_transfer 222 = .ok (.iload 10, 2) := by decide +kernel
theorem dX0_transfer_224 : decode cX0_transfer 224 = .ok (.invokevirtual 48, 3) := by decide +kernel
theorem dX0_transfer_227 : decode cX0_transfer 227 = .ok (.ireturn, 1) := by decide +kernel
set_option maxRecDepth 20000 in
theorem ggX0_total_X0_look : GoodIn wsX0_total wsX0_look := goodIn_r _ [7, 8, 9, 10, 6, 11, 12, 13, 14, 15, 16, 17, 1, 18, 19, 20, 21, 22, 23, 24, 25, 26, 27, 28, 29, 30, 48, 49, 50, 51, 52, 53] (by decide +kernel) (by decide +kernel)
set_option maxRecDepth 20000 in
theorem gX0_total_X0_look : GoodIn wsX0_total (wsV RX0 54 RX0 yX0_look wsX0_look) := goodIn_app (goodIn_of _ (by decide +kernel)) ggX0_total_X0_look
set_option maxRecDepth 20000 in
theorem ggX0_total_X0_isOpen : GoodIn wsX0_total wsX0_isOpen := goodIn_r _ [33, 34, 35, 6, 36, 37, 38, 39, 40, 41, 42, 43, 44] (by decide +kernel) (by decide +kernel)
set_option maxRecDepth 20000 in
theorem gX0_total_X0_isOpen : GoodIn wsX0_total (va_wsS RX0 71 yX0_isOpen wsX0_isOpen) := goodIn_app (goodIn_of _ (by decide +kernel)) ggX0_total_X0_isOpen
set_option maxRecDepth 20000 in
theorem ggX0_total_X0_balanceOf : GoodIn wsX0_total wsX0_balanceOf := goodIn_r _ [47] (by decide +kernel) (by decide +kernel)
set_option maxRecDepth 20000 in
theorem gX0_total_X0_balanceOf : GoodIn wsX0_total (va_wsS RX0 67 yX0_balanceOf wsX0_balanceOf) := goodIn_app (goodIn_of _ (by decide +kernel)) ggX0_total_X0_balanceOf
theorem dX0_total_0 : decode cX0_total 0 = .ok (.lconst 0, 1) := by decide +kernel
theorem dX0_total_1 : decode cX0_total 1 = .ok (.lstore_n 1, 1) := by decide +kernel
theorem dX0_total_2 : decode cX0_total 2 = .ok (.iconst 0, 1) := by decide +kernel
theorem dX0_total_3 : decode cX0_total 3 = .ok (.istore_n 3, 1) := by decide +kernel
theorem dX0_total_4 : decode cX0_total 4 = .ok (.iload_n 3, 1) := by decide +kernel
theorem dX0_total_5 : decode cX0_total 5 = .ok (.bipush 16, 2) := by decide +kernel
theorem dX0_total_7 : decode cX0_total 7 = .ok (.if_icmp .ge 33, 3) := by decide +kernel
theorem dX0_total_10 : decode cX0_total 10 = .ok (.aload_n 0, 1) := by decide +kernel
theorem dX0_total_11 : decode cX0_total 11 = .ok (.iload_n 3, 1) := by decide +kernel
theorem dX0_total_12 : decode cX0_total 12 = .ok (.invokevirtual 54, 3) := by decide +kernel
theorem dX0_total_15 : decode cX0_total 15 = .ok (.lstore 4, 2) := by decide +kernel
theorem dX0_total_17 : decode cX0_total 17 = .ok (.lload 4, 2) := by decide +kernel
theorem dX0_total_19 : decode cX0_total 19 = .ok (.invokestatic 71, 3) := by decide +kernel
theorem dX0_total_22 : decode cX0_total 22 = .ok (.ifCond .eq 12, 3) := by decide +kernel
theorem dX0_total_25 : decode cX0_total 25 = .ok (.lload_n 1, 1) := by decide +kernel
theorem dX0_total_26 : decode cX0_total 26 = .ok (.lload 4, 2) := by decide +kernel
theorem dX0_total_28 : decode cX0_total 28 = .ok (.invokestatic 67, 3) := by decide +kernel
theorem dX0_total_31 : decode cX0_total 31 = .ok (.i2l, 1) := by decide +kernel
theorem dX0_total_32 : decode cX0_total 32 = .ok (.ladd, 1) := by decide +kernel
theorem dX0_total_33 : decode cX0_total 33 = .ok (.lstore_n 1, 1) := by decide +kernel
theorem dX0_total_34 : decode cX0_total 34 = .ok (.iinc 3 1, 3) := by decide +kernel
theorem dX0_total_37 : decode cX0_total 37 = .ok (.goto (-33), 3) := by decide +kernel
theorem dX0_total_40 : decode cX0_total 40 = .ok (.aload_n 0, 1) := by decide +kernel
theorem dX0_total_41 : decode cX0_total 41 = .ok (.getfield 17, 3) := by decide +kernel
theorem dX0_total_44 : decode cX0_total 44 = .ok (.ifCond .eq 7, 3) := by decide +kernel
theorem dX0_total_47 : decode cX0_total 47 = .ok (.lload_n 1, 1) := by decide +kernel
theorem dX0_total_48 : decode cX0_total 48 = .ok (.goto 6, 3) := by decide +kernel
theorem dX0_total_51 : decode cX0_total 51 = .ok (.ldc2_w 58, 3) := by decide +kernel
theorem dX0_total_54 : decode cX0_total 54 = .ok (.lreturn, 1) := by decide +kernel
set_option maxRecDepth 20000 in
theorem ggX0_number_X0_isAccount : GoodIn wsX0_number wsX0_isAccount := goodIn_r _ [5] (by decide +kernel) (by decide +kernel)
set_option maxRecDepth 20000 in
theorem gX0_number_X0_isAccount : GoodIn wsX0_number (va_wsS RX0 29 yX0_isAccount wsX0_isAccount) := goodIn_app (goodIn_of _ (by decide +kernel)) ggX0_number_X0_isAccount
set_option maxRecDepth 20000 in
theorem ggX0_number_X0_look : GoodIn wsX0_number wsX0_look := goodIn_r _ [9, 10, 11, 12, 4, 13, 14, 15, 16, 17, 18, 19, 1, 20, 21, 22, 23, 24, 25, 26, 27, 28, 29, 30, 31, 32, 44, 45, 46, 47, 48, 49] (by decide +kernel) (by decide +kernel)
set_option maxRecDepth 20000 in
theorem gX0_number_X0_look : GoodIn wsX0_number (wsV RX0 54 RX0 yX0_look wsX0_look) := goodIn_app (goodIn_of _ (by decide +kernel)) ggX0_number_X0_look
set_option maxRecDepth 20000 in
theorem ggX0_number_X0_isValid : GoodIn wsX0_number wsX0_isValid := goodIn_r _ [35, 36, 37, 38, 4, 39] (by decide +kernel) (by decide +kernel)
set_option maxRecDepth 20000 in
theorem gX0_number_X0_isValid : GoodIn wsX0_number (va_wsS RX0 60 yX0_isValid wsX0_isValid) := goodIn_app (goodIn_of _ (by decide +kernel)) ggX0_number_X0_isValid
set_option maxRecDepth 20000 in
theorem ggX0_number_X0_numberOf : GoodIn wsX0_number wsX0_numberOf := goodIn_r _ [42, 43] (by decide +kernel) (by decide +kernel)
set_option maxRecDepth 20000 in
theorem gX0_number_X0_numberOf : GoodIn wsX0_number (va_wsS RX0 80 yX0_numberOf wsX0_numberOf) := goodIn_app (goodIn_of _ (by decide +kernel)) ggX0_number_X0_numberOf
theorem dX0_number_0 : decode cX0_number 0 = .ok (.iload_n 1, 1) := by decide +kernel
theorem dX0_number_1 : decode cX0_number 1 = .ok (.invokestatic 29, 3) := by decide +kernel
theorem dX0_number_4 : decode cX0_number 4 = .ok (.ifCond .ne 5, 3) := by decide +kernel
theorem dX0_number_7 : decode cX0_number 7 = .ok (.iconst (-1), 1) := by decide +kernel
theorem dX0_number_8 : decode cX0_number 8 = .ok (.ireturn, 1) := by decide +kernel
theorem dX0_number_9 : decode cX0_number 9 = .ok (.aload_n 0, 1) := by decide +kernel
theorem dX0_number_10 : decode cX0_number 10 = .ok (.iload_n 1, 1) := by decide +kernel
theorem dX0_number_11 : decode cX0_number 11 = .ok (.invokevirtual 54, 3) := by decide +kernel
theorem dX0_number_14 : decode cX0_number 14 = .ok (.lstore_n 2, 1) := by decide +kernel
theorem dX0_number_15 : decode cX0_number 15 = .ok (.aload_n 0, 1) := by decide +kernel
theorem dX0_number_16 : decode cX0_number 16 = .ok (.getfield 17, 3) := by decide +kernel
theorem dX0_number_19 : decode cX0_number 19 = .ok (.ifCond .ne 6, 3) := by decide +kernel
theorem dX0_number_22 : decode cX0_number 22 = .ok (.bipush (-2), 2) := by decide +kernel
theorem dX0_number_24 : decode cX0_number 24 = .ok (.ireturn, 1) := by decide +kernel
theorem dX0_number_25 : decode cX0_number 25 = .ok (.lload_n 2, 1) := by decide +kernel
theorem dX0_number_26 : decode cX0_number 26 = .ok (.invokestatic 60, 3) := by decide +kernel
theorem dX0_number_29 : decode cX0_number 29 = .ok (.ifCond .eq 10, 3) := by decide +kernel
theorem dX0_number_32 : decode cX0_number 32 = .ok (.lload_n 2, 1) := by decide +kernel
theorem dX0_number_33 : decode cX0_number 33 = .ok (.invokestatic 80, 3) := by decide +kernel
theorem dX0_number_36 : decode cX0_number 36 = .ok (.goto 4, 3) := by decide +kernel
theorem dX0_number_39 : decode cX0_number 39 = .ok (.iconst (-1), 1) := by decide +kernel
theorem dX0_number_40 : decode cX0_number 40 = .ok (.ireturn, 1) := by decide +kernel
theorem dX0_failAfter_0 : decode cX0_failAfter 0 = .ok (.iload_n 1, 1) := by decide +kernel
theorem dX0_failAfter_1 : decode cX0_failAfter 1 = .ok (.ifCond .ge 5, 3) := by decide +kernel
theorem dX0_failAfter_4 : decode cX0_failAfter 4 = .ok (.iconst 0, 1) := by decide +kernel
theorem dX0_failAfter_5 : decode cX0_failAfter 5 = .ok (.ireturn, 1) := by decide +kernel
theorem dX0_failAfter_6 : decode cX0_failAfter 6 = .ok (.aload_n 0, 1) := by decide +kernel
theorem dX0_failAfter_7 : decode cX0_failAfter 7 = .ok (.iload_n 1, 1) := by decide +kernel
theorem dX0_failAfter_8 : decode cX0_failAfter 8 = .ok (.putfield 21, 3) := by decide +kernel
theorem dX0_failAfter_11 : decode cX0_failAfter 11 = .ok (.iconst 1, 1) := by decide +kernel
theorem dX0_failAfter_12 : decode cX0_failAfter 12 = .ok (.ireturn, 1) := by decide +kernel
set_option maxRecDepth 20000 in
theorem ggX0_fail_X0_losePower : GoodIn wsX0_fail wsX0_losePower := goodIn_r _ [6, 1, 7, 8, 9, 10, 11, 12, 13] (by decide +kernel) (by decide +kernel)
set_option maxRecDepth 20000 in
theorem gX0_fail_X0_losePower : GoodIn wsX0_fail (wsV RX0 93 RX0 yX0_losePower wsX0_losePower) := goodIn_app (goodIn_of _ (by decide +kernel)) ggX0_fail_X0_losePower
theorem dX0_fail_0 : decode cX0_fail 0 = .ok (.aload_n 0, 1) := by decide +kernel
theorem dX0_fail_1 : decode cX0_fail 1 = .ok (.getfield 17, 3) := by decide +kernel
theorem dX0_fail_4 : decode cX0_fail 4 = .ok (.ifCond .ne 5, 3) := by decide +kernel
theorem dX0_fail_7 : decode cX0_fail 7 = .ok (.iconst 0, 1) := by decide +kernel
theorem dX0_fail_8 : decode cX0_fail 8 = .ok (.ireturn, 1) := by decide +kernel
theorem dX0_fail_9 : decode cX0_fail 9 = .ok (.aload_n 0, 1) := by decide +kernel
theorem dX0_fail_10 : decode cX0_fail 10 = .ok (.invokevirtual 93, 3) := by decide +kernel
theorem dX0_fail_13 : decode cX0_fail 13 = .ok (.iconst 1, 1) := by decide +kernel
theorem dX0_fail_14 : decode cX0_fail 14 = .ok (.ireturn, 1) := by decide +kernel
set_option maxRecDepth 20000 in
theorem ggX0_mount_X0_restoreCell : GoodIn wsX0_mount wsX0_restoreCell := goodIn_r _ [6, 1, 7, 8, 9, 10, 5, 11, 12, 13, 14, 15, 16, 17, 18, 19, 20, 21, 22, 23, 24, 25, 26, 27, 28, 29, 30, 31, 32, 33, 34, 35, 36, 37, 38, 39, 40, 41, 42, 43, 44, 45, 46, 47, 48, 49, 50, 51, 90, 91, 92, 93, 94, 95] (by decide +kernel) (by decide +kernel)
set_option maxRecDepth 20000 in
theorem gX0_mount_X0_restoreCell : GoodIn wsX0_mount (wsV RX0 96 RX0 yX0_restoreCell wsX0_restoreCell) := goodIn_app (goodIn_of _ (by decide +kernel)) ggX0_mount_X0_restoreCell
set_option maxRecDepth 20000 in
theorem ggX0_mount_X0_slipIsPending : GoodIn wsX0_mount wsX0_slipIsPending := goodIn_r _ [55, 56, 57, 58, 59, 5, 60, 13, 23, 24, 25, 36, 37, 38, 39, 29, 30, 31, 32, 33, 34, 35, 40, 41, 42, 61, 62, 63, 64, 65, 66, 67, 68, 69, 90, 91, 92, 93, 94, 95] (by decide +kernel) (by decide +kernel)
set_option maxRecDepth 20000 in
theorem gX0_mount_X0_slipIsPending : GoodIn wsX0_mount (wsV RX0 100 RX0 yX0_slipIsPending wsX0_slipIsPending) := goodIn_app (goodIn_of _ (by decide +kernel)) ggX0_mount_X0_slipIsPending
set_option maxRecDepth 20000 in
theorem ggX0_mount_X0_finishTransfer : GoodIn wsX0_mount wsX0_finishTransfer := goodIn_r _ [73, 56, 74, 57, 58, 59, 5, 60, 13, 23, 24, 25, 40, 41, 42, 61, 62, 63, 75, 76, 77, 78, 29, 30, 31, 32, 33, 34, 35, 36, 37, 38, 39, 79, 80, 81, 82, 83, 84, 85, 43, 44, 45, 46, 47, 14, 15, 16, 17, 1, 18, 19, 20, 21, 22, 67, 68, 69, 90, 91, 92, 93, 94, 95] (by decide +kernel) (by decide +kernel)
set_option maxRecDepth 20000 in
theorem gX0_mount_X0_finishTransfer : GoodIn wsX0_mount (wsV RX0 104 RX0 yX0_finishTransfer wsX0_finishTransfer) := goodIn_app (goodIn_of _ (by decide +kernel)) ggX0_mount_X0_finishTransfer
set_option maxRecDepth 20000 in
theorem ggX0_mount_X0_answerOf : GoodIn wsX0_mount wsX0_answerOf := goodIn_r _ [89, 1, 90, 91, 92, 93, 94, 95] (by decide +kernel) (by decide +kernel)
set_option maxRecDepth 20000 in
theorem gX0_mount_X0_answerOf : GoodIn wsX0_mount (wsV RX0 48 RX0 yX0_answerOf wsX0_answerOf) := goodIn_app (goodIn_of _ (by decide +kernel)) ggX0_mount_X0_answerOf
theorem dX0_mount_0 : decode cX0_mount 0 = .ok (.aload_n 0, 1) := by decide +kernel
theorem dX0_mount_1 : decode cX0_mount 1 = .ok (.iconst 1, 1) := by decide +kernel
theorem dX0_mount_2 : decode cX0_mount 2 = .ok (.putfield 17, 3) := by decide +kernel
theorem dX0_mount_5 : decode cX0_mount 5 = .ok (.iconst 0, 1) := by decide +kernel
theorem dX0_mount_6 : decode cX0_mount 6 = .ok (.istore_n 1, 1) := by decide +kernel
theorem dX0_mount_7 : decode cX0_mount 7 = .ok (.iload_n 1, 1) := by decide +kernel
theorem dX0_mount_8 : decode cX0_mount 8 = .ok (.bipush 20, 2) := by decide +kernel
theorem dX0_mount_10 : decode cX0_mount 10 = .ok (.if_icmp .ge 14, 3) := by decide +kernel
theorem dX0_mount_13 : decode cX0_mount 13 = .ok (.aload_n 0, 1) := by decide +kernel
theorem dX0_mount_14 : decode cX0_mount 14 = .ok (.iload_n 1, 1) := by decide +kernel
theorem dX0_mount_15 : decode cX0_mount 15 = .ok (.invokevirtual 96, 3) := by decide +kernel
theorem dX0_mount_18 : decode cX0_mount 18 = .ok (.iinc 1 1, 3) := by decide +kernel
theorem dX0_mount_21 : decode cX0_mount 21 = .ok (.goto (-14), 3) := by decide +kernel
theorem dX0_mount_24 : decode cX0_mount 24 = .ok (.aload_n 0, 1) := by decide +kernel
theorem dX0_mount_25 : decode cX0_mount 25 = .ok (.getfield 17, 3) := by decide +kernel
theorem dX0_mount_28 : decode cX0_mount 28 = .ok (.ifCond .eq 14, 3) := by decide +kernel
theorem dX0_mount_31 : decode cX0_mount 31 = .ok (.aload_n 0, 1) := by decide +kernel
theorem dX0_mount_32 : decode cX0_mount 32 = .ok (.invokevirtual 100, 3) := by decide +kernel
theorem dX0_mount_35 : decode cX0_mount 35 = .ok (.ifCond .eq 7, 3) := by decide +kernel
theorem dX0_mount_38 : decode cX0_mount 38 = .ok (.aload_n 0, 1) := by decide +kernel
theorem dX0_mount_39 : decode cX0_mount 39 = .ok (.invokevirtual 104, 3) := by decide +kernel
theorem dX0_mount_42 : decode cX0_mount 42 = .ok (.aload_n 0, 1) := by decide +kernel
theorem dX0_mount_43 : decode cX0_mount 43 = .ok (.iconst 1, 1) := by decide +kernel
theorem dX0_mount_44 : decode cX0_mount 44 = .ok (.invokevirtual 48, 3) := by decide +kernel
theorem dX0_mount_47 : decode cX0_mount 47 = .ok (.ireturn, 1) := by decide +kernel
theorem dX0_on_0 : decode cX0_on 0 = .ok (.aload_n 0, 1) := by decide +kernel
theorem dX0_on_1 : decode cX0_on 1 = .ok (.getfield 17, 3) := by decide +kernel
theorem dX0_on_4 : decode cX0_on 4 = .ok (.ireturn, 1) := by decide +kernel
set_option maxRecDepth 20000 in
theorem ggX0_lost_X0_isCell : GoodIn wsX0_lost wsX0_isCell := goodIn_r _ [5] (by decide +kernel) (by decide +kernel)
set_option maxRecDepth 20000 in
theorem gX0_lost_X0_isCell : GoodIn wsX0_lost (va_wsS RX0 107 yX0_isCell wsX0_isCell) := goodIn_app (goodIn_of _ (by decide +kernel)) ggX0_lost_X0_isCell
theorem dX0_lost_0 : decode cX0_lost 0 = .ok (.iload_n 1, 1) := by decide +kernel
theorem dX0_lost_1 : decode cX0_lost 1 = .ok (.invokestatic 107, 3) := by decide +kernel
theorem dX0_lost_4 : decode cX0_lost 4 = .ok (.ifCond .eq 12, 3) := by decide +kernel
theorem dX0_lost_7 : decode cX0_lost 7 = .ok (.aload_n 0, 1) := by decide +kernel
theorem dX0_lost_8 : decode cX0_lost 8 = .ok (.getfield 13, 3) := by decide +kernel
theorem dX0_lost_11 : decode cX0_lost 11 = .ok (.iload_n 1, 1) := by decide +kernel
theorem dX0_lost_12 : decode cX0_lost 12 = .ok (.iaload, 1) := by decide +kernel
theorem dX0_lost_13 : decode cX0_lost 13 = .ok (.goto 4, 3) := by decide +kernel
theorem dX0_lost_16 : decode cX0_lost 16 = .ok (.iconst 0, 1) := by decide +kernel
theorem dX0_lost_17 : decode cX0_lost 17 = .ok (.ireturn, 1) := by decide +kernel
set_option maxRecDepth 20000 in
theorem ggX0_word_X0_isCell : GoodIn wsX0_word wsX0_isCell := goodIn_r _ [5] (by decide +kernel) (by decide +kernel)
set_option maxRecDepth 20000 in
theorem gX0_word_X0_isCell : GoodIn wsX0_word (va_wsS RX0 107 yX0_isCell wsX0_isCell) := goodIn_app (goodIn_of _ (by decide +kernel)) ggX0_word_X0_isCell
set_option maxRecDepth 20000 in
theorem ggX0_word_X0_slot : GoodIn wsX0_word wsX0_slot := goodIn_r _ [8] (by decide +kernel) (by decide +kernel)
set_option maxRecDepth 20000 in
theorem gX0_word_X0_slot : GoodIn wsX0_word (va_wsS RX0 110 yX0_slot wsX0_slot) := goodIn_app (goodIn_of _ (by decide +kernel)) ggX0_word_X0_slot
theorem dX0_word_0 : decode cX0_word 0 = .ok (.iload_n 1, 1) := by decide +kernel
theorem dX0_word_1 : decode cX0_word 1 = .ok (.ifCond .lt 15, 3) := by decide +kernel
theorem dX0_word_4 : decode cX0_word 4 = .ok (.iload_n 1, 1) := by decide +kernel
theorem dX0_word_5 : decode cX0_word 5 = .ok (.iconst 4, 1) := by decide +kernel
theorem dX0_word_6 : decode cX0_word 6 = .ok (.if_icmp .ge 10, 3) := by decide +kernel
theorem dX0_word_9 : decode cX0_word 9 = .ok (.iload_n 2, 1) := by decide +kernel
theorem dX0_word_10 : decode cX0_word 10 = .ok (.invokestatic 107, 3) := by decide +kernel
theorem dX0_word_13 : decode cX0_word 13 = .ok (.ifCond .ne 5, 3) := by decide +kernel
theorem dX0_word_16 : decode cX0_word 16 = .ok (.lconst 0, 1) := by decide +kernel
theorem dX0_word_17 : decode cX0_word 17 = .ok (.lreturn, 1) := by decide +kernel
theorem dX0_word_18 : decode cX0_word 18 = .ok (.aload_n 0, 1) := by decide +kernel
theorem dX0_word_19 : decode cX0_word 19 = .ok (.getfield 9, 3) := by decide +kernel
theorem dX0_word_22 : decode cX0_word 22 = .ok (.iload_n 1, 1) := by decide +kernel
theorem dX0_word_23 : decode cX0_word 23 = .ok (.iload_n 2, 1) := by decide +kernel
theorem dX0_word_24 : decode cX0_word 24 = .ok (.invokestatic 110, 3) := by decide +kernel
theorem dX0_word_27 : decode cX0_word 27 = .ok (.laload, 1) := by decide +kernel
theorem dX0_word_28 : decode cX0_word 28 = .ok (.lreturn, 1) := by decide +kernel
theorem dX0_done_0 : decode cX0_done 0 = .ok (.iload_n 1, 1) := by decide +kernel
theorem dX0_done_1 : decode cX0_done 1 = .ok (.ifCond .ne 8, 3) := by decide +kernel
theorem dX0_done_4 : decode cX0_done 4 = .ok (.aload_n 0, 1) := by decide +kernel
theorem dX0_done_5 : decode cX0_done 5 = .ok (.getfield 114, 3) := by decide +kernel
theorem dX0_done_8 : decode cX0_done 8 = .ok (.ireturn, 1) := by decide +kernel
theorem dX0_done_9 : decode cX0_done 9 = .ok (.iload_n 1, 1) := by decide +kernel
theorem dX0_done_10 : decode cX0_done 10 = .ok (.iconst 1, 1) := by decide +kernel
theorem dX0_done_11 : decode cX0_done 11 = .ok (.if_icmp .ne 10, 3) := by decide +kernel
theorem dX0_done_14 : decode cX0_done 14 = .ok (.aload_n 0, 1) := by decide +kernel
theorem dX0_done_15 : decode cX0_done 15 = .ok (.getfield 117, 3) := by decide +kernel
theorem dX0_done_18 : decode cX0_done 18 = .ok (.goto 4, 3) := by decide +kernel
theorem dX0_done_21 : decode cX0_done 21 = .ok (.iconst (-1), 1) := by decide +kernel
theorem dX0_done_22 : decode cX0_done 22 = .ok (.ireturn, 1) := by decide +kernel
set_option maxRecDepth 20000 in
theorem ggX0_restoreCell_X0_readTurn : GoodIn wsX0_restoreCell wsX0_readTurn := goodIn_r _ [7, 8, 9, 10, 11, 12, 6, 13, 1, 14, 15, 16, 17, 18, 19, 20, 21, 48, 49, 50, 51, 52, 53] (by decide +kernel) (by decide +kernel)
set_option maxRecDepth 20000 in
theorem gX0_restoreCell_X0_readTurn : GoodIn wsX0_restoreCell (wsV RX0 33 RX0 yX0_readTurn wsX0_readTurn) := goodIn_app (goodIn_of _ (by decide +kernel)) ggX0_restoreCell_X0_readTurn
set_option maxRecDepth 20000 in
theorem ggX0_restoreCell_X0_betterOf : GoodIn wsX0_restoreCell wsX0_betterOf := goodIn_r _ [24, 25, 26, 6, 27, 28, 29, 30, 31, 32, 33, 34, 35, 36, 37, 38] (by decide +kernel) (by decide +kernel)
set_option maxRecDepth 20000 in
theorem gX0_restoreCell_X0_betterOf : GoodIn wsX0_restoreCell (va_wsS RX0 120 yX0_betterOf wsX0_betterOf) := goodIn_app (goodIn_of _ (by decide +kernel)) ggX0_restoreCell_X0_betterOf
set_option maxRecDepth 20000 in
theorem ggX0_restoreCell_X0_isValid : GoodIn wsX0_restoreCell wsX0_isValid := goodIn_r _ [27, 28, 29, 30, 6, 31] (by decide +kernel) (by decide +kernel)
set_option maxRecDepth 20000 in
theorem gX0_restoreCell_X0_isValid : GoodIn wsX0_restoreCell (va_wsS RX0 60 yX0_isValid wsX0_isValid) := goodIn_app (goodIn_of _ (by decide +kernel)) ggX0_restoreCell_X0_isValid
set_option maxRecDepth 20000 in
theorem ggX0_restoreCell_X0_writeTurn : GoodIn wsX0_restoreCell wsX0_writeTurn := goodIn_r _ [42, 43, 9, 10, 11, 12, 6, 13, 1, 14, 15, 16, 17, 18, 19, 20, 21, 48, 49, 50, 51, 52, 53] (by decide +kernel) (by decide +kernel)
set_option maxRecDepth 20000 in
theorem gX0_restoreCell_X0_writeTurn : GoodIn wsX0_restoreCell (wsV RX0 44 RX0 yX0_writeTurn wsX0_writeTurn) := goodIn_app (goodIn_of _ (by decide +kernel)) ggX0_restoreCell_X0_writeTurn
set_option maxRecDepth 20000 in
theorem ggX0_restoreCell_X0_writeWhereOther : GoodIn wsX0_restoreCell wsX0_writeWhereOther := goodIn_r _ [47, 9, 19, 20, 6, 21, 39, 40, 41, 42, 43, 10, 11, 12, 13, 1, 14, 15, 16, 17, 18, 48, 49, 50, 51, 52, 53] (by decide +kernel) (by decide +kernel)
set_option maxRecDepth 20000 in
theorem gX0_restoreCell_X0_writeWhereOther : GoodIn wsX0_restoreCell (wsV RX0 124 RX0 yX0_writeWhereOther wsX0_writeWhereOther) := goodIn_app (goodIn_of _ (by decide +kernel)) ggX0_restoreCell_X0_writeWhereOther
theorem dX0_restoreCell_0 : decode cX0_restoreCell 0 = .ok (.iconst 0, 1) := by decide +kernel
theorem dX0_restoreCell_1 : decode cX0_restoreCell 1 = .ok (.istore_n 2, 1) := by decide +kernel
theorem dX0_restoreCell_2 : decode cX0_restoreCell 2 = .ok (.lconst 0, 1) := by decide +kernel
theorem dX0_restoreCell_3 : decode cX0_restoreCell 3 = .ok (.lstore_n 3, 1) := by decide +kernel
theorem dX0_restoreCell_4 : decode cX0_restoreCell 4 = .ok (.iconst 0, 1) := by decide +kernel
theorem dX0_restoreCell_5 : decode cX0_restoreCell 5 = .ok (.istore 5, 2) := by decide +kernel
theorem dX0_restoreCell_7 : decode cX0_restoreCell 7 = .ok (.iload 5, 2) := by decide +kernel
theorem dX0_restoreCell_9 : decode cX0_restoreCell 9 = .ok (.iconst 4, 1) := by decide +kernel
theorem dX0_restoreCell_10 : decode cX0_restoreCell 10 = .ok (.if_icmp .ge 65, 3) := by decide +kernel
theorem dX0_restoreCell_13 : decode cX0_restoreCell 13 = .ok (.aload_n 0, 1) := by decide +kernel
theorem dX0_restoreCell_14 : decode cX0_restoreCell 14 = .ok (.iload 5, 2) := by decide +kernel
theorem dX0_restoreCell_16 : decode cX0_restoreCell 16 = .ok (.iload_n 1, 1) := by decide +kernel
theorem dX0_restoreCell_17 : decode cX0_restoreCell 17 = .ok (.invokevirtual 33, 3) := by decide +kernel
theorem dX0_restoreCell_20 : decode cX0_restoreCell 20 = .ok (.lstore 6, 2) := by decide +kernel
theorem dX0_restoreCell_22 : decode cX0_restoreCell 22 = .ok (.lload_n 3, 1) := by decide +kernel
theorem dX0_restoreCell_23 : decode cX0_restoreCell 23 = .ok (.lload 6, 2) := by decide +kernel
theorem dX0_restoreCell_25 : decode cX0_restoreCell 25 = .ok (.invokestatic 120, 3) := by decide +kernel
theorem dX0_restoreCell_28 : decode cX0_restoreCell 28 = .ok (.lstore_n 3, 1) := by decide +kernel
theorem dX0_restoreCell_29 : decode cX0_restoreCell 29 = .ok (.lload 6, 2) := by decide +kernel
theorem dX0_restoreCell_31 : decode cX0_restoreCell 31 = .ok (.invokestatic 60, 3) := by decide +kernel
theorem dX0_restoreCell_34 : decode cX0_restoreCell 34 = .ok (.ifCond .ne 6, 3) := by decide +kernel
theorem dX0_restoreCell_37 : decode cX0_restoreCell 37 = .ok (.iinc 2 1, 3) := by decide +kernel
theorem dX0_restoreCell_40 : decode cX0_restoreCell 40 = .ok (.iload 5, 2) := by decide +kernel
theorem dX0_restoreCell_42 : decode cX0_restoreCell 42 = .ok (.iconst 3, 1) := by decide +kernel
theorem dX0_restoreCell_43 : decode cX0_restoreCell 43 = .ok (.if_icmp .ne 17, 3) := by decide +kernel
theorem dX0_restoreCell_46 : decode cX0_restoreCell 46 = .ok (.aload_n 0, 1) := by decide +kernel
theorem dX0_restoreCell_47 : decode cX0_restoreCell 47 = .ok (.getfield 17, 3) := by decide +kernel
theorem dX0_restoreCell_50 : decode cX0_restoreCell 50 = .ok (.ifCond .eq 10, 3) := by decide +kernel
theorem dX0_restoreCell_53 : decode cX0_restoreCell 53 = .ok (.aload_n 0, 1) := by decide +kernel
theorem dX0_restoreCell_54 : decode cX0_restoreCell 54 = .ok (.getfield 13, 3) := by decide +kernel
theorem dX0_restoreCell_57 : decode cX0_restoreCell 57 = .ok (.iload_n 1, 1) := by decide +kernel
theorem dX0_restoreCell_58 : decode cX0_restoreCell 58 = .ok (.iload_n 2, 1) := by decide +kernel
theorem dX0_restoreCell_59 : decode cX0_restoreCell 59 = .ok (.iastore, 1) := by decide +kernel
theorem dX0_restoreCell_60 : decode cX0_restoreCell 60 = .ok (.aload_n 0, 1) := by decide +kernel
theorem dX0_restoreCell_61 : decode cX0_restoreCell 61 = .ok (.iload 5, 2) := by decide +kernel
theorem dX0_restoreCell_63 : decode cX0_restoreCell 63 = .ok (.iload_n 1, 1) := by decide +kernel
theorem dX0_restoreCell_64 : decode cX0_restoreCell 64 = .ok (.lload 6, 2) := by decide +kernel
theorem dX0_restoreCell_66 : decode cX0_restoreCell 66 = .ok (.invokevirtual 44, 3) := by decide +kernel
theorem dX0_restoreCell_69 : decode cX0_restoreCell 69 = .ok (.iinc 5 1, 3) := by decide +kernel
theorem dX0_restoreCell_72 : decode cX0_restoreCell 72 = .ok (.goto (-65), 3) := by decide +kernel
theorem dX0_restoreCell_75 : decode cX0_restoreCell 75 = .ok (.lload_n 3, 1) := by decide +kernel
theorem dX0_restoreCell_76 : decode cX0_restoreCell 76 = .ok (.invokestatic 60, 3) := by decide +kernel
theorem dX0_restoreCell_79 : decode cX0_restoreCell 79 = .ok (.ifCond .eq 9, 3) := by decide +kernel
theorem dX0_restoreCell_82 : decode cX0_restoreCell 82 = .ok (.aload_n 0, 1) := by decide +kernel
theorem dX0_restoreCell_83 : decode cX0_restoreCell 83 = .ok (.iload_n 1, 1) := by decide +kernel
end
section
theorem dX0_restoreCell_84 : decode cX0_restoreCell 84 = .ok (.lload_n 3, 1) := by decide +kernel
theorem dX0_restoreCell_85 : decode cX0_restoreCell 85 = .ok (.invokevirtual 124, 3) := by decide +kernel
theorem dX0_restoreCell_88 : decode cX0_restoreCell 88 = .ok (.return_, 1) := by decide +kernel
set_option maxRecDepth 20000 in
theorem ggX0_writeWhereOther_X0_slot : GoodIn wsX0_writeWhereOther wsX0_slot := goodIn_r _ [5] (by decide +kernel) (by decide +kernel)
set_option maxRecDepth 20000 in
theorem gX0_writeWhereOther_X0_slot : GoodIn wsX0_writeWhereOther (va_wsS RX0 110 yX0_slot wsX0_slot) := goodIn_app (goodIn_of _ (by decide +kernel)) ggX0_writeWhereOther_X0_slot
set_option maxRecDepth 20000 in
theorem ggX0_writeWhereOther_X0_writeTurn : GoodIn wsX0_writeWhereOther wsX0_writeTurn := goodIn_r _ [9, 10, 1, 11, 12, 13, 4, 14, 15, 16, 17, 18, 19, 20, 2, 3, 5, 21, 22, 23, 24, 25, 26] (by decide +kernel) (by decide +kernel)
set_option maxRecDepth 20000 in
theorem gX0_writeWhereOther_X0_writeTurn : GoodIn wsX0_writeWhereOther (wsV RX0 44 RX0 yX0_writeTurn wsX0_writeTurn) := goodIn_app (goodIn_of _ (by decide +kernel)) ggX0_writeWhereOther_X0_writeTurn
theorem dX0_writeWhereOther_0 : decode cX0_writeWhereOther 0 = .ok (.iconst 0, 1) := by decide +kernel
theorem dX0_writeWhereOther_1 : decode cX0_writeWhereOther 1 = .ok (.istore 4, 2) := by decide +kernel
theorem dX0_writeWhereOther_3 : decode cX0_writeWhereOther 3 = .ok (.iload 4, 2) := by decide +kernel
theorem dX0_writeWhereOther_5 : decode cX0_writeWhereOther 5 = .ok (.iconst 4, 1) := by decide +kernel
theorem dX0_writeWhereOther_6 : decode cX0_writeWhereOther 6 = .ok (.if_icmp .ge 33, 3) := by decide +kernel
theorem dX0_writeWhereOther_9 : decode cX0_writeWhereOther 9 = .ok (.aload_n 0, 1) := by decide +kernel
theorem dX0_writeWhereOther_10 : decode cX0_writeWhereOther 10 = .ok (.getfield 9, 3) := by decide +kernel
theorem dX0_writeWhereOther_13 : decode cX0_writeWhereOther 13 = .ok (.iload 4, 2) := by decide +kernel
theorem dX0_writeWhereOther_15 : decode cX0_writeWhereOther 15 = .ok (.iload_n 1, 1) := by decide +kernel
theorem dX0_writeWhereOther_16 : decode cX0_writeWhereOther 16 = .ok (.invokestatic 110, 3) := by decide +kernel
theorem dX0_writeWhereOther_19 : decode cX0_writeWhereOther 19 = .ok (.laload, 1) := by decide +kernel
theorem dX0_writeWhereOther_20 : decode cX0_writeWhereOther 20 = .ok (.lload_n 2, 1) := by decide +kernel
theorem dX0_writeWhereOther_21 : decode cX0_writeWhereOther 21 = .ok (.lcmp, 1) := by decide +kernel
theorem dX0_writeWhereOther_22 : decode cX0_writeWhereOther 22 = .ok (.ifCond .eq 11, 3) := by decide +kernel
theorem dX0_writeWhereOther_25 : decode cX0_writeWhereOther 25 = .ok (.aload_n 0, 1) := by decide +kernel
theorem dX0_writeWhereOther_26 : decode cX0_writeWhereOther 26 = .ok (.iload 4, 2) := by decide +kernel
theorem dX0_writeWhereOther_28 : decode cX0_writeWhereOther 28 = .ok (.iload_n 1, 1) := by decide +kernel
theorem dX0_writeWhereOther_29 : decode cX0_writeWhereOther 29 = .ok (.lload_n 2, 1) := by decide +kernel
theorem dX0_writeWhereOther_30 : decode cX0_writeWhereOther 30 = .ok (.invokevirtual 44, 3) := by decide +kernel
theorem dX0_writeWhereOther_33 : decode cX0_writeWhereOther 33 = .ok (.iinc 4 1, 3) := by decide +kernel
theorem dX0_writeWhereOther_36 : decode cX0_writeWhereOther 36 = .ok (.goto (-33), 3) := by decide +kernel
theorem dX0_writeWhereOther_39 : decode cX0_writeWhereOther 39 = .ok (.return_, 1) := by decide +kernel
set_option maxRecDepth 20000 in
theorem ggX0_slipIsPending_X0_foundIn : GoodIn wsX0_slipIsPending wsX0_foundIn := goodIn_r _ [6, 7, 8, 9, 5, 10, 34, 35, 36, 37, 38, 39] (by decide +kernel) (by decide +kernel)
set_option maxRecDepth 20000 in
theorem gX0_slipIsPending_X0_foundIn : GoodIn wsX0_slipIsPending (wsV RX0 127 RX0 yX0_foundIn wsX0_foundIn) := goodIn_app (goodIn_of _ (by decide +kernel)) ggX0_slipIsPending_X0_foundIn
set_option maxRecDepth 20000 in
theorem ggX0_slipIsPending_X0_numberOf : GoodIn wsX0_slipIsPending wsX0_numberOf := goodIn_r _ [13, 14] (by decide +kernel) (by decide +kernel)
set_option maxRecDepth 20000 in
theorem gX0_slipIsPending_X0_numberOf : GoodIn wsX0_slipIsPending (va_wsS RX0 80 yX0_numberOf wsX0_numberOf) := goodIn_app (goodIn_of _ (by decide +kernel)) ggX0_slipIsPending_X0_numberOf
set_option maxRecDepth 20000 in
theorem ggX0_slipIsPending_X0_isValid : GoodIn wsX0_slipIsPending wsX0_isValid := goodIn_r _ [17, 18, 19, 20, 5, 21] (by decide +kernel) (by decide +kernel)
set_option maxRecDepth 20000 in
theorem gX0_slipIsPending_X0_isValid : GoodIn wsX0_slipIsPending (va_wsS RX0 60 yX0_isValid wsX0_isValid) := goodIn_app (goodIn_of _ (by decide +kernel)) ggX0_slipIsPending_X0_isValid
set_option maxRecDepth 20000 in
theorem ggX0_slipIsPending_X0_balanceOf : GoodIn wsX0_slipIsPending wsX0_balanceOf := goodIn_r _ [24] (by decide +kernel) (by decide +kernel)
set_option maxRecDepth 20000 in
theorem gX0_slipIsPending_X0_balanceOf : GoodIn wsX0_slipIsPending (va_wsS RX0 67 yX0_balanceOf wsX0_balanceOf) := goodIn_app (goodIn_of _ (by decide +kernel)) ggX0_slipIsPending_X0_balanceOf
set_option maxRecDepth 20000 in
theorem ggX0_slipIsPending_X0_fromOf : GoodIn wsX0_slipIsPending wsX0_fromOf := goodIn_r _ [27] (by decide +kernel) (by decide +kernel)
set_option maxRecDepth 20000 in
theorem gX0_slipIsPending_X0_fromOf : GoodIn wsX0_slipIsPending (va_wsS RX0 130 yX0_fromOf wsX0_fromOf) := goodIn_app (goodIn_of _ (by decide +kernel)) ggX0_slipIsPending_X0_fromOf
set_option maxRecDepth 20000 in
theorem ggX0_slipIsPending_X0_isAccount : GoodIn wsX0_slipIsPending wsX0_isAccount := goodIn_r _ [30] (by decide +kernel) (by decide +kernel)
set_option maxRecDepth 20000 in
theorem gX0_slipIsPending_X0_isAccount : GoodIn wsX0_slipIsPending (va_wsS RX0 29 yX0_isAccount wsX0_isAccount) := goodIn_app (goodIn_of _ (by decide +kernel)) ggX0_slipIsPending_X0_isAccount
set_option maxRecDepth 20000 in
theorem ggX0_slipIsPending_X0_toOf : GoodIn wsX0_slipIsPending wsX0_toOf := goodIn_r _ [33] (by decide +kernel) (by decide +kernel)
set_option maxRecDepth 20000 in
theorem gX0_slipIsPending_X0_toOf : GoodIn wsX0_slipIsPending (va_wsS RX0 134 yX0_toOf wsX0_toOf) := goodIn_app (goodIn_of _ (by decide +kernel)) ggX0_slipIsPending_X0_toOf
theorem dX0_slipIsPending_0 : decode cX0_slipIsPending 0 = .ok (.aload_n 0, 1) := by decide +kernel
theorem dX0_slipIsPending_1 : decode cX0_slipIsPending 1 = .ok (.bipush 16, 2) := by decide +kernel
theorem dX0_slipIsPending_3 : decode cX0_slipIsPending 3 = .ok (.invokevirtual 127, 3) := by decide +kernel
theorem dX0_slipIsPending_6 : decode cX0_slipIsPending 6 = .ok (.invokestatic 80, 3) := by decide +kernel
theorem dX0_slipIsPending_9 : decode cX0_slipIsPending 9 = .ok (.istore_n 1, 1) := by decide +kernel
theorem dX0_slipIsPending_10 : decode cX0_slipIsPending 10 = .ok (.bipush 16, 2) := by decide +kernel
theorem dX0_slipIsPending_12 : decode cX0_slipIsPending 12 = .ok (.istore_n 2, 1) := by decide +kernel
theorem dX0_slipIsPending_13 : decode cX0_slipIsPending 13 = .ok (.iload_n 2, 1) := by decide +kernel
theorem dX0_slipIsPending_14 : decode cX0_slipIsPending 14 = .ok (.bipush 19, 2) := by decide +kernel
theorem dX0_slipIsPending_16 : decode cX0_slipIsPending 16 = .ok (.if_icmp .gt 32, 3) := by decide +kernel
theorem dX0_slipIsPending_19 : decode cX0_slipIsPending 19 = .ok (.aload_n 0, 1) := by decide +kernel
theorem dX0_slipIsPending_20 : decode cX0_slipIsPending 20 = .ok (.iload_n 2, 1) := by decide +kernel
theorem dX0_slipIsPending_21 : decode cX0_slipIsPending 21 = .ok (.invokevirtual 127, 3) := by decide +kernel
theorem dX0_slipIsPending_24 : decode cX0_slipIsPending 24 = .ok (.lstore_n 3, 1) := by decide +kernel
theorem dX0_slipIsPending_25 : decode cX0_slipIsPending 25 = .ok (.lload_n 3, 1) := by decide +kernel
theorem dX0_slipIsPending_26 : decode cX0_slipIsPending 26 = .ok (.invokestatic 60, 3) := by decide +kernel
theorem dX0_slipIsPending_29 : decode cX0_slipIsPending 29 = .ok (.ifCond .eq 11, 3) := by decide +kernel
theorem dX0_slipIsPending_32 : decode cX0_slipIsPending 32 = .ok (.lload_n 3, 1) := by decide +kernel
theorem dX0_slipIsPending_33 : decode cX0_slipIsPending 33 = .ok (.invokestatic 80, 3) := by decide +kernel
theorem dX0_slipIsPending_36 : decode cX0_slipIsPending 36 = .ok (.iload_n 1, 1) := by decide +kernel
theorem dX0_slipIsPending_37 : decode cX0_slipIsPending 37 = .ok (.if_icmp .eq 5, 3) := by decide +kernel
theorem dX0_slipIsPending_40 : decode cX0_slipIsPending 40 = .ok (.iconst 0, 1) := by decide +kernel
theorem dX0_slipIsPending_41 : decode cX0_slipIsPending 41 = .ok (.ireturn, 1) := by decide +kernel
theorem dX0_slipIsPending_42 : decode cX0_slipIsPending 42 = .ok (.iinc 2 1, 3) := by decide +kernel
theorem dX0_slipIsPending_45 : decode cX0_slipIsPending 45 = .ok (.goto (-32), 3) := by decide +kernel
theorem dX0_slipIsPending_48 : decode cX0_slipIsPending 48 = .ok (.aload_n 0, 1) := by decide +kernel
theorem dX0_slipIsPending_49 : decode cX0_slipIsPending 49 = .ok (.bipush 19, 2) := by decide +kernel
theorem dX0_slipIsPending_51 : decode cX0_slipIsPending 51 = .ok (.invokevirtual 127, 3) := by decide +kernel
theorem dX0_slipIsPending_54 : decode cX0_slipIsPending 54 = .ok (.invokestatic 67, 3) := by decide +kernel
theorem dX0_slipIsPending_57 : decode cX0_slipIsPending 57 = .ok (.istore_n 2, 1) := by decide +kernel
theorem dX0_slipIsPending_58 : decode cX0_slipIsPending 58 = .ok (.iload_n 2, 1) := by decide +kernel
theorem dX0_slipIsPending_59 : decode cX0_slipIsPending 59 = .ok (.ldc 91, 2) := by decide +kernel
theorem dX0_slipIsPending_61 : decode cX0_slipIsPending 61 = .ok (.iand, 1) := by decide +kernel
theorem dX0_slipIsPending_62 : decode cX0_slipIsPending 62 = .ok (.ifCond .eq 27, 3) := by decide +kernel
theorem dX0_slipIsPending_65 : decode cX0_slipIsPending 65 = .ok (.iload_n 2, 1) := by decide +kernel
theorem dX0_slipIsPending_66 : decode cX0_slipIsPending 66 = .ok (.invokestatic 130, 3) := by decide +kernel
theorem dX0_slipIsPending_69 : decode cX0_slipIsPending 69 = .ok (.invokestatic 29, 3) := by decide +kernel
theorem dX0_slipIsPending_72 : decode cX0_slipIsPending 72 = .ok (.ifCond .eq 17, 3) := by decide +kernel
theorem dX0_slipIsPending_75 : decode cX0_slipIsPending 75 = .ok (.iload_n 2, 1) := by decide +kernel
theorem dX0_slipIsPending_76 : decode cX0_slipIsPending 76 = .ok (.invokestatic 134, 3) := by decide +kernel
theorem dX0_slipIsPending_79 : decode cX0_slipIsPending 79 = .ok (.invokestatic 29, 3) := by decide +kernel
theorem dX0_slipIsPending_82 : decode cX0_slipIsPending 82 = .ok (.ifCond .eq 7, 3) := by decide +kernel
theorem dX0_slipIsPending_85 : decode cX0_slipIsPending 85 = .ok (.iconst 1, 1) := by decide +kernel
theorem dX0_slipIsPending_86 : decode cX0_slipIsPending 86 = .ok (.goto 4, 3) := by decide +kernel
theorem dX0_slipIsPending_89 : decode cX0_slipIsPending 89 = .ok (.iconst 0, 1) := by decide +kernel
theorem dX0_slipIsPending_90 : decode cX0_slipIsPending 90 = .ok (.ireturn, 1) := by decide +kernel
set_option maxRecDepth 20000 in
theorem ggX0_finishTransfer_X0_foundIn : GoodIn wsX0_finishTransfer wsX0_foundIn := goodIn_r _ [7, 8, 9, 10, 6, 11, 58, 59, 60, 61, 62, 63] (by decide +kernel) (by decide +kernel)
set_option maxRecDepth 20000 in
theorem gX0_finishTransfer_X0_foundIn : GoodIn wsX0_finishTransfer (wsV RX0 127 RX0 yX0_foundIn wsX0_foundIn) := goodIn_app (goodIn_of _ (by decide +kernel)) ggX0_finishTransfer_X0_foundIn
set_option maxRecDepth 20000 in
theorem ggX0_finishTransfer_X0_balanceOf : GoodIn wsX0_finishTransfer wsX0_balanceOf := goodIn_r _ [14] (by decide +kernel) (by decide +kernel)
set_option maxRecDepth 20000 in
theorem gX0_finishTransfer_X0_balanceOf : GoodIn wsX0_finishTransfer (va_wsS RX0 67 yX0_balanceOf wsX0_balanceOf) := goodIn_app (goodIn_of _ (by decide +kernel)) ggX0_finishTransfer_X0_balanceOf
set_option maxRecDepth 20000 in
theorem ggX0_finishTransfer_X0_fromOf : GoodIn wsX0_finishTransfer wsX0_fromOf := goodIn_r _ [17] (by decide +kernel) (by decide +kernel)
set_option maxRecDepth 20000 in
theorem gX0_finishTransfer_X0_fromOf : GoodIn wsX0_finishTransfer (va_wsS RX0 130 yX0_fromOf wsX0_fromOf) := goodIn_app (goodIn_of _ (by decide +kernel)) ggX0_finishTransfer_X0_fromOf
set_option maxRecDepth 20000 in
theorem ggX0_finishTransfer_X0_finishAccount : GoodIn wsX0_finishTransfer wsX0_finishAccount := goodIn_r _ [21, 3, 4, 5, 6, 7, 8, 9, 10, 11, 22, 23, 24, 25, 26, 27, 28, 29, 30, 31, 32, 12, 13, 14, 33, 34, 35, 36, 37, 38, 39, 40, 41, 42, 43, 44, 45, 46, 47, 48, 49, 50, 51, 52, 53, 54, 58, 59, 60, 61, 62, 63] (by decide +kernel) (by decide +kernel)
set_option maxRecDepth 20000 in
theorem gX0_finishTransfer_X0_finishAccount : GoodIn wsX0_finishTransfer (wsV RX0 137 RX0 yX0_finishAccount wsX0_finishAccount) := goodIn_app (goodIn_of _ (by decide +kernel)) ggX0_finishTransfer_X0_finishAccount
set_option maxRecDepth 20000 in
theorem ggX0_finishTransfer_X0_toOf : GoodIn wsX0_finishTransfer wsX0_toOf := goodIn_r _ [57] (by decide +kernel) (by decide +kernel)
set_option maxRecDepth 20000 in
theorem gX0_finishTransfer_X0_toOf : GoodIn wsX0_finishTransfer (va_wsS RX0 134 yX0_toOf wsX0_toOf) := goodIn_app (goodIn_of _ (by decide +kernel)) ggX0_finishTransfer_X0_toOf
set_option maxRecDepth 20000 in
theorem ggX0_finishTransfer_X0_numberOf : GoodIn wsX0_finishTransfer wsX0_numberOf := goodIn_r _ [31, 32] (by decide +kernel) (by decide +kernel)
set_option maxRecDepth 20000 in
theorem gX0_finishTransfer_X0_numberOf : GoodIn wsX0_finishTransfer (va_wsS RX0 80 yX0_numberOf wsX0_numberOf) := goodIn_app (goodIn_of _ (by decide +kernel)) ggX0_finishTransfer_X0_numberOf
set_option maxRecDepth 20000 in
theorem ggX0_finishTransfer_X0_makeWord : GoodIn wsX0_finishTransfer wsX0_makeWord := goodIn_r _ [35, 26, 27, 6, 28] (by decide +kernel) (by decide +kernel)
set_option maxRecDepth 20000 in
theorem gX0_finishTransfer_X0_makeWord : GoodIn wsX0_finishTransfer (va_wsS RX0 25 yX0_makeWord wsX0_makeWord) := goodIn_app (goodIn_of _ (by decide +kernel)) ggX0_finishTransfer_X0_makeWord
set_option maxRecDepth 20000 in
theorem ggX0_finishTransfer_X0_put : GoodIn wsX0_finishTransfer wsX0_put := goodIn_r _ [39, 40, 41, 42, 6, 43, 44, 8, 45, 46, 47, 48, 49, 50, 51, 52, 53, 54, 9, 10, 11, 58, 59, 60, 61, 62, 63] (by decide +kernel) (by decide +kernel)
set_option maxRecDepth 20000 in
theorem gX0_finishTransfer_X0_put : GoodIn wsX0_finishTransfer (wsV RX0 40 RX0 yX0_put wsX0_put) := goodIn_app (goodIn_of _ (by decide +kernel)) ggX0_finishTransfer_X0_put
theorem dX0_finishTransfer_0 : decode cX0_finishTransfer 0 = .ok (.aload_n 0, 1) := by decide +kernel
theorem dX0_finishTransfer_1 : decode cX0_finishTransfer 1 = .ok (.bipush 19, 2) := by decide +kernel
theorem dX0_finishTransfer_3 : decode cX0_finishTransfer 3 = .ok (.invokevirtual 127, 3) := by decide +kernel
theorem dX0_finishTransfer_6 : decode cX0_finishTransfer 6 = .ok (.lstore_n 1, 1) := by decide +kernel
theorem dX0_finishTransfer_7 : decode cX0_finishTransfer 7 = .ok (.lload_n 1, 1) := by decide +kernel
theorem dX0_finishTransfer_8 : decode cX0_finishTransfer 8 = .ok (.invokestatic 67, 3) := by decide +kernel
theorem dX0_finishTransfer_11 : decode cX0_finishTransfer 11 = .ok (.istore_n 3, 1) := by decide +kernel
theorem dX0_finishTransfer_12 : decode cX0_finishTransfer 12 = .ok (.aload_n 0, 1) := by decide +kernel
theorem dX0_finishTransfer_13 : decode cX0_finishTransfer 13 = .ok (.bipush 16, 2) := by decide +kernel
theorem dX0_finishTransfer_15 : decode cX0_finishTransfer 15 = .ok (.invokevirtual 127, 3) := by decide +kernel
theorem dX0_finishTransfer_18 : decode cX0_finishTransfer 18 = .ok (.invokestatic 67, 3) := by decide +kernel
theorem dX0_finishTransfer_21 : decode cX0_finishTransfer 21 = .ok (.istore 4, 2) := by decide +kernel
theorem dX0_finishTransfer_23 : decode cX0_finishTransfer 23 = .ok (.aload_n 0, 1) := by decide +kernel
theorem dX0_finishTransfer_24 : decode cX0_finishTransfer 24 = .ok (.iload_n 3, 1) := by decide +kernel
theorem dX0_finishTransfer_25 : decode cX0_finishTransfer 25 = .ok (.invokestatic 130, 3) := by decide +kernel
theorem dX0_finishTransfer_28 : decode cX0_finishTransfer 28 = .ok (.iload 4, 2) := by decide +kernel
theorem dX0_finishTransfer_30 : decode cX0_finishTransfer 30 = .ok (.ineg, 1) := by decide +kernel
theorem dX0_finishTransfer_31 : decode cX0_finishTransfer 31 = .ok (.aload_n 0, 1) := by decide +kernel
theorem dX0_finishTransfer_32 : decode cX0_finishTransfer 32 = .ok (.bipush 17, 2) := by decide +kernel
theorem dX0_finishTransfer_34 : decode cX0_finishTransfer 34 = .ok (.invokevirtual 127, 3) := by decide +kernel
theorem dX0_finishTransfer_37 : decode cX0_finishTransfer 37 = .ok (.invokestatic 67, 3) := by decide +kernel
theorem dX0_finishTransfer_40 : decode cX0_finishTransfer 40 = .ok (.invokevirtual 137, 3) := by decide +kernel
theorem dX0_finishTransfer_43 : decode cX0_finishTransfer 43 = .ok (.aload_n 0, 1) := by decide +kernel
theorem dX0_finishTransfer_44 : decode cX0_finishTransfer 44 = .ok (.iload_n 3, 1) := by decide +kernel
theorem dX0_finishTransfer_45 : decode cX0_finishTransfer 45 = .ok (.invokestatic 134, 3) := by decide +kernel
theorem dX0_finishTransfer_48 : decode cX0_finishTransfer 48 = .ok (.iload 4, 2) := by decide +kernel
theorem dX0_finishTransfer_50 : decode cX0_finishTransfer 50 = .ok (.aload_n 0, 1) := by decide +kernel
theorem dX0_finishTransfer_51 : decode cX0_finishTransfer 51 = .ok (.bipush 18, 2) := by decide +kernel
theorem dX0_finishTransfer_53 : decode cX0_finishTransfer 53 = .ok (.invokevirtual 127, 3) := by decide +kernel
theorem dX0_finishTransfer_56 : decode cX0_finishTransfer 56 = .ok (.invokestatic 67, 3) := by decide +kernel
theorem dX0_finishTransfer_59 : decode cX0_finishTransfer 59 = .ok (.invokevirtual 137, 3) := by decide +kernel
theorem dX0_finishTransfer_62 : decode cX0_finishTransfer 62 = .ok (.aload_n 0, 1) := by decide +kernel
theorem dX0_finishTransfer_63 : decode cX0_finishTransfer 63 = .ok (.bipush 19, 2) := by decide +kernel
theorem dX0_finishTransfer_65 : decode cX0_finishTransfer 65 = .ok (.iload_n 3, 1) := by decide +kernel
theorem dX0_finishTransfer_66 : decode cX0_finishTransfer 66 = .ok (.ldc 91, 2) := by decide +kernel
theorem dX0_finishTransfer_68 : decode cX0_finishTransfer 68 = .ok (.isub, 1) := by decide +kernel
theorem dX0_finishTransfer_69 : decode cX0_finishTransfer 69 = .ok (.ldc 92, 2) := by decide +kernel
theorem dX0_finishTransfer_71 : decode cX0_finishTransfer 71 = .ok (.iadd, 1) := by decide +kernel
theorem dX0_finishTransfer_72 : decode cX0_finishTransfer 72 = .ok (.lload_n 1, 1) := by decide +kernel
theorem dX0_finishTransfer_73 : decode cX0_finishTransfer 73 = .ok (.invokestatic 80, 3) := by decide +kernel
theorem dX0_finishTransfer_76 : decode cX0_finishTransfer 76 = .ok (.invokestatic 25, 3) := by decide +kernel
theorem dX0_finishTransfer_79 : decode cX0_finishTransfer 79 = .ok (.invokevirtual 40, 3) := by decide +kernel
theorem dX0_finishTransfer_82 : decode cX0_finishTransfer 82 = .ok (.return_, 1) := by decide +kernel
set_option maxRecDepth 20000 in
theorem ggX0_finishAccount_X0_foundIn : GoodIn wsX0_finishAccount wsX0_foundIn := goodIn_r _ [5, 6, 7, 8, 4, 9, 46, 47, 48, 49, 50, 51] (by decide +kernel) (by decide +kernel)
set_option maxRecDepth 20000 in
theorem gX0_finishAccount_X0_foundIn : GoodIn wsX0_finishAccount (wsV RX0 127 RX0 yX0_foundIn wsX0_foundIn) := goodIn_app (goodIn_of _ (by decide +kernel)) ggX0_finishAccount_X0_foundIn
set_option maxRecDepth 20000 in
theorem ggX0_finishAccount_X0_isValid : GoodIn wsX0_finishAccount wsX0_isValid := goodIn_r _ [12, 13, 14, 15, 4, 16] (by decide +kernel) (by decide +kernel)
set_option maxRecDepth 20000 in
theorem gX0_finishAccount_X0_isValid : GoodIn wsX0_finishAccount (va_wsS RX0 60 yX0_isValid wsX0_isValid) := goodIn_app (goodIn_of _ (by decide +kernel)) ggX0_finishAccount_X0_isValid
set_option maxRecDepth 20000 in
theorem ggX0_finishAccount_X0_numberOf : GoodIn wsX0_finishAccount wsX0_numberOf := goodIn_r _ [19, 20] (by decide +kernel) (by decide +kernel)
set_option maxRecDepth 20000 in
theorem gX0_finishAccount_X0_numberOf : GoodIn wsX0_finishAccount (va_wsS RX0 80 yX0_numberOf wsX0_numberOf) := goodIn_app (goodIn_of _ (by decide +kernel)) ggX0_finishAccount_X0_numberOf
set_option maxRecDepth 20000 in
theorem ggX0_finishAccount_X0_balanceOf : GoodIn wsX0_finishAccount wsX0_balanceOf := goodIn_r _ [23] (by decide +kernel) (by decide +kernel)
set_option maxRecDepth 20000 in
theorem gX0_finishAccount_X0_balanceOf : GoodIn wsX0_finishAccount (va_wsS RX0 67 yX0_balanceOf wsX0_balanceOf) := goodIn_app (goodIn_of _ (by decide +kernel)) ggX0_finishAccount_X0_balanceOf
set_option maxRecDepth 20000 in
theorem ggX0_finishAccount_X0_makeWord : GoodIn wsX0_finishAccount wsX0_makeWord := goodIn_r _ [26, 14, 15, 4, 16] (by decide +kernel) (by decide +kernel)
set_option maxRecDepth 20000 in
theorem gX0_finishAccount_X0_makeWord : GoodIn wsX0_finishAccount (va_wsS RX0 25 yX0_makeWord wsX0_makeWord) := goodIn_app (goodIn_of _ (by decide +kernel)) ggX0_finishAccount_X0_makeWord
set_option maxRecDepth 20000 in
theorem ggX0_finishAccount_X0_put : GoodIn wsX0_finishAccount wsX0_put := goodIn_r _ [30, 31, 32, 33, 4, 34, 35, 6, 36, 37, 38, 39, 40, 41, 42, 43, 44, 45, 7, 8, 9, 46, 47, 48, 49, 50, 51] (by decide +kernel) (by decide +kernel)
set_option maxRecDepth 20000 in
theorem gX0_finishAccount_X0_put : GoodIn wsX0_finishAccount (wsV RX0 40 RX0 yX0_put wsX0_put) := goodIn_app (goodIn_of _ (by decide +kernel)) ggX0_finishAccount_X0_put
theorem dX0_finishAccount_0 : decode cX0_finishAccount 0 = .ok (.aload_n 0, 1) := by decide +kernel
theorem dX0_finishAccount_1 : decode cX0_finishAccount 1 = .ok (.iload_n 1, 1) := by decide +kernel
theorem dX0_finishAccount_2 : decode cX0_finishAccount 2 = .ok (.invokevirtual 127, 3) := by decide +kernel
theorem dX0_finishAccount_5 : decode cX0_finishAccount 5 = .ok (.lstore 4, 2) := by decide +kernel
theorem dX0_finishAccount_7 : decode cX0_finishAccount 7 = .ok (.lload 4, 2) := by decide +kernel
theorem dX0_finishAccount_9 : decode cX0_finishAccount 9 = .ok (.invokestatic 60, 3) := by decide +kernel
theorem dX0_finishAccount_12 : decode cX0_finishAccount 12 = .ok (.ifCond .eq 28, 3) := by decide +kernel
theorem dX0_finishAccount_15 : decode cX0_finishAccount 15 = .ok (.lload 4, 2) := by decide +kernel
theorem dX0_finishAccount_17 : decode cX0_finishAccount 17 = .ok (.invokestatic 80, 3) := by decide +kernel
theorem dX0_finishAccount_20 : decode cX0_finishAccount 20 = .ok (.iload_n 3, 1) := by decide +kernel
theorem dX0_finishAccount_21 : decode cX0_finishAccount 21 = .ok (.if_icmp .ge 19, 3) := by decide +kernel
theorem dX0_finishAccount_24 : decode cX0_finishAccount 24 = .ok (.aload_n 0, 1) := by decide +kernel
theorem dX0_finishAccount_25 : decode cX0_finishAccount 25 = .ok (.iload_n 1, 1) := by decide +kernel
theorem dX0_finishAccount_26 : decode cX0_finishAccount 26 = .ok (.lload 4, 2) := by decide +kernel
theorem dX0_finishAccount_28 : decode cX0_finishAccount 28 = .ok (.invokestatic 67, 3) := by decide +kernel
theorem dX0_finishAccount_31 : decode cX0_finishAccount 31 = .ok (.iload_n 2, 1) := by decide +kernel
theorem dX0_finishAccount_32 : decode cX0_finishAccount 32 = .ok (.iadd, 1) := by decide +kernel
theorem dX0_finishAccount_33 : decode cX0_finishAccount 33 = .ok (.iload_n 3, 1) := by decide +kernel
theorem dX0_finishAccount_34 : decode cX0_finishAccount 34 = .ok (.invokestatic 25, 3) := by decide +kernel
theorem dX0_finishAccount_37 : decode cX0_finishAccount 37 = .ok (.invokevirtual 40, 3) := by decide +kernel
theorem dX0_finishAccount_40 : decode cX0_finishAccount 40 = .ok (.return_, 1) := by decide +kernel
set_option maxRecDepth 20000 in
theorem ggX0_foundIn_X0_slot : GoodIn wsX0_foundIn wsX0_slot := goodIn_r _ [5] (by decide +kernel) (by decide +kernel)
set_option maxRecDepth 20000 in
theorem gX0_foundIn_X0_slot : GoodIn wsX0_foundIn (va_wsS RX0 110 yX0_slot wsX0_slot) := goodIn_app (goodIn_of _ (by decide +kernel)) ggX0_foundIn_X0_slot
theorem dX0_foundIn_0 : decode cX0_foundIn 0 = .ok (.aload_n 0, 1) := by decide +kernel
theorem dX0_foundIn_1 : decode cX0_foundIn 1 = .ok (.getfield 9, 3) := by decide +kernel
theorem dX0_foundIn_4 : decode cX0_foundIn 4 = .ok (.iconst 0, 1) := by decide +kernel
theorem dX0_foundIn_5 : decode cX0_foundIn 5 = .ok (.iload_n 1, 1) := by decide +kernel
theorem dX0_foundIn_6 : decode cX0_foundIn 6 = .ok (.invokestatic 110, 3) := by decide +kernel
theorem dX0_foundIn_9 : decode cX0_foundIn 9 = .ok (.laload, 1) := by decide +kernel
theorem dX0_foundIn_10 : decode cX0_foundIn 10 = .ok (.lreturn, 1) := by decide +kernel
theorem dX0_fromOf_0 : decode cX0_fromOf 0 = .ok (.iload_n 0, 1) := by decide +kernel
theorem dX0_fromOf_1 : decode cX0_fromOf 1 = .ok (.bipush 8, 2) := by decide +kernel
theorem dX0_fromOf_3 : decode cX0_fromOf 3 = .ok (.ishr, 1) := by decide +kernel
theorem dX0_fromOf_4 : decode cX0_fromOf 4 = .ok (.sipush 255, 3) := by decide +kernel
theorem dX0_fromOf_7 : decode cX0_fromOf 7 = .ok (.iand, 1) := by decide +kernel
theorem dX0_fromOf_8 : decode cX0_fromOf 8 = .ok (.ireturn, 1) := by decide +kernel
theorem dX0_toOf_0 : decode cX0_toOf 0 = .ok (.iload_n 0, 1) := by decide +kernel
theorem dX0_toOf_1 : decode cX0_toOf 1 = .ok (.sipush 255, 3) := by decide +kernel
theorem dX0_toOf_4 : decode cX0_toOf 4 = .ok (.iand, 1) := by decide +kernel
theorem dX0_toOf_5 : decode cX0_toOf 5 = .ok (.ireturn, 1) := by decide +kernel
set_option maxRecDepth 20000 in
theorem ggX0_look_X0_readTurn : GoodIn wsX0_look wsX0_readTurn := goodIn_r _ [5, 6, 7, 8, 9, 10, 4, 11, 12, 13, 14, 15, 16, 17, 18, 19, 20, 26, 27, 28, 29, 30, 31] (by decide +kernel) (by decide +kernel)
set_option maxRecDepth 20000 in
theorem gX0_look_X0_readTurn : GoodIn wsX0_look (wsV RX0 33 RX0 yX0_readTurn wsX0_readTurn) := goodIn_app (goodIn_of _ (by decide +kernel)) ggX0_look_X0_readTurn
set_option maxRecDepth 20000 in
theorem ggX0_look_X0_writeTurn : GoodIn wsX0_look wsX0_writeTurn := goodIn_r _ [24, 25, 7, 8, 9, 10, 4, 11, 12, 13, 14, 15, 16, 17, 18, 19, 20, 26, 27, 28, 29, 30, 31] (by decide +kernel) (by decide +kernel)
set_option maxRecDepth 20000 in
theorem gX0_look_X0_writeTurn : GoodIn wsX0_look (wsV RX0 44 RX0 yX0_writeTurn wsX0_writeTurn) := goodIn_app (goodIn_of _ (by decide +kernel)) ggX0_look_X0_writeTurn
theorem dX0_look_0 : decode cX0_look 0 = .ok (.aload_n 0, 1) := by decide +kernel
theorem dX0_look_1 : decode cX0_look 1 = .ok (.iconst 0, 1) := by decide +kernel
theorem dX0_look_2 : decode cX0_look 2 = .ok (.iload_n 1, 1) := by decide +kernel
theorem dX0_look_3 : decode cX0_look 3 = .ok (.invokevirtual 33, 3) := by decide +kernel
theorem dX0_look_6 : decode cX0_look 6 = .ok (.lstore_n 2, 1) := by decide +kernel
theorem dX0_look_7 : decode cX0_look 7 = .ok (.aload_n 0, 1) := by decide +kernel
theorem dX0_look_8 : decode cX0_look 8 = .ok (.iconst 0, 1) := by decide +kernel
theorem dX0_look_9 : decode cX0_look 9 = .ok (.iload_n 1, 1) := by decide +kernel
theorem dX0_look_10 : decode cX0_look 10 = .ok (.lload_n 2, 1) := by decide +kernel
theorem dX0_look_11 : decode cX0_look 11 = .ok (.invokevirtual 44, 3) := by decide +kernel
theorem dX0_look_14 : decode cX0_look 14 = .ok (.lload_n 2, 1) := by decide +kernel
theorem dX0_look_15 : decode cX0_look 15 = .ok (.lreturn, 1) := by decide +kernel
set_option maxRecDepth 20000 in
theorem ggX0_put_X0_writeTurn : GoodIn wsX0_put wsX0_writeTurn := goodIn_r _ [5, 6, 7, 8, 9, 10, 4, 11, 12, 13, 14, 15, 16, 17, 18, 19, 20, 21, 22, 23, 24, 25, 26] (by decide +kernel) (by decide +kernel)
set_option maxRecDepth 20000 in
theorem gX0_put_X0_writeTurn : GoodIn wsX0_put (wsV RX0 44 RX0 yX0_writeTurn wsX0_writeTurn) := goodIn_app (goodIn_of _ (by decide +kernel)) ggX0_put_X0_writeTurn
theorem dX0_put_0 : decode cX0_put 0 = .ok (.iconst 0, 1) := by decide +kernel
theorem dX0_put_1 : decode cX0_put 1 = .ok (.istore 4, 2) := by decide +kernel
theorem dX0_put_3 : decode cX0_put 3 = .ok (.iload 4, 2) := by decide +kernel
theorem dX0_put_5 : decode cX0_put 5 = .ok (.iconst 4, 1) := by decide +kernel
theorem dX0_put_6 : decode cX0_put 6 = .ok (.if_icmp .ge 17, 3) := by decide +kernel
theorem dX0_put_9 : decode cX0_put 9 = .ok (.aload_n 0, 1) := by decide +kernel
theorem dX0_put_10 : decode cX0_put 10 = .ok (.iload 4, 2) := by decide +kernel
theorem dX0_put_12 : decode cX0_put 12 = .ok (.iload_n 1, 1) := by decide +kernel
theorem dX0_put_13 : decode cX0_put 13 = .ok (.lload_n 2, 1) := by decide +kernel
theorem dX0_put_14 : decode cX0_put 14 = .ok (.invokevirtual 44, 3) := by decide +kernel
theorem dX0_put_17 : decode cX0_put 17 = .ok (.iinc 4 1, 3) := by decide +kernel
theorem dX0_put_20 : decode cX0_put 20 = .ok (.goto (-17), 3) := by decide +kernel
theorem dX0_put_23 : decode cX0_put 23 = .ok (.return_, 1) := by decide +kernel
set_option maxRecDepth 20000 in
theorem ggX0_readTurn_X0_takeTurn : GoodIn wsX0_readTurn wsX0_takeTurn := goodIn_r _ [7, 8, 9, 10, 11, 12, 6, 13, 17, 18, 19, 20, 21, 22] (by decide +kernel) (by decide +kernel)
set_option maxRecDepth 20000 in
theorem gX0_readTurn_X0_takeTurn : GoodIn wsX0_readTurn (wsV RX0 141 RX0 yX0_takeTurn wsX0_takeTurn) := goodIn_app (goodIn_of _ (by decide +kernel)) ggX0_readTurn_X0_takeTurn
set_option maxRecDepth 20000 in
theorem ggX0_readTurn_X0_slot : GoodIn wsX0_readTurn wsX0_slot := goodIn_r _ [16] (by decide +kernel) (by decide +kernel)
set_option maxRecDepth 20000 in
theorem gX0_readTurn_X0_slot : GoodIn wsX0_readTurn (va_wsS RX0 110 yX0_slot wsX0_slot) := goodIn_app (goodIn_of _ (by decide +kernel)) ggX0_readTurn_X0_slot
theorem dX0_readTurn_0 : decode cX0_readTurn 0 = .ok (.aload_n 0, 1) := by decide +kernel
theorem dX0_readTurn_1 : decode cX0_readTurn 1 = .ok (.invokevirtual 141, 3) := by decide +kernel
theorem dX0_readTurn_4 : decode cX0_readTurn 4 = .ok (.ifCond .ne 5, 3) := by decide +kernel
theorem dX0_readTurn_7 : decode cX0_readTurn 7 = .ok (.lconst 0, 1) := by decide +kernel
theorem dX0_readTurn_8 : decode cX0_readTurn 8 = .ok (.lreturn, 1) := by decide +kernel
theorem dX0_readTurn_9 : decode cX0_readTurn 9 = .ok (.aload_n 0, 1) := by decide +kernel
theorem dX0_readTurn_10 : decode cX0_readTurn 10 = .ok (.dup, 1) := by decide +kernel
theorem dX0_readTurn_11 : decode cX0_readTurn 11 = .ok (.getfield 114, 3) := by decide +kernel
theorem dX0_readTurn_14 : decode cX0_readTurn 14 = .ok (.iconst 1, 1) := by decide +kernel
theorem dX0_readTurn_15 : decode cX0_readTurn 15 = .ok (.iadd, 1) := by decide +kernel
theorem dX0_readTurn_16 : decode cX0_readTurn 16 = .ok (.putfield 114, 3) := by decide +kernel
theorem dX0_readTurn_19 : decode cX0_readTurn 19 = .ok (.iload_n 1, 1) := by decide +kernel
theorem dX0_readTurn_20 : decode cX0_readTurn 20 = .ok (.iload_n 2, 1) := by decide +kernel
theorem dX0_readTurn_21 : decode cX0_readTurn 21 = .ok (.invokestatic 110, 3) := by decide +kernel
theorem dX0_readTurn_24 : decode cX0_readTurn 24 = .ok (.istore_n 3, 1) := by decide +kernel
theorem dX0_readTurn_25 : decode cX0_readTurn 25 = .ok (.aload_n 0, 1) := by decide +kernel
theorem dX0_readTurn_26 : decode cX0_readTurn 26 = .ok (.getfield 9, 3) := by decide +kernel
theorem dX0_readTurn_29 : decode cX0_readTurn 29 = .ok (.iload_n 3, 1) := by decide +kernel
theorem dX0_readTurn_30 : decode cX0_readTurn 30 = .ok (.laload, 1) := by decide +kernel
theorem dX0_readTurn_31 : decode cX0_readTurn 31 = .ok (.lstore 4, 2) := by decide +kernel
theorem dX0_readTurn_33 : decode cX0_readTurn 33 = .ok (.aload_n 0, 1) := by decide +kernel
theorem dX0_readTurn_34 : decode cX0_readTurn 34 = .ok (.getfield 9, 3) := by decide +kernel
theorem dX0_readTurn_37 : decode cX0_readTurn 37 = .ok (.iload_n 3, 1) := by decide +kernel
theorem dX0_readTurn_38 : decode cX0_readTurn 38 = .ok (.lconst 0, 1) := by decide +kernel
theorem dX0_readTurn_39 : decode cX0_readTurn 39 = .ok (.lastore, 1) := by decide +kernel
theorem dX0_readTurn_40 : decode cX0_readTurn 40 = .ok (.lload 4, 2) := by decide +kernel
theorem dX0_readTurn_42 : decode cX0_readTurn 42 = .ok (.lreturn, 1) := by decide +kernel
set_option maxRecDepth 20000 in
theorem ggX0_writeTurn_X0_takeTurn : GoodIn wsX0_writeTurn wsX0_takeTurn := goodIn_r _ [7, 8, 9, 10, 11, 12, 6, 13, 17, 18, 19, 20, 21, 22] (by decide +kernel) (by decide +kernel)
set_option maxRecDepth 20000 in
theorem gX0_writeTurn_X0_takeTurn : GoodIn wsX0_writeTurn (wsV RX0 141 RX0 yX0_takeTurn wsX0_takeTurn) := goodIn_app (goodIn_of _ (by decide +kernel)) ggX0_writeTurn_X0_takeTurn
set_option maxRecDepth 20000 in
theorem ggX0_writeTurn_X0_slot : GoodIn wsX0_writeTurn wsX0_slot := goodIn_r _ [16] (by decide +kernel) (by decide +kernel)
set_option maxRecDepth 20000 in
theorem gX0_writeTurn_X0_slot : GoodIn wsX0_writeTurn (va_wsS RX0 110 yX0_slot wsX0_slot) := goodIn_app (goodIn_of _ (by decide +kernel)) ggX0_writeTurn_X0_slot
theorem dX0_writeTurn_0 : decode cX0_writeTurn 0 = .ok (.aload_n 0, 1) := by decide +kernel
theorem dX0_writeTurn_1 : decode cX0_writeTurn 1 = .ok (.invokevirtual 141, 3) := by decide +kernel
theorem dX0_writeTurn_4 : decode cX0_writeTurn 4 = .ok (.ifCond .eq 24, 3) := by decide +kernel
theorem dX0_writeTurn_7 : decode cX0_writeTurn 7 = .ok (.aload_n 0, 1) := by decide +kernel
theorem dX0_writeTurn_8 : decode cX0_writeTurn 8 = .ok (.dup, 1) := by decide +kernel
theorem dX0_writeTurn_9 : decode cX0_writeTurn 9 = .ok (.getfield 117, 3) := by decide +kernel
theorem dX0_writeTurn_12 : decode cX0_writeTurn 12 = .ok (.iconst 1, 1) := by decide +kernel
theorem dX0_writeTurn_13 : decode cX0_writeTurn 13 = .ok (.iadd, 1) := by decide +kernel
theorem dX0_writeTurn_14 : decode cX0_writeTurn 14 = .ok (.putfield 117, 3) := by decide +kernel
theorem dX0_writeTurn_17 : decode cX0_writeTurn 17 = .ok (.aload_n 0, 1) := by decide +kernel
theorem dX0_writeTurn_18 : decode cX0_writeTurn 18 = .ok (.getfield 9, 3) := by decide +kernel
theorem dX0_writeTurn_21 : decode cX0_writeTurn 21 = .ok (.iload_n 1, 1) := by decide +kernel
theorem dX0_writeTurn_22 : decode cX0_writeTurn 22 = .ok (.iload_n 2, 1) := by decide +kernel
theorem dX0_writeTurn_23 : decode cX0_writeTurn 23 = .ok (.invokestatic 110, 3) := by decide +kernel
theorem dX0_writeTurn_26 : decode cX0_writeTurn 26 = .ok (.lload_n 3, 1) := by decide +kernel
theorem dX0_writeTurn_27 : decode cX0_writeTurn 27 = .ok (.lastore, 1) := by decide +kernel
theorem dX0_writeTurn_28 : decode cX0_writeTurn 28 = .ok (.return_, 1) := by decide +kernel
set_option maxRecDepth 20000 in
theorem ggX0_takeTurn_X0_losePower : GoodIn wsX0_takeTurn wsX0_losePower := goodIn_r _ [7, 1, 2, 8, 9, 10, 11, 12, 13] (by decide +kernel) (by decide +kernel)
set_option maxRecDepth 20000 in
theorem gX0_takeTurn_X0_losePower : GoodIn wsX0_takeTurn (wsV RX0 93 RX0 yX0_losePower wsX0_losePower) := goodIn_app (goodIn_of _ (by decide +kernel)) ggX0_takeTurn_X0_losePower
theorem dX0_takeTurn_0 : decode cX0_takeTurn 0 = .ok (.aload_n 0, 1) := by decide +kernel
theorem dX0_takeTurn_1 : decode cX0_takeTurn 1 = .ok (.getfield 17, 3) := by decide +kernel
theorem dX0_takeTurn_4 : decode cX0_takeTurn 4 = .ok (.ifCond .ne 5, 3) := by decide +kernel
theorem dX0_takeTurn_7 : decode cX0_takeTurn 7 = .ok (.iconst 0, 1) := by decide +kernel
theorem dX0_takeTurn_8 : decode cX0_takeTurn 8 = .ok (.ireturn, 1) := by decide +kernel
theorem dX0_takeTurn_9 : decode cX0_takeTurn 9 = .ok (.aload_n 0, 1) := by decide +kernel
theorem dX0_takeTurn_10 : decode cX0_takeTurn 10 = .ok (.getfield 21, 3) := by decide +kernel
theorem dX0_takeTurn_13 : decode cX0_takeTurn 13 = .ok (.ifCond .ne 9, 3) := by decide +kernel
theorem dX0_takeTurn_16 : decode cX0_takeTurn 16 = .ok (.aload_n 0, 1) := by decide +kernel
theorem dX0_takeTurn_17 : decode cX0_takeTurn 17 = .ok (.invokevirtual 93, 3) := by decide +kernel
theorem dX0_takeTurn_20 : decode cX0_takeTurn 20 = .ok (.iconst 0, 1) := by decide +kernel
theorem dX0_takeTurn_21 : decode cX0_takeTurn 21 = .ok (.ireturn, 1) := by decide +kernel
theorem dX0_takeTurn_22 : decode cX0_takeTurn 22 = .ok (.aload_n 0, 1) := by decide +kernel
theorem dX0_takeTurn_23 : decode cX0_takeTurn 23 = .ok (.getfield 21, 3) := by decide +kernel
theorem dX0_takeTurn_26 : decode cX0_takeTurn 26 = .ok (.ifCond .le 13, 3) := by decide +kernel
theorem dX0_takeTurn_29 : decode cX0_takeTurn 29 = .ok (.aload_n 0, 1) := by decide +kernel
theorem dX0_takeTurn_30 : decode cX0_takeTurn 30 = .ok (.dup, 1) := by decide +kernel
theorem dX0_takeTurn_31 : decode cX0_takeTurn 31 = .ok (.getfield 21, 3) := by decide +kernel
theorem dX0_takeTurn_34 : decode cX0_takeTurn 34 = .ok (.iconst 1, 1) := by decide +kernel
theorem dX0_takeTurn_35 : decode cX0_takeTurn 35 = .ok (.isub, 1) := by decide +kernel
theorem dX0_takeTurn_36 : decode cX0_takeTurn 36 = .ok (.putfield 21, 3) := by decide +kernel
theorem dX0_takeTurn_39 : decode cX0_takeTurn 39 = .ok (.iconst 1, 1) := by decide +kernel
theorem dX0_takeTurn_40 : decode cX0_takeTurn 40 = .ok (.ireturn, 1) := by decide +kernel
theorem dX0_losePower_0 : decode cX0_losePower 0 = .ok (.aload_n 0, 1) := by decide +kernel
theorem dX0_losePower_1 : decode cX0_losePower 1 = .ok (.iconst 0, 1) := by decide +kernel
theorem dX0_losePower_2 : decode cX0_losePower 2 = .ok (.putfield 17, 3) := by decide +kernel
theorem dX0_losePower_5 : decode cX0_losePower 5 = .ok (.aload_n 0, 1) := by decide +kernel
theorem dX0_losePower_6 : decode cX0_losePower 6 = .ok (.iconst (-1), 1) := by decide +kernel
theorem dX0_losePower_7 : decode cX0_losePower 7 = .ok (.putfield 21, 3) := by decide +kernel
theorem dX0_losePower_10 : decode cX0_losePower 10 = .ok (.return_, 1) := by decide +kernel
theorem dX0_answerOf_0 : decode cX0_answerOf 0 = .ok (.aload_n 0, 1) := by decide +kernel
theorem dX0_answerOf_1 : decode cX0_answerOf 1 = .ok (.getfield 17, 3) := by decide +kernel
theorem dX0_answerOf_4 : decode cX0_answerOf 4 = .ok (.ifCond .ne 6, 3) := by decide +kernel
theorem dX0_answerOf_7 : decode cX0_answerOf 7 = .ok (.bipush (-2), 2) := by decide +kernel
theorem dX0_answerOf_9 : decode cX0_answerOf 9 = .ok (.ireturn, 1) := by decide +kernel
theorem dX0_answerOf_10 : decode cX0_answerOf 10 = .ok (.iload_n 1, 1) := by decide +kernel
theorem dX0_answerOf_11 : decode cX0_answerOf 11 = .ok (.ifCond .eq 7, 3) := by decide +kernel
theorem dX0_answerOf_14 : decode cX0_answerOf 14 = .ok (.iconst 1, 1) := by decide +kernel
theorem dX0_answerOf_15 : decode cX0_answerOf 15 = .ok (.goto 4, 3) := by decide +kernel
theorem dX0_answerOf_18 : decode cX0_answerOf 18 = .ok (.iconst (-1), 1) := by decide +kernel
theorem dX0_answerOf_19 : decode cX0_answerOf 19 = .ok (.ireturn, 1) := by decide +kernel
theorem dX0_slot_0 : decode cX0_slot 0 = .ok (.iload_n 0, 1) := by decide +kernel
theorem dX0_slot_1 : decode cX0_slot 1 = .ok (.bipush 20, 2) := by decide +kernel
theorem dX0_slot_3 : decode cX0_slot 3 = .ok (.imul, 1) := by decide +kernel
theorem dX0_slot_4 : decode cX0_slot 4 = .ok (.iload_n 1, 1) := by decide +kernel
theorem dX0_slot_5 : decode cX0_slot 5 = .ok (.iadd, 1) := by decide +kernel
theorem dX0_slot_6 : decode cX0_slot 6 = .ok (.ireturn, 1) := by decide +kernel
theorem dX0_isAccount_0 : decode cX0_isAccount 0 = .ok (.iload_n 0, 1) := by decide +kernel
theorem dX0_isAccount_1 : decode cX0_isAccount 1 = .ok (.ifCond .lt 13, 3) := by decide +kernel
theorem dX0_isAccount_4 : decode cX0_isAccount 4 = .ok (.iload_n 0, 1) := by decide +kernel
theorem dX0_isAccount_5 : decode cX0_isAccount 5 = .ok (.bipush 16, 2) := by decide +kernel
theorem dX0_isAccount_7 : decode cX0_isAccount 7 = .ok (.if_icmp .ge 7, 3) := by decide +kernel
theorem dX0_isAccount_10 : decode cX0_isAccount 10 = .ok (.iconst 1, 1) := by decide +kernel
theorem dX0_isAccount_11 : decode cX0_isAccount 11 = .ok (.goto 4, 3) := by decide +kernel
theorem dX0_isAccount_14 : decode cX0_isAccount 14 = .ok (.iconst 0, 1) := by decide +kernel
theorem dX0_isAccount_15 : decode cX0_isAccount 15 = .ok (.ireturn, 1) := by decide +kernel
theorem dX0_isCell_0 : decode cX0_isCell 0 = .ok (.iload_n 0, 1) := by decide +kernel
theorem dX0_isCell_1 : decode cX0_isCell 1 = .ok (.ifCond .lt 13, 3) := by decide +kernel
theorem dX0_isCell_4 : decode cX0_isCell 4 = .ok (.iload_n 0, 1) := by decide +kernel
theorem dX0_isCell_5 : decode cX0_isCell 5 = .ok (.bipush 20, 2) := by decide +kernel
theorem dX0_isCell_7 : decode cX0_isCell 7 = .ok (.if_icmp .ge 7, 3) := by decide +kernel
theorem dX0_isCell_10 : decode cX0_isCell 10 = .ok (.iconst 1, 1) := by decide +kernel
theorem dX0_isCell_11 : decode cX0_isCell 11 = .ok (.goto 4, 3) := by decide +kernel
theorem dX0_isCell_14 : decode cX0_isCell 14 = .ok (.iconst 0, 1) := by decide +kernel
theorem dX0_isCell_15 : decode cX0_isCell 15 = .ok (.ireturn, 1) := by decide +kernel
set_option maxRecDepth 20000 in
theorem ggX0_makeWord_X0_checkByte : GoodIn wsX0_makeWord wsX0_checkByte := goodIn_r _ [4] (by decide +kernel) (by decide +kernel)
set_option maxRecDepth 20000 in
theorem gX0_makeWord_X0_checkByte : GoodIn wsX0_makeWord (va_wsS RX0 144 yX0_checkByte wsX0_checkByte) := goodIn_app (goodIn_of _ (by decide +kernel)) ggX0_makeWord_X0_checkByte
theorem dX0_makeWord_0 : decode cX0_makeWord 0 = .ok (.iload_n 0, 1) := by decide +kernel
theorem dX0_makeWord_1 : decode cX0_makeWord 1 = .ok (.i2l, 1) := by decide +kernel
theorem dX0_makeWord_2 : decode cX0_makeWord 2 = .ok (.bipush 32, 2) := by decide +kernel
theorem dX0_makeWord_4 : decode cX0_makeWord 4 = .ok (.lshl, 1) := by decide +kernel
theorem dX0_makeWord_5 : decode cX0_makeWord 5 = .ok (.iload_n 1, 1) := by decide +kernel
theorem dX0_makeWord_6 : decode cX0_makeWord 6 = .ok (.i2l, 1) := by decide +kernel
theorem dX0_makeWord_7 : decode cX0_makeWord 7 = .ok (.bipush 8, 2) := by decide +kernel
theorem dX0_makeWord_9 : decode cX0_makeWord 9 = .ok (.lshl, 1) := by decide +kernel
theorem dX0_makeWord_10 : decode cX0_makeWord 10 = .ok (.lor, 1) := by decide +kernel
theorem dX0_makeWord_11 : decode cX0_makeWord 11 = .ok (.lstore_n 2, 1) := by decide +kernel
theorem dX0_makeWord_12 : decode cX0_makeWord 12 = .ok (.lload_n 2, 1) := by decide +kernel
theorem dX0_makeWord_13 : decode cX0_makeWord 13 = .ok (.lload_n 2, 1) := by decide +kernel
theorem dX0_makeWord_14 : decode cX0_makeWord 14 = .ok (.invokestatic 144, 3) := by decide +kernel
theorem dX0_makeWord_17 : decode cX0_makeWord 17 = .ok (.i2l, 1) := by decide +kernel
theorem dX0_makeWord_18 : decode cX0_makeWord 18 = .ok (.lor, 1) := by decide +kernel
theorem dX0_makeWord_19 : decode cX0_makeWord 19 = .ok (.lreturn, 1) := by decide +kernel
theorem dX0_checkByte_0 : decode cX0_checkByte 0 = .ok (.iconst 0, 1) := by decide +kernel
theorem dX0_checkByte_1 : decode cX0_checkByte 1 = .ok (.istore_n 2, 1) := by decide +kernel
theorem dX0_checkByte_2 : decode cX0_checkByte 2 = .ok (.bipush 8, 2) := by decide +kernel
theorem dX0_checkByte_4 : decode cX0_checkByte 4 = .ok (.istore_n 3, 1) := by decide +kernel
theorem dX0_checkByte_5 : decode cX0_checkByte 5 = .ok (.iload_n 3, 1) := by decide +kernel
theorem dX0_checkByte_6 : decode cX0_checkByte 6 = .ok (.bipush 64, 2) := by decide +kernel
theorem dX0_checkByte_8 : decode cX0_checkByte 8 = .ok (.if_icmp .ge 20, 3) := by decide +kernel
theorem dX0_checkByte_11 : decode cX0_checkByte 11 = .ok (.iload_n 2, 1) := by decide +kernel
theorem dX0_checkByte_12 : decode cX0_checkByte 12 = .ok (.lload_n 0, 1) := by decide +kernel
theorem dX0_checkByte_13 : decode cX0_checkByte 13 = .ok (.iload_n 3, 1) := by decide +kernel
theorem dX0_checkByte_14 : decode cX0_checkByte 14 = .ok (.lushr, 1) := by decide +kernel
theorem dX0_checkByte_15 : decode cX0_checkByte 15 = .ok (.l2i, 1) := by decide +kernel
theorem dX0_checkByte_16 : decode cX0_checkByte 16 = .ok (.sipush 255, 3) := by decide +kernel
theorem dX0_checkByte_19 : decode cX0_checkByte 19 = .ok (.iand, 1) := by decide +kernel
theorem dX0_checkByte_20 : decode cX0_checkByte 20 = .ok (.iadd, 1) := by decide +kernel
theorem dX0_checkByte_21 : decode cX0_checkByte 21 = .ok (.istore_n 2, 1) := by decide +kernel
theorem dX0_checkByte_22 : decode cX0_checkByte 22 = .ok (.iinc 3 8, 3) := by decide +kernel
theorem dX0_checkByte_25 : decode cX0_checkByte 25 = .ok (.goto (-20), 3) := by decide +kernel
theorem dX0_checkByte_28 : decode cX0_checkByte 28 = .ok (.iload_n 2, 1) := by decide +kernel
theorem dX0_checkByte_29 : decode cX0_checkByte 29 = .ok (.sipush 251, 3) := by decide +kernel
theorem dX0_checkByte_32 : decode cX0_checkByte 32 = .ok (.irem, 1) := by decide +kernel
theorem dX0_checkByte_33 : decode cX0_checkByte 33 = .ok (.iconst 1, 1) := by decide +kernel
theorem dX0_checkByte_34 : decode cX0_checkByte 34 = .ok (.iadd, 1) := by decide +kernel
theorem dX0_checkByte_35 : decode cX0_checkByte 35 = .ok (.ireturn, 1) := by decide +kernel
set_option maxRecDepth 20000 in
theorem ggX0_isValid_X0_checkByte : GoodIn wsX0_isValid wsX0_checkByte := goodIn_r _ [5] (by decide +kernel) (by decide +kernel)
set_option maxRecDepth 20000 in
theorem gX0_isValid_X0_checkByte : GoodIn wsX0_isValid (va_wsS RX0 144 yX0_checkByte wsX0_checkByte) := goodIn_app (goodIn_of _ (by decide +kernel)) ggX0_isValid_X0_checkByte
theorem dX0_isValid_0 : decode cX0_isValid 0 = .ok (.lload_n 0, 1) := by decide +kernel
theorem dX0_isValid_1 : decode cX0_isValid 1 = .ok (.ldc2_w 147, 3) := by decide +kernel
theorem dX0_isValid_4 : decode cX0_isValid 4 = .ok (.land, 1) := by decide +kernel
theorem dX0_isValid_5 : decode cX0_isValid 5 = .ok (.l2i, 1) := by decide +kernel
theorem dX0_isValid_6 : decode cX0_isValid 6 = .ok (.lload_n 0, 1) := by decide +kernel
theorem dX0_isValid_7 : decode cX0_isValid 7 = .ok (.invokestatic 144, 3) := by decide +kernel
theorem dX0_isValid_10 : decode cX0_isValid 10 = .ok (.if_icmp .ne 7, 3) := by decide +kernel
theorem dX0_isValid_13 : decode cX0_isValid 13 = .ok (.iconst 1, 1) := by decide +kernel
theorem dX0_isValid_14 : decode cX0_isValid 14 = .ok (.goto 4, 3) := by decide +kernel
theorem dX0_isValid_17 : decode cX0_isValid 17 = .ok (.iconst 0, 1) := by decide +kernel
theorem dX0_isValid_18 : decode cX0_isValid 18 = .ok (.ireturn, 1) := by decide +kernel
theorem dX0_balanceOf_0 : decode cX0_balanceOf 0 = .ok (.lload_n 0, 1) := by decide +kernel
theorem dX0_balanceOf_1 : decode cX0_balanceOf 1 = .ok (.bipush 32, 2) := by decide +kernel
theorem dX0_balanceOf_3 : decode cX0_balanceOf 3 = .ok (.lshr, 1) := by decide +kernel
theorem dX0_balanceOf_4 : decode cX0_balanceOf 4 = .ok (.l2i, 1) := by decide +kernel
theorem dX0_balanceOf_5 : decode cX0_balanceOf 5 = .ok (.ireturn, 1) := by decide +kernel
theorem dX0_numberOf_0 : decode cX0_numberOf 0 = .ok (.lload_n 0, 1) := by decide +kernel
theorem dX0_numberOf_1 : decode cX0_numberOf 1 = .ok (.bipush 8, 2) := by decide +kernel
theorem dX0_numberOf_3 : decode cX0_numberOf 3 = .ok (.lushr, 1) := by decide +kernel
theorem dX0_numberOf_4 : decode cX0_numberOf 4 = .ok (.l2i, 1) := by decide +kernel
theorem dX0_numberOf_5 : decode cX0_numberOf 5 = .ok (.ldc 149, 2) := by decide +kernel
theorem dX0_numberOf_7 : decode cX0_numberOf 7 = .ok (.iand, 1) := by decide +kernel
theorem dX0_numberOf_8 : decode cX0_numberOf 8 = .ok (.ireturn, 1) := by decide +kernel
set_option maxRecDepth 20000 in
theorem ggX0_isUnopened_X0_isValid : GoodIn wsX0_isUnopened wsX0_isValid := goodIn_r _ [4, 5, 6, 7, 3, 8] (by decide +kernel) (by decide +kernel)
set_option maxRecDepth 20000 in
theorem gX0_isUnopened_X0_isValid : GoodIn wsX0_isUnopened (va_wsS RX0 60 yX0_isValid wsX0_isValid) := goodIn_app (goodIn_of _ (by decide +kernel)) ggX0_isUnopened_X0_isValid
set_option maxRecDepth 20000 in
theorem ggX0_isUnopened_X0_numberOf : GoodIn wsX0_isUnopened wsX0_numberOf := goodIn_r _ [11, 12] (by decide +kernel) (by decide +kernel)
set_option maxRecDepth 20000 in
theorem gX0_isUnopened_X0_numberOf : GoodIn wsX0_isUnopened (va_wsS RX0 80 yX0_numberOf wsX0_numberOf) := goodIn_app (goodIn_of _ (by decide +kernel)) ggX0_isUnopened_X0_numberOf
theorem dX0_isUnopened_0 : decode cX0_isUnopened 0 = .ok (.lload_n 0, 1) := by decide +kernel
theorem dX0_isUnopened_1 : decode cX0_isUnopened 1 = .ok (.invokestatic 60, 3) := by decide +kernel
theorem dX0_isUnopened_4 : decode cX0_isUnopened 4 = .ok (.ifCond .eq 14, 3) := by decide +kernel
theorem dX0_isUnopened_7 : decode cX0_isUnopened 7 = .ok (.lload_n 0, 1) := by decide +kernel
theorem dX0_isUnopened_8 : decode cX0_isUnopened 8 = .ok (.invokestatic 80, 3) := by decide +kernel
theorem dX0_isUnopened_11 : decode cX0_isUnopened 11 = .ok (.ifCond .ne 7, 3) := by decide +kernel
theorem dX0_isUnopened_14 : decode cX0_isUnopened 14 = .ok (.iconst 1, 1) := by decide +kernel
theorem dX0_isUnopened_15 : decode cX0_isUnopened 15 = .ok (.goto 4, 3) := by decide +kernel
theorem dX0_isUnopened_18 : decode cX0_isUnopened 18 = .ok (.iconst 0, 1) := by decide +kernel
theorem dX0_isUnopened_19 : decode cX0_isUnopened 19 = .ok (.ireturn, 1) := by decide +kernel
set_option maxRecDepth 20000 in
theorem ggX0_isOpen_X0_isValid : GoodIn wsX0_isOpen wsX0_isValid := goodIn_r _ [4, 5, 6, 7, 3, 8] (by decide +kernel) (by decide +kernel)
set_option maxRecDepth 20000 in
theorem gX0_isOpen_X0_isValid : GoodIn wsX0_isOpen (va_wsS RX0 60 yX0_isValid wsX0_isValid) := goodIn_app (goodIn_of _ (by decide +kernel)) ggX0_isOpen_X0_isValid
set_option maxRecDepth 20000 in
theorem ggX0_isOpen_X0_numberOf : GoodIn wsX0_isOpen wsX0_numberOf := goodIn_r _ [11, 12] (by decide +kernel) (by decide +kernel)
set_option maxRecDepth 20000 in
theorem gX0_isOpen_X0_numberOf : GoodIn wsX0_isOpen (va_wsS RX0 80 yX0_numberOf wsX0_numberOf) := goodIn_app (goodIn_of _ (by decide +kernel)) ggX0_isOpen_X0_numberOf
theorem dX0_isOpen_0 : decode cX0_isOpen 0 = .ok (.lload_n 0, 1) := by decide +kernel
theorem dX0_isOpen_1 : decode cX0_isOpen 1 = .ok (.invokestatic 60, 3) := by decide +kernel
theorem dX0_isOpen_4 : decode cX0_isOpen 4 = .ok (.ifCond .eq 14, 3) := by decide +kernel
theorem dX0_isOpen_7 : decode cX0_isOpen 7 = .ok (.lload_n 0, 1) := by decide +kernel
theorem dX0_isOpen_8 : decode cX0_isOpen 8 = .ok (.invokestatic 80, 3) := by decide +kernel
theorem dX0_isOpen_11 : decode cX0_isOpen 11 = .ok (.ifCond .eq 7, 3) := by decide +kernel
theorem dX0_isOpen_14 : decode cX0_isOpen 14 = .ok (.iconst 1, 1) := by decide +kernel
theorem dX0_isOpen_15 : decode cX0_isOpen 15 = .ok (.goto 4, 3) := by decide +kernel
theorem dX0_isOpen_18 : decode cX0_isOpen 18 = .ok (.iconst 0, 1) := by decide +kernel
theorem dX0_isOpen_19 : decode cX0_isOpen 19 = .ok (.ireturn, 1) := by decide +kernel
set_option maxRecDepth 20000 in
theorem ggX0_hasNextNumber_X0_numberOf : GoodIn wsX0_hasNextNumber wsX0_numberOf := goodIn_r _ [5, 1] (by decide +kernel) (by decide +kernel)
set_option maxRecDepth 20000 in
theorem gX0_hasNextNumber_X0_numberOf : GoodIn wsX0_hasNextNumber (va_wsS RX0 80 yX0_numberOf wsX0_numberOf) := goodIn_app (goodIn_of _ (by decide +kernel)) ggX0_hasNextNumber_X0_numberOf
theorem dX0_hasNextNumber_0 : decode cX0_hasNextNumber 0 = .ok (.lload_n 0, 1) := by decide +kernel
theorem dX0_hasNextNumber_1 : decode cX0_hasNextNumber 1 = .ok (.invokestatic 80, 3) := by decide +kernel
theorem dX0_hasNextNumber_4 : decode cX0_hasNextNumber 4 = .ok (.ldc 149, 2) := by decide +kernel
theorem dX0_hasNextNumber_6 : decode cX0_hasNextNumber 6 = .ok (.if_icmp .ge 7, 3) := by decide +kernel
theorem dX0_hasNextNumber_9 : decode cX0_hasNextNumber 9 = .ok (.iconst 1, 1) := by decide +kernel
theorem dX0_hasNextNumber_10 : decode cX0_hasNextNumber 10 = .ok (.goto 4, 3) := by decide +kernel
theorem dX0_hasNextNumber_13 : decode cX0_hasNextNumber 13 = .ok (.iconst 0, 1) := by decide +kernel
theorem dX0_hasNextNumber_14 : decode cX0_hasNextNumber 14 = .ok (.ireturn, 1) := by decide +kernel
theorem dX0_isInt_0 : decode cX0_isInt 0 = .ok (.lload_n 0, 1) := by decide +kernel
theorem dX0_isInt_1 : decode cX0_isInt 1 = .ok (.lload_n 0, 1) := by decide +kernel
theorem dX0_isInt_2 : decode cX0_isInt 2 = .ok (.l2i, 1) := by decide +kernel
theorem dX0_isInt_3 : decode cX0_isInt 3 = .ok (.i2l, 1) := by decide +kernel
theorem dX0_isInt_4 : decode cX0_isInt 4 = .ok (.lcmp, 1) := by decide +kernel
theorem dX0_isInt_5 : decode cX0_isInt 5 = .ok (.ifCond .ne 7, 3) := by decide +kernel
theorem dX0_isInt_8 : decode cX0_isInt 8 = .ok (.iconst 1, 1) := by decide +kernel
theorem dX0_isInt_9 : decode cX0_isInt 9 = .ok (.goto 4, 3) := by decide +kernel
theorem dX0_isInt_12 : decode cX0_isInt 12 = .ok (.iconst 0, 1) := by decide +kernel
theorem dX0_isInt_13 : decode cX0_isInt 13 = .ok (.ireturn, 1) := by decide +kernel
set_option maxRecDepth 20000 in
theorem ggX0_canTake_X0_balanceOf : GoodIn wsX0_canTake wsX0_balanceOf := goodIn_r _ [4] (by decide +kernel) (by decide +kernel)
set_option maxRecDepth 20000 in
theorem gX0_canTake_X0_balanceOf : GoodIn wsX0_canTake (va_wsS RX0 67 yX0_balanceOf wsX0_balanceOf) := goodIn_app (goodIn_of _ (by decide +kernel)) ggX0_canTake_X0_balanceOf
set_option maxRecDepth 20000 in
theorem ggX0_canTake_X0_isOpen : GoodIn wsX0_canTake wsX0_isOpen := goodIn_r _ [7, 8, 9, 3, 10, 11, 12, 13, 14, 15, 16, 17, 18] (by decide +kernel) (by decide +kernel)
set_option maxRecDepth 20000 in
theorem gX0_canTake_X0_isOpen : GoodIn wsX0_canTake (va_wsS RX0 71 yX0_isOpen wsX0_isOpen) := goodIn_app (goodIn_of _ (by decide +kernel)) ggX0_canTake_X0_isOpen
set_option maxRecDepth 20000 in
theorem ggX0_canTake_X0_hasNextNumber : GoodIn wsX0_canTake wsX0_hasNextNumber := goodIn_r _ [21, 18, 15, 16, 3, 17] (by decide +kernel) (by decide +kernel)
set_option maxRecDepth 20000 in
theorem gX0_canTake_X0_hasNextNumber : GoodIn wsX0_canTake (va_wsS RX0 74 yX0_hasNextNumber wsX0_hasNextNumber) := goodIn_app (goodIn_of _ (by decide +kernel)) ggX0_canTake_X0_hasNextNumber
set_option maxRecDepth 20000 in
theorem ggX0_canTake_X0_isInt : GoodIn wsX0_canTake wsX0_isInt := goodIn_r _ [24] (by decide +kernel) (by decide +kernel)
set_option maxRecDepth 20000 in
theorem gX0_canTake_X0_isInt : GoodIn wsX0_canTake (va_wsS RX0 77 yX0_isInt wsX0_isInt) := goodIn_app (goodIn_of _ (by decide +kernel)) ggX0_canTake_X0_isInt
theorem dX0_canTake_0 : decode cX0_canTake 0 = .ok (.lload_n 0, 1) := by decide +kernel
theorem dX0_canTake_1 : decode cX0_canTake 1 = .ok (.invokestatic 67, 3) := by decide +kernel
theorem dX0_canTake_4 : decode cX0_canTake 4 = .ok (.i2l, 1) := by decide +kernel
theorem dX0_canTake_5 : decode cX0_canTake 5 = .ok (.lload_n 2, 1) := by decide +kernel
theorem dX0_canTake_6 : decode cX0_canTake 6 = .ok (.ladd, 1) := by decide +kernel
theorem dX0_canTake_7 : decode cX0_canTake 7 = .ok (.lstore 4, 2) := by decide +kernel
theorem dX0_canTake_9 : decode cX0_canTake 9 = .ok (.lload_n 0, 1) := by decide +kernel
theorem dX0_canTake_10 : decode cX0_canTake 10 = .ok (.invokestatic 71, 3) := by decide +kernel
theorem dX0_canTake_13 : decode cX0_canTake 13 = .ok (.ifCond .eq 29, 3) := by decide +kernel
theorem dX0_canTake_16 : decode cX0_canTake 16 = .ok (.lload_n 0, 1) := by decide +kernel
theorem dX0_canTake_17 : decode cX0_canTake 17 = .ok (.invokestatic 74, 3) := by decide +kernel
theorem dX0_canTake_20 : decode cX0_canTake 20 = .ok (.ifCond .eq 22, 3) := by decide +kernel
theorem dX0_canTake_23 : decode cX0_canTake 23 = .ok (.lload 4, 2) := by decide +kernel
theorem dX0_canTake_25 : decode cX0_canTake 25 = .ok (.invokestatic 77, 3) := by decide +kernel
theorem dX0_canTake_28 : decode cX0_canTake 28 = .ok (.ifCond .eq 14, 3) := by decide +kernel
theorem dX0_canTake_31 : decode cX0_canTake 31 = .ok (.lload 4, 2) := by decide +kernel
theorem dX0_canTake_33 : decode cX0_canTake 33 = .ok (.lconst 0, 1) := by decide +kernel
theorem dX0_canTake_34 : decode cX0_canTake 34 = .ok (.lcmp, 1) := by decide +kernel
theorem dX0_canTake_35 : decode cX0_canTake 35 = .ok (.ifCond .lt 7, 3) := by decide +kernel
theorem dX0_canTake_38 : decode cX0_canTake 38 = .ok (.iconst 1, 1) := by decide +kernel
theorem dX0_canTake_39 : decode cX0_canTake 39 = .ok (.goto 4, 3) := by decide +kernel
theorem dX0_canTake_42 : decode cX0_canTake 42 = .ok (.iconst 0, 1) := by decide +kernel
theorem dX0_canTake_43 : decode cX0_canTake 43 = .ok (.ireturn, 1) := by decide +kernel
set_option maxRecDepth 20000 in
theorem ggX0_nextWord_X0_balanceOf : GoodIn wsX0_nextWord wsX0_balanceOf := goodIn_r _ [4] (by decide +kernel) (by decide +kernel)
set_option maxRecDepth 20000 in
theorem gX0_nextWord_X0_balanceOf : GoodIn wsX0_nextWord (va_wsS RX0 67 yX0_balanceOf wsX0_balanceOf) := goodIn_app (goodIn_of _ (by decide +kernel)) ggX0_nextWord_X0_balanceOf
set_option maxRecDepth 20000 in
theorem ggX0_nextWord_X0_numberOf : GoodIn wsX0_nextWord wsX0_numberOf := goodIn_r _ [7, 8] (by decide +kernel) (by decide +kernel)
set_option maxRecDepth 20000 in
theorem gX0_nextWord_X0_numberOf : GoodIn wsX0_nextWord (va_wsS RX0 80 yX0_numberOf wsX0_numberOf) := goodIn_app (goodIn_of _ (by decide +kernel)) ggX0_nextWord_X0_numberOf
set_option maxRecDepth 20000 in
theorem ggX0_nextWord_X0_makeWord : GoodIn wsX0_nextWord wsX0_makeWord := goodIn_r _ [11, 12, 13, 3, 14] (by decide +kernel) (by decide +kernel)
set_option maxRecDepth 20000 in
theorem gX0_nextWord_X0_makeWord : GoodIn wsX0_nextWord (va_wsS RX0 25 yX0_makeWord wsX0_makeWord) := goodIn_app (goodIn_of _ (by decide +kernel)) ggX0_nextWord_X0_makeWord
theorem dX0_nextWord_0 : decode cX0_nextWord 0 = .ok (.lload_n 0, 1) := by decide +kernel
theorem dX0_nextWord_1 : decode cX0_nextWord 1 = .ok (.invokestatic 67, 3) := by decide +kernel
theorem dX0_nextWord_4 : decode cX0_nextWord 4 = .ok (.iload_n 2, 1) := by decide +kernel
theorem dX0_nextWord_5 : decode cX0_nextWord 5 = .ok (.iadd, 1) := by decide +kernel
theorem dX0_nextWord_6 : decode cX0_nextWord 6 = .ok (.lload_n 0, 1) := by decide +kernel
theorem dX0_nextWord_7 : decode cX0_nextWord 7 = .ok (.invokestatic 80, 3) := by decide +kernel
theorem dX0_nextWord_10 : decode cX0_nextWord 10 = .ok (.iconst 1, 1) := by decide +kernel
theorem dX0_nextWord_11 : decode cX0_nextWord 11 = .ok (.iadd, 1) := by decide +kernel
theorem dX0_nextWord_12 : decode cX0_nextWord 12 = .ok (.invokestatic 25, 3) := by decide +kernel
theorem dX0_nextWord_15 : decode cX0_nextWord 15 = .ok (.lreturn, 1) := by decide +kernel
set_option maxRecDepth 20000 in
theorem ggX0_betterOf_X0_isValid : GoodIn wsX0_betterOf wsX0_isValid := goodIn_r _ [4, 5, 6, 7, 3, 8] (by decide +kernel) (by decide +kernel)
set_option maxRecDepth 20000 in
theorem gX0_betterOf_X0_isValid : GoodIn wsX0_betterOf (va_wsS RX0 60 yX0_isValid wsX0_isValid) := goodIn_app (goodIn_of _ (by decide +kernel)) ggX0_betterOf_X0_isValid
set_option maxRecDepth 20000 in
theorem ggX0_betterOf_X0_numberOf : GoodIn wsX0_betterOf wsX0_numberOf := goodIn_r _ [11, 12] (by decide +kernel) (by decide +kernel)
set_option maxRecDepth 20000 in
theorem gX0_betterOf_X0_numberOf : GoodIn wsX0_betterOf (va_wsS RX0 80 yX0_numberOf wsX0_numberOf) := goodIn_app (goodIn_of _ (by decide +kernel)) ggX0_betterOf_X0_numberOf
set_option maxRecDepth 20000 in
theorem ggX0_betterOf_X0_balanceOf : GoodIn wsX0_betterOf wsX0_balanceOf := goodIn_r _ [15] (by decide +kernel) (by decide +kernel)
set_option maxRecDepth 20000 in
theorem gX0_betterOf_X0_balanceOf : GoodIn wsX0_betterOf (va_wsS RX0 67 yX0_balanceOf wsX0_balanceOf) := goodIn_app (goodIn_of _ (by decide +kernel)) ggX0_betterOf_X0_balanceOf
theorem dX0_betterOf_0 : decode cX0_betterOf 0 = .ok (.lload_n 2, 1) := by decide +kernel
theorem dX0_betterOf_1 : decode cX0_betterOf 1 = .ok (.invokestatic 60, 3) := by decide +kernel
theorem dX0_betterOf_4 : decode cX0_betterOf 4 = .ok (.ifCond .ne 5, 3) := by decide +kernel
theorem dX0_betterOf_7 : decode cX0_betterOf 7 = .ok (.lload_n 0, 1) := by decide +kernel
theorem dX0_betterOf_8 : decode cX0_betterOf 8 = .ok (.lreturn, 1) := by decide +kernel
theorem dX0_betterOf_9 : decode cX0_betterOf 9 = .ok (.lload_n 0, 1) := by decide +kernel
theorem dX0_betterOf_10 : decode cX0_betterOf 10 = .ok (.invokestatic 60, 3) := by decide +kernel
theorem dX0_betterOf_13 : decode cX0_betterOf 13 = .ok (.ifCond .ne 5, 3) := by decide +kernel
theorem dX0_betterOf_16 : decode cX0_betterOf 16 = .ok (.lload_n 2, 1) := by decide +kernel
theorem dX0_betterOf_17 : decode cX0_betterOf 17 = .ok (.lreturn, 1) := by decide +kernel
theorem dX0_betterOf_18 : decode cX0_betterOf 18 = .ok (.lload_n 2, 1) := by decide +kernel
theorem dX0_betterOf_19 : decode cX0_betterOf 19 = .ok (.invokestatic 80, 3) := by decide +kernel
theorem dX0_betterOf_22 : decode cX0_betterOf 22 = .ok (.lload_n 0, 1) := by decide +kernel
theorem dX0_betterOf_23 : decode cX0_betterOf 23 = .ok (.invokestatic 80, 3) := by decide +kernel
theorem dX0_betterOf_26 : decode cX0_betterOf 26 = .ok (.if_icmp .eq 20, 3) := by decide +kernel
theorem dX0_betterOf_29 : decode cX0_betterOf 29 = .ok (.lload_n 2, 1) := by decide +kernel
theorem dX0_betterOf_30 : decode cX0_betterOf 30 = .ok (.invokestatic 80, 3) := by decide +kernel
theorem dX0_betterOf_33 : decode cX0_betterOf 33 = .ok (.lload_n 0, 1) := by decide +kernel
theorem dX0_betterOf_34 : decode cX0_betterOf 34 = .ok (.invokestatic 80, 3) := by decide +kernel
theorem dX0_betterOf_37 : decode cX0_betterOf 37 = .ok (.if_icmp .le 7, 3) := by decide +kernel
theorem dX0_betterOf_40 : decode cX0_betterOf 40 = .ok (.lload_n 2, 1) := by decide +kernel
theorem dX0_betterOf_41 : decode cX0_betterOf 41 = .ok (.goto 4, 3) := by decide +kernel
theorem dX0_betterOf_44 : decode cX0_betterOf 44 = .ok (.lload_n 0, 1) := by decide +kernel
theorem dX0_betterOf_45 : decode cX0_betterOf 45 = .ok (.lreturn, 1) := by decide +kernel
theorem dX0_betterOf_46 : decode cX0_betterOf 46 = .ok (.lload_n 2, 1) := by decide +kernel
theorem dX0_betterOf_47 : decode cX0_betterOf 47 = .ok (.invokestatic 67, 3) := by decide +kernel
theorem dX0_betterOf_50 : decode cX0_betterOf 50 = .ok (.lload_n 0, 1) := by decide +kernel
theorem dX0_betterOf_51 : decode cX0_betterOf 51 = .ok (.invokestatic 67, 3) := by decide +kernel
theorem dX0_betterOf_54 : decode cX0_betterOf 54 = .ok (.if_icmp .le 7, 3) := by decide +kernel
theorem dX0_betterOf_57 : decode cX0_betterOf 57 = .ok (.lload_n 2, 1) := by decide +kernel
theorem dX0_betterOf_58 : decode cX0_betterOf 58 = .ok (.goto 4, 3) := by decide +kernel
theorem dX0_betterOf_61 : decode cX0_betterOf 61 = .ok (.lload_n 0, 1) := by decide +kernel
theorem dX0_betterOf_62 : decode cX0_betterOf 62 = .ok (.lreturn, 1) := by decide +kernel
end
section
set_option maxRecDepth 20000 in
theorem ggX1_init_X1_wordOf : GoodIn wsX1_init wsX1_wordOf := goodIn_r _ [17, 18, 19, 16, 20, 21, 22] (by decide +kernel) (by decide +kernel)
set_option maxRecDepth 20000 in
theorem gX1_init_X1_wordOf : GoodIn wsX1_init (va_wsS RX1 37 yX1_wordOf wsX1_wordOf) := goodIn_app (goodIn_of _ (by decide +kernel)) ggX1_init_X1_wordOf
theorem dX1_init_0 : decode cX1_init 0 = .ok (.aload_n 0, 1) := by decide +kernel
theorem dX1_init_1 : decode cX1_init 1 = .ok (.invokespecial 1, 3) := by decide +kernel
theorem dX1_init_4 : decode cX1_init 4 = .ok (.aload_n 0, 1) := by decide +kernel
theorem dX1_init_5 : decode cX1_init 5 = .ok (.bipush 80, 2) := by decide +kernel
theorem dX1_init_7 : decode cX1_init 7 = .ok (.newarray .long, 2) := by decide +kernel
theorem dX1_init_9 : decode cX1_init 9 = .ok (.putfield 7, 3) := by decide +kernel
theorem dX1_init_12 : decode cX1_init 12 = .ok (.aload_n 0, 1) := by decide +kernel
theorem dX1_init_13 : decode cX1_init 13 = .ok (.bipush 20, 2) := by decide +kernel
theorem dX1_init_15 : decode cX1_init 15 = .ok (.newarray .int, 2) := by decide +kernel
theorem dX1_init_17 : decode cX1_init 17 = .ok (.putfield 13, 3) := by decide +kernel
theorem dX1_init_20 : decode cX1_init 20 = .ok (.aload_n 0, 1) := by decide +kernel
theorem dX1_init_21 : decode cX1_init 21 = .ok (.iconst 1, 1) := by decide +kernel
theorem dX1_init_22 : decode cX1_init 22 = .ok (.putfield 17, 3) := by decide +kernel
theorem dX1_init_25 : decode cX1_init 25 = .ok (.aload_n 0, 1) := by decide +kernel
theorem dX1_init_26 : decode cX1_init 26 = .ok (.iconst (-1), 1) := by decide +kernel
theorem dX1_init_27 : decode cX1_init 27 = .ok (.putfield 21, 3) := by decide +kernel
theorem dX1_init_30 : decode cX1_init 30 = .ok (.aload_n 0, 1) := by decide +kernel
theorem dX1_init_31 : decode cX1_init 31 = .ok (.sipush 256, 3) := by decide +kernel
theorem dX1_init_34 : decode cX1_init 34 = .ok (.newarray .int, 2) := by decide +kernel
theorem dX1_init_36 : decode cX1_init 36 = .ok (.putfield 25, 3) := by decide +kernel
theorem dX1_init_39 : decode cX1_init 39 = .ok (.aload_n 0, 1) := by decide +kernel
theorem dX1_init_40 : decode cX1_init 40 = .ok (.sipush 256, 3) := by decide +kernel
theorem dX1_init_43 : decode cX1_init 43 = .ok (.newarray .int, 2) := by decide +kernel
theorem dX1_init_45 : decode cX1_init 45 = .ok (.putfield 28, 3) := by decide +kernel
theorem dX1_init_48 : decode cX1_init 48 = .ok (.aload_n 0, 1) := by decide +kernel
theorem dX1_init_49 : decode cX1_init 49 = .ok (.sipush 256, 3) := by decide +kernel
theorem dX1_init_52 : decode cX1_init 52 = .ok (.newarray .long, 2) := by decide +kernel
theorem dX1_init_54 : decode cX1_init 54 = .ok (.putfield 31, 3) := by decide +kernel
theorem dX1_init_57 : decode cX1_init 57 = .ok (.aload_n 0, 1) := by decide +kernel
theorem dX1_init_58 : decode cX1_init 58 = .ok (.bipush 20, 2) := by decide +kernel
theorem dX1_init_60 : decode cX1_init 60 = .ok (.newarray .long, 2) := by decide +kernel
theorem dX1_init_62 : decode cX1_init 62 = .ok (.putfield 34, 3) := by decide +kernel
theorem dX1_init_65 : decode cX1_init 65 = .ok (.iconst 0, 1) := by decide +kernel
theorem dX1_init_66 : decode cX1_init 66 = .ok (.istore_n 1, 1) := by decide +kernel
theorem dX1_init_67 : decode cX1_init 67 = .ok (.iload_n 1, 1) := by decide +kernel
theorem dX1_init_68 : decode cX1_init 68 = .ok (.bipush 80, 2) := by decide +kernel
theorem dX1_init_70 : decode cX1_init 70 = .ok (.if_icmp .ge 20, 3) := by decide +kernel
theorem dX1_init_73 : decode cX1_init 73 = .ok (.aload_n 0, 1) := by decide +kernel
theorem dX1_init_74 : decode cX1_init 74 = .ok (.getfield 7, 3) := by decide +kernel
theorem dX1_init_77 : decode cX1_init 77 = .ok (.iload_n 1, 1) := by decide +kernel
theorem dX1_init_78 : decode cX1_init 78 = .ok (.iconst 0, 1) := by decide +kernel
theorem dX1_init_79 : decode cX1_init 79 = .ok (.iconst 0, 1) := by decide +kernel
theorem dX1_init_80 : decode cX1_init 80 = .ok (.invokestatic 37, 3) := by decide +kernel
theorem dX1_init_83 : decode cX1_init 83 = .ok (.lastore, 1) := by decide +kernel
theorem dX1_init_84 : decode cX1_init 84 = .ok (.iinc 1 1, 3) := by decide +kernel
theorem dX1_init_87 : decode cX1_init 87 = .ok (.goto (-20), 3) := by decide +kernel
theorem dX1_init_90 : decode cX1_init 90 = .ok (.return_, 1) := by decide +kernel
theorem dX1_seal_0 : decode cX1_seal 0 = .ok (.lconst 0, 1) := by decide +kernel
theorem dX1_seal_1 : decode cX1_seal 1 = .ok (.lstore_n 2, 1) := by decide +kernel
theorem dX1_seal_2 : decode cX1_seal 2 = .ok (.iconst 1, 1) := by decide +kernel
theorem dX1_seal_3 : decode cX1_seal 3 = .ok (.istore 4, 2) := by decide +kernel
theorem dX1_seal_5 : decode cX1_seal 5 = .ok (.iload 4, 2) := by decide +kernel
theorem dX1_seal_7 : decode cX1_seal 7 = .ok (.bipush 8, 2) := by decide +kernel
theorem dX1_seal_9 : decode cX1_seal 9 = .ok (.if_icmp .ge 23, 3) := by decide +kernel
theorem dX1_seal_12 : decode cX1_seal 12 = .ok (.lload_n 2, 1) := by decide +kernel
theorem dX1_seal_13 : decode cX1_seal 13 = .ok (.lload_n 0, 1) := by decide +kernel
theorem dX1_seal_14 : decode cX1_seal 14 = .ok (.bipush 8, 2) := by decide +kernel
theorem dX1_seal_16 : decode cX1_seal 16 = .ok (.iload 4, 2) := by decide +kernel
theorem dX1_seal_18 : decode cX1_seal 18 = .ok (.imul, 1) := by decide +kernel
theorem dX1_seal_19 : decode cX1_seal 19 = .ok (.lshr, 1) := by decide +kernel
theorem dX1_seal_20 : decode cX1_seal 20 = .ok (.ldc2_w 41, 3) := by decide +kernel
theorem dX1_seal_23 : decode cX1_seal 23 = .ok (.land, 1) := by decide +kernel
theorem dX1_seal_24 : decode cX1_seal 24 = .ok (.ladd, 1) := by decide +kernel
theorem dX1_seal_25 : decode cX1_seal 25 = .ok (.lstore_n 2, 1) := by decide +kernel
theorem dX1_seal_26 : decode cX1_seal 26 = .ok (.iinc 4 1, 3) := by decide +kernel
theorem dX1_seal_29 : decode cX1_seal 29 = .ok (.goto (-24), 3) := by decide +kernel
theorem dX1_seal_32 : decode cX1_seal 32 = .ok (.lload_n 2, 1) := by decide +kernel
theorem dX1_seal_33 : decode cX1_seal 33 = .ok (.ldc2_w 43, 3) := by decide +kernel
theorem dX1_seal_36 : decode cX1_seal 36 = .ok (.lrem, 1) := by decide +kernel
theorem dX1_seal_37 : decode cX1_seal 37 = .ok (.lconst 1, 1) := by decide +kernel
theorem dX1_seal_38 : decode cX1_seal 38 = .ok (.ladd, 1) := by decide +kernel
theorem dX1_seal_39 : decode cX1_seal 39 = .ok (.lreturn, 1) := by decide +kernel
set_option maxRecDepth 20000 in
theorem ggX1_isValid_X1_seal : GoodIn wsX1_isValid wsX1_seal := goodIn_r _ [5, 1, 6] (by decide +kernel) (by decide +kernel)
set_option maxRecDepth 20000 in
theorem gX1_isValid_X1_seal : GoodIn wsX1_isValid (va_wsS RX1 45 yX1_seal wsX1_seal) := goodIn_app (goodIn_of _ (by decide +kernel)) ggX1_isValid_X1_seal
theorem dX1_isValid_0 : decode cX1_isValid 0 = .ok (.lload_n 0, 1) := by decide +kernel
theorem dX1_isValid_1 : decode cX1_isValid 1 = .ok (.ldc2_w 41, 3) := by decide +kernel
theorem dX1_isValid_4 : decode cX1_isValid 4 = .ok (.land, 1) := by decide +kernel
theorem dX1_isValid_5 : decode cX1_isValid 5 = .ok (.lload_n 0, 1) := by decide +kernel
theorem dX1_isValid_6 : decode cX1_isValid 6 = .ok (.invokestatic 45, 3) := by decide +kernel
theorem dX1_isValid_9 : decode cX1_isValid 9 = .ok (.lcmp, 1) := by decide +kernel
theorem dX1_isValid_10 : decode cX1_isValid 10 = .ok (.ifCond .ne 7, 3) := by decide +kernel
theorem dX1_isValid_13 : decode cX1_isValid 13 = .ok (.iconst 1, 1) := by decide +kernel
theorem dX1_isValid_14 : decode cX1_isValid 14 = .ok (.goto 4, 3) := by decide +kernel
theorem dX1_isValid_17 : decode cX1_isValid 17 = .ok (.iconst 0, 1) := by decide +kernel
theorem dX1_isValid_18 : decode cX1_isValid 18 = .ok (.ireturn, 1) := by decide +kernel
theorem dX1_balanceOf_0 : decode cX1_balanceOf 0 = .ok (.lload_n 0, 1) := by decide +kernel
theorem dX1_balanceOf_1 : decode cX1_balanceOf 1 = .ok (.bipush 32, 2) := by decide +kernel
theorem dX1_balanceOf_3 : decode cX1_balanceOf 3 = .ok (.lshr, 1) := by decide +kernel
theorem dX1_balanceOf_4 : decode cX1_balanceOf 4 = .ok (.l2i, 1) := by decide +kernel
theorem dX1_balanceOf_5 : decode cX1_balanceOf 5 = .ok (.ireturn, 1) := by decide +kernel
theorem dX1_numberOf_0 : decode cX1_numberOf 0 = .ok (.lload_n 0, 1) := by decide +kernel
theorem dX1_numberOf_1 : decode cX1_numberOf 1 = .ok (.bipush 8, 2) := by decide +kernel
theorem dX1_numberOf_3 : decode cX1_numberOf 3 = .ok (.lshr, 1) := by decide +kernel
theorem dX1_numberOf_4 : decode cX1_numberOf 4 = .ok (.ldc2_w 49, 3) := by decide +kernel
theorem dX1_numberOf_7 : decode cX1_numberOf 7 = .ok (.land, 1) := by decide +kernel
theorem dX1_numberOf_8 : decode cX1_numberOf 8 = .ok (.l2i, 1) := by decide +kernel
theorem dX1_numberOf_9 : decode cX1_numberOf 9 = .ok (.ireturn, 1) := by decide +kernel
set_option maxRecDepth 20000 in
theorem ggX1_wordOf_X1_seal : GoodIn wsX1_wordOf wsX1_seal := goodIn_r _ [4, 5, 6] (by decide +kernel) (by decide +kernel)
set_option maxRecDepth 20000 in
theorem gX1_wordOf_X1_seal : GoodIn wsX1_wordOf (va_wsS RX1 45 yX1_seal wsX1_seal) := goodIn_app (goodIn_of _ (by decide +kernel)) ggX1_wordOf_X1_seal
theorem dX1_wordOf_0 : decode cX1_wordOf 0 = .ok (.iload_n 0, 1) := by decide +kernel
theorem dX1_wordOf_1 : decode cX1_wordOf 1 = .ok (.i2l, 1) := by decide +kernel
theorem dX1_wordOf_2 : decode cX1_wordOf 2 = .ok (.bipush 32, 2) := by decide +kernel
theorem dX1_wordOf_4 : decode cX1_wordOf 4 = .ok (.lshl, 1) := by decide +kernel
theorem dX1_wordOf_5 : decode cX1_wordOf 5 = .ok (.iload_n 1, 1) := by decide +kernel
theorem dX1_wordOf_6 : decode cX1_wordOf 6 = .ok (.i2l, 1) := by decide +kernel
theorem dX1_wordOf_7 : decode cX1_wordOf 7 = .ok (.bipush 8, 2) := by decide +kernel
theorem dX1_wordOf_9 : decode cX1_wordOf 9 = .ok (.lshl, 1) := by decide +kernel
theorem dX1_wordOf_10 : decode cX1_wordOf 10 = .ok (.lor, 1) := by decide +kernel
theorem dX1_wordOf_11 : decode cX1_wordOf 11 = .ok (.lstore_n 2, 1) := by decide +kernel
theorem dX1_wordOf_12 : decode cX1_wordOf 12 = .ok (.lload_n 2, 1) := by decide +kernel
theorem dX1_wordOf_13 : decode cX1_wordOf 13 = .ok (.lload_n 2, 1) := by decide +kernel
theorem dX1_wordOf_14 : decode cX1_wordOf 14 = .ok (.invokestatic 45, 3) := by decide +kernel
theorem dX1_wordOf_17 : decode cX1_wordOf 17 = .ok (.lor, 1) := by decide +kernel
theorem dX1_wordOf_18 : decode cX1_wordOf 18 = .ok (.lreturn, 1) := by decide +kernel
set_option maxRecDepth 20000 in
theorem ggX1_isOpen_X1_isValid : GoodIn wsX1_isOpen wsX1_isValid := goodIn_r _ [4, 5, 6, 7, 3, 8, 9] (by decide +kernel) (by decide +kernel)
set_option maxRecDepth 20000 in
theorem gX1_isOpen_X1_isValid : GoodIn wsX1_isOpen (va_wsS RX1 51 yX1_isValid wsX1_isValid) := goodIn_app (goodIn_of _ (by decide +kernel)) ggX1_isOpen_X1_isValid
set_option maxRecDepth 20000 in
theorem ggX1_isOpen_X1_numberOf : GoodIn wsX1_isOpen wsX1_numberOf := goodIn_r _ [12, 13] (by decide +kernel) (by decide +kernel)
set_option maxRecDepth 20000 in
theorem gX1_isOpen_X1_numberOf : GoodIn wsX1_isOpen (va_wsS RX1 55 yX1_numberOf wsX1_numberOf) := goodIn_app (goodIn_of _ (by decide +kernel)) ggX1_isOpen_X1_numberOf
theorem dX1_isOpen_0 : decode cX1_isOpen 0 = .ok (.lload_n 0, 1) := by decide +kernel
theorem dX1_isOpen_1 : decode cX1_isOpen 1 = .ok (.invokestatic 51, 3) := by decide +kernel
theorem dX1_isOpen_4 : decode cX1_isOpen 4 = .ok (.ifCond .eq 14, 3) := by decide +kernel
theorem dX1_isOpen_7 : decode cX1_isOpen 7 = .ok (.lload_n 0, 1) := by decide +kernel
theorem dX1_isOpen_8 : decode cX1_isOpen 8 = .ok (.invokestatic 55, 3) := by decide +kernel
theorem dX1_isOpen_11 : decode cX1_isOpen 11 = .ok (.ifCond .le 7, 3) := by decide +kernel
theorem dX1_isOpen_14 : decode cX1_isOpen 14 = .ok (.iconst 1, 1) := by decide +kernel
theorem dX1_isOpen_15 : decode cX1_isOpen 15 = .ok (.goto 4, 3) := by decide +kernel
theorem dX1_isOpen_18 : decode cX1_isOpen 18 = .ok (.iconst 0, 1) := by decide +kernel
theorem dX1_isOpen_19 : decode cX1_isOpen 19 = .ok (.ireturn, 1) := by decide +kernel
theorem dX1_isInt_0 : decode cX1_isInt 0 = .ok (.lload_n 0, 1) := by decide +kernel
theorem dX1_isInt_1 : decode cX1_isInt 1 = .ok (.ldc2_w 59, 3) := by decide +kernel
theorem dX1_isInt_4 : decode cX1_isInt 4 = .ok (.lcmp, 1) := by decide +kernel
theorem dX1_isInt_5 : decode cX1_isInt 5 = .ok (.ifCond .lt 15, 3) := by decide +kernel
theorem dX1_isInt_8 : decode cX1_isInt 8 = .ok (.lload_n 0, 1) := by decide +kernel
theorem dX1_isInt_9 : decode cX1_isInt 9 = .ok (.ldc2_w 61, 3) := by decide +kernel
theorem dX1_isInt_12 : decode cX1_isInt 12 = .ok (.lcmp, 1) := by decide +kernel
theorem dX1_isInt_13 : decode cX1_isInt 13 = .ok (.ifCond .gt 7, 3) := by decide +kernel
theorem dX1_isInt_16 : decode cX1_isInt 16 = .ok (.iconst 1, 1) := by decide +kernel
theorem dX1_isInt_17 : decode cX1_isInt 17 = .ok (.goto 4, 3) := by decide +kernel
theorem dX1_isInt_20 : decode cX1_isInt 20 = .ok (.iconst 0, 1) := by decide +kernel
theorem dX1_isInt_21 : decode cX1_isInt 21 = .ok (.ireturn, 1) := by decide +kernel
theorem dX1_isAccount_0 : decode cX1_isAccount 0 = .ok (.iload_n 0, 1) := by decide +kernel
theorem dX1_isAccount_1 : decode cX1_isAccount 1 = .ok (.ifCond .lt 13, 3) := by decide +kernel
theorem dX1_isAccount_4 : decode cX1_isAccount 4 = .ok (.iload_n 0, 1) := by decide +kernel
theorem dX1_isAccount_5 : decode cX1_isAccount 5 = .ok (.bipush 16, 2) := by decide +kernel
theorem dX1_isAccount_7 : decode cX1_isAccount 7 = .ok (.if_icmp .ge 7, 3) := by decide +kernel
theorem dX1_isAccount_10 : decode cX1_isAccount 10 = .ok (.iconst 1, 1) := by decide +kernel
theorem dX1_isAccount_11 : decode cX1_isAccount 11 = .ok (.goto 4, 3) := by decide +kernel
theorem dX1_isAccount_14 : decode cX1_isAccount 14 = .ok (.iconst 0, 1) := by decide +kernel
theorem dX1_isAccount_15 : decode cX1_isAccount 15 = .ok (.ireturn, 1) := by decide +kernel
theorem dX1_turn_0 : decode cX1_turn 0 = .ok (.aload_n 0, 1) := by decide +kernel
theorem dX1_turn_1 : decode cX1_turn 1 = .ok (.getfield 25, 3) := by decide +kernel
theorem dX1_turn_4 : decode cX1_turn 4 = .ok (.aload_n 0, 1) := by decide +kernel
theorem dX1_turn_5 : decode cX1_turn 5 = .ok (.getfield 63, 3) := by decide +kernel
theorem dX1_turn_8 : decode cX1_turn 8 = .ok (.iload_n 1, 1) := by decide +kernel
theorem dX1_turn_9 : decode cX1_turn 9 = .ok (.iastore, 1) := by decide +kernel
theorem dX1_turn_10 : decode cX1_turn 10 = .ok (.aload_n 0, 1) := by decide +kernel
theorem dX1_turn_11 : decode cX1_turn 11 = .ok (.getfield 28, 3) := by decide +kernel
theorem dX1_turn_14 : decode cX1_turn 14 = .ok (.aload_n 0, 1) := by decide +kernel
theorem dX1_turn_15 : decode cX1_turn 15 = .ok (.getfield 63, 3) := by decide +kernel
theorem dX1_turn_18 : decode cX1_turn 18 = .ok (.bipush 20, 2) := by decide +kernel
theorem dX1_turn_20 : decode cX1_turn 20 = .ok (.iload_n 2, 1) := by decide +kernel
theorem dX1_turn_21 : decode cX1_turn 21 = .ok (.imul, 1) := by decide +kernel
theorem dX1_turn_22 : decode cX1_turn 22 = .ok (.iload_n 3, 1) := by decide +kernel
theorem dX1_turn_23 : decode cX1_turn 23 = .ok (.iadd, 1) := by decide +kernel
theorem dX1_turn_24 : decode cX1_turn 24 = .ok (.iastore, 1) := by decide +kernel
theorem dX1_turn_25 : decode cX1_turn 25 = .ok (.aload_n 0, 1) := by decide +kernel
theorem dX1_turn_26 : decode cX1_turn 26 = .ok (.getfield 31, 3) := by decide +kernel
theorem dX1_turn_29 : decode cX1_turn 29 = .ok (.aload_n 0, 1) := by decide +kernel
theorem dX1_turn_30 : decode cX1_turn 30 = .ok (.getfield 63, 3) := by decide +kernel
theorem dX1_turn_33 : decode cX1_turn 33 = .ok (.lload 4, 2) := by decide +kernel
theorem dX1_turn_35 : decode cX1_turn 35 = .ok (.lastore, 1) := by decide +kernel
theorem dX1_turn_36 : decode cX1_turn 36 = .ok (.aload_n 0, 1) := by decide +kernel
theorem dX1_turn_37 : decode cX1_turn 37 = .ok (.dup, 1) := by decide +kernel
theorem dX1_turn_38 : decode cX1_turn 38 = .ok (.getfield 63, 3) := by decide +kernel
theorem dX1_turn_41 : decode cX1_turn 41 = .ok (.iconst 1, 1) := by decide +kernel
theorem dX1_turn_42 : decode cX1_turn 42 = .ok (.iadd, 1) := by decide +kernel
theorem dX1_turn_43 : decode cX1_turn 43 = .ok (.putfield 63, 3) := by decide +kernel
theorem dX1_turn_46 : decode cX1_turn 46 = .ok (.return_, 1) := by decide +kernel
set_option maxRecDepth 20000 in
theorem ggX1_look_X1_turn : GoodIn wsX1_look wsX1_turn := goodIn_r _ [6, 7, 8, 9, 10, 11, 12, 13, 14, 15, 16, 17, 18, 19, 20, 21] (by decide +kernel) (by decide +kernel)
set_option maxRecDepth 20000 in
theorem gX1_look_X1_turn : GoodIn wsX1_look (wsV RX1 66 RX1 yX1_turn wsX1_turn) := goodIn_app (goodIn_of _ (by decide +kernel)) ggX1_look_X1_turn
theorem dX1_look_0 : decode cX1_look 0 = .ok (.aload_n 0, 1) := by decide +kernel
theorem dX1_look_1 : decode cX1_look 1 = .ok (.iconst 0, 1) := by decide +kernel
theorem dX1_look_2 : decode cX1_look 2 = .ok (.iconst 0, 1) := by decide +kernel
theorem dX1_look_3 : decode cX1_look 3 = .ok (.iload_n 1, 1) := by decide +kernel
theorem dX1_look_4 : decode cX1_look 4 = .ok (.lconst 0, 1) := by decide +kernel
theorem dX1_look_5 : decode cX1_look 5 = .ok (.invokevirtual 66, 3) := by decide +kernel
theorem dX1_look_8 : decode cX1_look 8 = .ok (.aload_n 0, 1) := by decide +kernel
theorem dX1_look_9 : decode cX1_look 9 = .ok (.iconst 1, 1) := by decide +kernel
theorem dX1_look_10 : decode cX1_look 10 = .ok (.iconst 0, 1) := by decide +kernel
theorem dX1_look_11 : decode cX1_look 11 = .ok (.iload_n 1, 1) := by decide +kernel
theorem dX1_look_12 : decode cX1_look 12 = .ok (.aload_n 0, 1) := by decide +kernel
theorem dX1_look_13 : decode cX1_look 13 = .ok (.getfield 7, 3) := by decide +kernel
theorem dX1_look_16 : decode cX1_look 16 = .ok (.iload_n 1, 1) := by decide +kernel
theorem dX1_look_17 : decode cX1_look 17 = .ok (.laload, 1) := by decide +kernel
theorem dX1_look_18 : decode cX1_look 18 = .ok (.invokevirtual 66, 3) := by decide +kernel
theorem dX1_look_21 : decode cX1_look 21 = .ok (.return_, 1) := by decide +kernel
set_option maxRecDepth 20000 in
theorem ggX1_putAll_X1_turn : GoodIn wsX1_putAll wsX1_turn := goodIn_r _ [5, 6, 7, 8, 9, 10, 11, 12, 13, 14, 15, 16, 17, 18, 19, 20] (by decide +kernel) (by decide +kernel)
set_option maxRecDepth 20000 in
theorem gX1_putAll_X1_turn : GoodIn wsX1_putAll (wsV RX1 66 RX1 yX1_turn wsX1_turn) := goodIn_app (goodIn_of _ (by decide +kernel)) ggX1_putAll_X1_turn
theorem dX1_putAll_0 : decode cX1_putAll 0 = .ok (.iconst 0, 1) := by decide +kernel
theorem dX1_putAll_1 : decode cX1_putAll 1 = .ok (.istore 4, 2) := by decide +kernel
theorem dX1_putAll_3 : decode cX1_putAll 3 = .ok (.iload 4, 2) := by decide +kernel
theorem dX1_putAll_5 : decode cX1_putAll 5 = .ok (.iconst 4, 1) := by decide +kernel
theorem dX1_putAll_6 : decode cX1_putAll 6 = .ok (.if_icmp .ge 18, 3) := by decide +kernel
theorem dX1_putAll_9 : decode cX1_putAll 9 = .ok (.aload_n 0, 1) := by decide +kernel
theorem dX1_putAll_10 : decode cX1_putAll 10 = .ok (.iconst 1, 1) := by decide +kernel
theorem dX1_putAll_11 : decode cX1_putAll 11 = .ok (.iload 4, 2) := by decide +kernel
theorem dX1_putAll_13 : decode cX1_putAll 13 = .ok (.iload_n 1, 1) := by decide +kernel
theorem dX1_putAll_14 : decode cX1_putAll 14 = .ok (.lload_n 2, 1) := by decide +kernel
theorem dX1_putAll_15 : decode cX1_putAll 15 = .ok (.invokevirtual 66, 3) := by decide +kernel
theorem dX1_putAll_18 : decode cX1_putAll 18 = .ok (.iinc 4 1, 3) := by decide +kernel
theorem dX1_putAll_21 : decode cX1_putAll 21 = .ok (.goto (-18), 3) := by decide +kernel
theorem dX1_putAll_24 : decode cX1_putAll 24 = .ok (.return_, 1) := by decide +kernel
theorem dX1_works_0 : decode cX1_works 0 = .ok (.iconst 0, 1) := by decide +kernel
theorem dX1_works_1 : decode cX1_works 1 = .ok (.istore_n 1, 1) := by decide +kernel
theorem dX1_works_2 : decode cX1_works 2 = .ok (.iload_n 1, 1) := by decide +kernel
theorem dX1_works_3 : decode cX1_works 3 = .ok (.aload_n 0, 1) := by decide +kernel
theorem dX1_works_4 : decode cX1_works 4 = .ok (.getfield 63, 3) := by decide +kernel
theorem dX1_works_7 : decode cX1_works 7 = .ok (.if_icmp .ge 163, 3) := by decide +kernel
theorem dX1_works_10 : decode cX1_works 10 = .ok (.aload_n 0, 1) := by decide +kernel
theorem dX1_works_11 : decode cX1_works 11 = .ok (.getfield 17, 3) := by decide +kernel
theorem dX1_works_14 : decode cX1_works 14 = .ok (.ifCond .eq 20, 3) := by decide +kernel
theorem dX1_works_17 : decode cX1_works 17 = .ok (.aload_n 0, 1) := by decide +kernel
theorem dX1_works_18 : decode cX1_works 18 = .ok (.getfield 21, 3) := by decide +kernel
theorem dX1_works_21 : decode cX1_works 21 = .ok (.ifCond .ne 13, 3) := by decide +kernel
theorem dX1_works_24 : decode cX1_works 24 = .ok (.aload_n 0, 1) := by decide +kernel
theorem dX1_works_25 : decode cX1_works 25 = .ok (.iconst 0, 1) := by decide +kernel
theorem dX1_works_26 : decode cX1_works 26 = .ok (.putfield 17, 3) := by decide +kernel
theorem dX1_works_29 : decode cX1_works 29 = .ok (.aload_n 0, 1) := by decide +kernel
theorem dX1_works_30 : decode cX1_works 30 = .ok (.iconst (-1), 1) := by decide +kernel
theorem dX1_works_31 : decode cX1_works 31 = .ok (.putfield 21, 3) := by decide +kernel
theorem dX1_works_34 : decode cX1_works 34 = .ok (.aload_n 0, 1) := by decide +kernel
theorem dX1_works_35 : decode cX1_works 35 = .ok (.getfield 17, 3) := by decide +kernel
theorem dX1_works_38 : decode cX1_works 38 = .ok (.ifCond .ne 5, 3) := by decide +kernel
theorem dX1_works_41 : decode cX1_works 41 = .ok (.iconst 0, 1) := by decide +kernel
theorem dX1_works_42 : decode cX1_works 42 = .ok (.ireturn, 1) := by decide +kernel
theorem dX1_works_43 : decode cX1_works 43 = .ok (.aload_n 0, 1) := by decide +kernel
theorem dX1_works_44 : decode cX1_works 44 = .ok (.getfield 21, 3) := by decide +kernel
theorem dX1_works_47 : decode cX1_works 47 = .ok (.ifCond .le 13, 3) := by decide +kernel
theorem dX1_works_50 : decode cX1_works 50 = .ok (.aload_n 0, 1) := by decide +kernel
theorem dX1_works_51 : decode cX1_works 51 = .ok (.dup, 1) := by decide +kernel
theorem dX1_works_52 : decode cX1_works 52 = .ok (.getfield 21, 3) := by decide +kernel
theorem dX1_works_55 : decode cX1_works 55 = .ok (.iconst 1, 1) := by decide +kernel
theorem dX1_works_56 : decode cX1_works 56 = .ok (.isub, 1) := by decide +kernel
theorem dX1_works_57 : decode cX1_works 57 = .ok (.putfield 21, 3) := by decide +kernel
theorem dX1_works_60 : decode cX1_works 60 = .ok (.aload_n 0, 1) := by decide +kernel
theorem dX1_works_61 : decode cX1_works 61 = .ok (.getfield 25, 3) := by decide +kernel
theorem dX1_works_64 : decode cX1_works 64 = .ok (.iload_n 1, 1) := by decide +kernel
theorem dX1_works_65 : decode cX1_works 65 = .ok (.iaload, 1) := by decide +kernel
theorem dX1_works_66 : decode cX1_works 66 = .ok (.ifCond .ne 28, 3) := by decide +kernel
theorem dX1_works_69 : decode cX1_works 69 = .ok (.aload_n 0, 1) := by decide +kernel
theorem dX1_works_70 : decode cX1_works 70 = .ok (.dup, 1) := by decide +kernel
theorem dX1_works_71 : decode cX1_works 71 = .ok (.getfield 70, 3) := by decide +kernel
theorem dX1_works_74 : decode cX1_works 74 = .ok (.iconst 1, 1) := by decide +kernel
theorem dX1_works_75 : decode cX1_works 75 = .ok (.iadd, 1) := by decide +kernel
theorem dX1_works_76 : decode cX1_works 76 = .ok (.putfield 70, 3) := by decide +kernel
theorem dX1_works_79 : decode cX1_works 79 = .ok (.aload_n 0, 1) := by decide +kernel
theorem dX1_works_80 : decode cX1_works 80 = .ok (.getfield 7, 3) := by decide +kernel
theorem dX1_works_83 : decode cX1_works 83 = .ok (.aload_n 0, 1) := by decide +kernel
theorem dX1_works_84 : decode cX1_works 84 = .ok (.getfield 28, 3) := by decide +kernel
theorem dX1_works_87 : decode cX1_works 87 = .ok (.iload_n 1, 1) := by decide +kernel
theorem dX1_works_88 : decode cX1_works 88 = .ok (.iaload, 1) := by decide +kernel
theorem dX1_works_89 : decode cX1_works 89 = .ok (.lconst 0, 1) := by decide +kernel
theorem dX1_works_90 : decode cX1_works 90 = .ok (.lastore, 1) := by decide +kernel
theorem dX1_works_91 : decode cX1_works 91 = .ok (.goto 30, 3) := by decide +kernel
theorem dX1_works_94 : decode cX1_works 94 = .ok (.aload_n 0, 1) := by decide +kernel
theorem dX1_works_95 : decode cX1_works 95 = .ok (.dup, 1) := by decide +kernel
theorem dX1_works_96 : decode cX1_works 96 = .ok (.getfield 73, 3) := by decide +kernel
theorem dX1_works_99 : decode cX1_works 99 = .ok (.iconst 1, 1) := by decide +kernel
theorem dX1_works_100 : decode cX1_works 100 = .ok (.iadd, 1) := by decide +kernel
theorem dX1_works_101 : decode cX1_works 101 = .ok (.putfield 73, 3) := by decide +kernel
theorem dX1_works_104 : decode cX1_works 104 = .ok (.aload_n 0, 1) := by decide +kernel
theorem dX1_works_105 : decode cX1_works 105 = .ok (.getfield 7, 3) := by decide +kernel
theorem dX1_works_108 : decode cX1_works 108 = .ok (.aload_n 0, 1) := by decide +kernel
theorem dX1_works_109 : decode cX1_works 109 = .ok (.getfield 28, 3) := by decide +kernel
theorem dX1_works_112 : decode cX1_works 112 = .ok (.iload_n 1, 1) := by decide +kernel
theorem dX1_works_113 : decode cX1_works 113 = .ok (.iaload, 1) := by decide +kernel
theorem dX1_works_114 : decode cX1_works 114 = .ok (.aload_n 0, 1) := by decide +kernel
theorem dX1_works_115 : decode cX1_works 115 = .ok (.getfield 31, 3) := by decide +kernel
theorem dX1_works_118 : decode cX1_works 118 = .ok (.iload_n 1, 1) := by decide +kernel
theorem dX1_works_119 : decode cX1_works 119 = .ok (.laload, 1) := by decide +kernel
theorem dX1_works_120 : decode cX1_works 120 = .ok (.lastore, 1) := by decide +kernel
theorem dX1_works_121 : decode cX1_works 121 = .ok (.aload_n 0, 1) := by decide +kernel
theorem dX1_works_122 : decode cX1_works 122 = .ok (.getfield 25, 3) := by decide +kernel
theorem dX1_works_125 : decode cX1_works 125 = .ok (.iload_n 1, 1) := by decide +kernel
theorem dX1_works_126 : decode cX1_works 126 = .ok (.iaload, 1) := by decide +kernel
theorem dX1_works_127 : decode cX1_works 127 = .ok (.ifCond .ne 37, 3) := by decide +kernel
theorem dX1_works_130 : decode cX1_works 130 = .ok (.aload_n 0, 1) := by decide +kernel
theorem dX1_works_131 : decode cX1_works 131 = .ok (.getfield 31, 3) := by decide +kernel
theorem dX1_works_134 : decode cX1_works 134 = .ok (.iload_n 1, 1) := by decide +kernel
theorem dX1_works_135 : decode cX1_works 135 = .ok (.laload, 1) := by decide +kernel
theorem dX1_works_136 : decode cX1_works 136 = .ok (.lconst 0, 1) := by decide +kernel
theorem dX1_works_137 : decode cX1_works 137 = .ok (.lcmp, 1) := by decide +kernel
theorem dX1_works_138 : decode cX1_works 138 = .ok (.ifCond .le 26, 3) := by decide +kernel
theorem dX1_works_141 : decode cX1_works 141 = .ok (.aload_n 0, 1) := by decide +kernel
theorem dX1_works_142 : decode cX1_works 142 = .ok (.getfield 13, 3) := by decide +kernel
theorem dX1_works_145 : decode cX1_works 145 = .ok (.aload_n 0, 1) := by decide +kernel
theorem dX1_works_146 : decode cX1_works 146 = .ok (.getfield 28, 3) := by decide +kernel
theorem dX1_works_149 : decode cX1_works 149 = .ok (.iload_n 1, 1) := by decide +kernel
theorem dX1_works_150 : decode cX1_works 150 = .ok (.iaload, 1) := by decide +kernel
theorem dX1_works_151 : decode cX1_works 151 = .ok (.bipush 20, 2) := by decide +kernel
theorem dX1_works_153 : decode cX1_works 153 = .ok (.irem, 1) := by decide +kernel
theorem dX1_works_154 : decode cX1_works 154 = .ok (.aload_n 0, 1) := by decide +kernel
theorem dX1_works_155 : decode cX1_works 155 = .ok (.getfield 31, 3) := by decide +kernel
theorem dX1_works_158 : decode cX1_works 158 = .ok (.iload_n 1, 1) := by decide +kernel
theorem dX1_works_159 : decode cX1_works 159 = .ok (.laload, 1) := by decide +kernel
theorem dX1_works_160 : decode cX1_works 160 = .ok (.l2i, 1) := by decide +kernel
theorem dX1_works_161 : decode cX1_works 161 = .ok (.iconst 1, 1) := by decide +kernel
theorem dX1_works_162 : decode cX1_works 162 = .ok (.isub, 1) := by decide +kernel
theorem dX1_works_163 : decode cX1_works 163 = .ok (.iastore, 1) := by decide +kernel
theorem dX1_works_164 : decode cX1_works 164 = .ok (.iinc 1 1, 3) := by decide +kernel
theorem dX1_works_167 : decode cX1_works 167 = .ok (.goto (-165), 3) := by decide +kernel
theorem dX1_works_170 : decode cX1_works 170 = .ok (.iconst 1, 1) := by decide +kernel
theorem dX1_works_171 : decode cX1_works 171 = .ok (.ireturn, 1) := by decide +kernel
set_option maxRecDepth 20000 in
theorem ggX1_open_X1_isAccount : GoodIn wsX1_open wsX1_isAccount := goodIn_r _ [6] (by decide +kernel) (by decide +kernel)
set_option maxRecDepth 20000 in
theorem gX1_open_X1_isAccount : GoodIn wsX1_open (va_wsS RX1 76 yX1_isAccount wsX1_isAccount) := goodIn_app (goodIn_of _ (by decide +kernel)) ggX1_open_X1_isAccount
set_option maxRecDepth 20000 in
theorem ggX1_open_X1_isValid : GoodIn wsX1_open wsX1_isValid := goodIn_r _ [9, 10, 11, 12, 5, 13, 14] (by decide +kernel) (by decide +kernel)
set_option maxRecDepth 20000 in
theorem gX1_open_X1_isValid : GoodIn wsX1_open (va_wsS RX1 51 yX1_isValid wsX1_isValid) := goodIn_app (goodIn_of _ (by decide +kernel)) ggX1_open_X1_isValid
set_option maxRecDepth 20000 in
theorem ggX1_open_X1_numberOf : GoodIn wsX1_open wsX1_numberOf := goodIn_r _ [17, 18] (by decide +kernel) (by decide +kernel)
set_option maxRecDepth 20000 in
theorem gX1_open_X1_numberOf : GoodIn wsX1_open (va_wsS RX1 55 yX1_numberOf wsX1_numberOf) := goodIn_app (goodIn_of _ (by decide +kernel)) ggX1_open_X1_numberOf
set_option maxRecDepth 20000 in
theorem ggX1_open_X1_turn : GoodIn wsX1_open wsX1_turn := goodIn_r _ [22, 23, 2, 24, 25, 42, 43, 44, 45, 46, 47, 48, 49, 50, 51, 52] (by decide +kernel) (by decide +kernel)
set_option maxRecDepth 20000 in
theorem gX1_open_X1_turn : GoodIn wsX1_open (wsV RX1 66 RX1 yX1_turn wsX1_turn) := goodIn_app (goodIn_of _ (by decide +kernel)) ggX1_open_X1_turn
set_option maxRecDepth 20000 in
theorem ggX1_open_X1_wordOf : GoodIn wsX1_open wsX1_wordOf := goodIn_r _ [28, 11, 12, 5, 13, 10, 14] (by decide +kernel) (by decide +kernel)
set_option maxRecDepth 20000 in
theorem gX1_open_X1_wordOf : GoodIn wsX1_open (va_wsS RX1 37 yX1_wordOf wsX1_wordOf) := goodIn_app (goodIn_of _ (by decide +kernel)) ggX1_open_X1_wordOf
set_option maxRecDepth 20000 in
theorem ggX1_open_X1_putAll : GoodIn wsX1_open wsX1_putAll := goodIn_r _ [32, 19, 20, 21, 5, 22, 23, 2, 24, 25, 42, 43, 44, 45, 46, 47, 48, 49, 50, 51, 52] (by decide +kernel) (by decide +kernel)
set_option maxRecDepth 20000 in
theorem gX1_open_X1_putAll : GoodIn wsX1_open (wsV RX1 80 RX1 yX1_putAll wsX1_putAll) := goodIn_app (goodIn_of _ (by decide +kernel)) ggX1_open_X1_putAll
set_option maxRecDepth 20000 in
theorem ggX1_open_X1_works : GoodIn wsX1_open wsX1_works := goodIn_r _ [36, 2, 37, 38, 23, 39, 1, 24, 40, 25, 41, 42, 43, 44, 45, 46, 47, 48, 49, 50, 51, 52] (by decide +kernel) (by decide +kernel)
set_option maxRecDepth 20000 in
theorem gX1_open_X1_works : GoodIn wsX1_open (wsV RX1 84 RX1 yX1_works wsX1_works) := goodIn_app (goodIn_of _ (by decide +kernel)) ggX1_open_X1_works
theorem dX1_open_0 : decode cX1_open 0 = .ok (.iload_n 1, 1) := by decide +kernel
theorem dX1_open_1 : decode cX1_open 1 = .ok (.invokestatic 76, 3) := by decide +kernel
theorem dX1_open_4 : decode cX1_open 4 = .ok (.ifCond .ne 5, 3) := by decide +kernel
theorem dX1_open_7 : decode cX1_open 7 = .ok (.iconst (-1), 1) := by decide +kernel
theorem dX1_open_8 : decode cX1_open 8 = .ok (.ireturn, 1) := by decide +kernel
theorem dX1_open_9 : decode cX1_open 9 = .ok (.aload_n 0, 1) := by decide +kernel
theorem dX1_open_10 : decode cX1_open 10 = .ok (.getfield 7, 3) := by decide +kernel
theorem dX1_open_13 : decode cX1_open 13 = .ok (.iload_n 1, 1) := by decide +kernel
theorem dX1_open_14 : decode cX1_open 14 = .ok (.laload, 1) := by decide +kernel
theorem dX1_open_15 : decode cX1_open 15 = .ok (.lstore_n 3, 1) := by decide +kernel
theorem dX1_open_16 : decode cX1_open 16 = .ok (.lload_n 3, 1) := by decide +kernel
theorem dX1_open_17 : decode cX1_open 17 = .ok (.invokestatic 51, 3) := by decide +kernel
theorem dX1_open_20 : decode cX1_open 20 = .ok (.ifCond .eq 14, 3) := by decide +kernel
theorem dX1_open_23 : decode cX1_open 23 = .ok (.lload_n 3, 1) := by decide +kernel
theorem dX1_open_24 : decode cX1_open 24 = .ok (.invokestatic 55, 3) := by decide +kernel
theorem dX1_open_27 : decode cX1_open 27 = .ok (.ifCond .ne 7, 3) := by decide +kernel
theorem dX1_open_30 : decode cX1_open 30 = .ok (.iconst 1, 1) := by decide +kernel
theorem dX1_open_31 : decode cX1_open 31 = .ok (.goto 4, 3) := by decide +kernel
theorem dX1_open_34 : decode cX1_open 34 = .ok (.iconst 0, 1) := by decide +kernel
theorem dX1_open_35 : decode cX1_open 35 = .ok (.istore 5, 2) := by decide +kernel
theorem dX1_open_37 : decode cX1_open 37 = .ok (.aload_n 0, 1) := by decide +kernel
theorem dX1_open_38 : decode cX1_open 38 = .ok (.iconst 0, 1) := by decide +kernel
theorem dX1_open_39 : decode cX1_open 39 = .ok (.putfield 63, 3) := by decide +kernel
theorem dX1_open_42 : decode cX1_open 42 = .ok (.aload_n 0, 1) := by decide +kernel
theorem dX1_open_43 : decode cX1_open 43 = .ok (.iconst 0, 1) := by decide +kernel
theorem dX1_open_44 : decode cX1_open 44 = .ok (.iconst 0, 1) := by decide +kernel
theorem dX1_open_45 : decode cX1_open 45 = .ok (.iload_n 1, 1) := by decide +kernel
theorem dX1_open_46 : decode cX1_open 46 = .ok (.lconst 0, 1) := by decide +kernel
theorem dX1_open_47 : decode cX1_open 47 = .ok (.invokevirtual 66, 3) := by decide +kernel
theorem dX1_open_50 : decode cX1_open 50 = .ok (.iload 5, 2) := by decide +kernel
theorem dX1_open_52 : decode cX1_open 52 = .ok (.ifCond .eq 16, 3) := by decide +kernel
theorem dX1_open_55 : decode cX1_open 55 = .ok (.aload_n 0, 1) := by decide +kernel
theorem dX1_open_56 : decode cX1_open 56 = .ok (.iload_n 1, 1) := by decide +kernel
theorem dX1_open_57 : decode cX1_open 57 = .ok (.iload_n 2, 1) := by decide +kernel
theorem dX1_open_58 : decode cX1_open 58 = .ok (.iconst 1, 1) := by decide +kernel
theorem dX1_open_59 : decode cX1_open 59 = .ok (.invokestatic 37, 3) := by decide +kernel
theorem dX1_open_62 : decode cX1_open 62 = .ok (.invokevirtual 80, 3) := by decide +kernel
theorem dX1_open_65 : decode cX1_open 65 = .ok (.goto 11, 3) := by decide +kernel
theorem dX1_open_68 : decode cX1_open 68 = .ok (.aload_n 0, 1) := by decide +kernel
theorem dX1_open_69 : decode cX1_open 69 = .ok (.iconst 1, 1) := by decide +kernel
theorem dX1_open_70 : decode cX1_open 70 = .ok (.iconst 0, 1) := by decide +kernel
theorem dX1_open_71 : decode cX1_open 71 = .ok (.iload_n 1, 1) := by decide +kernel
theorem dX1_open_72 : decode cX1_open 72 = .ok (.lload_n 3, 1) := by decide +kernel
theorem dX1_open_73 : decode cX1_open 73 = .ok (.invokevirtual 66, 3) := by decide +kernel
theorem dX1_open_76 : decode cX1_open 76 = .ok (.aload_n 0, 1) := by decide +kernel
theorem dX1_open_77 : decode cX1_open 77 = .ok (.invokevirtual 84, 3) := by decide +kernel
theorem dX1_open_80 : decode cX1_open 80 = .ok (.ifCond .ne 8, 3) := by decide +kernel
theorem dX1_open_83 : decode cX1_open 83 = .ok (.bipush (-2), 2) := by decide +kernel
theorem dX1_open_85 : decode cX1_open 85 = .ok (.goto 13, 3) := by decide +kernel
theorem dX1_open_88 : decode cX1_open 88 = .ok (.iload 5, 2) := by decide +kernel
theorem dX1_open_90 : decode cX1_open 90 = .ok (.ifCond .eq 7, 3) := by decide +kernel
theorem dX1_open_93 : decode cX1_open 93 = .ok (.iconst 1, 1) := by decide +kernel
theorem dX1_open_94 : decode cX1_open 94 = .ok (.goto 4, 3) := by decide +kernel
theorem dX1_open_97 : decode cX1_open 97 = .ok (.iconst (-1), 1) := by decide +kernel
theorem dX1_open_98 : decode cX1_open 98 = .ok (.ireturn, 1) := by decide +kernel
set_option maxRecDepth 20000 in
theorem ggX1_balance_X1_isAccount : GoodIn wsX1_balance wsX1_isAccount := goodIn_r _ [10] (by decide +kernel) (by decide +kernel)
set_option maxRecDepth 20000 in
theorem gX1_balance_X1_isAccount : GoodIn wsX1_balance (va_wsS RX1 76 yX1_isAccount wsX1_isAccount) := goodIn_app (goodIn_of _ (by decide +kernel)) ggX1_balance_X1_isAccount
set_option maxRecDepth 20000 in
theorem ggX1_balance_X1_look : GoodIn wsX1_balance wsX1_look := goodIn_r _ [14, 2, 15, 16, 17, 9, 18, 19, 3, 20, 21, 46, 47, 48, 49, 50, 51, 52, 53, 54, 55, 56] (by decide +kernel) (by decide +kernel)
set_option maxRecDepth 20000 in
theorem gX1_balance_X1_look : GoodIn wsX1_balance (wsV RX1 90 RX1 yX1_look wsX1_look) := goodIn_app (goodIn_of _ (by decide +kernel)) ggX1_balance_X1_look
set_option maxRecDepth 20000 in
theorem ggX1_balance_X1_works : GoodIn wsX1_balance wsX1_works := goodIn_r _ [25, 3, 26, 27, 19, 28, 2, 20, 29, 21, 30, 46, 47, 48, 49, 50, 51, 52, 53, 54, 55, 56] (by decide +kernel) (by decide +kernel)
set_option maxRecDepth 20000 in
theorem gX1_balance_X1_works : GoodIn wsX1_balance (wsV RX1 84 RX1 yX1_works wsX1_works) := goodIn_app (goodIn_of _ (by decide +kernel)) ggX1_balance_X1_works
set_option maxRecDepth 20000 in
theorem ggX1_balance_X1_isValid : GoodIn wsX1_balance wsX1_isValid := goodIn_r _ [33, 34, 35, 36, 9, 37, 38] (by decide +kernel) (by decide +kernel)
set_option maxRecDepth 20000 in
theorem gX1_balance_X1_isValid : GoodIn wsX1_balance (va_wsS RX1 51 yX1_isValid wsX1_isValid) := goodIn_app (goodIn_of _ (by decide +kernel)) ggX1_balance_X1_isValid
set_option maxRecDepth 20000 in
theorem ggX1_balance_X1_numberOf : GoodIn wsX1_balance wsX1_numberOf := goodIn_r _ [41, 42] (by decide +kernel) (by decide +kernel)
set_option maxRecDepth 20000 in
theorem gX1_balance_X1_numberOf : GoodIn wsX1_balance (va_wsS RX1 55 yX1_numberOf wsX1_numberOf) := goodIn_app (goodIn_of _ (by decide +kernel)) ggX1_balance_X1_numberOf
set_option maxRecDepth 20000 in
theorem ggX1_balance_X1_balanceOf : GoodIn wsX1_balance wsX1_balanceOf := goodIn_r _ [45] (by decide +kernel) (by decide +kernel)
set_option maxRecDepth 20000 in
theorem gX1_balance_X1_balanceOf : GoodIn wsX1_balance (va_wsS RX1 100 yX1_balanceOf wsX1_balanceOf) := goodIn_app (goodIn_of _ (by decide +kernel)) ggX1_balance_X1_balanceOf
theorem dX1_balance_0 : decode cX1_balance 0 = .ok (.iload_n 1, 1) := by decide +kernel
theorem dX1_balance_1 : decode cX1_balance 1 = .ok (.invokestatic 76, 3) := by decide +kernel
theorem dX1_balance_4 : decode cX1_balance 4 = .ok (.ifCond .ne 7, 3) := by decide +kernel
theorem dX1_balance_7 : decode cX1_balance 7 = .ok (.ldc2_w 88, 3) := by decide +kernel
theorem dX1_balance_10 : decode cX1_balance 10 = .ok (.lreturn, 1) := by decide +kernel
theorem dX1_balance_11 : decode cX1_balance 11 = .ok (.aload_n 0, 1) := by decide +kernel
theorem dX1_balance_12 : decode cX1_balance 12 = .ok (.getfield 7, 3) := by decide +kernel
theorem dX1_balance_15 : decode cX1_balance 15 = .ok (.iload_n 1, 1) := by decide +kernel
theorem dX1_balance_16 : decode cX1_balance 16 = .ok (.laload, 1) := by decide +kernel
theorem dX1_balance_17 : decode cX1_balance 17 = .ok (.lstore_n 2, 1) := by decide +kernel
theorem dX1_balance_18 : decode cX1_balance 18 = .ok (.aload_n 0, 1) := by decide +kernel
theorem dX1_balance_19 : decode cX1_balance 19 = .ok (.iconst 0, 1) := by decide +kernel
theorem dX1_balance_20 : decode cX1_balance 20 = .ok (.putfield 63, 3) := by decide +kernel
theorem dX1_balance_23 : decode cX1_balance 23 = .ok (.aload_n 0, 1) := by decide +kernel
theorem dX1_balance_24 : decode cX1_balance 24 = .ok (.iload_n 1, 1) := by decide +kernel
theorem dX1_balance_25 : decode cX1_balance 25 = .ok (.invokevirtual 90, 3) := by decide +kernel
theorem dX1_balance_28 : decode cX1_balance 28 = .ok (.aload_n 0, 1) := by decide +kernel
theorem dX1_balance_29 : decode cX1_balance 29 = .ok (.invokevirtual 84, 3) := by decide +kernel
theorem dX1_balance_32 : decode cX1_balance 32 = .ok (.ifCond .ne 7, 3) := by decide +kernel
theorem dX1_balance_35 : decode cX1_balance 35 = .ok (.ldc2_w 94, 3) := by decide +kernel
theorem dX1_balance_38 : decode cX1_balance 38 = .ok (.lreturn, 1) := by decide +kernel
theorem dX1_balance_39 : decode cX1_balance 39 = .ok (.lload_n 2, 1) := by decide +kernel
theorem dX1_balance_40 : decode cX1_balance 40 = .ok (.invokestatic 51, 3) := by decide +kernel
theorem dX1_balance_43 : decode cX1_balance 43 = .ok (.ifCond .ne 9, 3) := by decide +kernel
theorem dX1_balance_46 : decode cX1_balance 46 = .ok (.ldc2_w 96, 3) := by decide +kernel
theorem dX1_balance_49 : decode cX1_balance 49 = .ok (.goto 21, 3) := by decide +kernel
theorem dX1_balance_52 : decode cX1_balance 52 = .ok (.lload_n 2, 1) := by decide +kernel
theorem dX1_balance_53 : decode cX1_balance 53 = .ok (.invokestatic 55, 3) := by decide +kernel
theorem dX1_balance_56 : decode cX1_balance 56 = .ok (.ifCond .ne 9, 3) := by decide +kernel
theorem dX1_balance_59 : decode cX1_balance 59 = .ok (.ldc2_w 98, 3) := by decide +kernel
theorem dX1_balance_62 : decode cX1_balance 62 = .ok (.goto 8, 3) := by decide +kernel
theorem dX1_balance_65 : decode cX1_balance 65 = .ok (.lload_n 2, 1) := by decide +kernel
theorem dX1_balance_66 : decode cX1_balance 66 = .ok (.invokestatic 100, 3) := by decide +kernel
theorem dX1_balance_69 : decode cX1_balance 69 = .ok (.i2l, 1) := by decide +kernel
theorem dX1_balance_70 : decode cX1_balance 70 = .ok (.lreturn, 1) := by decide +kernel
set_option maxRecDepth 20000 in
theorem ggX1_post_X1_isAccount : GoodIn wsX1_post wsX1_isAccount := goodIn_r _ [7] (by decide +kernel) (by decide +kernel)
set_option maxRecDepth 20000 in
theorem gX1_post_X1_isAccount : GoodIn wsX1_post (va_wsS RX1 76 yX1_isAccount wsX1_isAccount) := goodIn_app (goodIn_of _ (by decide +kernel)) ggX1_post_X1_isAccount
set_option maxRecDepth 20000 in
theorem ggX1_post_X1_balanceOf : GoodIn wsX1_post wsX1_balanceOf := goodIn_r _ [10] (by decide +kernel) (by decide +kernel)
set_option maxRecDepth 20000 in
theorem gX1_post_X1_balanceOf : GoodIn wsX1_post (va_wsS RX1 100 yX1_balanceOf wsX1_balanceOf) := goodIn_app (goodIn_of _ (by decide +kernel)) ggX1_post_X1_balanceOf
set_option maxRecDepth 20000 in
theorem ggX1_post_X1_isOpen : GoodIn wsX1_post wsX1_isOpen := goodIn_r _ [13, 14, 15, 6, 16, 17, 18, 19, 20, 21, 22, 23, 24, 25] (by decide +kernel) (by decide +kernel)
set_option maxRecDepth 20000 in
theorem gX1_post_X1_isOpen : GoodIn wsX1_post (va_wsS RX1 103 yX1_isOpen wsX1_isOpen) := goodIn_app (goodIn_of _ (by decide +kernel)) ggX1_post_X1_isOpen
set_option maxRecDepth 20000 in
theorem ggX1_post_X1_numberOf : GoodIn wsX1_post wsX1_numberOf := goodIn_r _ [24, 25] (by decide +kernel) (by decide +kernel)
set_option maxRecDepth 20000 in
theorem gX1_post_X1_numberOf : GoodIn wsX1_post (va_wsS RX1 55 yX1_numberOf wsX1_numberOf) := goodIn_app (goodIn_of _ (by decide +kernel)) ggX1_post_X1_numberOf
set_option maxRecDepth 20000 in
theorem ggX1_post_X1_isInt : GoodIn wsX1_post wsX1_isInt := goodIn_r _ [28, 29, 30] (by decide +kernel) (by decide +kernel)
set_option maxRecDepth 20000 in
theorem gX1_post_X1_isInt : GoodIn wsX1_post (va_wsS RX1 107 yX1_isInt wsX1_isInt) := goodIn_app (goodIn_of _ (by decide +kernel)) ggX1_post_X1_isInt
set_option maxRecDepth 20000 in
theorem ggX1_post_X1_turn : GoodIn wsX1_post wsX1_turn := goodIn_r _ [34, 35, 3, 36, 37, 54, 55, 56, 57, 58, 59, 60, 61, 62, 63, 64] (by decide +kernel) (by decide +kernel)
set_option maxRecDepth 20000 in
theorem gX1_post_X1_turn : GoodIn wsX1_post (wsV RX1 66 RX1 yX1_turn wsX1_turn) := goodIn_app (goodIn_of _ (by decide +kernel)) ggX1_post_X1_turn
set_option maxRecDepth 20000 in
theorem ggX1_post_X1_wordOf : GoodIn wsX1_post wsX1_wordOf := goodIn_r _ [40, 18, 19, 6, 20, 17, 21] (by decide +kernel) (by decide +kernel)
set_option maxRecDepth 20000 in
theorem gX1_post_X1_wordOf : GoodIn wsX1_post (va_wsS RX1 37 yX1_wordOf wsX1_wordOf) := goodIn_app (goodIn_of _ (by decide +kernel)) ggX1_post_X1_wordOf
set_option maxRecDepth 20000 in
theorem ggX1_post_X1_putAll : GoodIn wsX1_post wsX1_putAll := goodIn_r _ [44, 31, 32, 33, 6, 34, 35, 3, 36, 37, 54, 55, 56, 57, 58, 59, 60, 61, 62, 63, 64] (by decide +kernel) (by decide +kernel)
set_option maxRecDepth 20000 in
theorem gX1_post_X1_putAll : GoodIn wsX1_post (wsV RX1 80 RX1 yX1_putAll wsX1_putAll) := goodIn_app (goodIn_of _ (by decide +kernel)) ggX1_post_X1_putAll
set_option maxRecDepth 20000 in
theorem ggX1_post_X1_works : GoodIn wsX1_post wsX1_works := goodIn_r _ [48, 3, 49, 50, 35, 51, 1, 36, 52, 37, 53, 54, 55, 56, 57, 58, 59, 60, 61, 62, 63, 64] (by decide +kernel) (by decide +kernel)
set_option maxRecDepth 20000 in
theorem gX1_post_X1_works : GoodIn wsX1_post (wsV RX1 84 RX1 yX1_works wsX1_works) := goodIn_app (goodIn_of _ (by decide +kernel)) ggX1_post_X1_works
theorem dX1_post_0 : decode cX1_post 0 = .ok (.iload_n 1, 1) := by decide +kernel
theorem dX1_post_1 : decode cX1_post 1 = .ok (.invokestatic 76, 3) := by decide +kernel
theorem dX1_post_4 : decode cX1_post 4 = .ok (.ifCond .ne 5, 3) := by decide +kernel
theorem dX1_post_7 : decode cX1_post 7 = .ok (.iconst (-1), 1) := by decide +kernel
theorem dX1_post_8 : decode cX1_post 8 = .ok (.ireturn, 1) := by decide +kernel
theorem dX1_post_9 : decode cX1_post 9 = .ok (.aload_n 0, 1) := by decide +kernel
theorem dX1_post_10 : decode cX1_post 10 = .ok (.getfield 7, 3) := by decide +kernel
theorem dX1_post_13 : decode cX1_post 13 = .ok (.iload_n 1, 1) := by decide +kernel
theorem dX1_post_14 : decode cX1_post 14 = .ok (.laload, 1) := by decide +kernel
theorem dX1_post_15 : decode cX1_post 15 = .ok (.lstore_n 3, 1) := by decide +kernel
theorem dX1_post_16 : decode cX1_post 16 = .ok (.lload_n 3, 1) := by decide +kernel
theorem dX1_post_17 : decode cX1_post 17 = .ok (.invokestatic 100, 3) := by decide +kernel
theorem dX1_post_20 : decode cX1_post 20 = .ok (.i2l, 1) := by decide +kernel
theorem dX1_post_21 : decode cX1_post 21 = .ok (.iload_n 2, 1) := by decide +kernel
theorem dX1_post_22 : decode cX1_post 22 = .ok (.i2l, 1) := by decide +kernel
theorem dX1_post_23 : decode cX1_post 23 = .ok (.ladd, 1) := by decide +kernel
theorem dX1_post_24 : decode cX1_post 24 = .ok (.lstore 5, 2) := by decide +kernel
theorem dX1_post_26 : decode cX1_post 26 = .ok (.lload_n 3, 1) := by decide +kernel
theorem dX1_post_27 : decode cX1_post 27 = .ok (.invokestatic 103, 3) := by decide +kernel
theorem dX1_post_30 : decode cX1_post 30 = .ok (.ifCond .eq 24, 3) := by decide +kernel
theorem dX1_post_33 : decode cX1_post 33 = .ok (.lload_n 3, 1) := by decide +kernel
theorem dX1_post_34 : decode cX1_post 34 = .ok (.invokestatic 55, 3) := by decide +kernel
theorem dX1_post_37 : decode cX1_post 37 = .ok (.ldc 106, 2) := by decide +kernel
theorem dX1_post_39 : decode cX1_post 39 = .ok (.if_icmp .ge 15, 3) := by decide +kernel
theorem dX1_post_42 : decode cX1_post 42 = .ok (.lload 5, 2) := by decide +kernel
theorem dX1_post_44 : decode cX1_post 44 = .ok (.invokestatic 107, 3) := by decide +kernel
theorem dX1_post_47 : decode cX1_post 47 = .ok (.ifCond .eq 7, 3) := by decide +kernel
theorem dX1_post_50 : decode cX1_post 50 = .ok (.iconst 1, 1) := by decide +kernel
theorem dX1_post_51 : decode cX1_post 51 = .ok (.goto 4, 3) := by decide +kernel
theorem dX1_post_54 : decode cX1_post 54 = .ok (.iconst 0, 1) := by decide +kernel
theorem dX1_post_55 : decode cX1_post 55 = .ok (.istore 7, 2) := by decide +kernel
theorem dX1_post_57 : decode cX1_post 57 = .ok (.aload_n 0, 1) := by decide +kernel
theorem dX1_post_58 : decode cX1_post 58 = .ok (.iconst 0, 1) := by decide +kernel
theorem dX1_post_59 : decode cX1_post 59 = .ok (.putfield 63, 3) := by decide +kernel
theorem dX1_post_62 : decode cX1_post 62 = .ok (.aload_n 0, 1) := by decide +kernel
theorem dX1_post_63 : decode cX1_post 63 = .ok (.iconst 0, 1) := by decide +kernel
theorem dX1_post_64 : decode cX1_post 64 = .ok (.iconst 0, 1) := by decide +kernel
theorem dX1_post_65 : decode cX1_post 65 = .ok (.iload_n 1, 1) := by decide +kernel
theorem dX1_post_66 : decode cX1_post 66 = .ok (.lconst 0, 1) := by decide +kernel
theorem dX1_post_67 : decode cX1_post 67 = .ok (.invokevirtual 66, 3) := by decide +kernel
theorem dX1_post_70 : decode cX1_post 70 = .ok (.iload 7, 2) := by decide +kernel
theorem dX1_post_72 : decode cX1_post 72 = .ok (.ifCond .eq 23, 3) := by decide +kernel
theorem dX1_post_75 : decode cX1_post 75 = .ok (.aload_n 0, 1) := by decide +kernel
theorem dX1_post_76 : decode cX1_post 76 = .ok (.iload_n 1, 1) := by decide +kernel
theorem dX1_post_77 : decode cX1_post 77 = .ok (.lload 5, 2) := by decide +kernel
theorem dX1_post_79 : decode cX1_post 79 = .ok (.l2i, 1) := by decide +kernel
theorem dX1_post_80 : decode cX1_post 80 = .ok (.lload_n 3, 1) := by decide +kernel
theorem dX1_post_81 : decode cX1_post 81 = .ok (.invokestatic 55, 3) := by decide +kernel
theorem dX1_post_84 : decode cX1_post 84 = .ok (.iconst 1, 1) := by decide +kernel
theorem dX1_post_85 : decode cX1_post 85 = .ok (.iadd, 1) := by decide +kernel
theorem dX1_post_86 : decode cX1_post 86 = .ok (.invokestatic 37, 3) := by decide +kernel
theorem dX1_post_89 : decode cX1_post 89 = .ok (.invokevirtual 80, 3) := by decide +kernel
theorem dX1_post_92 : decode cX1_post 92 = .ok (.goto 11, 3) := by decide +kernel
theorem dX1_post_95 : decode cX1_post 95 = .ok (.aload_n 0, 1) := by decide +kernel
theorem dX1_post_96 : decode cX1_post 96 = .ok (.iconst 1, 1) := by decide +kernel
theorem dX1_post_97 : decode cX1_post 97 = .ok (.iconst 0, 1) := by decide +kernel
theorem dX1_post_98 : decode cX1_post 98 = .ok (.iload_n 1, 1) := by decide +kernel
theorem dX1_post_99 : decode cX1_post 99 = .ok (.lload_n 3, 1) := by decide +kernel
theorem dX1_post_100 : decode cX1_post 100 = .ok (.invokevirtual 66, 3) := by decide +kernel
theorem dX1_post_103 : decode cX1_post 103 = .ok (.aload_n 0, 1) := by decide +kernel
theorem dX1_post_104 : decode cX1_post 104 = .ok (.invokevirtual 84, 3) := by decide +kernel
theorem dX1_post_107 : decode cX1_post 107 = .ok (.ifCond .ne 8, 3) := by decide +kernel
theorem dX1_post_110 : decode cX1_post 110 = .ok (.bipush (-2), 2) := by decide +kernel
theorem dX1_post_112 : decode cX1_post 112 = .ok (.goto 13, 3) := by decide +kernel
theorem dX1_post_115 : decode cX1_post 115 = .ok (.iload 7, 2) := by decide +kernel
theorem dX1_post_117 : decode cX1_post 117 = .ok (.ifCond .eq 7, 3) := by decide +kernel
theorem dX1_post_120 : decode cX1_post 120 = .ok (.iconst 1, 1) := by decide +kernel
theorem dX1_post_121 : decode cX1_post 121 = .ok (.goto 4, 3) := by decide +kernel
theorem dX1_post_124 : decode cX1_post 124 = .ok (.iconst (-1), 1) := by decide +kernel
theorem dX1_post_125 : decode cX1_post 125 = .ok (.ireturn, 1) := by decide +kernel
set_option maxRecDepth 20000 in
theorem ggX1_canBe_X1_isOpen : GoodIn wsX1_canBe wsX1_isOpen := goodIn_r _ [5, 6, 7, 4, 8, 9, 10, 11, 12, 13, 14, 15, 16, 17] (by decide +kernel) (by decide +kernel)
set_option maxRecDepth 20000 in
theorem gX1_canBe_X1_isOpen : GoodIn wsX1_canBe (va_wsS RX1 103 yX1_isOpen wsX1_isOpen) := goodIn_app (goodIn_of _ (by decide +kernel)) ggX1_canBe_X1_isOpen
set_option maxRecDepth 20000 in
theorem ggX1_canBe_X1_numberOf : GoodIn wsX1_canBe wsX1_numberOf := goodIn_r _ [16, 17] (by decide +kernel) (by decide +kernel)
set_option maxRecDepth 20000 in
theorem gX1_canBe_X1_numberOf : GoodIn wsX1_canBe (va_wsS RX1 55 yX1_numberOf wsX1_numberOf) := goodIn_app (goodIn_of _ (by decide +kernel)) ggX1_canBe_X1_numberOf
set_option maxRecDepth 20000 in
theorem ggX1_canBe_X1_isInt : GoodIn wsX1_canBe wsX1_isInt := goodIn_r _ [20, 21, 22] (by decide +kernel) (by decide +kernel)
set_option maxRecDepth 20000 in
theorem gX1_canBe_X1_isInt : GoodIn wsX1_canBe (va_wsS RX1 107 yX1_isInt wsX1_isInt) := goodIn_app (goodIn_of _ (by decide +kernel)) ggX1_canBe_X1_isInt
theorem dX1_canBe_0 : decode cX1_canBe 0 = .ok (.lload_n 0, 1) := by decide +kernel
theorem dX1_canBe_1 : decode cX1_canBe 1 = .ok (.invokestatic 103, 3) := by decide +kernel
theorem dX1_canBe_4 : decode cX1_canBe 4 = .ok (.ifCond .eq 29, 3) := by decide +kernel
theorem dX1_canBe_7 : decode cX1_canBe 7 = .ok (.lload_n 0, 1) := by decide +kernel
theorem dX1_canBe_8 : decode cX1_canBe 8 = .ok (.invokestatic 55, 3) := by decide +kernel
theorem dX1_canBe_11 : decode cX1_canBe 11 = .ok (.ldc 106, 2) := by decide +kernel
theorem dX1_canBe_13 : decode cX1_canBe 13 = .ok (.if_icmp .ge 20, 3) := by decide +kernel
theorem dX1_canBe_16 : decode cX1_canBe 16 = .ok (.lload_n 2, 1) := by decide +kernel
theorem dX1_canBe_17 : decode cX1_canBe 17 = .ok (.lconst 0, 1) := by decide +kernel
theorem dX1_canBe_18 : decode cX1_canBe 18 = .ok (.lcmp, 1) := by decide +kernel
theorem dX1_canBe_19 : decode cX1_canBe 19 = .ok (.ifCond .lt 14, 3) := by decide +kernel
theorem dX1_canBe_22 : decode cX1_canBe 22 = .ok (.lload_n 2, 1) := by decide +kernel
theorem dX1_canBe_23 : decode cX1_canBe 23 = .ok (.invokestatic 107, 3) := by decide +kernel
theorem dX1_canBe_26 : decode cX1_canBe 26 = .ok (.ifCond .eq 7, 3) := by decide +kernel
theorem dX1_canBe_29 : decode cX1_canBe 29 = .ok (.iconst 1, 1) := by decide +kernel
theorem dX1_canBe_30 : decode cX1_canBe 30 = .ok (.goto 4, 3) := by decide +kernel
theorem dX1_canBe_33 : decode cX1_canBe 33 = .ok (.iconst 0, 1) := by decide +kernel
theorem dX1_canBe_34 : decode cX1_canBe 34 = .ok (.ireturn, 1) := by decide +kernel
set_option maxRecDepth 20000 in
theorem ggX1_transfer_X1_isAccount : GoodIn wsX1_transfer wsX1_isAccount := goodIn_r _ [9] (by decide +kernel) (by decide +kernel)
set_option maxRecDepth 20000 in
theorem gX1_transfer_X1_isAccount : GoodIn wsX1_transfer (va_wsS RX1 76 yX1_isAccount wsX1_isAccount) := goodIn_app (goodIn_of _ (by decide +kernel)) ggX1_transfer_X1_isAccount
set_option maxRecDepth 20000 in
theorem ggX1_transfer_X1_balanceOf : GoodIn wsX1_transfer wsX1_balanceOf := goodIn_r _ [12] (by decide +kernel) (by decide +kernel)
set_option maxRecDepth 20000 in
theorem gX1_transfer_X1_balanceOf : GoodIn wsX1_transfer (va_wsS RX1 100 yX1_balanceOf wsX1_balanceOf) := goodIn_app (goodIn_of _ (by decide +kernel)) ggX1_transfer_X1_balanceOf
set_option maxRecDepth 20000 in
theorem ggX1_transfer_X1_canBe : GoodIn wsX1_transfer wsX1_canBe := goodIn_r _ [15, 2, 16, 17, 8, 18, 19, 20, 21, 22, 23, 24, 25, 26, 27, 28, 29, 30, 31, 32, 33, 34, 35] (by decide +kernel) (by decide +kernel)
set_option maxRecDepth 20000 in
theorem gX1_transfer_X1_canBe : GoodIn wsX1_transfer (va_wsS RX1 110 yX1_canBe wsX1_canBe) := goodIn_app (goodIn_of _ (by decide +kernel)) ggX1_transfer_X1_canBe
set_option maxRecDepth 20000 in
theorem ggX1_transfer_X1_isValid : GoodIn wsX1_transfer wsX1_isValid := goodIn_r _ [21, 22, 23, 24, 8, 25, 26] (by decide +kernel) (by decide +kernel)
set_option maxRecDepth 20000 in
theorem gX1_transfer_X1_isValid : GoodIn wsX1_transfer (va_wsS RX1 51 yX1_isValid wsX1_isValid) := goodIn_app (goodIn_of _ (by decide +kernel)) ggX1_transfer_X1_isValid
set_option maxRecDepth 20000 in
theorem ggX1_transfer_X1_numberOf : GoodIn wsX1_transfer wsX1_numberOf := goodIn_r _ [29, 30] (by decide +kernel) (by decide +kernel)
set_option maxRecDepth 20000 in
theorem gX1_transfer_X1_numberOf : GoodIn wsX1_transfer (va_wsS RX1 55 yX1_numberOf wsX1_numberOf) := goodIn_app (goodIn_of _ (by decide +kernel)) ggX1_transfer_X1_numberOf
set_option maxRecDepth 20000 in
theorem ggX1_transfer_X1_look : GoodIn wsX1_transfer wsX1_look := goodIn_r _ [39, 1, 40, 41, 42, 8, 43, 44, 3, 45, 46, 63, 64, 65, 66, 67, 68, 69, 70, 71, 72, 73] (by decide +kernel) (by decide +kernel)
set_option maxRecDepth 20000 in
theorem gX1_transfer_X1_look : GoodIn wsX1_transfer (wsV RX1 90 RX1 yX1_look wsX1_look) := goodIn_app (goodIn_of _ (by decide +kernel)) ggX1_transfer_X1_look
set_option maxRecDepth 20000 in
theorem ggX1_transfer_X1_wordOf : GoodIn wsX1_transfer wsX1_wordOf := goodIn_r _ [49, 23, 24, 8, 25, 22, 26] (by decide +kernel) (by decide +kernel)
set_option maxRecDepth 20000 in
theorem gX1_transfer_X1_wordOf : GoodIn wsX1_transfer (va_wsS RX1 37 yX1_wordOf wsX1_wordOf) := goodIn_app (goodIn_of _ (by decide +kernel)) ggX1_transfer_X1_wordOf
set_option maxRecDepth 20000 in
theorem ggX1_transfer_X1_putAll : GoodIn wsX1_transfer wsX1_putAll := goodIn_r _ [53, 40, 41, 42, 8, 43, 44, 3, 45, 46, 63, 64, 65, 66, 67, 68, 69, 70, 71, 72, 73] (by decide +kernel) (by decide +kernel)
set_option maxRecDepth 20000 in
theorem gX1_transfer_X1_putAll : GoodIn wsX1_transfer (wsV RX1 80 RX1 yX1_putAll wsX1_putAll) := goodIn_app (goodIn_of _ (by decide +kernel)) ggX1_transfer_X1_putAll
set_option maxRecDepth 20000 in
theorem ggX1_transfer_X1_works : GoodIn wsX1_transfer wsX1_works := goodIn_r _ [57, 3, 58, 59, 44, 60, 1, 45, 61, 46, 62, 63, 64, 65, 66, 67, 68, 69, 70, 71, 72, 73] (by decide +kernel) (by decide +kernel)
set_option maxRecDepth 20000 in
theorem gX1_transfer_X1_works : GoodIn wsX1_transfer (wsV RX1 84 RX1 yX1_works wsX1_works) := goodIn_app (goodIn_of _ (by decide +kernel)) ggX1_transfer_X1_works
theorem dX1_transfer_0 : decode cX1_transfer 0 = .ok (.iload_n 1, 1) := by decide +kernel
theorem dX1_transfer_1 : decode cX1_transfer 1 = .ok (.invokestatic 76, 3) := by decide +kernel
theorem dX1_transfer_4 : decode cX1_transfer 4 = .ok (.ifCond .eq 19, 3) := by decide +kernel
theorem dX1_transfer_7 : decode cX1_transfer 7 = .ok (.iload_n 2, 1) := by decide +kernel
theorem dX1_transfer_8 : decode cX1_transfer 8 = .ok (.invokestatic 76, 3) := by decide +kernel
theorem dX1_transfer_11 : decode cX1_transfer 11 = .ok (.ifCond .eq 12, 3) := by decide +kernel
theorem dX1_transfer_14 : decode cX1_transfer 14 = .ok (.iload_n 1, 1) := by decide +kernel
theorem dX1_transfer_15 : decode cX1_transfer 15 = .ok (.iload_n 2, 1) := by decide +kernel
theorem dX1_transfer_16 : decode cX1_transfer 16 = .ok (.if_icmp .eq 7, 3) := by decide +kernel
theorem dX1_transfer_19 : decode cX1_transfer 19 = .ok (.iload_n 3, 1) := by decide +kernel
theorem dX1_transfer_20 : decode cX1_transfer 20 = .ok (.ifCond .ge 5, 3) := by decide +kernel
theorem dX1_transfer_23 : decode cX1_transfer 23 = .ok (.iconst (-1), 1) := by decide +kernel
theorem dX1_transfer_24 : decode cX1_transfer 24 = .ok (.ireturn, 1) := by decide +kernel
theorem dX1_transfer_25 : decode cX1_transfer 25 = .ok (.aload_n 0, 1) := by decide +kernel
theorem dX1_transfer_26 : decode cX1_transfer 26 = .ok (.getfield 7, 3) := by decide +kernel
theorem dX1_transfer_29 : decode cX1_transfer 29 = .ok (.iload_n 1, 1) := by decide +kernel
theorem dX1_transfer_30 : decode cX1_transfer 30 = .ok (.laload, 1) := by decide +kernel
theorem dX1_transfer_31 : decode cX1_transfer 31 = .ok (.lstore 4, 2) := by decide +kernel
theorem dX1_transfer_33 : decode cX1_transfer 33 = .ok (.aload_n 0, 1) := by decide +kernel
theorem dX1_transfer_34 : decode cX1_transfer 34 = .ok (.getfield 7, 3) := by decide +kernel
theorem dX1_transfer_37 : decode cX1_transfer 37 = .ok (.iload_n 2, 1) := by decide +kernel
theorem dX1_transfer_38 : decode cX1_transfer 38 = .ok (.laload, 1) := by decide +kernel
theorem dX1_transfer_39 : decode cX1_transfer 39 = .ok (.lstore 6, 2) := by decide +kernel
theorem dX1_transfer_41 : decode cX1_transfer 41 = .ok (.aload_n 0, 1) := by decide +kernel
theorem dX1_transfer_42 : decode cX1_transfer 42 = .ok (.getfield 7, 3) := by decide +kernel
theorem dX1_transfer_45 : decode cX1_transfer 45 = .ok (.bipush 16, 2) := by decide +kernel
theorem dX1_transfer_47 : decode cX1_transfer 47 = .ok (.laload, 1) := by decide +kernel
theorem dX1_transfer_48 : decode cX1_transfer 48 = .ok (.lstore 8, 2) := by decide +kernel
theorem dX1_transfer_50 : decode cX1_transfer 50 = .ok (.lload 4, 2) := by decide +kernel
theorem dX1_transfer_52 : decode cX1_transfer 52 = .ok (.invokestatic 100, 3) := by decide +kernel
theorem dX1_transfer_55 : decode cX1_transfer 55 = .ok (.i2l, 1) := by decide +kernel
theorem dX1_transfer_56 : decode cX1_transfer 56 = .ok (.iload_n 3, 1) := by decide +kernel
theorem dX1_transfer_57 : decode cX1_transfer 57 = .ok (.i2l, 1) := by decide +kernel
theorem dX1_transfer_58 : decode cX1_transfer 58 = .ok (.lsub, 1) := by decide +kernel
theorem dX1_transfer_59 : decode cX1_transfer 59 = .ok (.lstore 10, 2) := by decide +kernel
theorem dX1_transfer_61 : decode cX1_transfer 61 = .ok (.lload 6, 2) := by decide +kernel
theorem dX1_transfer_63 : decode cX1_transfer 63 = .ok (.invokestatic 100, 3) := by decide +kernel
theorem dX1_transfer_66 : decode cX1_transfer 66 = .ok (.i2l, 1) := by decide +kernel
theorem dX1_transfer_67 : decode cX1_transfer 67 = .ok (.iload_n 3, 1) := by decide +kernel
theorem dX1_transfer_68 : decode cX1_transfer 68 = .ok (.i2l, 1) := by decide +kernel
theorem dX1_transfer_69 : decode cX1_transfer 69 = .ok (.ladd, 1) := by decide +kernel
theorem dX1_transfer_70 : decode cX1_transfer 70 = .ok (.lstore 12, 2) := by decide +kernel
theorem dX1_transfer_72 : decode cX1_transfer 72 = .ok (.lload 4, 2) := by decide +kernel
theorem dX1_transfer_74 : decode cX1_transfer 74 = .ok (.lload 10, 2) := by decide +kernel
theorem dX1_transfer_76 : decode cX1_transfer 76 = .ok (.invokestatic 110, 3) := by decide +kernel
theorem dX1_transfer_79 : decode cX1_transfer 79 = .ok (.ifCond .eq 35, 3) := by decide +kernel
theorem dX1_transfer_82 : decode cX1_transfer 82 = .ok (.lload 6, 2) := by decide +kernel
end
section
theorem dX1_transfer_84 : decode cX1_transfer 84 = .ok (.lload 12, 2) := by decide +kernel
theorem dX1_transfer_86 : decode cX1_transfer 86 = .ok (.invokestatic 110, 3) := by decide +kernel
theorem dX1_transfer_89 : decode cX1_transfer 89 = .ok (.ifCond .eq 25, 3) := by decide +kernel
theorem dX1_transfer_92 : decode cX1_transfer 92 = .ok (.lload 8, 2) := by decide +kernel
theorem dX1_transfer_94 : decode cX1_transfer 94 = .ok (.invokestatic 51, 3) := by decide +kernel
theorem dX1_transfer_97 : decode cX1_transfer 97 = .ok (.ifCond .eq 17, 3) := by decide +kernel
theorem dX1_transfer_100 : decode cX1_transfer 100 = .ok (.lload 8, 2) := by decide +kernel
theorem dX1_transfer_102 : decode cX1_transfer 102 = .ok (.invokestatic 55, 3) := by decide +kernel
theorem dX1_transfer_105 : decode cX1_transfer 105 = .ok (.ldc 106, 2) := by decide +kernel
theorem dX1_transfer_107 : decode cX1_transfer 107 = .ok (.if_icmp .ge 7, 3) := by decide +kernel
theorem dX1_transfer_110 : decode cX1_transfer 110 = .ok (.iconst 1, 1) := by decide +kernel
theorem dX1_transfer_111 : decode cX1_transfer 111 = .ok (.goto 4, 3) := by decide +kernel
theorem dX1_transfer_114 : decode cX1_transfer 114 = .ok (.iconst 0, 1) := by decide +kernel
theorem dX1_transfer_115 : decode cX1_transfer 115 = .ok (.istore 14, 2) := by decide +kernel
theorem dX1_transfer_117 : decode cX1_transfer 117 = .ok (.aload_n 0, 1) := by decide +kernel
theorem dX1_transfer_118 : decode cX1_transfer 118 = .ok (.iconst 0, 1) := by decide +kernel
theorem dX1_transfer_119 : decode cX1_transfer 119 = .ok (.putfield 63, 3) := by decide +kernel
theorem dX1_transfer_122 : decode cX1_transfer 122 = .ok (.aload_n 0, 1) := by decide +kernel
theorem dX1_transfer_123 : decode cX1_transfer 123 = .ok (.iload_n 1, 1) := by decide +kernel
theorem dX1_transfer_124 : decode cX1_transfer 124 = .ok (.invokevirtual 90, 3) := by decide +kernel
theorem dX1_transfer_127 : decode cX1_transfer 127 = .ok (.aload_n 0, 1) := by decide +kernel
theorem dX1_transfer_128 : decode cX1_transfer 128 = .ok (.iload_n 2, 1) := by decide +kernel
theorem dX1_transfer_129 : decode cX1_transfer 129 = .ok (.invokevirtual 90, 3) := by decide +kernel
theorem dX1_transfer_132 : decode cX1_transfer 132 = .ok (.aload_n 0, 1) := by decide +kernel
theorem dX1_transfer_133 : decode cX1_transfer 133 = .ok (.bipush 16, 2) := by decide +kernel
theorem dX1_transfer_135 : decode cX1_transfer 135 = .ok (.invokevirtual 90, 3) := by decide +kernel
theorem dX1_transfer_138 : decode cX1_transfer 138 = .ok (.iload 14, 2) := by decide +kernel
theorem dX1_transfer_140 : decode cX1_transfer 140 = .ok (.ifCond .eq 137, 3) := by decide +kernel
theorem dX1_transfer_143 : decode cX1_transfer 143 = .ok (.lload 8, 2) := by decide +kernel
theorem dX1_transfer_145 : decode cX1_transfer 145 = .ok (.invokestatic 55, 3) := by decide +kernel
theorem dX1_transfer_148 : decode cX1_transfer 148 = .ok (.iconst 1, 1) := by decide +kernel
theorem dX1_transfer_149 : decode cX1_transfer 149 = .ok (.iadd, 1) := by decide +kernel
theorem dX1_transfer_150 : decode cX1_transfer 150 = .ok (.istore 15, 2) := by decide +kernel
theorem dX1_transfer_152 : decode cX1_transfer 152 = .ok (.sipush 256, 3) := by decide +kernel
theorem dX1_transfer_155 : decode cX1_transfer 155 = .ok (.iload_n 1, 1) := by decide +kernel
theorem dX1_transfer_156 : decode cX1_transfer 156 = .ok (.imul, 1) := by decide +kernel
theorem dX1_transfer_157 : decode cX1_transfer 157 = .ok (.iload_n 2, 1) := by decide +kernel
theorem dX1_transfer_158 : decode cX1_transfer 158 = .ok (.iadd, 1) := by decide +kernel
theorem dX1_transfer_159 : decode cX1_transfer 159 = .ok (.istore 16, 2) := by decide +kernel
theorem dX1_transfer_161 : decode cX1_transfer 161 = .ok (.aload_n 0, 1) := by decide +kernel
theorem dX1_transfer_162 : decode cX1_transfer 162 = .ok (.bipush 16, 2) := by decide +kernel
theorem dX1_transfer_164 : decode cX1_transfer 164 = .ok (.iload_n 3, 1) := by decide +kernel
theorem dX1_transfer_165 : decode cX1_transfer 165 = .ok (.iload 15, 2) := by decide +kernel
theorem dX1_transfer_167 : decode cX1_transfer 167 = .ok (.invokestatic 37, 3) := by decide +kernel
theorem dX1_transfer_170 : decode cX1_transfer 170 = .ok (.invokevirtual 80, 3) := by decide +kernel
theorem dX1_transfer_173 : decode cX1_transfer 173 = .ok (.aload_n 0, 1) := by decide +kernel
theorem dX1_transfer_174 : decode cX1_transfer 174 = .ok (.bipush 17, 2) := by decide +kernel
theorem dX1_transfer_176 : decode cX1_transfer 176 = .ok (.lload 4, 2) := by decide +kernel
theorem dX1_transfer_178 : decode cX1_transfer 178 = .ok (.invokestatic 55, 3) := by decide +kernel
theorem dX1_transfer_181 : decode cX1_transfer 181 = .ok (.iconst 1, 1) := by decide +kernel
theorem dX1_transfer_182 : decode cX1_transfer 182 = .ok (.iadd, 1) := by decide +kernel
theorem dX1_transfer_183 : decode cX1_transfer 183 = .ok (.iload 15, 2) := by decide +kernel
theorem dX1_transfer_185 : decode cX1_transfer 185 = .ok (.invokestatic 37, 3) := by decide +kernel
theorem dX1_transfer_188 : decode cX1_transfer 188 = .ok (.invokevirtual 80, 3) := by decide +kernel
theorem dX1_transfer_191 : decode cX1_transfer 191 = .ok (.aload_n 0, 1) := by decide +kernel
theorem dX1_transfer_192 : decode cX1_transfer 192 = .ok (.bipush 18, 2) := by decide +kernel
theorem dX1_transfer_194 : decode cX1_transfer 194 = .ok (.lload 6, 2) := by decide +kernel
theorem dX1_transfer_196 : decode cX1_transfer 196 = .ok (.invokestatic 55, 3) := by decide +kernel
theorem dX1_transfer_199 : decode cX1_transfer 199 = .ok (.iconst 1, 1) := by decide +kernel
theorem dX1_transfer_200 : decode cX1_transfer 200 = .ok (.iadd, 1) := by decide +kernel
theorem dX1_transfer_201 : decode cX1_transfer 201 = .ok (.iload 15, 2) := by decide +kernel
theorem dX1_transfer_203 : decode cX1_transfer 203 = .ok (.invokestatic 37, 3) := by decide +kernel
theorem dX1_transfer_206 : decode cX1_transfer 206 = .ok (.invokevirtual 80, 3) := by decide +kernel
theorem dX1_transfer_209 : decode cX1_transfer 209 = .ok (.aload_n 0, 1) := by decide +kernel
theorem dX1_transfer_210 : decode cX1_transfer 210 = .ok (.bipush 19, 2) := by decide +kernel
theorem dX1_transfer_212 : decode cX1_transfer 212 = .ok (.iload 16, 2) := by decide +kernel
theorem dX1_transfer_214 : decode cX1_transfer 214 = .ok (.ldc 114, 2) := by decide +kernel
theorem dX1_transfer_216 : decode cX1_transfer 216 = .ok (.iadd, 1) := by decide +kernel
theorem dX1_transfer_217 : decode cX1_transfer 217 = .ok (.iload 15, 2) := by decide +kernel
theorem dX1_transfer_219 : decode cX1_transfer 219 = .ok (.invokestatic 37, 3) := by decide +kernel
theorem dX1_transfer_222 : decode cX1_transfer 222 = .ok (.invokevirtual 80, 3) := by decide +kernel
theorem dX1_transfer_225 : decode cX1_transfer 225 = .ok (.aload_n 0, 1) := by decide +kernel
theorem dX1_transfer_226 : decode cX1_transfer 226 = .ok (.iload_n 1, 1) := by decide +kernel
theorem dX1_transfer_227 : decode cX1_transfer 227 = .ok (.lload 10, 2) := by decide +kernel
theorem dX1_transfer_229 : decode cX1_transfer 229 = .ok (.l2i, 1) := by decide +kernel
theorem dX1_transfer_230 : decode cX1_transfer 230 = .ok (.lload 4, 2) := by decide +kernel
theorem dX1_transfer_232 : decode cX1_transfer 232 = .ok (.invokestatic 55, 3) := by decide +kernel
theorem dX1_transfer_235 : decode cX1_transfer 235 = .ok (.iconst 1, 1) := by decide +kernel
theorem dX1_transfer_236 : decode cX1_transfer 236 = .ok (.iadd, 1) := by decide +kernel
theorem dX1_transfer_237 : decode cX1_transfer 237 = .ok (.invokestatic 37, 3) := by decide +kernel
theorem dX1_transfer_240 : decode cX1_transfer 240 = .ok (.invokevirtual 80, 3) := by decide +kernel
theorem dX1_transfer_243 : decode cX1_transfer 243 = .ok (.aload_n 0, 1) := by decide +kernel
theorem dX1_transfer_244 : decode cX1_transfer 244 = .ok (.iload_n 2, 1) := by decide +kernel
theorem dX1_transfer_245 : decode cX1_transfer 245 = .ok (.lload 12, 2) := by decide +kernel
theorem dX1_transfer_247 : decode cX1_transfer 247 = .ok (.l2i, 1) := by decide +kernel
theorem dX1_transfer_248 : decode cX1_transfer 248 = .ok (.lload 6, 2) := by decide +kernel
theorem dX1_transfer_250 : decode cX1_transfer 250 = .ok (.invokestatic 55, 3) := by decide +kernel
theorem dX1_transfer_253 : decode cX1_transfer 253 = .ok (.iconst 1, 1) := by decide +kernel
theorem dX1_transfer_254 : decode cX1_transfer 254 = .ok (.iadd, 1) := by decide +kernel
theorem dX1_transfer_255 : decode cX1_transfer 255 = .ok (.invokestatic 37, 3) := by decide +kernel
theorem dX1_transfer_258 : decode cX1_transfer 258 = .ok (.invokevirtual 80, 3) := by decide +kernel
theorem dX1_transfer_261 : decode cX1_transfer 261 = .ok (.aload_n 0, 1) := by decide +kernel
theorem dX1_transfer_262 : decode cX1_transfer 262 = .ok (.bipush 19, 2) := by decide +kernel
theorem dX1_transfer_264 : decode cX1_transfer 264 = .ok (.iload 16, 2) := by decide +kernel
theorem dX1_transfer_266 : decode cX1_transfer 266 = .ok (.ldc 115, 2) := by decide +kernel
theorem dX1_transfer_268 : decode cX1_transfer 268 = .ok (.iadd, 1) := by decide +kernel
theorem dX1_transfer_269 : decode cX1_transfer 269 = .ok (.iload 15, 2) := by decide +kernel
theorem dX1_transfer_271 : decode cX1_transfer 271 = .ok (.invokestatic 37, 3) := by decide +kernel
theorem dX1_transfer_274 : decode cX1_transfer 274 = .ok (.invokevirtual 80, 3) := by decide +kernel
theorem dX1_transfer_277 : decode cX1_transfer 277 = .ok (.aload_n 0, 1) := by decide +kernel
theorem dX1_transfer_278 : decode cX1_transfer 278 = .ok (.invokevirtual 84, 3) := by decide +kernel
theorem dX1_transfer_281 : decode cX1_transfer 281 = .ok (.ifCond .ne 8, 3) := by decide +kernel
theorem dX1_transfer_284 : decode cX1_transfer 284 = .ok (.bipush (-2), 2) := by decide +kernel
theorem dX1_transfer_286 : decode cX1_transfer 286 = .ok (.goto 13, 3) := by decide +kernel
theorem dX1_transfer_289 : decode cX1_transfer 289 = .ok (.iload 14, 2) := by decide +kernel
theorem dX1_transfer_291 : decode cX1_transfer 291 = .ok (.ifCond .eq 7, 3) := by decide +kernel
theorem dX1_transfer_294 : decode cX1_transfer 294 = .ok (.iconst 1, 1) := by decide +kernel
theorem dX1_transfer_295 : decode cX1_transfer 295 = .ok (.goto 4, 3) := by decide +kernel
theorem dX1_transfer_298 : decode cX1_transfer 298 = .ok (.iconst (-1), 1) := by decide +kernel
theorem dX1_transfer_299 : decode cX1_transfer 299 = .ok (.ireturn, 1) := by decide +kernel
set_option maxRecDepth 20000 in
theorem ggX1_total_X1_look : GoodIn wsX1_total wsX1_look := goodIn_r _ [8, 2, 9, 10, 11, 7, 12, 13, 1, 14, 15, 43, 44, 45, 46, 47, 48, 49, 50, 51, 52, 53] (by decide +kernel) (by decide +kernel)
set_option maxRecDepth 20000 in
theorem gX1_total_X1_look : GoodIn wsX1_total (wsV RX1 90 RX1 yX1_look wsX1_look) := goodIn_app (goodIn_of _ (by decide +kernel)) ggX1_total_X1_look
set_option maxRecDepth 20000 in
theorem ggX1_total_X1_isOpen : GoodIn wsX1_total wsX1_isOpen := goodIn_r _ [18, 19, 20, 7, 21, 22, 23, 24, 25, 26, 27, 28, 29, 30] (by decide +kernel) (by decide +kernel)
set_option maxRecDepth 20000 in
theorem gX1_total_X1_isOpen : GoodIn wsX1_total (va_wsS RX1 103 yX1_isOpen wsX1_isOpen) := goodIn_app (goodIn_of _ (by decide +kernel)) ggX1_total_X1_isOpen
set_option maxRecDepth 20000 in
theorem ggX1_total_X1_balanceOf : GoodIn wsX1_total wsX1_balanceOf := goodIn_r _ [33] (by decide +kernel) (by decide +kernel)
set_option maxRecDepth 20000 in
theorem gX1_total_X1_balanceOf : GoodIn wsX1_total (va_wsS RX1 100 yX1_balanceOf wsX1_balanceOf) := goodIn_app (goodIn_of _ (by decide +kernel)) ggX1_total_X1_balanceOf
set_option maxRecDepth 20000 in
theorem ggX1_total_X1_works : GoodIn wsX1_total wsX1_works := goodIn_r _ [37, 1, 38, 39, 13, 40, 2, 14, 41, 15, 42, 43, 44, 45, 46, 47, 48, 49, 50, 51, 52, 53] (by decide +kernel) (by decide +kernel)
set_option maxRecDepth 20000 in
theorem gX1_total_X1_works : GoodIn wsX1_total (wsV RX1 84 RX1 yX1_works wsX1_works) := goodIn_app (goodIn_of _ (by decide +kernel)) ggX1_total_X1_works
theorem dX1_total_0 : decode cX1_total 0 = .ok (.lconst 0, 1) := by decide +kernel
theorem dX1_total_1 : decode cX1_total 1 = .ok (.lstore_n 1, 1) := by decide +kernel
theorem dX1_total_2 : decode cX1_total 2 = .ok (.aload_n 0, 1) := by decide +kernel
theorem dX1_total_3 : decode cX1_total 3 = .ok (.iconst 0, 1) := by decide +kernel
theorem dX1_total_4 : decode cX1_total 4 = .ok (.putfield 63, 3) := by decide +kernel
theorem dX1_total_7 : decode cX1_total 7 = .ok (.iconst 0, 1) := by decide +kernel
theorem dX1_total_8 : decode cX1_total 8 = .ok (.istore_n 3, 1) := by decide +kernel
theorem dX1_total_9 : decode cX1_total 9 = .ok (.iload_n 3, 1) := by decide +kernel
theorem dX1_total_10 : decode cX1_total 10 = .ok (.bipush 16, 2) := by decide +kernel
theorem dX1_total_12 : decode cX1_total 12 = .ok (.if_icmp .ge 43, 3) := by decide +kernel
theorem dX1_total_15 : decode cX1_total 15 = .ok (.aload_n 0, 1) := by decide +kernel
theorem dX1_total_16 : decode cX1_total 16 = .ok (.iload_n 3, 1) := by decide +kernel
theorem dX1_total_17 : decode cX1_total 17 = .ok (.invokevirtual 90, 3) := by decide +kernel
theorem dX1_total_20 : decode cX1_total 20 = .ok (.lload_n 1, 1) := by decide +kernel
theorem dX1_total_21 : decode cX1_total 21 = .ok (.aload_n 0, 1) := by decide +kernel
theorem dX1_total_22 : decode cX1_total 22 = .ok (.getfield 7, 3) := by decide +kernel
theorem dX1_total_25 : decode cX1_total 25 = .ok (.iload_n 3, 1) := by decide +kernel
theorem dX1_total_26 : decode cX1_total 26 = .ok (.laload, 1) := by decide +kernel
theorem dX1_total_27 : decode cX1_total 27 = .ok (.invokestatic 103, 3) := by decide +kernel
theorem dX1_total_30 : decode cX1_total 30 = .ok (.ifCond .eq 16, 3) := by decide +kernel
theorem dX1_total_33 : decode cX1_total 33 = .ok (.aload_n 0, 1) := by decide +kernel
theorem dX1_total_34 : decode cX1_total 34 = .ok (.getfield 7, 3) := by decide +kernel
theorem dX1_total_37 : decode cX1_total 37 = .ok (.iload_n 3, 1) := by decide +kernel
theorem dX1_total_38 : decode cX1_total 38 = .ok (.laload, 1) := by decide +kernel
theorem dX1_total_39 : decode cX1_total 39 = .ok (.invokestatic 100, 3) := by decide +kernel
theorem dX1_total_42 : decode cX1_total 42 = .ok (.i2l, 1) := by decide +kernel
theorem dX1_total_43 : decode cX1_total 43 = .ok (.goto 4, 3) := by decide +kernel
theorem dX1_total_46 : decode cX1_total 46 = .ok (.lconst 0, 1) := by decide +kernel
theorem dX1_total_47 : decode cX1_total 47 = .ok (.ladd, 1) := by decide +kernel
theorem dX1_total_48 : decode cX1_total 48 = .ok (.lstore_n 1, 1) := by decide +kernel
theorem dX1_total_49 : decode cX1_total 49 = .ok (.iinc 3 1, 3) := by decide +kernel
theorem dX1_total_52 : decode cX1_total 52 = .ok (.goto (-43), 3) := by decide +kernel
theorem dX1_total_55 : decode cX1_total 55 = .ok (.aload_n 0, 1) := by decide +kernel
theorem dX1_total_56 : decode cX1_total 56 = .ok (.invokevirtual 84, 3) := by decide +kernel
theorem dX1_total_59 : decode cX1_total 59 = .ok (.ifCond .eq 7, 3) := by decide +kernel
theorem dX1_total_62 : decode cX1_total 62 = .ok (.lload_n 1, 1) := by decide +kernel
theorem dX1_total_63 : decode cX1_total 63 = .ok (.goto 6, 3) := by decide +kernel
theorem dX1_total_66 : decode cX1_total 66 = .ok (.ldc2_w 94, 3) := by decide +kernel
theorem dX1_total_69 : decode cX1_total 69 = .ok (.lreturn, 1) := by decide +kernel
set_option maxRecDepth 20000 in
theorem ggX1_number_X1_isAccount : GoodIn wsX1_number wsX1_isAccount := goodIn_r _ [6] (by decide +kernel) (by decide +kernel)
set_option maxRecDepth 20000 in
theorem gX1_number_X1_isAccount : GoodIn wsX1_number (va_wsS RX1 76 yX1_isAccount wsX1_isAccount) := goodIn_app (goodIn_of _ (by decide +kernel)) ggX1_number_X1_isAccount
set_option maxRecDepth 20000 in
theorem ggX1_number_X1_look : GoodIn wsX1_number wsX1_look := goodIn_r _ [10, 1, 11, 12, 13, 5, 14, 15, 2, 16, 17, 39, 40, 41, 42, 43, 44, 45, 46, 47, 48, 49] (by decide +kernel) (by decide +kernel)
set_option maxRecDepth 20000 in
theorem gX1_number_X1_look : GoodIn wsX1_number (wsV RX1 90 RX1 yX1_look wsX1_look) := goodIn_app (goodIn_of _ (by decide +kernel)) ggX1_number_X1_look
set_option maxRecDepth 20000 in
theorem ggX1_number_X1_works : GoodIn wsX1_number wsX1_works := goodIn_r _ [21, 2, 22, 23, 15, 24, 1, 16, 25, 17, 26, 39, 40, 41, 42, 43, 44, 45, 46, 47, 48, 49] (by decide +kernel) (by decide +kernel)
set_option maxRecDepth 20000 in
theorem gX1_number_X1_works : GoodIn wsX1_number (wsV RX1 84 RX1 yX1_works wsX1_works) := goodIn_app (goodIn_of _ (by decide +kernel)) ggX1_number_X1_works
set_option maxRecDepth 20000 in
theorem ggX1_number_X1_isValid : GoodIn wsX1_number wsX1_isValid := goodIn_r _ [29, 30, 31, 32, 5, 33, 34] (by decide +kernel) (by decide +kernel)
set_option maxRecDepth 20000 in
theorem gX1_number_X1_isValid : GoodIn wsX1_number (va_wsS RX1 51 yX1_isValid wsX1_isValid) := goodIn_app (goodIn_of _ (by decide +kernel)) ggX1_number_X1_isValid
set_option maxRecDepth 20000 in
theorem ggX1_number_X1_numberOf : GoodIn wsX1_number wsX1_numberOf := goodIn_r _ [37, 38] (by decide +kernel) (by decide +kernel)
set_option maxRecDepth 20000 in
theorem gX1_number_X1_numberOf : GoodIn wsX1_number (va_wsS RX1 55 yX1_numberOf wsX1_numberOf) := goodIn_app (goodIn_of _ (by decide +kernel)) ggX1_number_X1_numberOf
theorem dX1_number_0 : decode cX1_number 0 = .ok (.iload_n 1, 1) := by decide +kernel
theorem dX1_number_1 : decode cX1_number 1 = .ok (.invokestatic 76, 3) := by decide +kernel
theorem dX1_number_4 : decode cX1_number 4 = .ok (.ifCond .ne 5, 3) := by decide +kernel
theorem dX1_number_7 : decode cX1_number 7 = .ok (.iconst (-1), 1) := by decide +kernel
theorem dX1_number_8 : decode cX1_number 8 = .ok (.ireturn, 1) := by decide +kernel
theorem dX1_number_9 : decode cX1_number 9 = .ok (.aload_n 0, 1) := by decide +kernel
theorem dX1_number_10 : decode cX1_number 10 = .ok (.getfield 7, 3) := by decide +kernel
theorem dX1_number_13 : decode cX1_number 13 = .ok (.iload_n 1, 1) := by decide +kernel
theorem dX1_number_14 : decode cX1_number 14 = .ok (.laload, 1) := by decide +kernel
theorem dX1_number_15 : decode cX1_number 15 = .ok (.lstore_n 2, 1) := by decide +kernel
theorem dX1_number_16 : decode cX1_number 16 = .ok (.aload_n 0, 1) := by decide +kernel
theorem dX1_number_17 : decode cX1_number 17 = .ok (.iconst 0, 1) := by decide +kernel
theorem dX1_number_18 : decode cX1_number 18 = .ok (.putfield 63, 3) := by decide +kernel
theorem dX1_number_21 : decode cX1_number 21 = .ok (.aload_n 0, 1) := by decide +kernel
theorem dX1_number_22 : decode cX1_number 22 = .ok (.iload_n 1, 1) := by decide +kernel
theorem dX1_number_23 : decode cX1_number 23 = .ok (.invokevirtual 90, 3) := by decide +kernel
theorem dX1_number_26 : decode cX1_number 26 = .ok (.aload_n 0, 1) := by decide +kernel
theorem dX1_number_27 : decode cX1_number 27 = .ok (.invokevirtual 84, 3) := by decide +kernel
theorem dX1_number_30 : decode cX1_number 30 = .ok (.ifCond .ne 8, 3) := by decide +kernel
theorem dX1_number_33 : decode cX1_number 33 = .ok (.bipush (-2), 2) := by decide +kernel
theorem dX1_number_35 : decode cX1_number 35 = .ok (.goto 18, 3) := by decide +kernel
theorem dX1_number_38 : decode cX1_number 38 = .ok (.lload_n 2, 1) := by decide +kernel
theorem dX1_number_39 : decode cX1_number 39 = .ok (.invokestatic 51, 3) := by decide +kernel
theorem dX1_number_42 : decode cX1_number 42 = .ok (.ifCond .eq 10, 3) := by decide +kernel
theorem dX1_number_45 : decode cX1_number 45 = .ok (.lload_n 2, 1) := by decide +kernel
theorem dX1_number_46 : decode cX1_number 46 = .ok (.invokestatic 55, 3) := by decide +kernel
theorem dX1_number_49 : decode cX1_number 49 = .ok (.goto 4, 3) := by decide +kernel
theorem dX1_number_52 : decode cX1_number 52 = .ok (.iconst (-1), 1) := by decide +kernel
theorem dX1_number_53 : decode cX1_number 53 = .ok (.ireturn, 1) := by decide +kernel
theorem dX1_failAfter_0 : decode cX1_failAfter 0 = .ok (.iload_n 1, 1) := by decide +kernel
theorem dX1_failAfter_1 : decode cX1_failAfter 1 = .ok (.ifCond .ge 5, 3) := by decide +kernel
theorem dX1_failAfter_4 : decode cX1_failAfter 4 = .ok (.iconst 0, 1) := by decide +kernel
theorem dX1_failAfter_5 : decode cX1_failAfter 5 = .ok (.ireturn, 1) := by decide +kernel
theorem dX1_failAfter_6 : decode cX1_failAfter 6 = .ok (.aload_n 0, 1) := by decide +kernel
theorem dX1_failAfter_7 : decode cX1_failAfter 7 = .ok (.iload_n 1, 1) := by decide +kernel
theorem dX1_failAfter_8 : decode cX1_failAfter 8 = .ok (.putfield 21, 3) := by decide +kernel
theorem dX1_failAfter_11 : decode cX1_failAfter 11 = .ok (.iconst 1, 1) := by decide +kernel
theorem dX1_failAfter_12 : decode cX1_failAfter 12 = .ok (.ireturn, 1) := by decide +kernel
theorem dX1_fail_0 : decode cX1_fail 0 = .ok (.aload_n 0, 1) := by decide +kernel
theorem dX1_fail_1 : decode cX1_fail 1 = .ok (.getfield 17, 3) := by decide +kernel
theorem dX1_fail_4 : decode cX1_fail 4 = .ok (.ifCond .ne 5, 3) := by decide +kernel
theorem dX1_fail_7 : decode cX1_fail 7 = .ok (.iconst 0, 1) := by decide +kernel
theorem dX1_fail_8 : decode cX1_fail 8 = .ok (.ireturn, 1) := by decide +kernel
theorem dX1_fail_9 : decode cX1_fail 9 = .ok (.aload_n 0, 1) := by decide +kernel
theorem dX1_fail_10 : decode cX1_fail 10 = .ok (.iconst 0, 1) := by decide +kernel
theorem dX1_fail_11 : decode cX1_fail 11 = .ok (.putfield 17, 3) := by decide +kernel
theorem dX1_fail_14 : decode cX1_fail 14 = .ok (.aload_n 0, 1) := by decide +kernel
theorem dX1_fail_15 : decode cX1_fail 15 = .ok (.iconst (-1), 1) := by decide +kernel
theorem dX1_fail_16 : decode cX1_fail 16 = .ok (.putfield 21, 3) := by decide +kernel
theorem dX1_fail_19 : decode cX1_fail 19 = .ok (.iconst 1, 1) := by decide +kernel
theorem dX1_fail_20 : decode cX1_fail 20 = .ok (.ireturn, 1) := by decide +kernel
set_option maxRecDepth 20000 in
theorem ggX1_best_X1_isValid : GoodIn wsX1_best wsX1_isValid := goodIn_r _ [5, 6, 7, 8, 4, 9, 10] (by decide +kernel) (by decide +kernel)
set_option maxRecDepth 20000 in
theorem gX1_best_X1_isValid : GoodIn wsX1_best (va_wsS RX1 51 yX1_isValid wsX1_isValid) := goodIn_app (goodIn_of _ (by decide +kernel)) ggX1_best_X1_isValid
set_option maxRecDepth 20000 in
theorem ggX1_best_X1_numberOf : GoodIn wsX1_best wsX1_numberOf := goodIn_r _ [13, 14] (by decide +kernel) (by decide +kernel)
set_option maxRecDepth 20000 in
theorem gX1_best_X1_numberOf : GoodIn wsX1_best (va_wsS RX1 55 yX1_numberOf wsX1_numberOf) := goodIn_app (goodIn_of _ (by decide +kernel)) ggX1_best_X1_numberOf
set_option maxRecDepth 20000 in
theorem ggX1_best_X1_balanceOf : GoodIn wsX1_best wsX1_balanceOf := goodIn_r _ [17] (by decide +kernel) (by decide +kernel)
set_option maxRecDepth 20000 in
theorem gX1_best_X1_balanceOf : GoodIn wsX1_best (va_wsS RX1 100 yX1_balanceOf wsX1_balanceOf) := goodIn_app (goodIn_of _ (by decide +kernel)) ggX1_best_X1_balanceOf
theorem dX1_best_0 : decode cX1_best 0 = .ok (.lconst 0, 1) := by decide +kernel
theorem dX1_best_1 : decode cX1_best 1 = .ok (.lstore_n 2, 1) := by decide +kernel
theorem dX1_best_2 : decode cX1_best 2 = .ok (.iconst 0, 1) := by decide +kernel
theorem dX1_best_3 : decode cX1_best 3 = .ok (.istore 4, 2) := by decide +kernel
theorem dX1_best_5 : decode cX1_best 5 = .ok (.iload 4, 2) := by decide +kernel
theorem dX1_best_7 : decode cX1_best 7 = .ok (.iconst 4, 1) := by decide +kernel
theorem dX1_best_8 : decode cX1_best 8 = .ok (.if_icmp .ge 95, 3) := by decide +kernel
theorem dX1_best_11 : decode cX1_best 11 = .ok (.aload_n 0, 1) := by decide +kernel
theorem dX1_best_12 : decode cX1_best 12 = .ok (.getfield 7, 3) := by decide +kernel
theorem dX1_best_15 : decode cX1_best 15 = .ok (.bipush 20, 2) := by decide +kernel
theorem dX1_best_17 : decode cX1_best 17 = .ok (.iload 4, 2) := by decide +kernel
theorem dX1_best_19 : decode cX1_best 19 = .ok (.imul, 1) := by decide +kernel
theorem dX1_best_20 : decode cX1_best 20 = .ok (.iload_n 1, 1) := by decide +kernel
theorem dX1_best_21 : decode cX1_best 21 = .ok (.iadd, 1) := by decide +kernel
theorem dX1_best_22 : decode cX1_best 22 = .ok (.laload, 1) := by decide +kernel
theorem dX1_best_23 : decode cX1_best 23 = .ok (.lstore 5, 2) := by decide +kernel
theorem dX1_best_25 : decode cX1_best 25 = .ok (.lload 5, 2) := by decide +kernel
theorem dX1_best_27 : decode cX1_best 27 = .ok (.invokestatic 51, 3) := by decide +kernel
theorem dX1_best_30 : decode cX1_best 30 = .ok (.ifCond .ne 6, 3) := by decide +kernel
theorem dX1_best_33 : decode cX1_best 33 = .ok (.goto 64, 3) := by decide +kernel
theorem dX1_best_36 : decode cX1_best 36 = .ok (.lload_n 2, 1) := by decide +kernel
theorem dX1_best_37 : decode cX1_best 37 = .ok (.lconst 0, 1) := by decide +kernel
theorem dX1_best_38 : decode cX1_best 38 = .ok (.lcmp, 1) := by decide +kernel
theorem dX1_best_39 : decode cX1_best 39 = .ok (.ifCond .eq 39, 3) := by decide +kernel
theorem dX1_best_42 : decode cX1_best 42 = .ok (.lload 5, 2) := by decide +kernel
theorem dX1_best_44 : decode cX1_best 44 = .ok (.invokestatic 55, 3) := by decide +kernel
theorem dX1_best_47 : decode cX1_best 47 = .ok (.lload_n 2, 1) := by decide +kernel
theorem dX1_best_48 : decode cX1_best 48 = .ok (.invokestatic 55, 3) := by decide +kernel
theorem dX1_best_51 : decode cX1_best 51 = .ok (.if_icmp .gt 27, 3) := by decide +kernel
theorem dX1_best_54 : decode cX1_best 54 = .ok (.lload 5, 2) := by decide +kernel
theorem dX1_best_56 : decode cX1_best 56 = .ok (.invokestatic 55, 3) := by decide +kernel
theorem dX1_best_59 : decode cX1_best 59 = .ok (.lload_n 2, 1) := by decide +kernel
theorem dX1_best_60 : decode cX1_best 60 = .ok (.invokestatic 55, 3) := by decide +kernel
theorem dX1_best_63 : decode cX1_best 63 = .ok (.if_icmp .ne 19, 3) := by decide +kernel
theorem dX1_best_66 : decode cX1_best 66 = .ok (.lload 5, 2) := by decide +kernel
theorem dX1_best_68 : decode cX1_best 68 = .ok (.invokestatic 100, 3) := by decide +kernel
theorem dX1_best_71 : decode cX1_best 71 = .ok (.lload_n 2, 1) := by decide +kernel
theorem dX1_best_72 : decode cX1_best 72 = .ok (.invokestatic 100, 3) := by decide +kernel
theorem dX1_best_75 : decode cX1_best 75 = .ok (.if_icmp .le 7, 3) := by decide +kernel
theorem dX1_best_78 : decode cX1_best 78 = .ok (.iconst 1, 1) := by decide +kernel
theorem dX1_best_79 : decode cX1_best 79 = .ok (.goto 4, 3) := by decide +kernel
theorem dX1_best_82 : decode cX1_best 82 = .ok (.iconst 0, 1) := by decide +kernel
theorem dX1_best_83 : decode cX1_best 83 = .ok (.istore 7, 2) := by decide +kernel
theorem dX1_best_85 : decode cX1_best 85 = .ok (.iload 7, 2) := by decide +kernel
theorem dX1_best_87 : decode cX1_best 87 = .ok (.ifCond .eq 8, 3) := by decide +kernel
theorem dX1_best_90 : decode cX1_best 90 = .ok (.lload 5, 2) := by decide +kernel
theorem dX1_best_92 : decode cX1_best 92 = .ok (.goto 4, 3) := by decide +kernel
theorem dX1_best_95 : decode cX1_best 95 = .ok (.lload_n 2, 1) := by decide +kernel
theorem dX1_best_96 : decode cX1_best 96 = .ok (.lstore_n 2, 1) := by decide +kernel
theorem dX1_best_97 : decode cX1_best 97 = .ok (.iinc 4 1, 3) := by decide +kernel
theorem dX1_best_100 : decode cX1_best 100 = .ok (.goto (-95), 3) := by decide +kernel
theorem dX1_best_103 : decode cX1_best 103 = .ok (.lload_n 2, 1) := by decide +kernel
theorem dX1_best_104 : decode cX1_best 104 = .ok (.lreturn, 1) := by decide +kernel
set_option maxRecDepth 20000 in
theorem ggX1_mend_X1_isValid : GoodIn wsX1_mend wsX1_isValid := goodIn_r _ [6, 7, 8, 9, 5, 10, 11] (by decide +kernel) (by decide +kernel)
set_option maxRecDepth 20000 in
theorem gX1_mend_X1_isValid : GoodIn wsX1_mend (va_wsS RX1 51 yX1_isValid wsX1_isValid) := goodIn_app (goodIn_of _ (by decide +kernel)) ggX1_mend_X1_isValid
set_option maxRecDepth 20000 in
theorem ggX1_mend_X1_turn : GoodIn wsX1_mend wsX1_turn := goodIn_r _ [15, 16, 17, 18, 19, 31, 32, 33, 34, 35, 36, 37, 38, 39, 40, 41] (by decide +kernel) (by decide +kernel)
set_option maxRecDepth 20000 in
theorem gX1_mend_X1_turn : GoodIn wsX1_mend (wsV RX1 66 RX1 yX1_turn wsX1_turn) := goodIn_app (goodIn_of _ (by decide +kernel)) ggX1_mend_X1_turn
set_option maxRecDepth 20000 in
theorem ggX1_mend_X1_best : GoodIn wsX1_mend wsX1_best := goodIn_r _ [23, 1, 3, 4, 5, 6, 7, 8, 9, 10, 11, 24, 25, 26, 27, 28, 29, 30, 31, 32, 33, 34, 35, 36, 37, 38, 39, 40, 41] (by decide +kernel) (by decide +kernel)
set_option maxRecDepth 20000 in
theorem gX1_mend_X1_best : GoodIn wsX1_mend (wsV RX1 116 RX1 yX1_best wsX1_best) := goodIn_app (goodIn_of _ (by decide +kernel)) ggX1_mend_X1_best
theorem dX1_mend_0 : decode cX1_mend 0 = .ok (.iconst 0, 1) := by decide +kernel
theorem dX1_mend_1 : decode cX1_mend 1 = .ok (.istore_n 2, 1) := by decide +kernel
theorem dX1_mend_2 : decode cX1_mend 2 = .ok (.iconst 0, 1) := by decide +kernel
theorem dX1_mend_3 : decode cX1_mend 3 = .ok (.istore_n 3, 1) := by decide +kernel
theorem dX1_mend_4 : decode cX1_mend 4 = .ok (.iload_n 3, 1) := by decide +kernel
theorem dX1_mend_5 : decode cX1_mend 5 = .ok (.iconst 4, 1) := by decide +kernel
theorem dX1_mend_6 : decode cX1_mend 6 = .ok (.if_icmp .ge 34, 3) := by decide +kernel
theorem dX1_mend_9 : decode cX1_mend 9 = .ok (.iload_n 2, 1) := by decide +kernel
theorem dX1_mend_10 : decode cX1_mend 10 = .ok (.aload_n 0, 1) := by decide +kernel
theorem dX1_mend_11 : decode cX1_mend 11 = .ok (.getfield 7, 3) := by decide +kernel
theorem dX1_mend_14 : decode cX1_mend 14 = .ok (.bipush 20, 2) := by decide +kernel
theorem dX1_mend_16 : decode cX1_mend 16 = .ok (.iload_n 3, 1) := by decide +kernel
theorem dX1_mend_17 : decode cX1_mend 17 = .ok (.imul, 1) := by decide +kernel
theorem dX1_mend_18 : decode cX1_mend 18 = .ok (.iload_n 1, 1) := by decide +kernel
theorem dX1_mend_19 : decode cX1_mend 19 = .ok (.iadd, 1) := by decide +kernel
theorem dX1_mend_20 : decode cX1_mend 20 = .ok (.laload, 1) := by decide +kernel
theorem dX1_mend_21 : decode cX1_mend 21 = .ok (.invokestatic 51, 3) := by decide +kernel
theorem dX1_mend_24 : decode cX1_mend 24 = .ok (.ifCond .eq 7, 3) := by decide +kernel
theorem dX1_mend_27 : decode cX1_mend 27 = .ok (.iconst 0, 1) := by decide +kernel
theorem dX1_mend_28 : decode cX1_mend 28 = .ok (.goto 4, 3) := by decide +kernel
theorem dX1_mend_31 : decode cX1_mend 31 = .ok (.iconst 1, 1) := by decide +kernel
theorem dX1_mend_32 : decode cX1_mend 32 = .ok (.iadd, 1) := by decide +kernel
theorem dX1_mend_33 : decode cX1_mend 33 = .ok (.istore_n 2, 1) := by decide +kernel
theorem dX1_mend_34 : decode cX1_mend 34 = .ok (.iinc 3 1, 3) := by decide +kernel
theorem dX1_mend_37 : decode cX1_mend 37 = .ok (.goto (-33), 3) := by decide +kernel
theorem dX1_mend_40 : decode cX1_mend 40 = .ok (.iconst 0, 1) := by decide +kernel
theorem dX1_mend_41 : decode cX1_mend 41 = .ok (.istore_n 3, 1) := by decide +kernel
theorem dX1_mend_42 : decode cX1_mend 42 = .ok (.iload_n 3, 1) := by decide +kernel
theorem dX1_mend_43 : decode cX1_mend 43 = .ok (.iconst 4, 1) := by decide +kernel
theorem dX1_mend_44 : decode cX1_mend 44 = .ok (.if_icmp .ge 47, 3) := by decide +kernel
theorem dX1_mend_47 : decode cX1_mend 47 = .ok (.aload_n 0, 1) := by decide +kernel
theorem dX1_mend_48 : decode cX1_mend 48 = .ok (.iconst 0, 1) := by decide +kernel
theorem dX1_mend_49 : decode cX1_mend 49 = .ok (.iload_n 3, 1) := by decide +kernel
theorem dX1_mend_50 : decode cX1_mend 50 = .ok (.iload_n 1, 1) := by decide +kernel
theorem dX1_mend_51 : decode cX1_mend 51 = .ok (.iload_n 3, 1) := by decide +kernel
theorem dX1_mend_52 : decode cX1_mend 52 = .ok (.iconst 3, 1) := by decide +kernel
theorem dX1_mend_53 : decode cX1_mend 53 = .ok (.if_icmp .ne 10, 3) := by decide +kernel
theorem dX1_mend_56 : decode cX1_mend 56 = .ok (.iload_n 2, 1) := by decide +kernel
theorem dX1_mend_57 : decode cX1_mend 57 = .ok (.i2l, 1) := by decide +kernel
theorem dX1_mend_58 : decode cX1_mend 58 = .ok (.lconst 1, 1) := by decide +kernel
theorem dX1_mend_59 : decode cX1_mend 59 = .ok (.ladd, 1) := by decide +kernel
theorem dX1_mend_60 : decode cX1_mend 60 = .ok (.goto 4, 3) := by decide +kernel
theorem dX1_mend_63 : decode cX1_mend 63 = .ok (.lconst 0, 1) := by decide +kernel
theorem dX1_mend_64 : decode cX1_mend 64 = .ok (.invokevirtual 66, 3) := by decide +kernel
theorem dX1_mend_67 : decode cX1_mend 67 = .ok (.aload_n 0, 1) := by decide +kernel
theorem dX1_mend_68 : decode cX1_mend 68 = .ok (.iconst 1, 1) := by decide +kernel
theorem dX1_mend_69 : decode cX1_mend 69 = .ok (.iload_n 3, 1) := by decide +kernel
theorem dX1_mend_70 : decode cX1_mend 70 = .ok (.iload_n 1, 1) := by decide +kernel
theorem dX1_mend_71 : decode cX1_mend 71 = .ok (.aload_n 0, 1) := by decide +kernel
theorem dX1_mend_72 : decode cX1_mend 72 = .ok (.getfield 7, 3) := by decide +kernel
theorem dX1_mend_75 : decode cX1_mend 75 = .ok (.bipush 20, 2) := by decide +kernel
theorem dX1_mend_77 : decode cX1_mend 77 = .ok (.iload_n 3, 1) := by decide +kernel
theorem dX1_mend_78 : decode cX1_mend 78 = .ok (.imul, 1) := by decide +kernel
theorem dX1_mend_79 : decode cX1_mend 79 = .ok (.iload_n 1, 1) := by decide +kernel
theorem dX1_mend_80 : decode cX1_mend 80 = .ok (.iadd, 1) := by decide +kernel
theorem dX1_mend_81 : decode cX1_mend 81 = .ok (.laload, 1) := by decide +kernel
theorem dX1_mend_82 : decode cX1_mend 82 = .ok (.invokevirtual 66, 3) := by decide +kernel
theorem dX1_mend_85 : decode cX1_mend 85 = .ok (.iinc 3 1, 3) := by decide +kernel
theorem dX1_mend_88 : decode cX1_mend 88 = .ok (.goto (-46), 3) := by decide +kernel
theorem dX1_mend_91 : decode cX1_mend 91 = .ok (.aload_n 0, 1) := by decide +kernel
theorem dX1_mend_92 : decode cX1_mend 92 = .ok (.getfield 34, 3) := by decide +kernel
theorem dX1_mend_95 : decode cX1_mend 95 = .ok (.iload_n 1, 1) := by decide +kernel
theorem dX1_mend_96 : decode cX1_mend 96 = .ok (.aload_n 0, 1) := by decide +kernel
theorem dX1_mend_97 : decode cX1_mend 97 = .ok (.iload_n 1, 1) := by decide +kernel
theorem dX1_mend_98 : decode cX1_mend 98 = .ok (.invokevirtual 116, 3) := by decide +kernel
theorem dX1_mend_101 : decode cX1_mend 101 = .ok (.lastore, 1) := by decide +kernel
theorem dX1_mend_102 : decode cX1_mend 102 = .ok (.iconst 0, 1) := by decide +kernel
theorem dX1_mend_103 : decode cX1_mend 103 = .ok (.istore_n 3, 1) := by decide +kernel
theorem dX1_mend_104 : decode cX1_mend 104 = .ok (.iload_n 3, 1) := by decide +kernel
theorem dX1_mend_105 : decode cX1_mend 105 = .ok (.iconst 4, 1) := by decide +kernel
theorem dX1_mend_106 : decode cX1_mend 106 = .ok (.if_icmp .ge 54, 3) := by decide +kernel
theorem dX1_mend_109 : decode cX1_mend 109 = .ok (.aload_n 0, 1) := by decide +kernel
theorem dX1_mend_110 : decode cX1_mend 110 = .ok (.getfield 34, 3) := by decide +kernel
theorem dX1_mend_113 : decode cX1_mend 113 = .ok (.iload_n 1, 1) := by decide +kernel
theorem dX1_mend_114 : decode cX1_mend 114 = .ok (.laload, 1) := by decide +kernel
theorem dX1_mend_115 : decode cX1_mend 115 = .ok (.lconst 0, 1) := by decide +kernel
theorem dX1_mend_116 : decode cX1_mend 116 = .ok (.lcmp, 1) := by decide +kernel
theorem dX1_mend_117 : decode cX1_mend 117 = .ok (.ifCond .eq 43, 3) := by decide +kernel
theorem dX1_mend_120 : decode cX1_mend 120 = .ok (.aload_n 0, 1) := by decide +kernel
theorem dX1_mend_121 : decode cX1_mend 121 = .ok (.getfield 7, 3) := by decide +kernel
theorem dX1_mend_124 : decode cX1_mend 124 = .ok (.bipush 20, 2) := by decide +kernel
theorem dX1_mend_126 : decode cX1_mend 126 = .ok (.iload_n 3, 1) := by decide +kernel
theorem dX1_mend_127 : decode cX1_mend 127 = .ok (.imul, 1) := by decide +kernel
theorem dX1_mend_128 : decode cX1_mend 128 = .ok (.iload_n 1, 1) := by decide +kernel
theorem dX1_mend_129 : decode cX1_mend 129 = .ok (.iadd, 1) := by decide +kernel
theorem dX1_mend_130 : decode cX1_mend 130 = .ok (.laload, 1) := by decide +kernel
theorem dX1_mend_131 : decode cX1_mend 131 = .ok (.aload_n 0, 1) := by decide +kernel
theorem dX1_mend_132 : decode cX1_mend 132 = .ok (.getfield 34, 3) := by decide +kernel
theorem dX1_mend_135 : decode cX1_mend 135 = .ok (.iload_n 1, 1) := by decide +kernel
theorem dX1_mend_136 : decode cX1_mend 136 = .ok (.laload, 1) := by decide +kernel
theorem dX1_mend_137 : decode cX1_mend 137 = .ok (.lcmp, 1) := by decide +kernel
theorem dX1_mend_138 : decode cX1_mend 138 = .ok (.ifCond .eq 16, 3) := by decide +kernel
theorem dX1_mend_141 : decode cX1_mend 141 = .ok (.aload_n 0, 1) := by decide +kernel
theorem dX1_mend_142 : decode cX1_mend 142 = .ok (.iconst 1, 1) := by decide +kernel
theorem dX1_mend_143 : decode cX1_mend 143 = .ok (.iload_n 3, 1) := by decide +kernel
theorem dX1_mend_144 : decode cX1_mend 144 = .ok (.iload_n 1, 1) := by decide +kernel
theorem dX1_mend_145 : decode cX1_mend 145 = .ok (.aload_n 0, 1) := by decide +kernel
theorem dX1_mend_146 : decode cX1_mend 146 = .ok (.getfield 34, 3) := by decide +kernel
theorem dX1_mend_149 : decode cX1_mend 149 = .ok (.iload_n 1, 1) := by decide +kernel
theorem dX1_mend_150 : decode cX1_mend 150 = .ok (.laload, 1) := by decide +kernel
theorem dX1_mend_151 : decode cX1_mend 151 = .ok (.invokevirtual 66, 3) := by decide +kernel
theorem dX1_mend_154 : decode cX1_mend 154 = .ok (.iinc 3 1, 3) := by decide +kernel
theorem dX1_mend_157 : decode cX1_mend 157 = .ok (.goto (-53), 3) := by decide +kernel
theorem dX1_mend_160 : decode cX1_mend 160 = .ok (.return_, 1) := by decide +kernel
set_option maxRecDepth 20000 in
theorem ggX1_settle_X1_numberOf : GoodIn wsX1_settle wsX1_numberOf := goodIn_r _ [5, 6] (by decide +kernel) (by decide +kernel)
set_option maxRecDepth 20000 in
theorem gX1_settle_X1_numberOf : GoodIn wsX1_settle (va_wsS RX1 55 yX1_numberOf wsX1_numberOf) := goodIn_app (goodIn_of _ (by decide +kernel)) ggX1_settle_X1_numberOf
set_option maxRecDepth 20000 in
theorem ggX1_settle_X1_balanceOf : GoodIn wsX1_settle wsX1_balanceOf := goodIn_r _ [9] (by decide +kernel) (by decide +kernel)
set_option maxRecDepth 20000 in
theorem gX1_settle_X1_balanceOf : GoodIn wsX1_settle (va_wsS RX1 100 yX1_balanceOf wsX1_balanceOf) := goodIn_app (goodIn_of _ (by decide +kernel)) ggX1_settle_X1_balanceOf
set_option maxRecDepth 20000 in
theorem ggX1_settle_X1_wordOf : GoodIn wsX1_settle wsX1_wordOf := goodIn_r _ [12, 13, 14, 4, 15, 16, 17] (by decide +kernel) (by decide +kernel)
set_option maxRecDepth 20000 in
theorem gX1_settle_X1_wordOf : GoodIn wsX1_settle (va_wsS RX1 37 yX1_wordOf wsX1_wordOf) := goodIn_app (goodIn_of _ (by decide +kernel)) ggX1_settle_X1_wordOf
set_option maxRecDepth 20000 in
theorem ggX1_settle_X1_putAll : GoodIn wsX1_settle wsX1_putAll := goodIn_r _ [21, 22, 23, 24, 4, 25, 26, 27, 28, 29, 30, 31, 32, 33, 34, 35, 36, 37, 38, 39, 40] (by decide +kernel) (by decide +kernel)
set_option maxRecDepth 20000 in
theorem gX1_settle_X1_putAll : GoodIn wsX1_settle (wsV RX1 80 RX1 yX1_putAll wsX1_putAll) := goodIn_app (goodIn_of _ (by decide +kernel)) ggX1_settle_X1_putAll
theorem dX1_settle_0 : decode cX1_settle 0 = .ok (.aload_n 0, 1) := by decide +kernel
theorem dX1_settle_1 : decode cX1_settle 1 = .ok (.getfield 34, 3) := by decide +kernel
theorem dX1_settle_4 : decode cX1_settle 4 = .ok (.iload_n 1, 1) := by decide +kernel
theorem dX1_settle_5 : decode cX1_settle 5 = .ok (.laload, 1) := by decide +kernel
theorem dX1_settle_6 : decode cX1_settle 6 = .ok (.lstore 4, 2) := by decide +kernel
theorem dX1_settle_8 : decode cX1_settle 8 = .ok (.lload 4, 2) := by decide +kernel
theorem dX1_settle_10 : decode cX1_settle 10 = .ok (.lconst 0, 1) := by decide +kernel
theorem dX1_settle_11 : decode cX1_settle 11 = .ok (.lcmp, 1) := by decide +kernel
theorem dX1_settle_12 : decode cX1_settle 12 = .ok (.ifCond .eq 20, 3) := by decide +kernel
theorem dX1_settle_15 : decode cX1_settle 15 = .ok (.lload 4, 2) := by decide +kernel
theorem dX1_settle_17 : decode cX1_settle 17 = .ok (.invokestatic 55, 3) := by decide +kernel
theorem dX1_settle_20 : decode cX1_settle 20 = .ok (.aload_n 0, 1) := by decide +kernel
theorem dX1_settle_21 : decode cX1_settle 21 = .ok (.getfield 34, 3) := by decide +kernel
theorem dX1_settle_24 : decode cX1_settle 24 = .ok (.iload_n 2, 1) := by decide +kernel
theorem dX1_settle_25 : decode cX1_settle 25 = .ok (.laload, 1) := by decide +kernel
theorem dX1_settle_26 : decode cX1_settle 26 = .ok (.invokestatic 100, 3) := by decide +kernel
theorem dX1_settle_29 : decode cX1_settle 29 = .ok (.if_icmp .lt 4, 3) := by decide +kernel
theorem dX1_settle_32 : decode cX1_settle 32 = .ok (.return_, 1) := by decide +kernel
theorem dX1_settle_33 : decode cX1_settle 33 = .ok (.aload_n 0, 1) := by decide +kernel
theorem dX1_settle_34 : decode cX1_settle 34 = .ok (.iload_n 1, 1) := by decide +kernel
theorem dX1_settle_35 : decode cX1_settle 35 = .ok (.lload 4, 2) := by decide +kernel
theorem dX1_settle_37 : decode cX1_settle 37 = .ok (.invokestatic 100, 3) := by decide +kernel
theorem dX1_settle_40 : decode cX1_settle 40 = .ok (.iload_n 3, 1) := by decide +kernel
theorem dX1_settle_41 : decode cX1_settle 41 = .ok (.iadd, 1) := by decide +kernel
theorem dX1_settle_42 : decode cX1_settle 42 = .ok (.aload_n 0, 1) := by decide +kernel
theorem dX1_settle_43 : decode cX1_settle 43 = .ok (.getfield 34, 3) := by decide +kernel
theorem dX1_settle_46 : decode cX1_settle 46 = .ok (.iload_n 2, 1) := by decide +kernel
theorem dX1_settle_47 : decode cX1_settle 47 = .ok (.laload, 1) := by decide +kernel
theorem dX1_settle_48 : decode cX1_settle 48 = .ok (.invokestatic 100, 3) := by decide +kernel
theorem dX1_settle_51 : decode cX1_settle 51 = .ok (.invokestatic 37, 3) := by decide +kernel
theorem dX1_settle_54 : decode cX1_settle 54 = .ok (.invokevirtual 80, 3) := by decide +kernel
theorem dX1_settle_57 : decode cX1_settle 57 = .ok (.return_, 1) := by decide +kernel
set_option maxRecDepth 20000 in
theorem ggX1_mount_X1_mend : GoodIn wsX1_mount wsX1_mend := goodIn_r _ [9, 10, 3, 11, 12, 8, 13, 14, 15, 16, 17, 18, 19, 20, 21, 22, 23, 2, 24, 25, 26, 27, 28, 29, 30, 31, 32, 33, 34, 35, 36, 59, 60, 61, 62, 63, 64, 65, 66, 67, 68, 69] (by decide +kernel) (by decide +kernel)
set_option maxRecDepth 20000 in
theorem gX1_mount_X1_mend : GoodIn wsX1_mount (wsV RX1 120 RX1 yX1_mend wsX1_mend) := goodIn_app (goodIn_of _ (by decide +kernel)) ggX1_mount_X1_mend
set_option maxRecDepth 20000 in
theorem ggX1_mount_X1_numberOf : GoodIn wsX1_mount wsX1_numberOf := goodIn_r _ [32, 33] (by decide +kernel) (by decide +kernel)
set_option maxRecDepth 20000 in
theorem gX1_mount_X1_numberOf : GoodIn wsX1_mount (va_wsS RX1 55 yX1_numberOf wsX1_numberOf) := goodIn_app (goodIn_of _ (by decide +kernel)) ggX1_mount_X1_numberOf
set_option maxRecDepth 20000 in
theorem ggX1_mount_X1_balanceOf : GoodIn wsX1_mount wsX1_balanceOf := goodIn_r _ [36] (by decide +kernel) (by decide +kernel)
set_option maxRecDepth 20000 in
theorem gX1_mount_X1_balanceOf : GoodIn wsX1_mount (va_wsS RX1 100 yX1_balanceOf wsX1_balanceOf) := goodIn_app (goodIn_of _ (by decide +kernel)) ggX1_mount_X1_balanceOf
set_option maxRecDepth 20000 in
theorem ggX1_mount_X1_isAccount : GoodIn wsX1_mount wsX1_isAccount := goodIn_r _ [39] (by decide +kernel) (by decide +kernel)
set_option maxRecDepth 20000 in
theorem gX1_mount_X1_isAccount : GoodIn wsX1_mount (va_wsS RX1 76 yX1_isAccount wsX1_isAccount) := goodIn_app (goodIn_of _ (by decide +kernel)) ggX1_mount_X1_isAccount
set_option maxRecDepth 20000 in
theorem ggX1_mount_X1_settle : GoodIn wsX1_mount wsX1_settle := goodIn_r _ [43, 3, 30, 31, 8, 32, 33, 34, 35, 36, 44, 45, 46, 15, 16, 17, 14, 18, 47, 48, 49, 50, 19, 20, 21, 22, 23, 2, 24, 25, 59, 60, 61, 62, 63, 64, 65, 66, 67, 68, 69] (by decide +kernel) (by decide +kernel)
set_option maxRecDepth 20000 in
theorem gX1_mount_X1_settle : GoodIn wsX1_mount (wsV RX1 123 RX1 yX1_settle wsX1_settle) := goodIn_app (goodIn_of _ (by decide +kernel)) ggX1_mount_X1_settle
set_option maxRecDepth 20000 in
theorem ggX1_mount_X1_wordOf : GoodIn wsX1_mount wsX1_wordOf := goodIn_r _ [46, 15, 16, 8, 17, 14, 18] (by decide +kernel) (by decide +kernel)
set_option maxRecDepth 20000 in
theorem gX1_mount_X1_wordOf : GoodIn wsX1_mount (va_wsS RX1 37 yX1_wordOf wsX1_wordOf) := goodIn_app (goodIn_of _ (by decide +kernel)) ggX1_mount_X1_wordOf
set_option maxRecDepth 20000 in
theorem ggX1_mount_X1_putAll : GoodIn wsX1_mount wsX1_putAll := goodIn_r _ [50, 19, 20, 21, 8, 22, 23, 2, 24, 25, 59, 60, 61, 62, 63, 64, 65, 66, 67, 68, 69] (by decide +kernel) (by decide +kernel)
set_option maxRecDepth 20000 in
theorem gX1_mount_X1_putAll : GoodIn wsX1_mount (wsV RX1 80 RX1 yX1_putAll wsX1_putAll) := goodIn_app (goodIn_of _ (by decide +kernel)) ggX1_mount_X1_putAll
set_option maxRecDepth 20000 in
theorem ggX1_mount_X1_works : GoodIn wsX1_mount wsX1_works := goodIn_r _ [54, 2, 1, 55, 23, 56, 10, 24, 57, 25, 58, 59, 60, 61, 62, 63, 64, 65, 66, 67, 68, 69] (by decide +kernel) (by decide +kernel)
set_option maxRecDepth 20000 in
theorem gX1_mount_X1_works : GoodIn wsX1_mount (wsV RX1 84 RX1 yX1_works wsX1_works) := goodIn_app (goodIn_of _ (by decide +kernel)) ggX1_mount_X1_works
theorem dX1_mount_0 : decode cX1_mount 0 = .ok (.aload_n 0, 1) := by decide +kernel
theorem dX1_mount_1 : decode cX1_mount 1 = .ok (.iconst 1, 1) := by decide +kernel
theorem dX1_mount_2 : decode cX1_mount 2 = .ok (.putfield 17, 3) := by decide +kernel
theorem dX1_mount_5 : decode cX1_mount 5 = .ok (.aload_n 0, 1) := by decide +kernel
theorem dX1_mount_6 : decode cX1_mount 6 = .ok (.iconst 0, 1) := by decide +kernel
theorem dX1_mount_7 : decode cX1_mount 7 = .ok (.putfield 63, 3) := by decide +kernel
theorem dX1_mount_10 : decode cX1_mount 10 = .ok (.iconst 0, 1) := by decide +kernel
theorem dX1_mount_11 : decode cX1_mount 11 = .ok (.istore_n 1, 1) := by decide +kernel
theorem dX1_mount_12 : decode cX1_mount 12 = .ok (.iload_n 1, 1) := by decide +kernel
theorem dX1_mount_13 : decode cX1_mount 13 = .ok (.bipush 20, 2) := by decide +kernel
theorem dX1_mount_15 : decode cX1_mount 15 = .ok (.if_icmp .ge 14, 3) := by decide +kernel
theorem dX1_mount_18 : decode cX1_mount 18 = .ok (.aload_n 0, 1) := by decide +kernel
theorem dX1_mount_19 : decode cX1_mount 19 = .ok (.iload_n 1, 1) := by decide +kernel
theorem dX1_mount_20 : decode cX1_mount 20 = .ok (.invokevirtual 120, 3) := by decide +kernel
theorem dX1_mount_23 : decode cX1_mount 23 = .ok (.iinc 1 1, 3) := by decide +kernel
theorem dX1_mount_26 : decode cX1_mount 26 = .ok (.goto (-14), 3) := by decide +kernel
theorem dX1_mount_29 : decode cX1_mount 29 = .ok (.iconst 1, 1) := by decide +kernel
theorem dX1_mount_30 : decode cX1_mount 30 = .ok (.istore_n 1, 1) := by decide +kernel
theorem dX1_mount_31 : decode cX1_mount 31 = .ok (.bipush 16, 2) := by decide +kernel
theorem dX1_mount_33 : decode cX1_mount 33 = .ok (.istore_n 2, 1) := by decide +kernel
theorem dX1_mount_34 : decode cX1_mount 34 = .ok (.iload_n 2, 1) := by decide +kernel
theorem dX1_mount_35 : decode cX1_mount 35 = .ok (.bipush 20, 2) := by decide +kernel
theorem dX1_mount_37 : decode cX1_mount 37 = .ok (.if_icmp .ge 52, 3) := by decide +kernel
theorem dX1_mount_40 : decode cX1_mount 40 = .ok (.iload_n 1, 1) := by decide +kernel
theorem dX1_mount_41 : decode cX1_mount 41 = .ok (.ifCond .eq 40, 3) := by decide +kernel
theorem dX1_mount_44 : decode cX1_mount 44 = .ok (.aload_n 0, 1) := by decide +kernel
theorem dX1_mount_45 : decode cX1_mount 45 = .ok (.getfield 34, 3) := by decide +kernel
theorem dX1_mount_48 : decode cX1_mount 48 = .ok (.iload_n 2, 1) := by decide +kernel
theorem dX1_mount_49 : decode cX1_mount 49 = .ok (.laload, 1) := by decide +kernel
theorem dX1_mount_50 : decode cX1_mount 50 = .ok (.lconst 0, 1) := by decide +kernel
theorem dX1_mount_51 : decode cX1_mount 51 = .ok (.lcmp, 1) := by decide +kernel
theorem dX1_mount_52 : decode cX1_mount 52 = .ok (.ifCond .eq 29, 3) := by decide +kernel
theorem dX1_mount_55 : decode cX1_mount 55 = .ok (.aload_n 0, 1) := by decide +kernel
theorem dX1_mount_56 : decode cX1_mount 56 = .ok (.getfield 34, 3) := by decide +kernel
theorem dX1_mount_59 : decode cX1_mount 59 = .ok (.iload_n 2, 1) := by decide +kernel
theorem dX1_mount_60 : decode cX1_mount 60 = .ok (.laload, 1) := by decide +kernel
theorem dX1_mount_61 : decode cX1_mount 61 = .ok (.invokestatic 55, 3) := by decide +kernel
theorem dX1_mount_64 : decode cX1_mount 64 = .ok (.aload_n 0, 1) := by decide +kernel
theorem dX1_mount_65 : decode cX1_mount 65 = .ok (.getfield 34, 3) := by decide +kernel
theorem dX1_mount_68 : decode cX1_mount 68 = .ok (.bipush 19, 2) := by decide +kernel
theorem dX1_mount_70 : decode cX1_mount 70 = .ok (.laload, 1) := by decide +kernel
theorem dX1_mount_71 : decode cX1_mount 71 = .ok (.invokestatic 55, 3) := by decide +kernel
theorem dX1_mount_74 : decode cX1_mount 74 = .ok (.if_icmp .ne 7, 3) := by decide +kernel
theorem dX1_mount_77 : decode cX1_mount 77 = .ok (.iconst 1, 1) := by decide +kernel
theorem dX1_mount_78 : decode cX1_mount 78 = .ok (.goto 4, 3) := by decide +kernel
theorem dX1_mount_81 : decode cX1_mount 81 = .ok (.iconst 0, 1) := by decide +kernel
theorem dX1_mount_82 : decode cX1_mount 82 = .ok (.istore_n 1, 1) := by decide +kernel
theorem dX1_mount_83 : decode cX1_mount 83 = .ok (.iinc 2 1, 3) := by decide +kernel
theorem dX1_mount_86 : decode cX1_mount 86 = .ok (.goto (-52), 3) := by decide +kernel
theorem dX1_mount_89 : decode cX1_mount 89 = .ok (.aload_n 0, 1) := by decide +kernel
theorem dX1_mount_90 : decode cX1_mount 90 = .ok (.getfield 34, 3) := by decide +kernel
theorem dX1_mount_93 : decode cX1_mount 93 = .ok (.bipush 19, 2) := by decide +kernel
theorem dX1_mount_95 : decode cX1_mount 95 = .ok (.laload, 1) := by decide +kernel
theorem dX1_mount_96 : decode cX1_mount 96 = .ok (.invokestatic 100, 3) := by decide +kernel
theorem dX1_mount_99 : decode cX1_mount 99 = .ok (.istore_n 2, 1) := by decide +kernel
theorem dX1_mount_100 : decode cX1_mount 100 = .ok (.iload_n 2, 1) := by decide +kernel
theorem dX1_mount_101 : decode cX1_mount 101 = .ok (.bipush 8, 2) := by decide +kernel
theorem dX1_mount_103 : decode cX1_mount 103 = .ok (.ishr, 1) := by decide +kernel
theorem dX1_mount_104 : decode cX1_mount 104 = .ok (.sipush 255, 3) := by decide +kernel
theorem dX1_mount_107 : decode cX1_mount 107 = .ok (.iand, 1) := by decide +kernel
theorem dX1_mount_108 : decode cX1_mount 108 = .ok (.istore_n 3, 1) := by decide +kernel
theorem dX1_mount_109 : decode cX1_mount 109 = .ok (.iload_n 2, 1) := by decide +kernel
theorem dX1_mount_110 : decode cX1_mount 110 = .ok (.sipush 255, 3) := by decide +kernel
theorem dX1_mount_113 : decode cX1_mount 113 = .ok (.iand, 1) := by decide +kernel
theorem dX1_mount_114 : decode cX1_mount 114 = .ok (.istore 4, 2) := by decide +kernel
theorem dX1_mount_116 : decode cX1_mount 116 = .ok (.iload_n 1, 1) := by decide +kernel
theorem dX1_mount_117 : decode cX1_mount 117 = .ok (.ifCond .eq 83, 3) := by decide +kernel
theorem dX1_mount_120 : decode cX1_mount 120 = .ok (.iload_n 2, 1) := by decide +kernel
theorem dX1_mount_121 : decode cX1_mount 121 = .ok (.bipush 16, 2) := by decide +kernel
theorem dX1_mount_123 : decode cX1_mount 123 = .ok (.ishr, 1) := by decide +kernel
theorem dX1_mount_124 : decode cX1_mount 124 = .ok (.iconst 1, 1) := by decide +kernel
theorem dX1_mount_125 : decode cX1_mount 125 = .ok (.iand, 1) := by decide +kernel
theorem dX1_mount_126 : decode cX1_mount 126 = .ok (.iconst 1, 1) := by decide +kernel
theorem dX1_mount_127 : decode cX1_mount 127 = .ok (.if_icmp .ne 73, 3) := by decide +kernel
theorem dX1_mount_130 : decode cX1_mount 130 = .ok (.iload_n 3, 1) := by decide +kernel
theorem dX1_mount_131 : decode cX1_mount 131 = .ok (.invokestatic 76, 3) := by decide +kernel
theorem dX1_mount_134 : decode cX1_mount 134 = .ok (.ifCond .eq 66, 3) := by decide +kernel
theorem dX1_mount_137 : decode cX1_mount 137 = .ok (.iload 4, 2) := by decide +kernel
theorem dX1_mount_139 : decode cX1_mount 139 = .ok (.invokestatic 76, 3) := by decide +kernel
theorem dX1_mount_142 : decode cX1_mount 142 = .ok (.ifCond .eq 58, 3) := by decide +kernel
theorem dX1_mount_145 : decode cX1_mount 145 = .ok (.aload_n 0, 1) := by decide +kernel
theorem dX1_mount_146 : decode cX1_mount 146 = .ok (.getfield 34, 3) := by decide +kernel
theorem dX1_mount_149 : decode cX1_mount 149 = .ok (.bipush 16, 2) := by decide +kernel
theorem dX1_mount_151 : decode cX1_mount 151 = .ok (.laload, 1) := by decide +kernel
theorem dX1_mount_152 : decode cX1_mount 152 = .ok (.invokestatic 100, 3) := by decide +kernel
theorem dX1_mount_155 : decode cX1_mount 155 = .ok (.istore 5, 2) := by decide +kernel
theorem dX1_mount_157 : decode cX1_mount 157 = .ok (.aload_n 0, 1) := by decide +kernel
theorem dX1_mount_158 : decode cX1_mount 158 = .ok (.iload_n 3, 1) := by decide +kernel
theorem dX1_mount_159 : decode cX1_mount 159 = .ok (.bipush 17, 2) := by decide +kernel
theorem dX1_mount_161 : decode cX1_mount 161 = .ok (.iload 5, 2) := by decide +kernel
theorem dX1_mount_163 : decode cX1_mount 163 = .ok (.ineg, 1) := by decide +kernel
theorem dX1_mount_164 : decode cX1_mount 164 = .ok (.invokevirtual 123, 3) := by decide +kernel
theorem dX1_mount_167 : decode cX1_mount 167 = .ok (.aload_n 0, 1) := by decide +kernel
theorem dX1_mount_168 : decode cX1_mount 168 = .ok (.iload 4, 2) := by decide +kernel
theorem dX1_mount_170 : decode cX1_mount 170 = .ok (.bipush 18, 2) := by decide +kernel
theorem dX1_mount_172 : decode cX1_mount 172 = .ok (.iload 5, 2) := by decide +kernel
theorem dX1_mount_174 : decode cX1_mount 174 = .ok (.invokevirtual 123, 3) := by decide +kernel
theorem dX1_mount_177 : decode cX1_mount 177 = .ok (.aload_n 0, 1) := by decide +kernel
theorem dX1_mount_178 : decode cX1_mount 178 = .ok (.bipush 19, 2) := by decide +kernel
theorem dX1_mount_180 : decode cX1_mount 180 = .ok (.iload_n 2, 1) := by decide +kernel
theorem dX1_mount_181 : decode cX1_mount 181 = .ok (.ldc 114, 2) := by decide +kernel
theorem dX1_mount_183 : decode cX1_mount 183 = .ok (.iadd, 1) := by decide +kernel
theorem dX1_mount_184 : decode cX1_mount 184 = .ok (.aload_n 0, 1) := by decide +kernel
theorem dX1_mount_185 : decode cX1_mount 185 = .ok (.getfield 34, 3) := by decide +kernel
theorem dX1_mount_188 : decode cX1_mount 188 = .ok (.bipush 19, 2) := by decide +kernel
theorem dX1_mount_190 : decode cX1_mount 190 = .ok (.laload, 1) := by decide +kernel
theorem dX1_mount_191 : decode cX1_mount 191 = .ok (.invokestatic 55, 3) := by decide +kernel
theorem dX1_mount_194 : decode cX1_mount 194 = .ok (.invokestatic 37, 3) := by decide +kernel
theorem dX1_mount_197 : decode cX1_mount 197 = .ok (.invokevirtual 80, 3) := by decide +kernel
theorem dX1_mount_200 : decode cX1_mount 200 = .ok (.aload_n 0, 1) := by decide +kernel
theorem dX1_mount_201 : decode cX1_mount 201 = .ok (.invokevirtual 84, 3) := by decide +kernel
theorem dX1_mount_204 : decode cX1_mount 204 = .ok (.ifCond .eq 7, 3) := by decide +kernel
theorem dX1_mount_207 : decode cX1_mount 207 = .ok (.iconst 1, 1) := by decide +kernel
theorem dX1_mount_208 : decode cX1_mount 208 = .ok (.goto 5, 3) := by decide +kernel
theorem dX1_mount_211 : decode cX1_mount 211 = .ok (.bipush (-2), 2) := by decide +kernel
theorem dX1_mount_213 : decode cX1_mount 213 = .ok (.ireturn, 1) := by decide +kernel
theorem dX1_on_0 : decode cX1_on 0 = .ok (.aload_n 0, 1) := by decide +kernel
theorem dX1_on_1 : decode cX1_on 1 = .ok (.getfield 17, 3) := by decide +kernel
theorem dX1_on_4 : decode cX1_on 4 = .ok (.ireturn, 1) := by decide +kernel
theorem dX1_lost_0 : decode cX1_lost 0 = .ok (.iload_n 1, 1) := by decide +kernel
theorem dX1_lost_1 : decode cX1_lost 1 = .ok (.ifCond .lt 18, 3) := by decide +kernel
theorem dX1_lost_4 : decode cX1_lost 4 = .ok (.iload_n 1, 1) := by decide +kernel
theorem dX1_lost_5 : decode cX1_lost 5 = .ok (.bipush 20, 2) := by decide +kernel
theorem dX1_lost_7 : decode cX1_lost 7 = .ok (.if_icmp .ge 12, 3) := by decide +kernel
theorem dX1_lost_10 : decode cX1_lost 10 = .ok (.aload_n 0, 1) := by decide +kernel
theorem dX1_lost_11 : decode cX1_lost 11 = .ok (.getfield 13, 3) := by decide +kernel
theorem dX1_lost_14 : decode cX1_lost 14 = .ok (.iload_n 1, 1) := by decide +kernel
theorem dX1_lost_15 : decode cX1_lost 15 = .ok (.iaload, 1) := by decide +kernel
theorem dX1_lost_16 : decode cX1_lost 16 = .ok (.goto 4, 3) := by decide +kernel
theorem dX1_lost_19 : decode cX1_lost 19 = .ok (.iconst 0, 1) := by decide +kernel
theorem dX1_lost_20 : decode cX1_lost 20 = .ok (.ireturn, 1) := by decide +kernel
theorem dX1_word_0 : decode cX1_word 0 = .ok (.iload_n 1, 1) := by decide +kernel
theorem dX1_word_1 : decode cX1_word 1 = .ok (.ifCond .lt 32, 3) := by decide +kernel
theorem dX1_word_4 : decode cX1_word 4 = .ok (.iload_n 1, 1) := by decide +kernel
theorem dX1_word_5 : decode cX1_word 5 = .ok (.iconst 4, 1) := by decide +kernel
theorem dX1_word_6 : decode cX1_word 6 = .ok (.if_icmp .ge 27, 3) := by decide +kernel
theorem dX1_word_9 : decode cX1_word 9 = .ok (.iload_n 2, 1) := by decide +kernel
theorem dX1_word_10 : decode cX1_word 10 = .ok (.ifCond .lt 23, 3) := by decide +kernel
theorem dX1_word_13 : decode cX1_word 13 = .ok (.iload_n 2, 1) := by decide +kernel
theorem dX1_word_14 : decode cX1_word 14 = .ok (.bipush 20, 2) := by decide +kernel
theorem dX1_word_16 : decode cX1_word 16 = .ok (.if_icmp .ge 17, 3) := by decide +kernel
theorem dX1_word_19 : decode cX1_word 19 = .ok (.aload_n 0, 1) := by decide +kernel
theorem dX1_word_20 : decode cX1_word 20 = .ok (.getfield 7, 3) := by decide +kernel
theorem dX1_word_23 : decode cX1_word 23 = .ok (.bipush 20, 2) := by decide +kernel
theorem dX1_word_25 : decode cX1_word 25 = .ok (.iload_n 1, 1) := by decide +kernel
theorem dX1_word_26 : decode cX1_word 26 = .ok (.imul, 1) := by decide +kernel
theorem dX1_word_27 : decode cX1_word 27 = .ok (.iload_n 2, 1) := by decide +kernel
theorem dX1_word_28 : decode cX1_word 28 = .ok (.iadd, 1) := by decide +kernel
theorem dX1_word_29 : decode cX1_word 29 = .ok (.laload, 1) := by decide +kernel
theorem dX1_word_30 : decode cX1_word 30 = .ok (.goto 4, 3) := by decide +kernel
theorem dX1_word_33 : decode cX1_word 33 = .ok (.lconst 0, 1) := by decide +kernel
theorem dX1_word_34 : decode cX1_word 34 = .ok (.lreturn, 1) := by decide +kernel
theorem dX1_done_0 : decode cX1_done 0 = .ok (.iload_n 1, 1) := by decide +kernel
theorem dX1_done_1 : decode cX1_done 1 = .ok (.ifCond .ne 10, 3) := by decide +kernel
theorem dX1_done_4 : decode cX1_done 4 = .ok (.aload_n 0, 1) := by decide +kernel
theorem dX1_done_5 : decode cX1_done 5 = .ok (.getfield 70, 3) := by decide +kernel
theorem dX1_done_8 : decode cX1_done 8 = .ok (.goto 16, 3) := by decide +kernel
theorem dX1_done_11 : decode cX1_done 11 = .ok (.iload_n 1, 1) := by decide +kernel
theorem dX1_done_12 : decode cX1_done 12 = .ok (.iconst 1, 1) := by decide +kernel
theorem dX1_done_13 : decode cX1_done 13 = .ok (.if_icmp .ne 10, 3) := by decide +kernel
theorem dX1_done_16 : decode cX1_done 16 = .ok (.aload_n 0, 1) := by decide +kernel
theorem dX1_done_17 : decode cX1_done 17 = .ok (.getfield 73, 3) := by decide +kernel
theorem dX1_done_20 : decode cX1_done 20 = .ok (.goto 4, 3) := by decide +kernel
theorem dX1_done_23 : decode cX1_done 23 = .ok (.iconst (-1), 1) := by decide +kernel
theorem dX1_done_24 : decode cX1_done 24 = .ok (.ireturn, 1) := by decide +kernel
end
section
set_option maxRecDepth 20000 in
theorem ggL_law_X0_init : GoodIn wsL_law wsX0_init := goodIn_r _ [8, 9, 10, 11, 12, 13, 14, 15, 16, 17, 18, 19, 2, 20, 21, 22, 23, 317, 318, 319, 320, 321, 322] (by decide +kernel) (by decide +kernel)
set_option maxRecDepth 20000 in
theorem gL_law_X0_init : GoodIn wsL_law (wsX0_init) := ggL_law_X0_init
set_option maxRecDepth 20000 in
theorem ggL_law_X1_init : GoodIn wsL_law wsX1_init := goodIn_r _ [26, 27, 10, 11, 12, 28, 14, 29, 30, 31, 32, 33, 34, 35, 36, 37, 5, 38, 39, 40, 41, 42, 43, 323, 324, 325, 326, 327, 328, 329, 330, 331, 332, 333] (by decide +kernel) (by decide +kernel)
set_option maxRecDepth 20000 in
theorem gL_law_X1_init : GoodIn wsL_law (wsX1_init) := ggL_law_X1_init
set_option maxRecDepth 20000 in
theorem ggL_law_X0_open : GoodIn wsL_law wsX0_open := goodIn_r _ [47, 48, 49, 2, 50, 51, 52, 53, 54, 55, 13, 56, 57, 58, 59, 16, 17, 60, 61, 62, 63, 64, 65, 66, 67, 68, 69, 70, 71, 72, 73, 21, 22, 23, 74, 75, 76, 77, 18, 19, 20, 78, 79, 80, 81, 82, 83, 84, 85, 86, 87, 88, 89, 90, 317, 318, 319, 320, 321, 322] (by decide +kernel) (by decide +kernel)
set_option maxRecDepth 20000 in
theorem gL_law_X0_open : GoodIn wsL_law (wsV RL 13 RX0 yX0_open wsX0_open) := goodIn_app (goodIn_of _ (by decide +kernel)) ggL_law_X0_open
set_option maxRecDepth 20000 in
theorem ggL_law_X1_open : GoodIn wsL_law wsX1_open := goodIn_r _ [94, 28, 95, 96, 97, 5, 98, 99, 100, 101, 42, 39, 40, 41, 43, 102, 103, 104, 105, 106, 107, 108, 109, 32, 33, 34, 36, 37, 38, 110, 111, 112, 113, 114, 115, 116, 117, 30, 31, 118, 119, 29, 323, 324, 325, 326, 327, 328, 329, 330, 331, 332, 333] (by decide +kernel) (by decide +kernel)
set_option maxRecDepth 20000 in
theorem gL_law_X1_open : GoodIn wsL_law (wsV RL 17 RX1 yX1_open wsX1_open) := goodIn_app (goodIn_of _ (by decide +kernel)) ggL_law_X1_open
set_option maxRecDepth 20000 in
theorem ggL_law_X0_balance : GoodIn wsL_law wsX0_balance := goodIn_r _ [123, 124, 16, 125, 126, 127, 48, 49, 2, 50, 128, 129, 130, 131, 51, 52, 53, 54, 55, 13, 56, 57, 58, 59, 17, 60, 61, 62, 63, 64, 65, 66, 82, 83, 84, 85, 86, 70, 71, 72, 73, 21, 22, 23, 67, 68, 69, 74, 75, 76, 77, 132, 133, 134, 317, 318, 319, 320, 321, 322] (by decide +kernel) (by decide +kernel)
set_option maxRecDepth 20000 in
theorem gL_law_X0_balance : GoodIn wsL_law (wsV RL 18 RX0 yX0_balance wsX0_balance) := goodIn_app (goodIn_of _ (by decide +kernel)) ggL_law_X0_balance
set_option maxRecDepth 20000 in
theorem ggL_law_X1_balance : GoodIn wsL_law wsX1_balance := goodIn_r _ [138, 139, 28, 95, 140, 141, 142, 96, 97, 5, 98, 143, 144, 145, 146, 106, 107, 108, 109, 32, 33, 34, 114, 115, 116, 117, 30, 31, 118, 119, 29, 99, 100, 101, 42, 39, 40, 41, 43, 102, 103, 104, 105, 147, 148, 149, 323, 324, 325, 326, 327, 328, 329, 330, 331, 332, 333] (by decide +kernel) (by decide +kernel)
set_option maxRecDepth 20000 in
theorem gL_law_X1_balance : GoodIn wsL_law (wsV RL 22 RX1 yX1_balance wsX1_balance) := goodIn_app (goodIn_of _ (by decide +kernel)) ggL_law_X1_balance
set_option maxRecDepth 20000 in
theorem ggL_law_X0_post : GoodIn wsL_law wsX0_post := goodIn_r _ [153, 48, 49, 2, 50, 51, 52, 53, 54, 55, 13, 56, 57, 58, 59, 16, 17, 60, 61, 62, 63, 64, 65, 66, 132, 133, 134, 154, 155, 156, 70, 71, 72, 73, 21, 22, 23, 74, 75, 76, 77, 157, 158, 159, 160, 161, 162, 18, 19, 20, 78, 79, 80, 81, 82, 83, 84, 85, 86, 87, 88, 89, 90, 317, 318, 319, 320, 321, 322] (by decide +kernel) (by decide +kernel)
set_option maxRecDepth 20000 in
theorem gL_law_X0_post : GoodIn wsL_law (wsV RL 23 RX0 yX0_post wsX0_post) := goodIn_app (goodIn_of _ (by decide +kernel)) ggL_law_X0_post
set_option maxRecDepth 20000 in
theorem ggL_law_X1_post : GoodIn wsL_law wsX1_post := goodIn_r _ [166, 28, 167, 95, 96, 97, 5, 98, 147, 148, 149, 168, 169, 170, 99, 100, 101, 42, 39, 40, 41, 43, 102, 103, 104, 105, 171, 172, 173, 174, 175, 106, 107, 108, 109, 32, 33, 34, 36, 37, 38, 110, 111, 112, 113, 114, 115, 116, 117, 30, 31, 118, 119, 29, 323, 324, 325, 326, 327, 328, 329, 330, 331, 332, 333] (by decide +kernel) (by decide +kernel)
set_option maxRecDepth 20000 in
theorem gL_law_X1_post : GoodIn wsL_law (wsV RL 26 RX1 yX1_post wsX1_post) := goodIn_app (goodIn_of _ (by decide +kernel)) ggL_law_X1_post
set_option maxRecDepth 20000 in
theorem ggL_law_X0_transfer : GoodIn wsL_law wsX0_transfer := goodIn_r _ [179, 180, 181, 48, 49, 2, 50, 128, 129, 130, 131, 51, 52, 53, 54, 55, 13, 56, 57, 58, 59, 16, 17, 60, 61, 62, 63, 64, 65, 66, 82, 83, 84, 85, 86, 182, 183, 184, 132, 133, 134, 154, 155, 156, 70, 71, 72, 73, 21, 22, 23, 74, 75, 76, 77, 157, 158, 159, 160, 161, 162, 185, 186, 187, 18, 19, 20, 78, 79, 80, 81, 87, 88, 89, 90, 317, 318, 319, 320, 321, 322] (by decide +kernel) (by decide +kernel)
set_option maxRecDepth 20000 in
theorem gL_law_X0_transfer : GoodIn wsL_law (wsV RL 27 RX0 yX0_transfer wsX0_transfer) := goodIn_app (goodIn_of _ (by decide +kernel)) ggL_law_X0_transfer
set_option maxRecDepth 20000 in
theorem ggL_law_X1_transfer : GoodIn wsL_law wsX1_transfer := goodIn_r _ [191, 28, 167, 95, 192, 193, 96, 97, 5, 98, 147, 148, 149, 194, 195, 196, 168, 169, 170, 99, 100, 101, 42, 39, 40, 41, 43, 102, 103, 104, 105, 171, 172, 173, 174, 175, 143, 144, 145, 146, 106, 107, 108, 109, 32, 33, 34, 36, 37, 38, 110, 111, 112, 113, 114, 115, 116, 117, 30, 31, 118, 119, 29, 323, 324, 325, 326, 327, 328, 329, 330, 331, 332, 333] (by decide +kernel) (by decide +kernel)
set_option maxRecDepth 20000 in
theorem gL_law_X1_transfer : GoodIn wsL_law (wsV RL 31 RX1 yX1_transfer wsX1_transfer) := goodIn_app (goodIn_of _ (by decide +kernel)) ggL_law_X1_transfer
set_option maxRecDepth 20000 in
theorem ggL_law_X0_total : GoodIn wsL_law wsX0_total := goodIn_r _ [200, 16, 125, 128, 129, 130, 2, 131, 51, 52, 53, 54, 55, 13, 56, 57, 58, 59, 17, 60, 61, 62, 63, 64, 65, 66, 82, 83, 84, 85, 86, 154, 155, 156, 70, 71, 72, 73, 21, 22, 23, 74, 75, 76, 77, 132, 133, 134, 317, 318, 319, 320, 321, 322] (by decide +kernel) (by decide +kernel)
set_option maxRecDepth 20000 in
theorem gL_law_X0_total : GoodIn wsL_law (wsV RL 32 RX0 yX0_total wsX0_total) := goodIn_app (goodIn_of _ (by decide +kernel)) ggL_law_X0_total
set_option maxRecDepth 20000 in
theorem ggL_law_X1_total : GoodIn wsL_law wsX1_total := goodIn_r _ [204, 95, 28, 140, 143, 144, 145, 5, 146, 106, 107, 108, 109, 32, 33, 34, 168, 169, 170, 99, 100, 101, 42, 39, 40, 41, 43, 102, 103, 104, 105, 147, 148, 149, 114, 115, 116, 117, 30, 31, 118, 119, 29, 323, 324, 325, 326, 327, 328, 329, 330, 331, 332, 333] (by decide +kernel) (by decide +kernel)
set_option maxRecDepth 20000 in
theorem gL_law_X1_total : GoodIn wsL_law (wsV RL 36 RX1 yX1_total wsX1_total) := goodIn_app (goodIn_of _ (by decide +kernel)) ggL_law_X1_total
set_option maxRecDepth 20000 in
theorem ggL_law_X0_number : GoodIn wsL_law wsX0_number := goodIn_r _ [208, 16, 48, 49, 2, 50, 128, 129, 130, 131, 51, 52, 53, 54, 55, 13, 56, 57, 58, 59, 17, 60, 61, 62, 63, 64, 65, 66, 82, 83, 84, 85, 86, 70, 71, 72, 73, 21, 22, 23, 74, 75, 76, 77, 317, 318, 319, 320, 321, 322] (by decide +kernel) (by decide +kernel)
set_option maxRecDepth 20000 in
theorem gL_law_X0_number : GoodIn wsL_law (wsV RL 37 RX0 yX0_number wsX0_number) := goodIn_app (goodIn_of _ (by decide +kernel)) ggL_law_X0_number
set_option maxRecDepth 20000 in
theorem ggL_law_X1_number : GoodIn wsL_law wsX1_number := goodIn_r _ [212, 28, 95, 96, 97, 5, 98, 143, 144, 145, 146, 106, 107, 108, 109, 32, 33, 34, 114, 115, 116, 117, 30, 31, 118, 119, 29, 99, 100, 101, 42, 39, 40, 41, 43, 102, 103, 104, 105, 323, 324, 325, 326, 327, 328, 329, 330, 331, 332, 333] (by decide +kernel) (by decide +kernel)
set_option maxRecDepth 20000 in
theorem gL_law_X1_number : GoodIn wsL_law (wsV RL 41 RX1 yX1_number wsX1_number) := goodIn_app (goodIn_of _ (by decide +kernel)) ggL_law_X1_number
set_option maxRecDepth 20000 in
theorem ggL_law_X0_failAfter : GoodIn wsL_law wsX0_failAfter := goodIn_r _ [216, 17, 317, 318, 319, 320, 321, 322] (by decide +kernel) (by decide +kernel)
set_option maxRecDepth 20000 in
theorem gL_law_X0_failAfter : GoodIn wsL_law (wsV RL 42 RX0 yX0_failAfter wsX0_failAfter) := goodIn_app (goodIn_of _ (by decide +kernel)) ggL_law_X0_failAfter
set_option maxRecDepth 20000 in
theorem ggL_law_X1_failAfter : GoodIn wsL_law wsX1_failAfter := goodIn_r _ [220, 31, 323, 324, 325, 326, 327, 328, 329, 330, 331, 332, 333] (by decide +kernel) (by decide +kernel)
set_option maxRecDepth 20000 in
theorem gL_law_X1_failAfter : GoodIn wsL_law (wsV RL 46 RX1 yX1_failAfter wsX1_failAfter) := goodIn_app (goodIn_of _ (by decide +kernel)) ggL_law_X1_failAfter
set_option maxRecDepth 20000 in
theorem ggL_law_X0_fail : GoodIn wsL_law wsX0_fail := goodIn_r _ [224, 16, 60, 61, 62, 2, 63, 17, 317, 318, 319, 320, 321, 322] (by decide +kernel) (by decide +kernel)
set_option maxRecDepth 20000 in
theorem gL_law_X0_fail : GoodIn wsL_law (wsV RL 47 RX0 yX0_fail wsX0_fail) := goodIn_app (goodIn_of _ (by decide +kernel)) ggL_law_X0_fail
set_option maxRecDepth 20000 in
theorem ggL_law_X1_fail : GoodIn wsL_law wsX1_fail := goodIn_r _ [228, 30, 31, 323, 324, 325, 326, 327, 328, 329, 330, 331, 332, 333] (by decide +kernel) (by decide +kernel)
set_option maxRecDepth 20000 in
theorem gL_law_X1_fail : GoodIn wsL_law (wsV RL 51 RX1 yX1_fail wsX1_fail) := goodIn_app (goodIn_of _ (by decide +kernel)) ggL_law_X1_fail
set_option maxRecDepth 20000 in
theorem ggL_law_X0_mount : GoodIn wsL_law wsX0_mount := goodIn_r _ [232, 16, 233, 234, 235, 2, 236, 15, 51, 52, 53, 54, 55, 13, 56, 57, 58, 59, 17, 60, 61, 62, 63, 64, 65, 66, 237, 238, 239, 70, 71, 72, 73, 21, 22, 23, 74, 75, 76, 77, 132, 133, 134, 82, 83, 84, 85, 86, 240, 241, 242, 243, 244, 245, 246, 247, 180, 248, 249, 250, 251, 252, 253, 254, 48, 49, 50, 255, 256, 257, 258, 259, 260, 261, 181, 262, 263, 264, 265, 18, 19, 20, 78, 79, 80, 81, 87, 88, 89, 90, 317, 318, 319, 320, 321, 322] (by decide +kernel) (by decide +kernel)
set_option maxRecDepth 20000 in
theorem gL_law_X0_mount : GoodIn wsL_law (wsV RL 52 RX0 yX0_mount wsX0_mount) := goodIn_app (goodIn_of _ (by decide +kernel)) ggL_law_X0_mount
set_option maxRecDepth 20000 in
theorem ggL_law_X1_mount : GoodIn wsL_law wsX1_mount := goodIn_r _ [269, 30, 95, 35, 192, 270, 271, 272, 5, 273, 28, 99, 100, 101, 42, 39, 40, 41, 43, 106, 107, 108, 109, 32, 33, 34, 274, 275, 276, 277, 102, 103, 104, 105, 147, 148, 149, 96, 97, 98, 278, 279, 280, 281, 36, 37, 38, 110, 111, 112, 113, 114, 115, 116, 117, 31, 118, 119, 29, 323, 324, 325, 326, 327, 328, 329, 330, 331, 332, 333] (by decide +kernel) (by decide +kernel)
set_option maxRecDepth 20000 in
theorem gL_law_X1_mount : GoodIn wsL_law (wsV RL 56 RX1 yX1_mount wsX1_mount) := goodIn_app (goodIn_of _ (by decide +kernel)) ggL_law_X1_mount
set_option maxRecDepth 20000 in
theorem ggL_law_X0_on : GoodIn wsL_law wsX0_on := goodIn_r _ [285, 16, 317, 318, 319, 320, 321, 322] (by decide +kernel) (by decide +kernel)
set_option maxRecDepth 20000 in
theorem gL_law_X0_on : GoodIn wsL_law (wsV RL 57 RX0 yX0_on wsX0_on) := goodIn_app (goodIn_of _ (by decide +kernel)) ggL_law_X0_on
set_option maxRecDepth 20000 in
theorem ggL_law_X1_on : GoodIn wsL_law wsX1_on := goodIn_r _ [289, 30, 323, 324, 325, 326, 327, 328, 329, 330, 331, 332, 333] (by decide +kernel) (by decide +kernel)
set_option maxRecDepth 20000 in
theorem gL_law_X1_on : GoodIn wsL_law (wsV RL 60 RX1 yX1_on wsX1_on) := goodIn_app (goodIn_of _ (by decide +kernel)) ggL_law_X1_on
set_option maxRecDepth 20000 in
theorem ggL_law_X0_lost : GoodIn wsL_law wsX0_lost := goodIn_r _ [293, 15, 294, 295, 2, 296, 317, 318, 319, 320, 321, 322] (by decide +kernel) (by decide +kernel)
set_option maxRecDepth 20000 in
theorem gL_law_X0_lost : GoodIn wsL_law (wsV RL 61 RX0 yX0_lost wsX0_lost) := goodIn_app (goodIn_of _ (by decide +kernel)) ggL_law_X0_lost
set_option maxRecDepth 20000 in
theorem ggL_law_X1_lost : GoodIn wsL_law wsX1_lost := goodIn_r _ [300, 29, 323, 324, 325, 326, 327, 328, 329, 330, 331, 332, 333] (by decide +kernel) (by decide +kernel)
set_option maxRecDepth 20000 in
theorem gL_law_X1_lost : GoodIn wsL_law (wsV RL 64 RX1 yX1_lost wsX1_lost) := goodIn_app (goodIn_of _ (by decide +kernel)) ggL_law_X1_lost
set_option maxRecDepth 20000 in
theorem ggL_law_X0_word : GoodIn wsL_law wsX0_word := goodIn_r _ [304, 13, 294, 295, 2, 296, 64, 65, 66, 317, 318, 319, 320, 321, 322] (by decide +kernel) (by decide +kernel)
set_option maxRecDepth 20000 in
theorem gL_law_X0_word : GoodIn wsL_law (wsV RL 65 RX0 yX0_word wsX0_word) := goodIn_app (goodIn_of _ (by decide +kernel)) ggL_law_X0_word
set_option maxRecDepth 20000 in
theorem ggL_law_X1_word : GoodIn wsL_law wsX1_word := goodIn_r _ [308, 28, 323, 324, 325, 326, 327, 328, 329, 330, 331, 332, 333] (by decide +kernel) (by decide +kernel)
set_option maxRecDepth 20000 in
theorem gL_law_X1_word : GoodIn wsL_law (wsV RL 69 RX1 yX1_word wsX1_word) := goodIn_app (goodIn_of _ (by decide +kernel)) ggL_law_X1_word
set_option maxRecDepth 20000 in
theorem ggL_law_X0_done : GoodIn wsL_law wsX0_done := goodIn_r _ [312, 55, 86, 317, 318, 319, 320, 321, 322] (by decide +kernel) (by decide +kernel)
set_option maxRecDepth 20000 in
theorem gL_law_X0_done : GoodIn wsL_law (wsV RL 70 RX0 yX0_done wsX0_done) := goodIn_app (goodIn_of _ (by decide +kernel)) ggL_law_X0_done
set_option maxRecDepth 20000 in
theorem ggL_law_X1_done : GoodIn wsL_law wsX1_done := goodIn_r _ [316, 118, 119, 323, 324, 325, 326, 327, 328, 329, 330, 331, 332, 333] (by decide +kernel) (by decide +kernel)
set_option maxRecDepth 20000 in
theorem gL_law_X1_done : GoodIn wsL_law (wsV RL 73 RX1 yX1_done wsX1_done) := goodIn_app (goodIn_of _ (by decide +kernel)) ggL_law_X1_done
theorem dL_law_0 : decode cL_law 0 = .ok (.new 7, 3) := by decide +kernel
theorem dL_law_3 : decode cL_law 3 = .ok (.dup, 1) := by decide +kernel
theorem dL_law_4 : decode cL_law 4 = .ok (.invokespecial 9, 3) := by decide +kernel
theorem dL_law_7 : decode cL_law 7 = .ok (.astore_n 1, 1) := by decide +kernel
theorem dL_law_8 : decode cL_law 8 = .ok (.new 10, 3) := by decide +kernel
theorem dL_law_11 : decode cL_law 11 = .ok (.dup, 1) := by decide +kernel
theorem dL_law_12 : decode cL_law 12 = .ok (.invokespecial 12, 3) := by decide +kernel
theorem dL_law_15 : decode cL_law 15 = .ok (.astore_n 2, 1) := by decide +kernel
theorem dL_law_16 : decode cL_law 16 = .ok (.iconst 0, 1) := by decide +kernel
theorem dL_law_17 : decode cL_law 17 = .ok (.istore_n 3, 1) := by decide +kernel
theorem dL_law_18 : decode cL_law 18 = .ok (.iload_n 3, 1) := by decide +kernel
theorem dL_law_19 : decode cL_law 19 = .ok (.aload_n 0, 1) := by decide +kernel
theorem dL_law_20 : decode cL_law 20 = .ok (.arraylength, 1) := by decide +kernel
theorem dL_law_21 : decode cL_law 21 = .ok (.iconst 4, 1) := by decide +kernel
theorem dL_law_22 : decode cL_law 22 = .ok (.isub, 1) := by decide +kernel
theorem dL_law_23 : decode cL_law 23 = .ok (.if_icmp .gt 395, 3) := by decide +kernel
theorem dL_law_26 : decode cL_law 26 = .ok (.aload_n 0, 1) := by decide +kernel
theorem dL_law_27 : decode cL_law 27 = .ok (.iload_n 3, 1) := by decide +kernel
theorem dL_law_28 : decode cL_law 28 = .ok (.iaload, 1) := by decide +kernel
theorem dL_law_29 : decode cL_law 29 = .ok (.bipush 15, 2) := by decide +kernel
theorem dL_law_31 : decode cL_law 31 = .ok (.iand, 1) := by decide +kernel
theorem dL_law_32 : decode cL_law 32 = .ok (.tableswitch 380 0 12 #[68, 101, 125, 158, 201, 215, 238, 261, 274, 287, 300, 323, 357], 68) := by decide +kernel
theorem dL_law_100 : decode cL_law 100 = .ok (.aload_n 1, 1) := by decide +kernel
theorem dL_law_101 : decode cL_law 101 = .ok (.aload_n 0, 1) := by decide +kernel
theorem dL_law_102 : decode cL_law 102 = .ok (.iload_n 3, 1) := by decide +kernel
theorem dL_law_103 : decode cL_law 103 = .ok (.iconst 1, 1) := by decide +kernel
theorem dL_law_104 : decode cL_law 104 = .ok (.iadd, 1) := by decide +kernel
theorem dL_law_105 : decode cL_law 105 = .ok (.iaload, 1) := by decide +kernel
theorem dL_law_106 : decode cL_law 106 = .ok (.aload_n 0, 1) := by decide +kernel
theorem dL_law_107 : decode cL_law 107 = .ok (.iload_n 3, 1) := by decide +kernel
theorem dL_law_108 : decode cL_law 108 = .ok (.iconst 2, 1) := by decide +kernel
theorem dL_law_109 : decode cL_law 109 = .ok (.iadd, 1) := by decide +kernel
theorem dL_law_110 : decode cL_law 110 = .ok (.iaload, 1) := by decide +kernel
theorem dL_law_111 : decode cL_law 111 = .ok (.invokevirtual 13, 3) := by decide +kernel
theorem dL_law_114 : decode cL_law 114 = .ok (.aload_n 2, 1) := by decide +kernel
theorem dL_law_115 : decode cL_law 115 = .ok (.aload_n 0, 1) := by decide +kernel
theorem dL_law_116 : decode cL_law 116 = .ok (.iload_n 3, 1) := by decide +kernel
theorem dL_law_117 : decode cL_law 117 = .ok (.iconst 1, 1) := by decide +kernel
theorem dL_law_118 : decode cL_law 118 = .ok (.iadd, 1) := by decide +kernel
theorem dL_law_119 : decode cL_law 119 = .ok (.iaload, 1) := by decide +kernel
theorem dL_law_120 : decode cL_law 120 = .ok (.aload_n 0, 1) := by decide +kernel
theorem dL_law_121 : decode cL_law 121 = .ok (.iload_n 3, 1) := by decide +kernel
theorem dL_law_122 : decode cL_law 122 = .ok (.iconst 2, 1) := by decide +kernel
theorem dL_law_123 : decode cL_law 123 = .ok (.iadd, 1) := by decide +kernel
theorem dL_law_124 : decode cL_law 124 = .ok (.iaload, 1) := by decide +kernel
theorem dL_law_125 : decode cL_law 125 = .ok (.invokevirtual 17, 3) := by decide +kernel
theorem dL_law_128 : decode cL_law 128 = .ok (.if_icmp .eq 284, 3) := by decide +kernel
theorem dL_law_131 : decode cL_law 131 = .ok (.iconst 0, 1) := by decide +kernel
theorem dL_law_132 : decode cL_law 132 = .ok (.ireturn, 1) := by decide +kernel
theorem dL_law_133 : decode cL_law 133 = .ok (.aload_n 1, 1) := by decide +kernel
theorem dL_law_134 : decode cL_law 134 = .ok (.aload_n 0, 1) := by decide +kernel
theorem dL_law_135 : decode cL_law 135 = .ok (.iload_n 3, 1) := by decide +kernel
theorem dL_law_136 : decode cL_law 136 = .ok (.iconst 1, 1) := by decide +kernel
theorem dL_law_137 : decode cL_law 137 = .ok (.iadd, 1) := by decide +kernel
theorem dL_law_138 : decode cL_law 138 = .ok (.iaload, 1) := by decide +kernel
theorem dL_law_139 : decode cL_law 139 = .ok (.invokevirtual 18, 3) := by decide +kernel
theorem dL_law_142 : decode cL_law 142 = .ok (.aload_n 2, 1) := by decide +kernel
theorem dL_law_143 : decode cL_law 143 = .ok (.aload_n 0, 1) := by decide +kernel
theorem dL_law_144 : decode cL_law 144 = .ok (.iload_n 3, 1) := by decide +kernel
theorem dL_law_145 : decode cL_law 145 = .ok (.iconst 1, 1) := by decide +kernel
theorem dL_law_146 : decode cL_law 146 = .ok (.iadd, 1) := by decide +kernel
theorem dL_law_147 : decode cL_law 147 = .ok (.iaload, 1) := by decide +kernel
theorem dL_law_148 : decode cL_law 148 = .ok (.invokevirtual 22, 3) := by decide +kernel
theorem dL_law_151 : decode cL_law 151 = .ok (.lcmp, 1) := by decide +kernel
theorem dL_law_152 : decode cL_law 152 = .ok (.ifCond .eq 260, 3) := by decide +kernel
theorem dL_law_155 : decode cL_law 155 = .ok (.iconst 0, 1) := by decide +kernel
theorem dL_law_156 : decode cL_law 156 = .ok (.ireturn, 1) := by decide +kernel
theorem dL_law_157 : decode cL_law 157 = .ok (.aload_n 1, 1) := by decide +kernel
theorem dL_law_158 : decode cL_law 158 = .ok (.aload_n 0, 1) := by decide +kernel
theorem dL_law_159 : decode cL_law 159 = .ok (.iload_n 3, 1) := by decide +kernel
theorem dL_law_160 : decode cL_law 160 = .ok (.iconst 1, 1) := by decide +kernel
theorem dL_law_161 : decode cL_law 161 = .ok (.iadd, 1) := by decide +kernel
theorem dL_law_162 : decode cL_law 162 = .ok (.iaload, 1) := by decide +kernel
theorem dL_law_163 : decode cL_law 163 = .ok (.aload_n 0, 1) := by decide +kernel
theorem dL_law_164 : decode cL_law 164 = .ok (.iload_n 3, 1) := by decide +kernel
theorem dL_law_165 : decode cL_law 165 = .ok (.iconst 2, 1) := by decide +kernel
theorem dL_law_166 : decode cL_law 166 = .ok (.iadd, 1) := by decide +kernel
theorem dL_law_167 : decode cL_law 167 = .ok (.iaload, 1) := by decide +kernel
theorem dL_law_168 : decode cL_law 168 = .ok (.invokevirtual 23, 3) := by decide +kernel
theorem dL_law_171 : decode cL_law 171 = .ok (.aload_n 2, 1) := by decide +kernel
theorem dL_law_172 : decode cL_law 172 = .ok (.aload_n 0, 1) := by decide +kernel
theorem dL_law_173 : decode cL_law 173 = .ok (.iload_n 3, 1) := by decide +kernel
theorem dL_law_174 : decode cL_law 174 = .ok (.iconst 1, 1) := by decide +kernel
theorem dL_law_175 : decode cL_law 175 = .ok (.iadd, 1) := by decide +kernel
theorem dL_law_176 : decode cL_law 176 = .ok (.iaload, 1) := by decide +kernel
theorem dL_law_177 : decode cL_law 177 = .ok (.aload_n 0, 1) := by decide +kernel
theorem dL_law_178 : decode cL_law 178 = .ok (.iload_n 3, 1) := by decide +kernel
theorem dL_law_179 : decode cL_law 179 = .ok (.iconst 2, 1) := by decide +kernel
theorem dL_law_180 : decode cL_law 180 = .ok (.iadd, 1) := by decide +kernel
theorem dL_law_181 : decode cL_law 181 = .ok (.iaload, 1) := by decide +kernel
theorem dL_law_182 : decode cL_law 182 = .ok (.invokevirtual 26, 3) := by decide +kernel
theorem dL_law_185 : decode cL_law 185 = .ok (.if_icmp .eq 227, 3) := by decide +kernel
theorem dL_law_188 : decode cL_law 188 = .ok (.iconst 0, 1) := by decide +kernel
theorem dL_law_189 : decode cL_law 189 = .ok (.ireturn, 1) := by decide +kernel
theorem dL_law_190 : decode cL_law 190 = .ok (.aload_n 1, 1) := by decide +kernel
theorem dL_law_191 : decode cL_law 191 = .ok (.aload_n 0, 1) := by decide +kernel
theorem dL_law_192 : decode cL_law 192 = .ok (.iload_n 3, 1) := by decide +kernel
theorem dL_law_193 : decode cL_law 193 = .ok (.iconst 1, 1) := by decide +kernel
theorem dL_law_194 : decode cL_law 194 = .ok (.iadd, 1) := by decide +kernel
theorem dL_law_195 : decode cL_law 195 = .ok (.iaload, 1) := by decide +kernel
theorem dL_law_196 : decode cL_law 196 = .ok (.aload_n 0, 1) := by decide +kernel
theorem dL_law_197 : decode cL_law 197 = .ok (.iload_n 3, 1) := by decide +kernel
theorem dL_law_198 : decode cL_law 198 = .ok (.iconst 2, 1) := by decide +kernel
theorem dL_law_199 : decode cL_law 199 = .ok (.iadd, 1) := by decide +kernel
theorem dL_law_200 : decode cL_law 200 = .ok (.iaload, 1) := by decide +kernel
theorem dL_law_201 : decode cL_law 201 = .ok (.aload_n 0, 1) := by decide +kernel
theorem dL_law_202 : decode cL_law 202 = .ok (.iload_n 3, 1) := by decide +kernel
theorem dL_law_203 : decode cL_law 203 = .ok (.iconst 3, 1) := by decide +kernel
theorem dL_law_204 : decode cL_law 204 = .ok (.iadd, 1) := by decide +kernel
theorem dL_law_205 : decode cL_law 205 = .ok (.iaload, 1) := by decide +kernel
theorem dL_law_206 : decode cL_law 206 = .ok (.invokevirtual 27, 3) := by decide +kernel
theorem dL_law_209 : decode cL_law 209 = .ok (.aload_n 2, 1) := by decide +kernel
theorem dL_law_210 : decode cL_law 210 = .ok (.aload_n 0, 1) := by decide +kernel
theorem dL_law_211 : decode cL_law 211 = .ok (.iload_n 3, 1) := by decide +kernel
theorem dL_law_212 : decode cL_law 212 = .ok (.iconst 1, 1) := by decide +kernel
theorem dL_law_213 : decode cL_law 213 = .ok (.iadd, 1) := by decide +kernel
theorem dL_law_214 : decode cL_law 214 = .ok (.iaload, 1) := by decide +kernel
theorem dL_law_215 : decode cL_law 215 = .ok (.aload_n 0, 1) := by decide +kernel
theorem dL_law_216 : decode cL_law 216 = .ok (.iload_n 3, 1) := by decide +kernel
theorem dL_law_217 : decode cL_law 217 = .ok (.iconst 2, 1) := by decide +kernel
theorem dL_law_218 : decode cL_law 218 = .ok (.iadd, 1) := by decide +kernel
theorem dL_law_219 : decode cL_law 219 = .ok (.iaload, 1) := by decide +kernel
theorem dL_law_220 : decode cL_law 220 = .ok (.aload_n 0, 1) := by decide +kernel
theorem dL_law_221 : decode cL_law 221 = .ok (.iload_n 3, 1) := by decide +kernel
theorem dL_law_222 : decode cL_law 222 = .ok (.iconst 3, 1) := by decide +kernel
theorem dL_law_223 : decode cL_law 223 = .ok (.iadd, 1) := by decide +kernel
theorem dL_law_224 : decode cL_law 224 = .ok (.iaload, 1) := by decide +kernel
theorem dL_law_225 : decode cL_law 225 = .ok (.invokevirtual 31, 3) := by decide +kernel
theorem dL_law_228 : decode cL_law 228 = .ok (.if_icmp .eq 184, 3) := by decide +kernel
theorem dL_law_231 : decode cL_law 231 = .ok (.iconst 0, 1) := by decide +kernel
theorem dL_law_232 : decode cL_law 232 = .ok (.ireturn, 1) := by decide +kernel
theorem dL_law_233 : decode cL_law 233 = .ok (.aload_n 1, 1) := by decide +kernel
theorem dL_law_234 : decode cL_law 234 = .ok (.invokevirtual 32, 3) := by decide +kernel
theorem dL_law_237 : decode cL_law 237 = .ok (.aload_n 2, 1) := by decide +kernel
theorem dL_law_238 : decode cL_law 238 = .ok (.invokevirtual 36, 3) := by decide +kernel
theorem dL_law_241 : decode cL_law 241 = .ok (.lcmp, 1) := by decide +kernel
theorem dL_law_242 : decode cL_law 242 = .ok (.ifCond .eq 170, 3) := by decide +kernel
theorem dL_law_245 : decode cL_law 245 = .ok (.iconst 0, 1) := by decide +kernel
theorem dL_law_246 : decode cL_law 246 = .ok (.ireturn, 1) := by decide +kernel
theorem dL_law_247 : decode cL_law 247 = .ok (.aload_n 1, 1) := by decide +kernel
theorem dL_law_248 : decode cL_law 248 = .ok (.aload_n 0, 1) := by decide +kernel
theorem dL_law_249 : decode cL_law 249 = .ok (.iload_n 3, 1) := by decide +kernel
theorem dL_law_250 : decode cL_law 250 = .ok (.iconst 1, 1) := by decide +kernel
theorem dL_law_251 : decode cL_law 251 = .ok (.iadd, 1) := by decide +kernel
theorem dL_law_252 : decode cL_law 252 = .ok (.iaload, 1) := by decide +kernel
theorem dL_law_253 : decode cL_law 253 = .ok (.invokevirtual 37, 3) := by decide +kernel
theorem dL_law_256 : decode cL_law 256 = .ok (.aload_n 2, 1) := by decide +kernel
theorem dL_law_257 : decode cL_law 257 = .ok (.aload_n 0, 1) := by decide +kernel
theorem dL_law_258 : decode cL_law 258 = .ok (.iload_n 3, 1) := by decide +kernel
theorem dL_law_259 : decode cL_law 259 = .ok (.iconst 1, 1) := by decide +kernel
theorem dL_law_260 : decode cL_law 260 = .ok (.iadd, 1) := by decide +kernel
theorem dL_law_261 : decode cL_law 261 = .ok (.iaload, 1) := by decide +kernel
theorem dL_law_262 : decode cL_law 262 = .ok (.invokevirtual 41, 3) := by decide +kernel
theorem dL_law_265 : decode cL_law 265 = .ok (.if_icmp .eq 147, 3) := by decide +kernel
theorem dL_law_268 : decode cL_law 268 = .ok (.iconst 0, 1) := by decide +kernel
theorem dL_law_269 : decode cL_law 269 = .ok (.ireturn, 1) := by decide +kernel
theorem dL_law_270 : decode cL_law 270 = .ok (.aload_n 1, 1) := by decide +kernel
theorem dL_law_271 : decode cL_law 271 = .ok (.aload_n 0, 1) := by decide +kernel
theorem dL_law_272 : decode cL_law 272 = .ok (.iload_n 3, 1) := by decide +kernel
theorem dL_law_273 : decode cL_law 273 = .ok (.iconst 1, 1) := by decide +kernel
theorem dL_law_274 : decode cL_law 274 = .ok (.iadd, 1) := by decide +kernel
theorem dL_law_275 : decode cL_law 275 = .ok (.iaload, 1) := by decide +kernel
theorem dL_law_276 : decode cL_law 276 = .ok (.invokevirtual 42, 3) := by decide +kernel
theorem dL_law_279 : decode cL_law 279 = .ok (.aload_n 2, 1) := by decide +kernel
theorem dL_law_280 : decode cL_law 280 = .ok (.aload_n 0, 1) := by decide +kernel
theorem dL_law_281 : decode cL_law 281 = .ok (.iload_n 3, 1) := by decide +kernel
theorem dL_law_282 : decode cL_law 282 = .ok (.iconst 1, 1) := by decide +kernel
theorem dL_law_283 : decode cL_law 283 = .ok (.iadd, 1) := by decide +kernel
theorem dL_law_284 : decode cL_law 284 = .ok (.iaload, 1) := by decide +kernel
theorem dL_law_285 : decode cL_law 285 = .ok (.invokevirtual 46, 3) := by decide +kernel
theorem dL_law_288 : decode cL_law 288 = .ok (.if_icmp .eq 124, 3) := by decide +kernel
theorem dL_law_291 : decode cL_law 291 = .ok (.iconst 0, 1) := by decide +kernel
theorem dL_law_292 : decode cL_law 292 = .ok (.ireturn, 1) := by decide +kernel
theorem dL_law_293 : decode cL_law 293 = .ok (.aload_n 1, 1) := by decide +kernel
theorem dL_law_294 : decode cL_law 294 = .ok (.invokevirtual 47, 3) := by decide +kernel
theorem dL_law_297 : decode cL_law 297 = .ok (.aload_n 2, 1) := by decide +kernel
theorem dL_law_298 : decode cL_law 298 = .ok (.invokevirtual 51, 3) := by decide +kernel
theorem dL_law_301 : decode cL_law 301 = .ok (.if_icmp .eq 111, 3) := by decide +kernel
theorem dL_law_304 : decode cL_law 304 = .ok (.iconst 0, 1) := by decide +kernel
theorem dL_law_305 : decode cL_law 305 = .ok (.ireturn, 1) := by decide +kernel
theorem dL_law_306 : decode cL_law 306 = .ok (.aload_n 1, 1) := by decide +kernel
theorem dL_law_307 : decode cL_law 307 = .ok (.invokevirtual 52, 3) := by decide +kernel
theorem dL_law_310 : decode cL_law 310 = .ok (.aload_n 2, 1) := by decide +kernel
theorem dL_law_311 : decode cL_law 311 = .ok (.invokevirtual 56, 3) := by decide +kernel
theorem dL_law_314 : decode cL_law 314 = .ok (.if_icmp .eq 98, 3) := by decide +kernel
theorem dL_law_317 : decode cL_law 317 = .ok (.iconst 0, 1) := by decide +kernel
theorem dL_law_318 : decode cL_law 318 = .ok (.ireturn, 1) := by decide +kernel
theorem dL_law_319 : decode cL_law 319 = .ok (.aload_n 1, 1) := by decide +kernel
theorem dL_law_320 : decode cL_law 320 = .ok (.invokevirtual 57, 3) := by decide +kernel
theorem dL_law_323 : decode cL_law 323 = .ok (.aload_n 2, 1) := by decide +kernel
theorem dL_law_324 : decode cL_law 324 = .ok (.invokevirtual 60, 3) := by decide +kernel
theorem dL_law_327 : decode cL_law 327 = .ok (.if_icmp .eq 85, 3) := by decide +kernel
theorem dL_law_330 : decode cL_law 330 = .ok (.iconst 0, 1) := by decide +kernel
theorem dL_law_331 : decode cL_law 331 = .ok (.ireturn, 1) := by decide +kernel
theorem dL_law_332 : decode cL_law 332 = .ok (.aload_n 1, 1) := by decide +kernel
theorem dL_law_333 : decode cL_law 333 = .ok (.aload_n 0, 1) := by decide +kernel
theorem dL_law_334 : decode cL_law 334 = .ok (.iload_n 3, 1) := by decide +kernel
theorem dL_law_335 : decode cL_law 335 = .ok (.iconst 1, 1) := by decide +kernel
theorem dL_law_336 : decode cL_law 336 = .ok (.iadd, 1) := by decide +kernel
theorem dL_law_337 : decode cL_law 337 = .ok (.iaload, 1) := by decide +kernel
theorem dL_law_338 : decode cL_law 338 = .ok (.invokevirtual 61, 3) := by decide +kernel
theorem dL_law_341 : decode cL_law 341 = .ok (.aload_n 2, 1) := by decide +kernel
theorem dL_law_342 : decode cL_law 342 = .ok (.aload_n 0, 1) := by decide +kernel
theorem dL_law_343 : decode cL_law 343 = .ok (.iload_n 3, 1) := by decide +kernel
theorem dL_law_344 : decode cL_law 344 = .ok (.iconst 1, 1) := by decide +kernel
theorem dL_law_345 : decode cL_law 345 = .ok (.iadd, 1) := by decide +kernel
theorem dL_law_346 : decode cL_law 346 = .ok (.iaload, 1) := by decide +kernel
theorem dL_law_347 : decode cL_law 347 = .ok (.invokevirtual 64, 3) := by decide +kernel
theorem dL_law_350 : decode cL_law 350 = .ok (.if_icmp .eq 62, 3) := by decide +kernel
theorem dL_law_353 : decode cL_law 353 = .ok (.iconst 0, 1) := by decide +kernel
theorem dL_law_354 : decode cL_law 354 = .ok (.ireturn, 1) := by decide +kernel
theorem dL_law_355 : decode cL_law 355 = .ok (.aload_n 1, 1) := by decide +kernel
theorem dL_law_356 : decode cL_law 356 = .ok (.aload_n 0, 1) := by decide +kernel
theorem dL_law_357 : decode cL_law 357 = .ok (.iload_n 3, 1) := by decide +kernel
theorem dL_law_358 : decode cL_law 358 = .ok (.iconst 1, 1) := by decide +kernel
theorem dL_law_359 : decode cL_law 359 = .ok (.iadd, 1) := by decide +kernel
theorem dL_law_360 : decode cL_law 360 = .ok (.iaload, 1) := by decide +kernel
theorem dL_law_361 : decode cL_law 361 = .ok (.aload_n 0, 1) := by decide +kernel
theorem dL_law_362 : decode cL_law 362 = .ok (.iload_n 3, 1) := by decide +kernel
theorem dL_law_363 : decode cL_law 363 = .ok (.iconst 2, 1) := by decide +kernel
theorem dL_law_364 : decode cL_law 364 = .ok (.iadd, 1) := by decide +kernel
theorem dL_law_365 : decode cL_law 365 = .ok (.iaload, 1) := by decide +kernel
theorem dL_law_366 : decode cL_law 366 = .ok (.invokevirtual 65, 3) := by decide +kernel
theorem dL_law_369 : decode cL_law 369 = .ok (.aload_n 2, 1) := by decide +kernel
theorem dL_law_370 : decode cL_law 370 = .ok (.aload_n 0, 1) := by decide +kernel
theorem dL_law_371 : decode cL_law 371 = .ok (.iload_n 3, 1) := by decide +kernel
theorem dL_law_372 : decode cL_law 372 = .ok (.iconst 1, 1) := by decide +kernel
theorem dL_law_373 : decode cL_law 373 = .ok (.iadd, 1) := by decide +kernel
theorem dL_law_374 : decode cL_law 374 = .ok (.iaload, 1) := by decide +kernel
theorem dL_law_375 : decode cL_law 375 = .ok (.aload_n 0, 1) := by decide +kernel
theorem dL_law_376 : decode cL_law 376 = .ok (.iload_n 3, 1) := by decide +kernel
theorem dL_law_377 : decode cL_law 377 = .ok (.iconst 2, 1) := by decide +kernel
theorem dL_law_378 : decode cL_law 378 = .ok (.iadd, 1) := by decide +kernel
theorem dL_law_379 : decode cL_law 379 = .ok (.iaload, 1) := by decide +kernel
theorem dL_law_380 : decode cL_law 380 = .ok (.invokevirtual 69, 3) := by decide +kernel
theorem dL_law_383 : decode cL_law 383 = .ok (.lcmp, 1) := by decide +kernel
theorem dL_law_384 : decode cL_law 384 = .ok (.ifCond .eq 28, 3) := by decide +kernel
theorem dL_law_387 : decode cL_law 387 = .ok (.iconst 0, 1) := by decide +kernel
theorem dL_law_388 : decode cL_law 388 = .ok (.ireturn, 1) := by decide +kernel
theorem dL_law_389 : decode cL_law 389 = .ok (.aload_n 1, 1) := by decide +kernel
theorem dL_law_390 : decode cL_law 390 = .ok (.aload_n 0, 1) := by decide +kernel
theorem dL_law_391 : decode cL_law 391 = .ok (.iload_n 3, 1) := by decide +kernel
theorem dL_law_392 : decode cL_law 392 = .ok (.iconst 1, 1) := by decide +kernel
theorem dL_law_393 : decode cL_law 393 = .ok (.iadd, 1) := by decide +kernel
theorem dL_law_394 : decode cL_law 394 = .ok (.iaload, 1) := by decide +kernel
theorem dL_law_395 : decode cL_law 395 = .ok (.invokevirtual 70, 3) := by decide +kernel
theorem dL_law_398 : decode cL_law 398 = .ok (.aload_n 2, 1) := by decide +kernel
theorem dL_law_399 : decode cL_law 399 = .ok (.aload_n 0, 1) := by decide +kernel
theorem dL_law_400 : decode cL_law 400 = .ok (.iload_n 3, 1) := by decide +kernel
theorem dL_law_401 : decode cL_law 401 = .ok (.iconst 1, 1) := by decide +kernel
theorem dL_law_402 : decode cL_law 402 = .ok (.iadd, 1) := by decide +kernel
theorem dL_law_403 : decode cL_law 403 = .ok (.iaload, 1) := by decide +kernel
theorem dL_law_404 : decode cL_law 404 = .ok (.invokevirtual 73, 3) := by decide +kernel
theorem dL_law_407 : decode cL_law 407 = .ok (.if_icmp .eq 5, 3) := by decide +kernel
theorem dL_law_410 : decode cL_law 410 = .ok (.iconst 0, 1) := by decide +kernel
theorem dL_law_411 : decode cL_law 411 = .ok (.ireturn, 1) := by decide +kernel
theorem dL_law_412 : decode cL_law 412 = .ok (.iinc 3 4, 3) := by decide +kernel
theorem dL_law_415 : decode cL_law 415 = .ok (.goto (-397), 3) := by decide +kernel
theorem dL_law_418 : decode cL_law 418 = .ok (.iconst 1, 1) := by decide +kernel
theorem dL_law_419 : decode cL_law 419 = .ok (.ireturn, 1) := by decide +kernel
end
section
/-! MY KIT: contracts of one shape (pure: cS, over a world: cM), their entries, ends and calls -/
/-- a pure static method: over any heap it answers r, and changes nothing -/
abbrev cS (l : Launch) (y : MethodName) (ws : List Cond) (rm : Room) (as : List Value) (r : Value) : Prop := Met l y ws rm (va_Pc as (fun _ => True)) (k2_QcV r) 0 0 (fun _ => False)
theorem cS_in {l : Launch} {y : MethodName} {ws ws' : List Cond} {rm : Room} {as : List Value} {r : Value} {cc : ByteArray} {maxL : Nat} {ret : Option FieldType} (hy : plainName y.cls = true) (hw : ws = Cond.code y cc maxL ret :: ws') (hn : (lg_sl as).length ≤ maxL)
    (body : ∀ (p : Program) (e : Env) (s : State) (m : MethodId) (below : List Frame) (meth : Method) (c : Code) (ls : Array Slot), p.tables.exec = Jvm.exec → c.code = cc → meth.sig.returnType = ret → meth.locks = false → c.maxLocals = maxL → s.vm.findClass y.cls = some m.cls → (∀ w ∈ ws, w.before as.toArray s = true) → lv_has ls maxL (lv_args 0 as) →
      W p l e rm s m as.toArray below meth c s.heap [] 0 0 (MQ below (k2_QcV r) as.toArray s 0 0 (fun _ => False)) (F0 m 0 ls [])) : cS l y ws rm as r := by
  refine Met.ofW hy hw ?_
  intro p e s m args below meth c s₁ B hml hv
  obtain ⟨rfl, -⟩ := hv
  rw [lg_entry_eq]
  exact body p e s m below meth c _ B.exec B.bytes B.returns B.notSynchronized hml (findClass_of_methodNamed B.named) (atoms_spec (ws := ws) B.pre) (lv_entry as hn)
section KS
variable {p : Program} {l : Launch} {e : Env} {R : Room} {s : State} {m : MethodId} {args : Array Value} {below : List Frame} {meth : Method} {c : Code} {H : Heap} {locs : List Loc} {cells slots : Nat} {Q : State → Prop}
variable {cc bytes : ByteArray} {pc nL maxL index n : Nat} {ls : Array Slot} {rest st0 as : List Value} {Ts ws ws' : List Cond} {own C : String} {y : MethodName} {ret : Option FieldType} {rm : Room}
/-- the value on top gets a name (the equation turned as 'subst' likes it) -/
theorem tpi {x : Int32} (k : ∀ y : Int32, x = y → W p l e R s m args below meth c H locs cells slots Q (F0 m pc ls (.int y :: rest))) : W p l e R s m args below meth c H locs cells slots Q (F0 m pc ls (.int x :: rest)) := k x rfl
theorem tpl {x : Int64} (k : ∀ y : Int64, x = y → W p l e R s m args below meth c H locs cells slots Q (F0 m pc ls (.long y :: rest))) : W p l e R s m args below meth c H locs cells slots Q (F0 m pc ls (.long x :: rest)) := k x rfl
theorem cS_reti {v r : Int32} (hx : p.tables.exec = Jvm.exec) (hb : c.code = cc) (hr : meth.sig.returnType = some .int) (hlocks : meth.locks = false) (hdg : decode cc pc = .ok (.ireturn, 1)) (h : v = r) : W p l e R s m args below meth c s.heap [] 0 0 (MQ below (k2_QcV (.int r)) args s 0 0 (fun _ => False)) (F0 m pc ls [.int v]) := by
  subst h
  exact W.iret hx hb hr (fun t ht _ => ⟨rfl, ht⟩) (fun q h => by cases h) hdg
theorem cS_retz {v r : Int32} (hx : p.tables.exec = Jvm.exec) (hb : c.code = cc) (hr : meth.sig.returnType = some .boolean) (hlocks : meth.locks = false) (hdg : decode cc pc = .ok (.ireturn, 1)) (hn : narrow .boolean (.int v) = .int v) (h : v = r) : W p l e R s m args below meth c s.heap [] 0 0 (MQ below (k2_QcV (.int r)) args s 0 0 (fun _ => False)) (F0 m pc ls [.int v]) := by
  subst h
  exact W.zret hx hb hr hn (fun t ht _ => ⟨rfl, ht⟩) (fun q h => by cases h) hdg
theorem cS_retl {v r : Int64} (hx : p.tables.exec = Jvm.exec) (hb : c.code = cc) (hr : meth.sig.returnType = some .long) (hlocks : meth.locks = false) (hdg : decode cc pc = .ok (.lreturn, 1)) (h : v = r) : W p l e R s m args below meth c s.heap [] 0 0 (MQ below (k2_QcV (.long r)) args s 0 0 (fun _ => False)) (F0 m pc ls [.long v]) := by
  subst h
  exact W.lret hx hb hr (fun t ht _ => ⟨rfl, ht⟩) (fun q h => by cases h) hdg
/-- a call of a pure static method -/
theorem cS_call {r : Value} (S : CallFix p m c cc nL s args Ts own) (hM : cS l y ws rm as r) (hT : GoodIn Ts (va_wsS own index y ws)) (hw : ws = Cond.code y bytes maxL ret :: ws') (hrc : rm.cells = 0) (hrs : rm.slots = 0)
    (hd : y.cls ≠ "java/lang/invoke/MethodHandle" ∧ y.cls ≠ "java/lang/invoke/VarHandle" ∧ (parseMethodDescriptor y.desc).map (fun d => d.parameters.length) = some n) (hR : rm.frames + 1 ≤ R.frames ∧ 8 + (maxL + 11) + rm.locals ≤ R.locals)
    (hsize : ls.size = nL) (hlen : as.length = n) (hstack : st0 = as.reverse ++ rest) (hW : (rest.map fun v => v.category).sum ≤ 8) (hdg : decode cc pc = .ok (.invokestatic index, 3)) (hf : cells ≤ R.cells ∧ slots ≤ R.slots)
    (kk : W p l e R s m args below meth c H locs cells slots Q (F0 m (pc + 3) ls (r :: rest))) : W p l e R s m args below meth c H locs cells slots Q (F0 m pc ls st0) :=
  W.callV (W.runS S hM (va_cwS n S.2.2.2.2 hT hw hrc hrs hd hR) ⟨fun a U g mk h => ⟨h.1, trivial⟩, fun U _ _ => ⟨rfl, trivial⟩⟩ rfl hlen hsize hstack (lv_room hW) hdg hf) kk
end KS
/-- the end of a method over a world: its answer, the world behind it, the rest unchanged -/
def cQ (ro : Option Value) (B : State → Prop) (A : Nat → Prop) : Array Value → State → Outcome → State → Prop := fun _ st oc t => oc = .returned ro ∧ B t ∧ va_F A st t
/-- a method over a world of the kind Wd: from st it comes to st', and answers ro; nothing is made -/
def cM {σ : Type} (l : Launch) (D : va_G) (cl : List vw_C) (tys : List (ClassId × FieldType)) (Wd : σ → va_W) (y : MethodName) (ws : List Cond) (rm : Room) (as : List Value) (st : σ) (ro : Option Value) (st' : σ) : Prop :=
  ∀ sz : Nat, Met l y ws rm (va_Pc as (fun U => U.heap.size = sz ∧ va_P D cl (Wd st) U.heap ∧ va_K D cl tys U ∧ va_D (fun _ => True) (Wd st))) (cQ ro (fun t => va_P D cl (Wd st') t.heap ∧ va_D (va_A (Wd st) sz) (Wd st')) (va_A (Wd st) sz)) 0 0 (va_A (Wd st) sz)
theorem cM_in {σ : Type} {l : Launch} {D : va_G} {cl : List vw_C} {tys : List (ClassId × FieldType)} {Wd : σ → va_W} {y : MethodName} {ws ws' : List Cond} {rm : Room} {as : List Value} {st st' : σ} {ro : Option Value} {cc : ByteArray} {maxL : Nat} {ret : Option FieldType} (hy : plainName y.cls = true) (hw : ws = Cond.code y cc maxL ret :: ws') (hn : (lg_sl as).length ≤ maxL)
    (body : ∀ (p : Program) (e : Env) (s : State) (m : MethodId) (below : List Frame) (meth : Method) (c : Code) (ls : Array Slot) (A : Nat → Prop), p.tables.exec = Jvm.exec → c.code = cc → meth.sig.returnType = ret → meth.locks = false → c.maxLocals = maxL → s.vm.findClass y.cls = some m.cls → (∀ w ∈ ws, w.before as.toArray s = true) → (∀ q : Nat, s.heap.size ≤ q → A q) → va_K D cl tys s → va_P D cl (Wd st) s.heap → va_D A (Wd st) → va_S A s.heap s.heap [] → lv_has ls maxL (lv_args 0 as) →
      W p l e rm s m as.toArray below meth c s.heap [] 0 0 (MQ below (cQ ro (fun t => va_P D cl (Wd st') t.heap ∧ va_D A (Wd st')) A) as.toArray s 0 0 A) (F0 m 0 ls [])) : cM l D cl tys Wd y ws rm as st ro st' := by
  intro sz
  refine Met.ofW hy hw ?_
  intro p e s m args below meth c s₁ B hml hv
  obtain ⟨rfl, hsz, hP, hK, hD⟩ := hv
  subst hsz
  rw [lg_entry_eq]
  exact body p e s m below meth c _ _ B.exec B.bytes B.returns B.notSynchronized hml (findClass_of_methodNamed B.named) (atoms_spec (ws := ws) B.pre) (fun q h => Or.inr h) hK hP hD.self va_S.rf (lv_entry as hn)
section KM
variable {σ : Type} {p : Program} {l : Launch} {e : Env} {R : Room} {s : State} {m : MethodId} {args : Array Value} {below : List Frame} {meth : Method} {c : Code} {H H0 : Heap} {locs : List Loc} {cells slots : Nat} {Q : State → Prop}
variable {cc bytes : ByteArray} {pc nL maxL index n : Nat} {ls : Array Slot} {rest st0 as : List Value} {Ts ws ws' : List Cond} {own C : String} {y : MethodName} {ret : Option FieldType} {rm : Room}
variable {D : va_G} {cl : List vw_C} {tys tysC : List (ClassId × FieldType)} {Wd : σ → va_W} {wsC wr : va_W} {st st' : σ} {ro : Option Value} {A : Nat → Prop}
theorem cM_reti {v r : Int32} (hx : p.tables.exec = Jvm.exec) (hb : c.code = cc) (hr : meth.sig.returnType = some .int) (hlocks : meth.locks = false) (hdg : decode cc pc = .ok (.ireturn, 1)) (hS : va_S A s.heap H locs) (hP : va_P D cl (Wd st) H) (hD : va_D A (Wd st)) (h : v = r) (h2 : st = st') : W p l e R s m args below meth c H locs 0 0 (MQ below (cQ (some (.int r)) (fun t => va_P D cl (Wd st') t.heap ∧ va_D A (Wd st')) A) args s 0 0 A) (F0 m pc ls [.int v]) := by
  subst h
  subst h2
  exact W.iret hx hb hr (fun t ht _ => ⟨rfl, ⟨by rw [ht]; exact hP, hD⟩, hS.F ht⟩) hS.2.2 hdg
theorem cM_retz {v r : Int32} (hx : p.tables.exec = Jvm.exec) (hb : c.code = cc) (hr : meth.sig.returnType = some .boolean) (hlocks : meth.locks = false) (hdg : decode cc pc = .ok (.ireturn, 1)) (hS : va_S A s.heap H locs) (hP : va_P D cl (Wd st) H) (hD : va_D A (Wd st)) (hn : narrow .boolean (.int v) = .int v) (h : v = r) (h2 : st = st') : W p l e R s m args below meth c H locs 0 0 (MQ below (cQ (some (.int r)) (fun t => va_P D cl (Wd st') t.heap ∧ va_D A (Wd st')) A) args s 0 0 A) (F0 m pc ls [.int v]) := by
  subst h
  subst h2
  exact W.zret hx hb hr hn (fun t ht _ => ⟨rfl, ⟨by rw [ht]; exact hP, hD⟩, hS.F ht⟩) hS.2.2 hdg
theorem cM_retl {v r : Int64} (hx : p.tables.exec = Jvm.exec) (hb : c.code = cc) (hr : meth.sig.returnType = some .long) (hlocks : meth.locks = false) (hdg : decode cc pc = .ok (.lreturn, 1)) (hS : va_S A s.heap H locs) (hP : va_P D cl (Wd st) H) (hD : va_D A (Wd st)) (h : v = r) (h2 : st = st') : W p l e R s m args below meth c H locs 0 0 (MQ below (cQ (some (.long r)) (fun t => va_P D cl (Wd st') t.heap ∧ va_D A (Wd st')) A) args s 0 0 A) (F0 m pc ls [.long v]) := by
  subst h
  subst h2
  exact W.lret hx hb hr (fun t ht _ => ⟨rfl, ⟨by rw [ht]; exact hP, hD⟩, hS.F ht⟩) hS.2.2 hdg
theorem cM_retv (hx : p.tables.exec = Jvm.exec) (hb : c.code = cc) (hr : meth.sig.returnType = none) (hlocks : meth.locks = false) (hdg : decode cc pc = .ok (.return_, 1)) (hS : va_S A s.heap H locs) (hP : va_P D cl (Wd st) H) (hD : va_D A (Wd st)) (h2 : st = st') : W p l e R s m args below meth c H locs 0 0 (MQ below (cQ none (fun t => va_P D cl (Wd st') t.heap ∧ va_D A (Wd st')) A) args s 0 0 A) (F0 m pc ls []) := by
  subst h2
  exact W.vret hx hb hr (fun t ht _ => ⟨rfl, ⟨by rw [ht]; exact hP, hD⟩, hS.F ht⟩) hS.2.2 hdg
/-- a call of a method over a world: isC are the callee's cells among the caller's, isR the rest -/
theorem cM_call {b : Nat} {q : vw_C} {ci : Nat} {fs : List Value} {q0 : Nat} (isC isR : List Nat) (S : CallFix p m c cc nL s args Ts own) (hM : cM l D cl tysC Wd y ws rm (.ref b :: as) st ro st') (hT : GoodIn Ts (wsV own index C y ws)) (hw : ws = Cond.code y bytes maxL ret :: ws') (hrc : rm.cells = 0) (hrs : rm.slots = 0)
    (hd : y.cls = C ∧ y.cls ≠ "java/lang/invoke/MethodHandle" ∧ y.cls ≠ "java/lang/invoke/VarHandle" ∧ (parseMethodDescriptor y.desc).map (fun d => d.parameters.length) = some n) (hR : rm.frames + 1 ≤ R.frames ∧ 8 + (maxL + 11) + rm.locals ≤ R.locals)
    (hK : va_K D cl tysC s) (hP : va_P D cl wsC H) (hD : va_D A wsC) (hS : va_S A H0 H locs) (hA : ∀ q, H0.size ≤ q → A q)
    (hC : isC.map (fun i => wsC[i]?) = (Wd st).map some) (hRs : isR.map (fun i => wsC[i]?) = wr.map some) (hnC : va_nd isC = true) (hnR : va_nd isR = true) (hdis : ∀ i ∈ isR, i ∉ isC)
    (hc : cl[ci]? = some q) (hq : q.1 = C) (he : (Wd st)[q0]? = some (b, .inr (ci, fs)))
    (hsize : ls.size = nL) (hlen : as.length = n) (hstack : st0 = as.reverse ++ .ref b :: rest) (hW : (rest.map fun v => v.category).sum ≤ 8) (hdg : decode cc pc = .ok (.invokevirtual index, 3)) (hf : cells ≤ R.cells ∧ slots ≤ R.slots)
    (kk : ∀ (H1 : Heap) (locs1 : List Loc), va_P D cl (wr ++ Wd st') H1 → va_D A (wr ++ Wd st') → va_S A H0 H1 locs1 → W p l e R s m args below meth c H1 locs1 cells slots Q (F0 m (pc + 3) ls (ro.toList ++ rest))) : W p l e R s m args below meth c H locs cells slots Q (F0 m pc ls st0) := by
  have hPc : va_P D cl (Wd st) H := by
    intro k x hx
    have h1 : (isC.map (fun i => wsC[i]?))[k]? = some (some x) := by rw [hC, List.getElem?_map, hx]; rfl
    rw [List.getElem?_map] at h1
    cases hi : isC[k]? with
    | none => rw [hi] at h1; cases h1
    | some i => rw [hi] at h1; exact hP i x (Option.some.inj h1)
  have hDc := hD.sub isC hnC hC
  have hFc := va_free hD hS hA isC hC
  subst hq
  have hr := va_runV (H := H) (locs := locs) (cells := cells) (slots := slots) (e := e) (below := below) (meth := meth) (g := F0 m pc ls st0) (b := b) (As := as) (rest := rest) S (hM H.size) (cwV n S.2.2.2.2 hT hw hrc hrs hd hR)
    ⟨fun a U g mk h => ⟨h.1, h.2.1, h.2.2.1, va_K.moved (u := U) (U := U.calling g mk a) (Vm.Alike.refl U.vm) h.2.2.2.1, h.2.2.2.2⟩, va_recv hK hPc hc he, fun U hU hW => ⟨rfl, by rw [hU], by rw [hU]; exact hPc, va_K.moved hW.alike hK, hDc.weaken (fun _ _ _ _ => trivial)⟩⟩ rfl hlen hsize hstack (lv_room hW) hdg hf
  intro T hT X
  obtain ⟨v, st₀, t, T', L, h0, X', hL, e1, e2, ⟨hv, ⟨hP1, hD1⟩, hz, hk⟩, stp⟩ := hr T hT X
  cases hv
  rw [h0] at hz hk
  obtain ⟨hP2, hD2⟩ := va_join (H1 := t.heap) hP hD isC isR hC hRs hnR hdis hk hFc hP1 hD1
  obtain ⟨t2, a1, b1⟩ := kk t.heap (locs ++ L) hP2 hD2 ⟨Nat.le_trans hS.1 hz, fun q h1 h2 => by rw [hk q (Nat.lt_of_lt_of_le h1 hS.1) (fun z => h2 (hFc q z))]; exact hS.2.1 q h1 h2, fun q hq => by
      rcases List.mem_append.mp hq with h | h
      · exact hS.2.2 q h
      · exact hFc _ (hL q h)⟩ T' e1 X'
  exact ⟨t2, stp t2 a1, b1⟩
/-- the same, the callee's world being the caller's -/
theorem cM_this {b : Nat} {q : vw_C} {ci : Nat} {fs : List Value} {q0 : Nat} (S : CallFix p m c cc nL s args Ts own) (hM : cM l D cl tysC Wd y ws rm (.ref b :: as) st ro st') (hT : GoodIn Ts (wsV own index C y ws)) (hw : ws = Cond.code y bytes maxL ret :: ws') (hrc : rm.cells = 0) (hrs : rm.slots = 0)
    (hd : y.cls = C ∧ y.cls ≠ "java/lang/invoke/MethodHandle" ∧ y.cls ≠ "java/lang/invoke/VarHandle" ∧ (parseMethodDescriptor y.desc).map (fun d => d.parameters.length) = some n) (hR : rm.frames + 1 ≤ R.frames ∧ 8 + (maxL + 11) + rm.locals ≤ R.locals)
    (hK : va_K D cl tysC s) (hP : va_P D cl (Wd st) H) (hD : va_D A (Wd st)) (hS : va_S A H0 H locs) (hA : ∀ q, H0.size ≤ q → A q)
    (hc : cl[ci]? = some q) (hq : q.1 = C) (he : (Wd st)[q0]? = some (b, .inr (ci, fs)))
    (hsize : ls.size = nL) (hlen : as.length = n) (hstack : st0 = as.reverse ++ .ref b :: rest) (hW : (rest.map fun v => v.category).sum ≤ 8) (hdg : decode cc pc = .ok (.invokevirtual index, 3)) (hf : cells ≤ R.cells ∧ slots ≤ R.slots)
    (kk : ∀ (H1 : Heap) (locs1 : List Loc), va_P D cl (Wd st') H1 → va_D A (Wd st') → va_S A H0 H1 locs1 → W p l e R s m args below meth c H1 locs1 cells slots Q (F0 m (pc + 3) ls (ro.toList ++ rest))) : W p l e R s m args below meth c H locs cells slots Q (F0 m pc ls st0) := by
  have hP' := hP
  have hFc : ∀ q, va_A (Wd st) H.size q → A q := by
    intro x h
    rcases h with ⟨k, e, h⟩ | h
    · exact hD.2 k (x, e) h
    · exact hA x (Nat.le_trans hS.1 h)
  subst hq
  have hr := va_runV (H := H) (locs := locs) (cells := cells) (slots := slots) (e := e) (below := below) (meth := meth) (g := F0 m pc ls st0) (b := b) (As := as) (rest := rest) S (hM H.size) (cwV n S.2.2.2.2 hT hw hrc hrs hd hR)
    ⟨fun a U g mk h => ⟨h.1, h.2.1, h.2.2.1, va_K.moved (u := U) (U := U.calling g mk a) (Vm.Alike.refl U.vm) h.2.2.2.1, h.2.2.2.2⟩, va_recv hK hP hc he, fun U hU hW => ⟨rfl, by rw [hU], by rw [hU]; exact hP, va_K.moved hW.alike hK, hD.weaken (fun _ _ _ _ => trivial)⟩⟩ rfl hlen hsize hstack (lv_room hW) hdg hf
  intro T hT X
  obtain ⟨v, st₀, t, T', L, h0, X', hL, e1, e2, ⟨hv, ⟨hP1, hD1⟩, hz, hk⟩, stp⟩ := hr T hT X
  cases hv
  rw [h0] at hz hk
  obtain ⟨t2, a1, b1⟩ := kk t.heap (locs ++ L) hP1 (hD1.weaken (fun _ x _ h => hFc x.1 h)) ⟨Nat.le_trans hS.1 hz, fun q h1 h2 => by rw [hk q (Nat.lt_of_lt_of_le h1 hS.1) (fun z => h2 (hFc q z))]; exact hS.2.1 q h1 h2, fun q hq => by
      rcases List.mem_append.mp hq with h | h
      · exact hS.2.2 q h
      · exact hFc _ (hL q h)⟩ T' e1 X'
  exact ⟨t2, stp t2 a1, b1⟩
end KM
end
section
/-! THE CLASS'S STATE AND ITS METHODS AS FUNCTIONS (a mirror of the code). FS: memory, invalidPlanes, powered, turnsLeft, reads, writes -/
abbrev FS : Type := (Nat → Int64) × (Nat → Int32) × Int32 × Int32 × Int32 × Int32
abbrev FT (cA cB : ClassId) : List (ClassId × FieldType) := [(cA, .long), (cB, .int)]
abbrev FWd (h0 h1 h2 : Nat) (cA cB : ClassId) (s : FS) : va_W := [(h0, .inr (0, [.ref h1, .ref h2, .int s.2.2.1, .int s.2.2.2.1, .int s.2.2.2.2.1, .int s.2.2.2.2.2])), (h1, .inl (cA, 80, .inr (.inl s.1))), (h2, .inl (cB, 20, .inl s.2.1))]
/-- a truth as an int -/
def bI (b : Prop) [Decidable b] : Int32 := if b then 1 else 0
theorem bI_t {b : Prop} [Decidable b] (h : b) : bI b = 1 := if_pos h
theorem bI_f {b : Prop} [Decidable b] (h : ¬ b) : bI b = 0 := if_neg h
theorem bI_ne {b : Prop} [Decidable b] : (¬ bI b = 0) ↔ b := by
  by_cases h : b
  · rw [bI_t h]; exact ⟨fun _ => h, fun _ => by decide⟩
  · rw [bI_f h]; exact ⟨fun q => absurd rfl q, fun q => absurd q h⟩
theorem bI_0 {b : Prop} [Decidable b] : bI b = 0 ↔ ¬ b := by
  by_cases h : b
  · rw [bI_t h]; exact ⟨fun q => absurd q (by decide), fun q => absurd h q⟩
  · rw [bI_f h]; exact ⟨fun _ => h, fun _ => rfl⟩
theorem bI_nar {b : Prop} [Decidable b] : narrow .boolean (.int (bI b)) = .int (bI b) := by
  by_cases h : b
  · rw [bI_t h]; rfl
  · rw [bI_f h]; rfl
def f_byte (v : Int64) (sh : Int32) : Int32 := (v.toUInt64 >>> (sh.toInt64.toUInt64 &&& Int64.toUInt64 63)).toInt64.toInt32 &&& 255
def f_sum7 (v : Int64) : Int32 := 0 + f_byte v 8 + f_byte v 16 + f_byte v 24 + f_byte v 32 + f_byte v 40 + f_byte v 48 + f_byte v 56
def f_check (v : Int64) : Int32 := (f_sum7 v - f_sum7 v / 251 * 251) + 1
def f_upper (b n : Int32) : Int64 := (b.toInt64 <<< ((32 : Int32).toInt64 &&& 63)) ||| (n.toInt64 <<< ((8 : Int32).toInt64 &&& 63))
def f_make (b n : Int32) : Int64 := f_upper b n ||| (f_check (f_upper b n)).toInt64
def f_valid (v : Int64) : Int32 := bI ((v &&& 255).toInt32 = f_check v)
def f_bal (v : Int64) : Int32 := (v >>> ((32 : Int32).toInt64 &&& 63)).toInt32
def f_num (v : Int64) : Int32 := (v.toUInt64 >>> ((8 : Int32).toInt64.toUInt64 &&& Int64.toUInt64 63)).toInt64.toInt32 &&& 16777215
def f_unop (v : Int64) : Int32 := bI (¬ f_valid v = 0 ∧ f_num v = 0)
def f_isop (v : Int64) : Int32 := bI (¬ f_valid v = 0 ∧ ¬ f_num v = 0)
def f_hasn (v : Int64) : Int32 := bI (¬ 16777215 ≤ f_num v)
def f_isint (v : Int64) : Int32 := bI (v = v.toInt32.toInt64)
def f_can (v ch : Int64) : Int32 := bI (¬ f_isop v = 0 ∧ ¬ f_hasn v = 0 ∧ ¬ f_isint ((f_bal v).toInt64 + ch) = 0 ∧ ¬ (f_bal v).toInt64 + ch < 0)
def f_next (v : Int64) (ch : Int32) : Int64 := f_make (f_bal v + ch) (f_num v + 1)
def f_better (b v : Int64) : Int64 := if f_valid v = 0 then b else if f_valid b = 0 then v else if f_num v = f_num b then (if f_bal v ≤ f_bal b then b else v) else (if f_num v ≤ f_num b then b else v)
def f_acct (a : Int32) : Int32 := bI (¬ a < 0 ∧ ¬ 16 ≤ a)
def f_cell (a : Int32) : Int32 := bI (¬ a < 0 ∧ ¬ 20 ≤ a)
def f_slot (p c : Int32) : Int32 := p * 20 + c
def f_from (r : Int32) : Int32 := (r >>> ((8 : Int32) &&& 31)) &&& 255
def f_to (r : Int32) : Int32 := r &&& 255
def f_lose (s : FS) : FS := (s.1, s.2.1, 0, -1, s.2.2.2.2.1, s.2.2.2.2.2)
def f_take (s : FS) : Int32 × FS := if s.2.2.1 = 0 then (0, s) else if s.2.2.2.1 = 0 then (0, f_lose s) else if s.2.2.2.1 ≤ 0 then (1, s) else (1, (s.1, s.2.1, s.2.2.1, s.2.2.2.1 - 1, s.2.2.2.2.1, s.2.2.2.2.2))
def f_readT (p c : Int32) (s : FS) : Int64 × FS := (s.1 (f_slot p c).toNatClampNeg, (vp_updL s.1 (f_slot p c).toNatClampNeg 0, s.2.1, s.2.2.1, s.2.2.2.1, s.2.2.2.2.1 + 1, s.2.2.2.2.2))
def f_read (p c : Int32) (s : FS) : Int64 × FS := if (f_take s).1 = 0 then (0, (f_take s).2) else f_readT p c (f_take s).2
def f_writeT (p c : Int32) (v : Int64) (s : FS) : FS := (vp_updL s.1 (f_slot p c).toNatClampNeg v, s.2.1, s.2.2.1, s.2.2.2.1, s.2.2.2.2.1, s.2.2.2.2.2 + 1)
def f_write (p c : Int32) (v : Int64) (s : FS) : FS := if (f_take s).1 = 0 then (f_take s).2 else f_writeT p c v (f_take s).2
def f_put (c : Int32) (v : Int64) (s : FS) : FS := f_write 3 c v (f_write 2 c v (f_write 1 c v (f_write 0 c v s)))
def f_look (c : Int32) (s : FS) : Int64 × FS := ((f_read 0 c s).1, f_write 0 c (f_read 0 c s).1 (f_read 0 c s).2)
def f_ans (a : Int32) (s : FS) : Int32 := if s.2.2.1 = 0 then -2 else if a = 0 then -1 else 1
def f_found (c : Int32) (s : FS) : Int64 := s.1 (f_slot 0 c).toNatClampNeg
theorem in_of {a n : Int32} {N : Nat} (hn : n.toInt = N) (h1 : ¬ a < 0) (h2 : ¬ n ≤ a) : vp_in a N := by
  refine vp_in_iff.mpr ⟨?_, ?_⟩
  · have h := Int32.le_iff_toInt_le.mp (Int32.not_lt.mp h1)
    exact h
  · have h := Int32.lt_iff_toInt_lt.mp (Int32.not_le.mp h2)
    rw [hn] at h
    exact h
theorem acct_in {a : Int32} (h : ¬ f_acct a = 0) : vp_in a 16 := by
  obtain ⟨h1, h2⟩ := bI_ne.mp h
  exact in_of (n := 16) rfl h1 h2
theorem cell_in {a : Int32} (h : ¬ f_cell a = 0) : vp_in a 20 := by
  obtain ⟨h1, h2⟩ := bI_ne.mp h
  exact in_of (n := 20) rfl h1 h2
theorem in_up {a : Int32} {N M : Nat} (h : vp_in a N) (hNM : N ≤ M) : vp_in a M := by
  obtain ⟨h1, h2⟩ := vp_in_iff.mp h
  exact vp_in_iff.mpr ⟨h1, by omega⟩
theorem acct_in20 {a : Int32} (h : ¬ f_acct a = 0) : vp_in a 20 := in_up (acct_in h) (by decide)
theorem slot_in {p c : Int32} (hp : vp_in p 4) (hc : vp_in c 20) : vp_in (f_slot p c) 80 := by
  obtain ⟨i, hi, rfl⟩ := vp_in_of hp (by decide)
  obtain ⟨j, hj, rfl⟩ := vp_in_of hc (by decide)
  have h : f_slot (nI i) (nI j) = nI (i * 20 + j) := by
    unfold f_slot
    rw [show (20 : Int32) = nI 20 from rfl, pk_mul, nI_add]
  rw [h]
  exact vp_in_nI (by omega) (by decide)
theorem in4_0 : vp_in 0 4 := by unfold vp_in; decide
theorem in4_1 : vp_in 1 4 := by unfold vp_in; decide
theorem in4_2 : vp_in 2 4 := by unfold vp_in; decide
theorem in4_3 : vp_in 3 4 := by unfold vp_in; decide
theorem in20_16 : vp_in 16 20 := by unfold vp_in; decide
theorem in20_17 : vp_in 17 20 := by unfold vp_in; decide
theorem in20_18 : vp_in 18 20 := by unfold vp_in; decide
theorem in20_19 : vp_in 19 20 := by unfold vp_in; decide
theorem i10 : ¬ (1 : Int32) = 0 := by decide
end
section
abbrev rmX0_checkByte : Room := { frames := 0, cells := 0, slots := 0, locals := 0 }
set_option maxHeartbeats 400000 in
set_option maxRecDepth 100000 in
-- checkByte
theorem c_X0_checkByte (l : Launch) (v : Int64) : cS l yX0_checkByte wsX0_checkByte rmX0_checkByte [.long v] (.int (f_check v)) := by
  refine cS_in (cc := cX0_checkByte) (maxL := 4) (ret := (some .int)) (by decide) rfl (Nat.le_of_ble_eq_true rfl) ?_
  intro p e s m below meth c ls hx hb hr hlocks hml hown hts hl
  have hown : s.vm.findClass RX0 = some m.cls := hown
  have hl : lv_has ls 4 [(0, .long v)] := hl
  refine lv_iconst (v := 0) hx hb dX0_checkByte_0 (by decide) ?_
  refine lv_istore_n (lv' := [(2, .int 0), (0, .long v)]) hx hb dX0_checkByte_1 rfl hl (by decide) rfl (fun ls hl => ?_)
  refine lv_bipush (v := 8) hx hb dX0_checkByte_2 (by decide) ?_
  refine lv_istore_n (lv' := [(3, .int 8), (2, .int 0), (0, .long v)]) hx hb dX0_checkByte_4 rfl hl (by decide) rfl (fun ls hl => ?_)
  refine lv_iload_n hx hb dX0_checkByte_5 rfl (lv_at hl 0 rfl) ?_
  refine lv_bipush (v := 64) hx hb dX0_checkByte_6 (by decide) ?_
  refine lv_icmp_ge (tgt := 28) hx hb dX0_checkByte_8 (by decide) (fun c0 => absurd c0 (by decide)) (fun _ => ?_)
  refine lv_iload_n hx hb dX0_checkByte_11 rfl (lv_at hl 1 rfl) ?_
  refine lv_lload_n hx hb dX0_checkByte_12 rfl (lv_at hl 2 rfl) ?_
  refine lv_iload_n hx hb dX0_checkByte_13 rfl (lv_at hl 0 rfl) ?_
  refine lv_lushr hx hb dX0_checkByte_14 rfl ?_
  refine tpl (fun v1 e1 => ?_)
  refine lv_l2i hx hb dX0_checkByte_15 rfl ?_
  refine tpi (fun v2 e2 => ?_)
  refine lv_sipush (v := 255) hx hb dX0_checkByte_16 (by decide) ?_
  refine lv_iand hx hb dX0_checkByte_19 ?_
  refine tpi (fun v3 e3 => ?_)
  refine lv_iadd hx hb dX0_checkByte_20 ?_
  refine tpi (fun v4 e4 => ?_)
  refine lv_istore_n (lv' := [(2, .int v4), (3, .int 8), (0, .long v)]) hx hb dX0_checkByte_21 rfl hl (by decide) rfl (fun ls hl => ?_)
  refine lv_iinc (v := 16) (lv' := [(3, .int 16), (2, .int v4), (0, .long v)]) hx hb dX0_checkByte_22 hl (k := 1) rfl (by decide) (by decide) rfl (fun ls hl => ?_)
  refine lv_goto (tgt := 5) hx hb dX0_checkByte_25 (by decide) ?_
  refine lv_iload_n hx hb dX0_checkByte_5 rfl (lv_at hl 0 rfl) ?_
  refine lv_bipush (v := 64) hx hb dX0_checkByte_6 (by decide) ?_
  refine lv_icmp_ge (tgt := 28) hx hb dX0_checkByte_8 (by decide) (fun c0 => absurd c0 (by decide)) (fun _ => ?_)
  refine lv_iload_n hx hb dX0_checkByte_11 rfl (lv_at hl 1 rfl) ?_
  refine lv_lload_n hx hb dX0_checkByte_12 rfl (lv_at hl 2 rfl) ?_
  refine lv_iload_n hx hb dX0_checkByte_13 rfl (lv_at hl 0 rfl) ?_
  refine lv_lushr hx hb dX0_checkByte_14 rfl ?_
  refine tpl (fun v5 e5 => ?_)
  refine lv_l2i hx hb dX0_checkByte_15 rfl ?_
  refine tpi (fun v6 e6 => ?_)
  refine lv_sipush (v := 255) hx hb dX0_checkByte_16 (by decide) ?_
  refine lv_iand hx hb dX0_checkByte_19 ?_
  refine tpi (fun v7 e7 => ?_)
  refine lv_iadd hx hb dX0_checkByte_20 ?_
  refine tpi (fun v8 e8 => ?_)
  refine lv_istore_n (lv' := [(2, .int v8), (3, .int 16), (0, .long v)]) hx hb dX0_checkByte_21 rfl hl (by decide) rfl (fun ls hl => ?_)
  refine lv_iinc (v := 24) (lv' := [(3, .int 24), (2, .int v8), (0, .long v)]) hx hb dX0_checkByte_22 hl (k := 1) rfl (by decide) (by decide) rfl (fun ls hl => ?_)
  refine lv_goto (tgt := 5) hx hb dX0_checkByte_25 (by decide) ?_
  refine lv_iload_n hx hb dX0_checkByte_5 rfl (lv_at hl 0 rfl) ?_
  refine lv_bipush (v := 64) hx hb dX0_checkByte_6 (by decide) ?_
  refine lv_icmp_ge (tgt := 28) hx hb dX0_checkByte_8 (by decide) (fun c0 => absurd c0 (by decide)) (fun _ => ?_)
  refine lv_iload_n hx hb dX0_checkByte_11 rfl (lv_at hl 1 rfl) ?_
  refine lv_lload_n hx hb dX0_checkByte_12 rfl (lv_at hl 2 rfl) ?_
  refine lv_iload_n hx hb dX0_checkByte_13 rfl (lv_at hl 0 rfl) ?_
  refine lv_lushr hx hb dX0_checkByte_14 rfl ?_
  refine tpl (fun v9 e9 => ?_)
  refine lv_l2i hx hb dX0_checkByte_15 rfl ?_
  refine tpi (fun v10 e10 => ?_)
  refine lv_sipush (v := 255) hx hb dX0_checkByte_16 (by decide) ?_
  refine lv_iand hx hb dX0_checkByte_19 ?_
  refine tpi (fun v11 e11 => ?_)
  refine lv_iadd hx hb dX0_checkByte_20 ?_
  refine tpi (fun v12 e12 => ?_)
  refine lv_istore_n (lv' := [(2, .int v12), (3, .int 24), (0, .long v)]) hx hb dX0_checkByte_21 rfl hl (by decide) rfl (fun ls hl => ?_)
  refine lv_iinc (v := 32) (lv' := [(3, .int 32), (2, .int v12), (0, .long v)]) hx hb dX0_checkByte_22 hl (k := 1) rfl (by decide) (by decide) rfl (fun ls hl => ?_)
  refine lv_goto (tgt := 5) hx hb dX0_checkByte_25 (by decide) ?_
  refine lv_iload_n hx hb dX0_checkByte_5 rfl (lv_at hl 0 rfl) ?_
  refine lv_bipush (v := 64) hx hb dX0_checkByte_6 (by decide) ?_
  refine lv_icmp_ge (tgt := 28) hx hb dX0_checkByte_8 (by decide) (fun c0 => absurd c0 (by decide)) (fun _ => ?_)
  refine lv_iload_n hx hb dX0_checkByte_11 rfl (lv_at hl 1 rfl) ?_
  refine lv_lload_n hx hb dX0_checkByte_12 rfl (lv_at hl 2 rfl) ?_
  refine lv_iload_n hx hb dX0_checkByte_13 rfl (lv_at hl 0 rfl) ?_
  refine lv_lushr hx hb dX0_checkByte_14 rfl ?_
  refine tpl (fun v13 e13 => ?_)
  refine lv_l2i hx hb dX0_checkByte_15 rfl ?_
  refine tpi (fun v14 e14 => ?_)
  refine lv_sipush (v := 255) hx hb dX0_checkByte_16 (by decide) ?_
  refine lv_iand hx hb dX0_checkByte_19 ?_
  refine tpi (fun v15 e15 => ?_)
  refine lv_iadd hx hb dX0_checkByte_20 ?_
  refine tpi (fun v16 e16 => ?_)
  refine lv_istore_n (lv' := [(2, .int v16), (3, .int 32), (0, .long v)]) hx hb dX0_checkByte_21 rfl hl (by decide) rfl (fun ls hl => ?_)
  refine lv_iinc (v := 40) (lv' := [(3, .int 40), (2, .int v16), (0, .long v)]) hx hb dX0_checkByte_22 hl (k := 1) rfl (by decide) (by decide) rfl (fun ls hl => ?_)
  refine lv_goto (tgt := 5) hx hb dX0_checkByte_25 (by decide) ?_
  refine lv_iload_n hx hb dX0_checkByte_5 rfl (lv_at hl 0 rfl) ?_
  refine lv_bipush (v := 64) hx hb dX0_checkByte_6 (by decide) ?_
  refine lv_icmp_ge (tgt := 28) hx hb dX0_checkByte_8 (by decide) (fun c0 => absurd c0 (by decide)) (fun _ => ?_)
  refine lv_iload_n hx hb dX0_checkByte_11 rfl (lv_at hl 1 rfl) ?_
  refine lv_lload_n hx hb dX0_checkByte_12 rfl (lv_at hl 2 rfl) ?_
  refine lv_iload_n hx hb dX0_checkByte_13 rfl (lv_at hl 0 rfl) ?_
  refine lv_lushr hx hb dX0_checkByte_14 rfl ?_
  refine tpl (fun v17 e17 => ?_)
  refine lv_l2i hx hb dX0_checkByte_15 rfl ?_
  refine tpi (fun v18 e18 => ?_)
  refine lv_sipush (v := 255) hx hb dX0_checkByte_16 (by decide) ?_
  refine lv_iand hx hb dX0_checkByte_19 ?_
  refine tpi (fun v19 e19 => ?_)
  refine lv_iadd hx hb dX0_checkByte_20 ?_
  refine tpi (fun v20 e20 => ?_)
  refine lv_istore_n (lv' := [(2, .int v20), (3, .int 40), (0, .long v)]) hx hb dX0_checkByte_21 rfl hl (by decide) rfl (fun ls hl => ?_)
  refine lv_iinc (v := 48) (lv' := [(3, .int 48), (2, .int v20), (0, .long v)]) hx hb dX0_checkByte_22 hl (k := 1) rfl (by decide) (by decide) rfl (fun ls hl => ?_)
  refine lv_goto (tgt := 5) hx hb dX0_checkByte_25 (by decide) ?_
  refine lv_iload_n hx hb dX0_checkByte_5 rfl (lv_at hl 0 rfl) ?_
  refine lv_bipush (v := 64) hx hb dX0_checkByte_6 (by decide) ?_
  refine lv_icmp_ge (tgt := 28) hx hb dX0_checkByte_8 (by decide) (fun c0 => absurd c0 (by decide)) (fun _ => ?_)
  refine lv_iload_n hx hb dX0_checkByte_11 rfl (lv_at hl 1 rfl) ?_
  refine lv_lload_n hx hb dX0_checkByte_12 rfl (lv_at hl 2 rfl) ?_
  refine lv_iload_n hx hb dX0_checkByte_13 rfl (lv_at hl 0 rfl) ?_
  refine lv_lushr hx hb dX0_checkByte_14 rfl ?_
  refine tpl (fun v21 e21 => ?_)
  refine lv_l2i hx hb dX0_checkByte_15 rfl ?_
  refine tpi (fun v22 e22 => ?_)
  refine lv_sipush (v := 255) hx hb dX0_checkByte_16 (by decide) ?_
  refine lv_iand hx hb dX0_checkByte_19 ?_
  refine tpi (fun v23 e23 => ?_)
  refine lv_iadd hx hb dX0_checkByte_20 ?_
  refine tpi (fun v24 e24 => ?_)
  refine lv_istore_n (lv' := [(2, .int v24), (3, .int 48), (0, .long v)]) hx hb dX0_checkByte_21 rfl hl (by decide) rfl (fun ls hl => ?_)
  refine lv_iinc (v := 56) (lv' := [(3, .int 56), (2, .int v24), (0, .long v)]) hx hb dX0_checkByte_22 hl (k := 1) rfl (by decide) (by decide) rfl (fun ls hl => ?_)
  refine lv_goto (tgt := 5) hx hb dX0_checkByte_25 (by decide) ?_
  refine lv_iload_n hx hb dX0_checkByte_5 rfl (lv_at hl 0 rfl) ?_
  refine lv_bipush (v := 64) hx hb dX0_checkByte_6 (by decide) ?_
  refine lv_icmp_ge (tgt := 28) hx hb dX0_checkByte_8 (by decide) (fun c0 => absurd c0 (by decide)) (fun _ => ?_)
  refine lv_iload_n hx hb dX0_checkByte_11 rfl (lv_at hl 1 rfl) ?_
  refine lv_lload_n hx hb dX0_checkByte_12 rfl (lv_at hl 2 rfl) ?_
  refine lv_iload_n hx hb dX0_checkByte_13 rfl (lv_at hl 0 rfl) ?_
  refine lv_lushr hx hb dX0_checkByte_14 rfl ?_
  refine tpl (fun v25 e25 => ?_)
  refine lv_l2i hx hb dX0_checkByte_15 rfl ?_
  refine tpi (fun v26 e26 => ?_)
  refine lv_sipush (v := 255) hx hb dX0_checkByte_16 (by decide) ?_
  refine lv_iand hx hb dX0_checkByte_19 ?_
  refine tpi (fun v27 e27 => ?_)
  refine lv_iadd hx hb dX0_checkByte_20 ?_
  refine tpi (fun v28 e28 => ?_)
  refine lv_istore_n (lv' := [(2, .int v28), (3, .int 56), (0, .long v)]) hx hb dX0_checkByte_21 rfl hl (by decide) rfl (fun ls hl => ?_)
  refine lv_iinc (v := 64) (lv' := [(3, .int 64), (2, .int v28), (0, .long v)]) hx hb dX0_checkByte_22 hl (k := 1) rfl (by decide) (by decide) rfl (fun ls hl => ?_)
  refine lv_goto (tgt := 5) hx hb dX0_checkByte_25 (by decide) ?_
  refine lv_iload_n hx hb dX0_checkByte_5 rfl (lv_at hl 0 rfl) ?_
  refine lv_bipush (v := 64) hx hb dX0_checkByte_6 (by decide) ?_
  refine lv_icmp_ge (tgt := 28) hx hb dX0_checkByte_8 (by decide) (fun _ => ?_) (fun c0 => absurd c0 (by decide))
  refine lv_iload_n hx hb dX0_checkByte_28 rfl (lv_at hl 1 rfl) ?_
  refine lv_sipush (v := 251) hx hb dX0_checkByte_29 (by decide) ?_
  refine lv_irem hx hb dX0_checkByte_32 (by decide) ?_
  refine tpi (fun v29 e29 => ?_)
  refine lv_iconst (v := 1) hx hb dX0_checkByte_33 (by decide) ?_
  refine lv_iadd hx hb dX0_checkByte_34 ?_
  refine tpi (fun v30 e30 => ?_)
  exact cS_reti hx hb hr hlocks dX0_checkByte_35 (by subst e1; subst e2; subst e3; subst e4; subst e5; subst e6; subst e7; subst e8; subst e9; subst e10; subst e11; subst e12; subst e13; subst e14; subst e15; subst e16; subst e17; subst e18; subst e19; subst e20; subst e21; subst e22; subst e23; subst e24; subst e25; subst e26; subst e27; subst e28; subst e29; subst e30; rfl)
abbrev rmX0_makeWord : Room := { frames := 1, cells := 0, slots := 0, locals := 23 }
set_option maxHeartbeats 400000 in
set_option maxRecDepth 100000 in
-- makeWord
theorem c_X0_makeWord (l : Launch) (b : Int32) (n : Int32) : cS l yX0_makeWord wsX0_makeWord rmX0_makeWord [.int b, .int n] (.long (f_make b n)) := by
  refine cS_in (cc := cX0_makeWord) (maxL := 4) (ret := (some .long)) (by decide) rfl (Nat.le_of_ble_eq_true rfl) ?_
  intro p e s m below meth c ls hx hb hr hlocks hml hown hts hl
  have hown : s.vm.findClass RX0 = some m.cls := hown
  have hl : lv_has ls 4 [(0, .int b), (1, .int n)] := hl
  refine lv_iload_n hx hb dX0_makeWord_0 rfl (lv_at hl 0 rfl) ?_
  refine lv_i2l hx hb dX0_makeWord_1 rfl ?_
  refine tpl (fun v1 e1 => ?_)
  refine lv_bipush (v := 32) hx hb dX0_makeWord_2 (by decide) ?_
  refine lv_lshl hx hb dX0_makeWord_4 rfl ?_
  refine tpl (fun v2 e2 => ?_)
  refine lv_iload_n hx hb dX0_makeWord_5 rfl (lv_at hl 1 rfl) ?_
  refine lv_i2l hx hb dX0_makeWord_6 rfl ?_
  refine tpl (fun v3 e3 => ?_)
  refine lv_bipush (v := 8) hx hb dX0_makeWord_7 (by decide) ?_
  refine lv_lshl hx hb dX0_makeWord_9 rfl ?_
  refine tpl (fun v4 e4 => ?_)
  refine lv_lor hx hb dX0_makeWord_10 ?_
  refine tpl (fun v5 e5 => ?_)
  refine lv_lstore_n (lv' := [(2, .long v5), (0, .int b), (1, .int n)]) hx hb dX0_makeWord_11 rfl hl (by decide) rfl (fun ls hl => ?_)
  refine lv_lload_n hx hb dX0_makeWord_12 rfl (lv_at hl 0 rfl) ?_
  refine lv_lload_n hx hb dX0_makeWord_13 rfl (lv_at hl 0 rfl) ?_
  refine cS_call (n := 1) (as := [.long v5]) (rest := [.long v5]) ⟨hx, hb, hml, hown, hts⟩ (c_X0_checkByte l v5) gX0_makeWord_X0_checkByte rfl rfl rfl (by decide +kernel) ⟨Nat.le_of_ble_eq_true rfl, Nat.le_of_ble_eq_true rfl⟩ hl.1 rfl rfl (Nat.le_of_ble_eq_true rfl) dX0_makeWord_14 ⟨Nat.zero_le _, Nat.zero_le _⟩ ?_
  refine tpi (fun v6 e6 => ?_)
  refine lv_i2l hx hb dX0_makeWord_17 rfl ?_
  refine tpl (fun v7 e7 => ?_)
  refine lv_lor hx hb dX0_makeWord_18 ?_
  refine tpl (fun v8 e8 => ?_)
  exact cS_retl hx hb hr hlocks dX0_makeWord_19 (by subst e1; subst e2; subst e3; subst e4; subst e5; subst e6; subst e7; subst e8; rfl)
abbrev rmX0_isAccount : Room := { frames := 0, cells := 0, slots := 0, locals := 0 }
set_option maxHeartbeats 400000 in
set_option maxRecDepth 100000 in
-- isAccount
theorem c_X0_isAccount (l : Launch) (a : Int32) : cS l yX0_isAccount wsX0_isAccount rmX0_isAccount [.int a] (.int (f_acct a)) := by
  refine cS_in (cc := cX0_isAccount) (maxL := 1) (ret := (some .boolean)) (by decide) rfl (Nat.le_of_ble_eq_true rfl) ?_
  intro p e s m below meth c ls hx hb hr hlocks hml hown hts hl
  have hown : s.vm.findClass RX0 = some m.cls := hown
  have hl : lv_has ls 1 [(0, .int a)] := hl
  refine lv_iload_n hx hb dX0_isAccount_0 rfl (lv_at hl 0 rfl) ?_
  refine lv_if_lt (tgt := 14) hx hb dX0_isAccount_1 (by decide) (fun c1 => ?_) (fun c1 => ?_)
  · refine lv_iconst (v := 0) hx hb dX0_isAccount_14 (by decide) ?_
    exact cS_retz hx hb hr hlocks dX0_isAccount_15 rfl (by simp only [f_acct, bI, c1, ↓reduceIte, not_true_eq_false, not_false_eq_true, and_self, and_true, true_and, and_false, false_and, eq_self])
  · refine lv_iload_n hx hb dX0_isAccount_4 rfl (lv_at hl 0 rfl) ?_
    refine lv_bipush (v := 16) hx hb dX0_isAccount_5 (by decide) ?_
    refine lv_icmp_ge (tgt := 14) hx hb dX0_isAccount_7 (by decide) (fun c2 => ?_) (fun c2 => ?_)
    · refine lv_iconst (v := 0) hx hb dX0_isAccount_14 (by decide) ?_
      exact cS_retz hx hb hr hlocks dX0_isAccount_15 rfl (by simp only [f_acct, bI, c1, c2, ↓reduceIte, not_true_eq_false, not_false_eq_true, and_self, and_true, true_and, and_false, false_and, eq_self])
    · refine lv_iconst (v := 1) hx hb dX0_isAccount_10 (by decide) ?_
      refine lv_goto (tgt := 15) hx hb dX0_isAccount_11 (by decide) ?_
      exact cS_retz hx hb hr hlocks dX0_isAccount_15 rfl (by simp only [f_acct, bI, c1, c2, ↓reduceIte, not_true_eq_false, not_false_eq_true, and_self, and_true, true_and, and_false, false_and, eq_self])
abbrev rmX0_isCell : Room := { frames := 0, cells := 0, slots := 0, locals := 0 }
set_option maxHeartbeats 400000 in
set_option maxRecDepth 100000 in
-- isCell
theorem c_X0_isCell (l : Launch) (a : Int32) : cS l yX0_isCell wsX0_isCell rmX0_isCell [.int a] (.int (f_cell a)) := by
  refine cS_in (cc := cX0_isCell) (maxL := 1) (ret := (some .boolean)) (by decide) rfl (Nat.le_of_ble_eq_true rfl) ?_
  intro p e s m below meth c ls hx hb hr hlocks hml hown hts hl
  have hown : s.vm.findClass RX0 = some m.cls := hown
  have hl : lv_has ls 1 [(0, .int a)] := hl
  refine lv_iload_n hx hb dX0_isCell_0 rfl (lv_at hl 0 rfl) ?_
  refine lv_if_lt (tgt := 14) hx hb dX0_isCell_1 (by decide) (fun c1 => ?_) (fun c1 => ?_)
  · refine lv_iconst (v := 0) hx hb dX0_isCell_14 (by decide) ?_
    exact cS_retz hx hb hr hlocks dX0_isCell_15 rfl (by simp only [f_cell, bI, c1, ↓reduceIte, not_true_eq_false, not_false_eq_true, and_self, and_true, true_and, and_false, false_and, eq_self])
  · refine lv_iload_n hx hb dX0_isCell_4 rfl (lv_at hl 0 rfl) ?_
    refine lv_bipush (v := 20) hx hb dX0_isCell_5 (by decide) ?_
    refine lv_icmp_ge (tgt := 14) hx hb dX0_isCell_7 (by decide) (fun c2 => ?_) (fun c2 => ?_)
    · refine lv_iconst (v := 0) hx hb dX0_isCell_14 (by decide) ?_
      exact cS_retz hx hb hr hlocks dX0_isCell_15 rfl (by simp only [f_cell, bI, c1, c2, ↓reduceIte, not_true_eq_false, not_false_eq_true, and_self, and_true, true_and, and_false, false_and, eq_self])
    · refine lv_iconst (v := 1) hx hb dX0_isCell_10 (by decide) ?_
      refine lv_goto (tgt := 15) hx hb dX0_isCell_11 (by decide) ?_
      exact cS_retz hx hb hr hlocks dX0_isCell_15 rfl (by simp only [f_cell, bI, c1, c2, ↓reduceIte, not_true_eq_false, not_false_eq_true, and_self, and_true, true_and, and_false, false_and, eq_self])
abbrev rmX0_slot : Room := { frames := 0, cells := 0, slots := 0, locals := 0 }
set_option maxHeartbeats 400000 in
set_option maxRecDepth 100000 in
-- slot
theorem c_X0_slot (l : Launch) (a : Int32) (b : Int32) : cS l yX0_slot wsX0_slot rmX0_slot [.int a, .int b] (.int (f_slot a b)) := by
  refine cS_in (cc := cX0_slot) (maxL := 2) (ret := (some .int)) (by decide) rfl (Nat.le_of_ble_eq_true rfl) ?_
  intro p e s m below meth c ls hx hb hr hlocks hml hown hts hl
  have hown : s.vm.findClass RX0 = some m.cls := hown
  have hl : lv_has ls 2 [(0, .int a), (1, .int b)] := hl
  refine lv_iload_n hx hb dX0_slot_0 rfl (lv_at hl 0 rfl) ?_
  refine lv_bipush (v := 20) hx hb dX0_slot_1 (by decide) ?_
  refine lv_imul hx hb dX0_slot_3 ?_
  refine tpi (fun v1 e1 => ?_)
  refine lv_iload_n hx hb dX0_slot_4 rfl (lv_at hl 1 rfl) ?_
  refine lv_iadd hx hb dX0_slot_5 ?_
  refine tpi (fun v2 e2 => ?_)
  exact cS_reti hx hb hr hlocks dX0_slot_6 (by subst e1; subst e2; rfl)
abbrev rmX0_isValid : Room := { frames := 1, cells := 0, slots := 0, locals := 23 }
set_option maxHeartbeats 400000 in
set_option maxRecDepth 100000 in
-- isValid
theorem c_X0_isValid (l : Launch) (v : Int64) : cS l yX0_isValid wsX0_isValid rmX0_isValid [.long v] (.int (f_valid v)) := by
  refine cS_in (cc := cX0_isValid) (maxL := 2) (ret := (some .boolean)) (by decide) rfl (Nat.le_of_ble_eq_true rfl) ?_
  intro p e s m below meth c ls hx hb hr hlocks hml hown hts hl
  have hown : s.vm.findClass RX0 = some m.cls := hown
  have hl : lv_has ls 2 [(0, .long v)] := hl
  refine lv_lload_n hx hb dX0_isValid_0 rfl (lv_at hl 0 rfl) ?_
  refine lv_ldc2 (v := 255) hx hb hown (hts (.constantLong RX0 147 255) (by decide +kernel)) dX0_isValid_1 ?_
  refine lv_land hx hb dX0_isValid_4 ?_
  refine tpl (fun v1 e1 => ?_)
  refine lv_l2i hx hb dX0_isValid_5 rfl ?_
  refine tpi (fun v2 e2 => ?_)
  refine lv_lload_n hx hb dX0_isValid_6 rfl (lv_at hl 0 rfl) ?_
  refine cS_call (n := 1) (as := [.long v]) (rest := [.int v2]) ⟨hx, hb, hml, hown, hts⟩ (c_X0_checkByte l v) gX0_isValid_X0_checkByte rfl rfl rfl (by decide +kernel) ⟨Nat.le_of_ble_eq_true rfl, Nat.le_of_ble_eq_true rfl⟩ hl.1 rfl rfl (Nat.le_of_ble_eq_true rfl) dX0_isValid_7 ⟨Nat.zero_le _, Nat.zero_le _⟩ ?_
  refine tpi (fun v3 e3 => ?_)
  refine lv_icmp_ne (tgt := 17) hx hb dX0_isValid_10 (by decide) (fun c4 => ?_) (fun c4 => ?_)
  · refine lv_iconst (v := 0) hx hb dX0_isValid_17 (by decide) ?_
    exact cS_retz hx hb hr hlocks dX0_isValid_18 rfl (by subst e1; subst e2; subst e3; simp only [f_valid, bI, c4, ↓reduceIte, not_true_eq_false, not_false_eq_true, and_self, and_true, true_and, and_false, false_and, eq_self])
  · refine lv_iconst (v := 1) hx hb dX0_isValid_13 (by decide) ?_
    refine lv_goto (tgt := 18) hx hb dX0_isValid_14 (by decide) ?_
    exact cS_retz hx hb hr hlocks dX0_isValid_18 rfl (by subst e1; subst e2; subst e3; simp only [f_valid, bI, c4, ↓reduceIte, not_true_eq_false, not_false_eq_true, and_self, and_true, true_and, and_false, false_and, eq_self])
abbrev rmX0_balanceOf : Room := { frames := 0, cells := 0, slots := 0, locals := 0 }
set_option maxHeartbeats 400000 in
set_option maxRecDepth 100000 in
-- balanceOf
theorem c_X0_balanceOf (l : Launch) (v : Int64) : cS l yX0_balanceOf wsX0_balanceOf rmX0_balanceOf [.long v] (.int (f_bal v)) := by
  refine cS_in (cc := cX0_balanceOf) (maxL := 2) (ret := (some .int)) (by decide) rfl (Nat.le_of_ble_eq_true rfl) ?_
  intro p e s m below meth c ls hx hb hr hlocks hml hown hts hl
  have hown : s.vm.findClass RX0 = some m.cls := hown
  have hl : lv_has ls 2 [(0, .long v)] := hl
  refine lv_lload_n hx hb dX0_balanceOf_0 rfl (lv_at hl 0 rfl) ?_
  refine lv_bipush (v := 32) hx hb dX0_balanceOf_1 (by decide) ?_
  refine lv_lshr hx hb dX0_balanceOf_3 rfl ?_
  refine tpl (fun v1 e1 => ?_)
  refine lv_l2i hx hb dX0_balanceOf_4 rfl ?_
  refine tpi (fun v2 e2 => ?_)
  exact cS_reti hx hb hr hlocks dX0_balanceOf_5 (by subst e1; subst e2; rfl)
abbrev rmX0_numberOf : Room := { frames := 0, cells := 0, slots := 0, locals := 0 }
set_option maxHeartbeats 400000 in
set_option maxRecDepth 100000 in
-- numberOf
theorem c_X0_numberOf (l : Launch) (v : Int64) : cS l yX0_numberOf wsX0_numberOf rmX0_numberOf [.long v] (.int (f_num v)) := by
  refine cS_in (cc := cX0_numberOf) (maxL := 2) (ret := (some .int)) (by decide) rfl (Nat.le_of_ble_eq_true rfl) ?_
  intro p e s m below meth c ls hx hb hr hlocks hml hown hts hl
  have hown : s.vm.findClass RX0 = some m.cls := hown
  have hl : lv_has ls 2 [(0, .long v)] := hl
  refine lv_lload_n hx hb dX0_numberOf_0 rfl (lv_at hl 0 rfl) ?_
  refine lv_bipush (v := 8) hx hb dX0_numberOf_1 (by decide) ?_
  refine lv_lushr hx hb dX0_numberOf_3 rfl ?_
  refine tpl (fun v1 e1 => ?_)
  refine lv_l2i hx hb dX0_numberOf_4 rfl ?_
  refine tpi (fun v2 e2 => ?_)
  refine lv_ldc (v := 16777215) hx hb hown (hts (.constant RX0 149 16777215) (by decide +kernel)) dX0_numberOf_5 ?_
  refine lv_iand hx hb dX0_numberOf_7 ?_
  refine tpi (fun v3 e3 => ?_)
  exact cS_reti hx hb hr hlocks dX0_numberOf_8 (by subst e1; subst e2; subst e3; rfl)
abbrev rmX0_isUnopened : Room := { frames := 2, cells := 0, slots := 0, locals := 44 }
set_option maxHeartbeats 400000 in
set_option maxRecDepth 100000 in
-- isUnopened
theorem c_X0_isUnopened (l : Launch) (v : Int64) : cS l yX0_isUnopened wsX0_isUnopened rmX0_isUnopened [.long v] (.int (f_unop v)) := by
  refine cS_in (cc := cX0_isUnopened) (maxL := 2) (ret := (some .boolean)) (by decide) rfl (Nat.le_of_ble_eq_true rfl) ?_
  intro p e s m below meth c ls hx hb hr hlocks hml hown hts hl
  have hown : s.vm.findClass RX0 = some m.cls := hown
  have hl : lv_has ls 2 [(0, .long v)] := hl
  refine lv_lload_n hx hb dX0_isUnopened_0 rfl (lv_at hl 0 rfl) ?_
  refine cS_call (n := 1) (as := [.long v]) (rest := []) ⟨hx, hb, hml, hown, hts⟩ (c_X0_isValid l v) gX0_isUnopened_X0_isValid rfl rfl rfl (by decide +kernel) ⟨Nat.le_of_ble_eq_true rfl, Nat.le_of_ble_eq_true rfl⟩ hl.1 rfl rfl (Nat.le_of_ble_eq_true rfl) dX0_isUnopened_1 ⟨Nat.zero_le _, Nat.zero_le _⟩ ?_
  refine tpi (fun v1 e1 => ?_)
  refine lv_if_eq (tgt := 18) hx hb dX0_isUnopened_4 (by decide) (fun c2 => ?_) (fun c2 => ?_)
  · refine lv_iconst (v := 0) hx hb dX0_isUnopened_18 (by decide) ?_
    exact cS_retz hx hb hr hlocks dX0_isUnopened_19 rfl (by subst e1; simp only [f_unop, bI, c2, ↓reduceIte, not_true_eq_false, not_false_eq_true, and_self, and_true, true_and, and_false, false_and, eq_self])
  · refine lv_lload_n hx hb dX0_isUnopened_7 rfl (lv_at hl 0 rfl) ?_
    refine cS_call (n := 1) (as := [.long v]) (rest := []) ⟨hx, hb, hml, hown, hts⟩ (c_X0_numberOf l v) gX0_isUnopened_X0_numberOf rfl rfl rfl (by decide +kernel) ⟨Nat.le_of_ble_eq_true rfl, Nat.le_of_ble_eq_true rfl⟩ hl.1 rfl rfl (Nat.le_of_ble_eq_true rfl) dX0_isUnopened_8 ⟨Nat.zero_le _, Nat.zero_le _⟩ ?_
    refine tpi (fun v3 e3 => ?_)
    refine lv_if_ne (tgt := 18) hx hb dX0_isUnopened_11 (by decide) (fun c4 => ?_) (fun c4 => ?_)
    · refine lv_iconst (v := 0) hx hb dX0_isUnopened_18 (by decide) ?_
      exact cS_retz hx hb hr hlocks dX0_isUnopened_19 rfl (by subst e1; subst e3; simp only [f_unop, bI, c2, c4, ↓reduceIte, not_true_eq_false, not_false_eq_true, and_self, and_true, true_and, and_false, false_and, eq_self])
    · refine lv_iconst (v := 1) hx hb dX0_isUnopened_14 (by decide) ?_
      refine lv_goto (tgt := 19) hx hb dX0_isUnopened_15 (by decide) ?_
      exact cS_retz hx hb hr hlocks dX0_isUnopened_19 rfl (by subst e1; subst e3; simp only [f_unop, bI, c2, c4, ↓reduceIte, not_true_eq_false, not_false_eq_true, and_self, and_true, true_and, and_false, false_and, eq_self])
abbrev rmX0_isOpen : Room := { frames := 2, cells := 0, slots := 0, locals := 44 }
set_option maxHeartbeats 400000 in
set_option maxRecDepth 100000 in
-- isOpen
theorem c_X0_isOpen (l : Launch) (v : Int64) : cS l yX0_isOpen wsX0_isOpen rmX0_isOpen [.long v] (.int (f_isop v)) := by
  refine cS_in (cc := cX0_isOpen) (maxL := 2) (ret := (some .boolean)) (by decide) rfl (Nat.le_of_ble_eq_true rfl) ?_
  intro p e s m below meth c ls hx hb hr hlocks hml hown hts hl
  have hown : s.vm.findClass RX0 = some m.cls := hown
  have hl : lv_has ls 2 [(0, .long v)] := hl
  refine lv_lload_n hx hb dX0_isOpen_0 rfl (lv_at hl 0 rfl) ?_
  refine cS_call (n := 1) (as := [.long v]) (rest := []) ⟨hx, hb, hml, hown, hts⟩ (c_X0_isValid l v) gX0_isOpen_X0_isValid rfl rfl rfl (by decide +kernel) ⟨Nat.le_of_ble_eq_true rfl, Nat.le_of_ble_eq_true rfl⟩ hl.1 rfl rfl (Nat.le_of_ble_eq_true rfl) dX0_isOpen_1 ⟨Nat.zero_le _, Nat.zero_le _⟩ ?_
  refine tpi (fun v1 e1 => ?_)
  refine lv_if_eq (tgt := 18) hx hb dX0_isOpen_4 (by decide) (fun c2 => ?_) (fun c2 => ?_)
  · refine lv_iconst (v := 0) hx hb dX0_isOpen_18 (by decide) ?_
    exact cS_retz hx hb hr hlocks dX0_isOpen_19 rfl (by subst e1; simp only [f_isop, bI, c2, ↓reduceIte, not_true_eq_false, not_false_eq_true, and_self, and_true, true_and, and_false, false_and, eq_self])
  · refine lv_lload_n hx hb dX0_isOpen_7 rfl (lv_at hl 0 rfl) ?_
    refine cS_call (n := 1) (as := [.long v]) (rest := []) ⟨hx, hb, hml, hown, hts⟩ (c_X0_numberOf l v) gX0_isOpen_X0_numberOf rfl rfl rfl (by decide +kernel) ⟨Nat.le_of_ble_eq_true rfl, Nat.le_of_ble_eq_true rfl⟩ hl.1 rfl rfl (Nat.le_of_ble_eq_true rfl) dX0_isOpen_8 ⟨Nat.zero_le _, Nat.zero_le _⟩ ?_
    refine tpi (fun v3 e3 => ?_)
    refine lv_if_eq (tgt := 18) hx hb dX0_isOpen_11 (by decide) (fun c4 => ?_) (fun c4 => ?_)
    · refine lv_iconst (v := 0) hx hb dX0_isOpen_18 (by decide) ?_
      exact cS_retz hx hb hr hlocks dX0_isOpen_19 rfl (by subst e1; subst e3; simp only [f_isop, bI, c2, c4, ↓reduceIte, not_true_eq_false, not_false_eq_true, and_self, and_true, true_and, and_false, false_and, eq_self])
    · refine lv_iconst (v := 1) hx hb dX0_isOpen_14 (by decide) ?_
      refine lv_goto (tgt := 19) hx hb dX0_isOpen_15 (by decide) ?_
      exact cS_retz hx hb hr hlocks dX0_isOpen_19 rfl (by subst e1; subst e3; simp only [f_isop, bI, c2, c4, ↓reduceIte, not_true_eq_false, not_false_eq_true, and_self, and_true, true_and, and_false, false_and, eq_self])
abbrev rmX0_hasNextNumber : Room := { frames := 1, cells := 0, slots := 0, locals := 21 }
set_option maxHeartbeats 400000 in
set_option maxRecDepth 100000 in
-- hasNextNumber
theorem c_X0_hasNextNumber (l : Launch) (v : Int64) : cS l yX0_hasNextNumber wsX0_hasNextNumber rmX0_hasNextNumber [.long v] (.int (f_hasn v)) := by
  refine cS_in (cc := cX0_hasNextNumber) (maxL := 2) (ret := (some .boolean)) (by decide) rfl (Nat.le_of_ble_eq_true rfl) ?_
  intro p e s m below meth c ls hx hb hr hlocks hml hown hts hl
  have hown : s.vm.findClass RX0 = some m.cls := hown
  have hl : lv_has ls 2 [(0, .long v)] := hl
  refine lv_lload_n hx hb dX0_hasNextNumber_0 rfl (lv_at hl 0 rfl) ?_
  refine cS_call (n := 1) (as := [.long v]) (rest := []) ⟨hx, hb, hml, hown, hts⟩ (c_X0_numberOf l v) gX0_hasNextNumber_X0_numberOf rfl rfl rfl (by decide +kernel) ⟨Nat.le_of_ble_eq_true rfl, Nat.le_of_ble_eq_true rfl⟩ hl.1 rfl rfl (Nat.le_of_ble_eq_true rfl) dX0_hasNextNumber_1 ⟨Nat.zero_le _, Nat.zero_le _⟩ ?_
  refine tpi (fun v1 e1 => ?_)
  refine lv_ldc (v := 16777215) hx hb hown (hts (.constant RX0 149 16777215) (by decide +kernel)) dX0_hasNextNumber_4 ?_
  refine lv_icmp_ge (tgt := 13) hx hb dX0_hasNextNumber_6 (by decide) (fun c2 => ?_) (fun c2 => ?_)
  · refine lv_iconst (v := 0) hx hb dX0_hasNextNumber_13 (by decide) ?_
    exact cS_retz hx hb hr hlocks dX0_hasNextNumber_14 rfl (by subst e1; simp only [f_hasn, bI, c2, ↓reduceIte, not_true_eq_false, not_false_eq_true, and_self, and_true, true_and, and_false, false_and, eq_self])
  · refine lv_iconst (v := 1) hx hb dX0_hasNextNumber_9 (by decide) ?_
    refine lv_goto (tgt := 14) hx hb dX0_hasNextNumber_10 (by decide) ?_
    exact cS_retz hx hb hr hlocks dX0_hasNextNumber_14 rfl (by subst e1; simp only [f_hasn, bI, c2, ↓reduceIte, not_true_eq_false, not_false_eq_true, and_self, and_true, true_and, and_false, false_and, eq_self])
abbrev rmX0_isInt : Room := { frames := 0, cells := 0, slots := 0, locals := 0 }
set_option maxHeartbeats 400000 in
set_option maxRecDepth 100000 in
-- isInt
theorem c_X0_isInt (l : Launch) (v : Int64) : cS l yX0_isInt wsX0_isInt rmX0_isInt [.long v] (.int (f_isint v)) := by
  refine cS_in (cc := cX0_isInt) (maxL := 2) (ret := (some .boolean)) (by decide) rfl (Nat.le_of_ble_eq_true rfl) ?_
  intro p e s m below meth c ls hx hb hr hlocks hml hown hts hl
  have hown : s.vm.findClass RX0 = some m.cls := hown
  have hl : lv_has ls 2 [(0, .long v)] := hl
  refine lv_lload_n hx hb dX0_isInt_0 rfl (lv_at hl 0 rfl) ?_
  refine lv_lload_n hx hb dX0_isInt_1 rfl (lv_at hl 0 rfl) ?_
  refine lv_l2i hx hb dX0_isInt_2 rfl ?_
  refine tpi (fun v1 e1 => ?_)
  refine lv_i2l hx hb dX0_isInt_3 rfl ?_
  refine tpl (fun v2 e2 => ?_)
  refine W.lcmp hx hb dX0_isInt_4 ?_
  refine tpi (fun v3 e3 => ?_)
  refine lv_if_ne (tgt := 12) hx hb dX0_isInt_5 (by decide) (fun c4 => ?_) (fun c4 => ?_)
  · refine lv_iconst (v := 0) hx hb dX0_isInt_12 (by decide) ?_
    exact cS_retz hx hb hr hlocks dX0_isInt_13 rfl (by subst e1; subst e2; subst e3; simp only [lg_cmp_eq] at c4; exact (bI_f c4).symm)
  · refine lv_iconst (v := 1) hx hb dX0_isInt_8 (by decide) ?_
    refine lv_goto (tgt := 13) hx hb dX0_isInt_9 (by decide) ?_
    exact cS_retz hx hb hr hlocks dX0_isInt_13 rfl (by subst e1; subst e2; subst e3; simp only [lg_cmp_eq] at c4; exact (bI_t c4).symm)
abbrev rmX0_canTake : Room := { frames := 3, cells := 0, slots := 0, locals := 65 }
set_option maxHeartbeats 400000 in
set_option maxRecDepth 100000 in
-- canTake
theorem c_X0_canTake (l : Launch) (v : Int64) (ch : Int64) : cS l yX0_canTake wsX0_canTake rmX0_canTake [.long v, .long ch] (.int (f_can v ch)) := by
  refine cS_in (cc := cX0_canTake) (maxL := 6) (ret := (some .boolean)) (by decide) rfl (Nat.le_of_ble_eq_true rfl) ?_
  intro p e s m below meth c ls hx hb hr hlocks hml hown hts hl
  have hown : s.vm.findClass RX0 = some m.cls := hown
  have hl : lv_has ls 6 [(0, .long v), (2, .long ch)] := hl
  refine lv_lload_n hx hb dX0_canTake_0 rfl (lv_at hl 0 rfl) ?_
  refine cS_call (n := 1) (as := [.long v]) (rest := []) ⟨hx, hb, hml, hown, hts⟩ (c_X0_balanceOf l v) gX0_canTake_X0_balanceOf rfl rfl rfl (by decide +kernel) ⟨Nat.le_of_ble_eq_true rfl, Nat.le_of_ble_eq_true rfl⟩ hl.1 rfl rfl (Nat.le_of_ble_eq_true rfl) dX0_canTake_1 ⟨Nat.zero_le _, Nat.zero_le _⟩ ?_
  refine tpi (fun v1 e1 => ?_)
  refine lv_i2l hx hb dX0_canTake_4 rfl ?_
  refine tpl (fun v2 e2 => ?_)
  refine lv_lload_n hx hb dX0_canTake_5 rfl (lv_at hl 1 rfl) ?_
  refine lv_ladd hx hb dX0_canTake_6 ?_
  refine tpl (fun v3 e3 => ?_)
  refine lv_lstore (lv' := [(4, .long v3), (0, .long v), (2, .long ch)]) hx hb dX0_canTake_7 hl (by decide) rfl (fun ls hl => ?_)
  refine lv_lload_n hx hb dX0_canTake_9 rfl (lv_at hl 1 rfl) ?_
  refine cS_call (n := 1) (as := [.long v]) (rest := []) ⟨hx, hb, hml, hown, hts⟩ (c_X0_isOpen l v) gX0_canTake_X0_isOpen rfl rfl rfl (by decide +kernel) ⟨Nat.le_of_ble_eq_true rfl, Nat.le_of_ble_eq_true rfl⟩ hl.1 rfl rfl (Nat.le_of_ble_eq_true rfl) dX0_canTake_10 ⟨Nat.zero_le _, Nat.zero_le _⟩ ?_
  refine tpi (fun v4 e4 => ?_)
  refine lv_if_eq (tgt := 42) hx hb dX0_canTake_13 (by decide) (fun c5 => ?_) (fun c5 => ?_)
  · refine lv_iconst (v := 0) hx hb dX0_canTake_42 (by decide) ?_
    exact cS_retz hx hb hr hlocks dX0_canTake_43 rfl (by subst e1; subst e2; subst e3; subst e4; (try simp only [lg_cmp_eq, lg_cmp_lt, lg_cmp_le, lg_cmp_gt, lg_cmp_ge] at c5); simp only [f_can, bI, c5, ↓reduceIte, not_true_eq_false, not_false_eq_true, and_self, and_true, true_and, and_false, false_and, eq_self])
  · refine lv_lload_n hx hb dX0_canTake_16 rfl (lv_at hl 1 rfl) ?_
    refine cS_call (n := 1) (as := [.long v]) (rest := []) ⟨hx, hb, hml, hown, hts⟩ (c_X0_hasNextNumber l v) gX0_canTake_X0_hasNextNumber rfl rfl rfl (by decide +kernel) ⟨Nat.le_of_ble_eq_true rfl, Nat.le_of_ble_eq_true rfl⟩ hl.1 rfl rfl (Nat.le_of_ble_eq_true rfl) dX0_canTake_17 ⟨Nat.zero_le _, Nat.zero_le _⟩ ?_
    refine tpi (fun v6 e6 => ?_)
    refine lv_if_eq (tgt := 42) hx hb dX0_canTake_20 (by decide) (fun c7 => ?_) (fun c7 => ?_)
    · refine lv_iconst (v := 0) hx hb dX0_canTake_42 (by decide) ?_
      exact cS_retz hx hb hr hlocks dX0_canTake_43 rfl (by subst e1; subst e2; subst e3; subst e4; subst e6; (try simp only [lg_cmp_eq, lg_cmp_lt, lg_cmp_le, lg_cmp_gt, lg_cmp_ge] at c5 c7); simp only [f_can, bI, c5, c7, ↓reduceIte, not_true_eq_false, not_false_eq_true, and_self, and_true, true_and, and_false, false_and, eq_self])
    · refine lv_lload hx hb dX0_canTake_23 (lv_at hl 0 rfl) ?_
      refine cS_call (n := 1) (as := [.long v3]) (rest := []) ⟨hx, hb, hml, hown, hts⟩ (c_X0_isInt l v3) gX0_canTake_X0_isInt rfl rfl rfl (by decide +kernel) ⟨Nat.le_of_ble_eq_true rfl, Nat.le_of_ble_eq_true rfl⟩ hl.1 rfl rfl (Nat.le_of_ble_eq_true rfl) dX0_canTake_25 ⟨Nat.zero_le _, Nat.zero_le _⟩ ?_
      refine tpi (fun v8 e8 => ?_)
      refine lv_if_eq (tgt := 42) hx hb dX0_canTake_28 (by decide) (fun c9 => ?_) (fun c9 => ?_)
      · refine lv_iconst (v := 0) hx hb dX0_canTake_42 (by decide) ?_
        exact cS_retz hx hb hr hlocks dX0_canTake_43 rfl (by subst e1; subst e2; subst e3; subst e4; subst e6; subst e8; (try simp only [lg_cmp_eq, lg_cmp_lt, lg_cmp_le, lg_cmp_gt, lg_cmp_ge] at c5 c7 c9); simp only [f_can, bI, c5, c7, c9, ↓reduceIte, not_true_eq_false, not_false_eq_true, and_self, and_true, true_and, and_false, false_and, eq_self])
      · refine lv_lload hx hb dX0_canTake_31 (lv_at hl 0 rfl) ?_
        refine lv_lconst (v := 0) hx hb dX0_canTake_33 (by decide) ?_
        refine W.lcmp hx hb dX0_canTake_34 ?_
        refine tpi (fun v10 e10 => ?_)
        refine lv_if_lt (tgt := 42) hx hb dX0_canTake_35 (by decide) (fun c11 => ?_) (fun c11 => ?_)
        · refine lv_iconst (v := 0) hx hb dX0_canTake_42 (by decide) ?_
          exact cS_retz hx hb hr hlocks dX0_canTake_43 rfl (by subst e1; subst e2; subst e3; subst e4; subst e6; subst e8; subst e10; (try simp only [lg_cmp_eq, lg_cmp_lt, lg_cmp_le, lg_cmp_gt, lg_cmp_ge] at c5 c7 c9 c11); simp only [f_can, bI, c5, c7, c9, c11, ↓reduceIte, not_true_eq_false, not_false_eq_true, and_self, and_true, true_and, and_false, false_and, eq_self])
        · refine lv_iconst (v := 1) hx hb dX0_canTake_38 (by decide) ?_
          refine lv_goto (tgt := 43) hx hb dX0_canTake_39 (by decide) ?_
          exact cS_retz hx hb hr hlocks dX0_canTake_43 rfl (by subst e1; subst e2; subst e3; subst e4; subst e6; subst e8; subst e10; (try simp only [lg_cmp_eq, lg_cmp_lt, lg_cmp_le, lg_cmp_gt, lg_cmp_ge] at c5 c7 c9 c11); simp only [f_can, bI, c5, c7, c9, c11, ↓reduceIte, not_true_eq_false, not_false_eq_true, and_self, and_true, true_and, and_false, false_and, eq_self])
abbrev rmX0_nextWord : Room := { frames := 2, cells := 0, slots := 0, locals := 46 }
set_option maxHeartbeats 400000 in
set_option maxRecDepth 100000 in
-- nextWord
theorem c_X0_nextWord (l : Launch) (v : Int64) (ch : Int32) : cS l yX0_nextWord wsX0_nextWord rmX0_nextWord [.long v, .int ch] (.long (f_next v ch)) := by
  refine cS_in (cc := cX0_nextWord) (maxL := 3) (ret := (some .long)) (by decide) rfl (Nat.le_of_ble_eq_true rfl) ?_
  intro p e s m below meth c ls hx hb hr hlocks hml hown hts hl
  have hown : s.vm.findClass RX0 = some m.cls := hown
  have hl : lv_has ls 3 [(0, .long v), (2, .int ch)] := hl
  refine lv_lload_n hx hb dX0_nextWord_0 rfl (lv_at hl 0 rfl) ?_
  refine cS_call (n := 1) (as := [.long v]) (rest := []) ⟨hx, hb, hml, hown, hts⟩ (c_X0_balanceOf l v) gX0_nextWord_X0_balanceOf rfl rfl rfl (by decide +kernel) ⟨Nat.le_of_ble_eq_true rfl, Nat.le_of_ble_eq_true rfl⟩ hl.1 rfl rfl (Nat.le_of_ble_eq_true rfl) dX0_nextWord_1 ⟨Nat.zero_le _, Nat.zero_le _⟩ ?_
  refine tpi (fun v1 e1 => ?_)
  refine lv_iload_n hx hb dX0_nextWord_4 rfl (lv_at hl 1 rfl) ?_
  refine lv_iadd hx hb dX0_nextWord_5 ?_
  refine tpi (fun v2 e2 => ?_)
  refine lv_lload_n hx hb dX0_nextWord_6 rfl (lv_at hl 0 rfl) ?_
  refine cS_call (n := 1) (as := [.long v]) (rest := [.int v2]) ⟨hx, hb, hml, hown, hts⟩ (c_X0_numberOf l v) gX0_nextWord_X0_numberOf rfl rfl rfl (by decide +kernel) ⟨Nat.le_of_ble_eq_true rfl, Nat.le_of_ble_eq_true rfl⟩ hl.1 rfl rfl (Nat.le_of_ble_eq_true rfl) dX0_nextWord_7 ⟨Nat.zero_le _, Nat.zero_le _⟩ ?_
  refine tpi (fun v3 e3 => ?_)
  refine lv_iconst (v := 1) hx hb dX0_nextWord_10 (by decide) ?_
  refine lv_iadd hx hb dX0_nextWord_11 ?_
  refine tpi (fun v4 e4 => ?_)
  refine cS_call (n := 2) (as := [.int v2, .int v4]) (rest := []) ⟨hx, hb, hml, hown, hts⟩ (c_X0_makeWord l v2 v4) gX0_nextWord_X0_makeWord rfl rfl rfl (by decide +kernel) ⟨Nat.le_of_ble_eq_true rfl, Nat.le_of_ble_eq_true rfl⟩ hl.1 rfl rfl (Nat.le_of_ble_eq_true rfl) dX0_nextWord_12 ⟨Nat.zero_le _, Nat.zero_le _⟩ ?_
  refine tpl (fun v5 e5 => ?_)
  exact cS_retl hx hb hr hlocks dX0_nextWord_15 (by subst e1; subst e2; subst e3; subst e4; subst e5; rfl)
abbrev rmX0_betterOf : Room := { frames := 2, cells := 0, slots := 0, locals := 44 }
set_option maxHeartbeats 400000 in
set_option maxRecDepth 100000 in
-- betterOf
theorem c_X0_betterOf (l : Launch) (b : Int64) (v : Int64) : cS l yX0_betterOf wsX0_betterOf rmX0_betterOf [.long b, .long v] (.long (f_better b v)) := by
  refine cS_in (cc := cX0_betterOf) (maxL := 4) (ret := (some .long)) (by decide) rfl (Nat.le_of_ble_eq_true rfl) ?_
  intro p e s m below meth c ls hx hb hr hlocks hml hown hts hl
  have hown : s.vm.findClass RX0 = some m.cls := hown
  have hl : lv_has ls 4 [(0, .long b), (2, .long v)] := hl
  refine lv_lload_n hx hb dX0_betterOf_0 rfl (lv_at hl 1 rfl) ?_
  refine cS_call (n := 1) (as := [.long v]) (rest := []) ⟨hx, hb, hml, hown, hts⟩ (c_X0_isValid l v) gX0_betterOf_X0_isValid rfl rfl rfl (by decide +kernel) ⟨Nat.le_of_ble_eq_true rfl, Nat.le_of_ble_eq_true rfl⟩ hl.1 rfl rfl (Nat.le_of_ble_eq_true rfl) dX0_betterOf_1 ⟨Nat.zero_le _, Nat.zero_le _⟩ ?_
  refine tpi (fun v1 e1 => ?_)
  refine lv_if_ne (tgt := 9) hx hb dX0_betterOf_4 (by decide) (fun c2 => ?_) (fun c2 => ?_)
  · refine lv_lload_n hx hb dX0_betterOf_9 rfl (lv_at hl 0 rfl) ?_
    refine cS_call (n := 1) (as := [.long b]) (rest := []) ⟨hx, hb, hml, hown, hts⟩ (c_X0_isValid l b) gX0_betterOf_X0_isValid rfl rfl rfl (by decide +kernel) ⟨Nat.le_of_ble_eq_true rfl, Nat.le_of_ble_eq_true rfl⟩ hl.1 rfl rfl (Nat.le_of_ble_eq_true rfl) dX0_betterOf_10 ⟨Nat.zero_le _, Nat.zero_le _⟩ ?_
    refine tpi (fun v3 e3 => ?_)
    refine lv_if_ne (tgt := 18) hx hb dX0_betterOf_13 (by decide) (fun c4 => ?_) (fun c4 => ?_)
    · refine lv_lload_n hx hb dX0_betterOf_18 rfl (lv_at hl 1 rfl) ?_
      refine cS_call (n := 1) (as := [.long v]) (rest := []) ⟨hx, hb, hml, hown, hts⟩ (c_X0_numberOf l v) gX0_betterOf_X0_numberOf rfl rfl rfl (by decide +kernel) ⟨Nat.le_of_ble_eq_true rfl, Nat.le_of_ble_eq_true rfl⟩ hl.1 rfl rfl (Nat.le_of_ble_eq_true rfl) dX0_betterOf_19 ⟨Nat.zero_le _, Nat.zero_le _⟩ ?_
      refine tpi (fun v5 e5 => ?_)
      refine lv_lload_n hx hb dX0_betterOf_22 rfl (lv_at hl 0 rfl) ?_
      refine cS_call (n := 1) (as := [.long b]) (rest := [.int v5]) ⟨hx, hb, hml, hown, hts⟩ (c_X0_numberOf l b) gX0_betterOf_X0_numberOf rfl rfl rfl (by decide +kernel) ⟨Nat.le_of_ble_eq_true rfl, Nat.le_of_ble_eq_true rfl⟩ hl.1 rfl rfl (Nat.le_of_ble_eq_true rfl) dX0_betterOf_23 ⟨Nat.zero_le _, Nat.zero_le _⟩ ?_
      refine tpi (fun v6 e6 => ?_)
      refine lv_icmp_eq (tgt := 46) hx hb dX0_betterOf_26 (by decide) (fun c7 => ?_) (fun c7 => ?_)
      · refine lv_lload_n hx hb dX0_betterOf_46 rfl (lv_at hl 1 rfl) ?_
        refine cS_call (n := 1) (as := [.long v]) (rest := []) ⟨hx, hb, hml, hown, hts⟩ (c_X0_balanceOf l v) gX0_betterOf_X0_balanceOf rfl rfl rfl (by decide +kernel) ⟨Nat.le_of_ble_eq_true rfl, Nat.le_of_ble_eq_true rfl⟩ hl.1 rfl rfl (Nat.le_of_ble_eq_true rfl) dX0_betterOf_47 ⟨Nat.zero_le _, Nat.zero_le _⟩ ?_
        refine tpi (fun v8 e8 => ?_)
        refine lv_lload_n hx hb dX0_betterOf_50 rfl (lv_at hl 0 rfl) ?_
        refine cS_call (n := 1) (as := [.long b]) (rest := [.int v8]) ⟨hx, hb, hml, hown, hts⟩ (c_X0_balanceOf l b) gX0_betterOf_X0_balanceOf rfl rfl rfl (by decide +kernel) ⟨Nat.le_of_ble_eq_true rfl, Nat.le_of_ble_eq_true rfl⟩ hl.1 rfl rfl (Nat.le_of_ble_eq_true rfl) dX0_betterOf_51 ⟨Nat.zero_le _, Nat.zero_le _⟩ ?_
        refine tpi (fun v9 e9 => ?_)
        refine lv_icmp_le (tgt := 61) hx hb dX0_betterOf_54 (by decide) (fun c10 => ?_) (fun c10 => ?_)
        · refine lv_lload_n hx hb dX0_betterOf_61 rfl (lv_at hl 0 rfl) ?_
          exact cS_retl hx hb hr hlocks dX0_betterOf_62 (by subst e1; subst e3; subst e5; subst e6; subst e8; subst e9; simp only [f_better, bI, c2, c4, c7, c10, ↓reduceIte, not_true_eq_false, not_false_eq_true, and_self, and_true, true_and, and_false, false_and, eq_self])
        · refine lv_lload_n hx hb dX0_betterOf_57 rfl (lv_at hl 1 rfl) ?_
          refine lv_goto (tgt := 62) hx hb dX0_betterOf_58 (by decide) ?_
          exact cS_retl hx hb hr hlocks dX0_betterOf_62 (by subst e1; subst e3; subst e5; subst e6; subst e8; subst e9; simp only [f_better, bI, c2, c4, c7, c10, ↓reduceIte, not_true_eq_false, not_false_eq_true, and_self, and_true, true_and, and_false, false_and, eq_self])
      · refine lv_lload_n hx hb dX0_betterOf_29 rfl (lv_at hl 1 rfl) ?_
        refine cS_call (n := 1) (as := [.long v]) (rest := []) ⟨hx, hb, hml, hown, hts⟩ (c_X0_numberOf l v) gX0_betterOf_X0_numberOf rfl rfl rfl (by decide +kernel) ⟨Nat.le_of_ble_eq_true rfl, Nat.le_of_ble_eq_true rfl⟩ hl.1 rfl rfl (Nat.le_of_ble_eq_true rfl) dX0_betterOf_30 ⟨Nat.zero_le _, Nat.zero_le _⟩ ?_
        refine tpi (fun v11 e11 => ?_)
        refine lv_lload_n hx hb dX0_betterOf_33 rfl (lv_at hl 0 rfl) ?_
        refine cS_call (n := 1) (as := [.long b]) (rest := [.int v11]) ⟨hx, hb, hml, hown, hts⟩ (c_X0_numberOf l b) gX0_betterOf_X0_numberOf rfl rfl rfl (by decide +kernel) ⟨Nat.le_of_ble_eq_true rfl, Nat.le_of_ble_eq_true rfl⟩ hl.1 rfl rfl (Nat.le_of_ble_eq_true rfl) dX0_betterOf_34 ⟨Nat.zero_le _, Nat.zero_le _⟩ ?_
        refine tpi (fun v12 e12 => ?_)
        refine lv_icmp_le (tgt := 44) hx hb dX0_betterOf_37 (by decide) (fun c13 => ?_) (fun c13 => ?_)
        · refine lv_lload_n hx hb dX0_betterOf_44 rfl (lv_at hl 0 rfl) ?_
          exact cS_retl hx hb hr hlocks dX0_betterOf_45 (by subst e1; subst e3; subst e5; subst e6; subst e11; subst e12; simp only [f_better, bI, c2, c4, c7, c13, ↓reduceIte, not_true_eq_false, not_false_eq_true, and_self, and_true, true_and, and_false, false_and, eq_self])
        · refine lv_lload_n hx hb dX0_betterOf_40 rfl (lv_at hl 1 rfl) ?_
          refine lv_goto (tgt := 45) hx hb dX0_betterOf_41 (by decide) ?_
          exact cS_retl hx hb hr hlocks dX0_betterOf_45 (by subst e1; subst e3; subst e5; subst e6; subst e11; subst e12; simp only [f_better, bI, c2, c4, c7, c13, ↓reduceIte, not_true_eq_false, not_false_eq_true, and_self, and_true, true_and, and_false, false_and, eq_self])
    · refine lv_lload_n hx hb dX0_betterOf_16 rfl (lv_at hl 1 rfl) ?_
      exact cS_retl hx hb hr hlocks dX0_betterOf_17 (by subst e1; subst e3; simp only [f_better, bI, c2, c4, ↓reduceIte, not_true_eq_false, not_false_eq_true, and_self, and_true, true_and, and_false, false_and, eq_self])
  · refine lv_lload_n hx hb dX0_betterOf_7 rfl (lv_at hl 0 rfl) ?_
    exact cS_retl hx hb hr hlocks dX0_betterOf_8 (by subst e1; simp only [f_better, bI, c2, ↓reduceIte, not_true_eq_false, not_false_eq_true, and_self, and_true, true_and, and_false, false_and, eq_self])
abbrev rmX0_fromOf : Room := { frames := 0, cells := 0, slots := 0, locals := 0 }
set_option maxHeartbeats 400000 in
set_option maxRecDepth 100000 in
-- fromOf
theorem c_X0_fromOf (l : Launch) (r : Int32) : cS l yX0_fromOf wsX0_fromOf rmX0_fromOf [.int r] (.int (f_from r)) := by
  refine cS_in (cc := cX0_fromOf) (maxL := 1) (ret := (some .int)) (by decide) rfl (Nat.le_of_ble_eq_true rfl) ?_
  intro p e s m below meth c ls hx hb hr hlocks hml hown hts hl
  have hown : s.vm.findClass RX0 = some m.cls := hown
  have hl : lv_has ls 1 [(0, .int r)] := hl
  refine lv_iload_n hx hb dX0_fromOf_0 rfl (lv_at hl 0 rfl) ?_
  refine lv_bipush (v := 8) hx hb dX0_fromOf_1 (by decide) ?_
  refine lv_ishr hx hb dX0_fromOf_3 ?_
  refine tpi (fun v1 e1 => ?_)
  refine lv_sipush (v := 255) hx hb dX0_fromOf_4 (by decide) ?_
  refine lv_iand hx hb dX0_fromOf_7 ?_
  refine tpi (fun v2 e2 => ?_)
  exact cS_reti hx hb hr hlocks dX0_fromOf_8 (by subst e1; subst e2; rfl)
abbrev rmX0_toOf : Room := { frames := 0, cells := 0, slots := 0, locals := 0 }
set_option maxHeartbeats 400000 in
set_option maxRecDepth 100000 in
-- toOf
theorem c_X0_toOf (l : Launch) (r : Int32) : cS l yX0_toOf wsX0_toOf rmX0_toOf [.int r] (.int (f_to r)) := by
  refine cS_in (cc := cX0_toOf) (maxL := 1) (ret := (some .int)) (by decide) rfl (Nat.le_of_ble_eq_true rfl) ?_
  intro p e s m below meth c ls hx hb hr hlocks hml hown hts hl
  have hown : s.vm.findClass RX0 = some m.cls := hown
  have hl : lv_has ls 1 [(0, .int r)] := hl
  refine lv_iload_n hx hb dX0_toOf_0 rfl (lv_at hl 0 rfl) ?_
  refine lv_sipush (v := 255) hx hb dX0_toOf_1 (by decide) ?_
  refine lv_iand hx hb dX0_toOf_4 ?_
  refine tpi (fun v1 e1 => ?_)
  exact cS_reti hx hb hr hlocks dX0_toOf_5 (by subst e1; rfl)
end
section
abbrev rmX0_losePower : Room := { frames := 0, cells := 0, slots := 0, locals := 0 }
-- losePower
set_option maxHeartbeats 400000 in
set_option maxRecDepth 100000 in
theorem c_X0_losePower (l : Launch) (D : va_G) (h0 h1 h2 : Nat) (cA cB : ClassId) (st : FS)   : cM l D vwCl (FT cA cB) (FWd h0 h1 h2 cA cB) yX0_losePower wsX0_losePower rmX0_losePower [.ref h0] st none (f_lose st) := by
  refine cM_in (cc := cX0_losePower) (maxL := 1) (ret := none) (by decide) rfl (Nat.le_of_ble_eq_true rfl) ?_
  intro p e s m below meth c ls A hx hb hr hlocks hml hown hts hA hK hP hD hS hl
  have hown : s.vm.findClass RX0 = some m.cls := hown
  have hl : lv_has ls 1 [(0, .ref h0)] := hl
  -- walk
  refine lv_aload_n hx hb dX0_losePower_0 rfl (lv_at hl 0 rfl) ?_
  refine lv_iconst (v := 0) hx hb dX0_losePower_1 (by decide) ?_
  refine va_put (D := D) (ci := 0) (v := .int 0) (ty := .boolean) (C := RX0) (T := TX0) (N := 6) hx hb hts (by decide +kernel) tyX0 tyX0_ok nmX0 hown hK hP hD hS 0 rfl rfl 2 (by decide) (hts (.fieldLink RX0 17 "FadeLedger" "powered" "Z") (by decide +kernel)) (fun _ h9 => h9) rfl (by decide +kernel) rfl rfl (Nat.le_of_ble_eq_true rfl) dX0_losePower_2 (fun H locs hP hD hS => ?_)
  obtain ⟨s1, t1⟩ : ∃ z : FS, ((st.1, st.2.1, 0, st.2.2.2.1, st.2.2.2.2.1, st.2.2.2.2.2) : FS) = z := ⟨_, rfl⟩
  replace hP : va_P D vwCl (FWd h0 h1 h2 cA cB s1) H := by rw [← t1]; exact hP
  replace hD : va_D A (FWd h0 h1 h2 cA cB s1) := by rw [← t1]; exact hD
  refine lv_aload_n hx hb dX0_losePower_5 rfl (lv_at hl 0 rfl) ?_
  refine lv_iconst (v := (-1)) hx hb dX0_losePower_6 (by decide) ?_
  refine va_put (D := D) (ci := 0) (v := .int (-1)) (ty := .int) (C := RX0) (T := TX0) (N := 6) hx hb hts (by decide +kernel) tyX0 tyX0_ok nmX0 hown hK hP hD hS 0 rfl rfl 3 (by decide) (hts (.fieldLink RX0 21 "FadeLedger" "turnsLeft" "I") (by decide +kernel)) (fun _ h9 => h9) rfl (by decide +kernel) rfl rfl (Nat.le_of_ble_eq_true rfl) dX0_losePower_7 (fun H locs hP hD hS => ?_)
  obtain ⟨s2, t2⟩ : ∃ z : FS, ((s1.1, s1.2.1, s1.2.2.1, (-1), s1.2.2.2.2.1, s1.2.2.2.2.2) : FS) = z := ⟨_, rfl⟩
  replace hP : va_P D vwCl (FWd h0 h1 h2 cA cB s2) H := by rw [← t2]; exact hP
  replace hD : va_D A (FWd h0 h1 h2 cA cB s2) := by rw [← t2]; exact hD
  have fin : (f_lose st) = s2 := by clear hP hD hS; subst t1; subst t2; simp only [f_lose]
  exact cM_retv (Wd := FWd h0 h1 h2 cA cB) (st := s2) (st' := (f_lose st)) hx hb hr hlocks dX0_losePower_10 hS hP hD fin.symm
abbrev rmX0_takeTurn : Room := { frames := 1, cells := 0, slots := 0, locals := 20 }
-- takeTurn
set_option maxHeartbeats 400000 in
set_option maxRecDepth 100000 in
theorem c_X0_takeTurn (l : Launch) (D : va_G) (h0 h1 h2 : Nat) (cA cB : ClassId) (st : FS)   : cM l D vwCl (FT cA cB) (FWd h0 h1 h2 cA cB) yX0_takeTurn wsX0_takeTurn rmX0_takeTurn [.ref h0] st (some (.int (f_take st).1)) (f_take st).2 := by
  refine cM_in (cc := cX0_takeTurn) (maxL := 1) (ret := (some .boolean)) (by decide) rfl (Nat.le_of_ble_eq_true rfl) ?_
  intro p e s m below meth c ls A hx hb hr hlocks hml hown hts hA hK hP hD hS hl
  have hown : s.vm.findClass RX0 = some m.cls := hown
  have hl : lv_has ls 1 [(0, .ref h0)] := hl
  -- walk
  refine lv_aload_n hx hb dX0_takeTurn_0 rfl (lv_at hl 0 rfl) ?_
  refine va_get (D := D) (ci := 0) (v := .int st.2.2.1) (C := RX0) (T := TX0) (N := 6) hx hb hts (by decide +kernel) hown hK hP 0 rfl rfl 2 (by decide) (hts (.fieldLink RX0 17 "FadeLedger" "powered" "Z") (by decide +kernel)) (fun _ h9 => h9) rfl dX0_takeTurn_1 ?_
  refine tpi (fun v1 e1 => ?_)
  refine lv_if_ne (tgt := 9) hx hb dX0_takeTurn_4 (by decide) (fun c2 => ?_) (fun c2 => ?_)
  · refine lv_aload_n hx hb dX0_takeTurn_9 rfl (lv_at hl 0 rfl) ?_
    refine va_get (D := D) (ci := 0) (v := .int st.2.2.2.1) (C := RX0) (T := TX0) (N := 6) hx hb hts (by decide +kernel) hown hK hP 0 rfl rfl 3 (by decide) (hts (.fieldLink RX0 21 "FadeLedger" "turnsLeft" "I") (by decide +kernel)) (fun _ h9 => h9) rfl dX0_takeTurn_10 ?_
    refine tpi (fun v3 e3 => ?_)
    refine lv_if_ne (tgt := 22) hx hb dX0_takeTurn_13 (by decide) (fun c4 => ?_) (fun c4 => ?_)
    · refine lv_aload_n hx hb dX0_takeTurn_22 rfl (lv_at hl 0 rfl) ?_
      refine va_get (D := D) (ci := 0) (v := .int st.2.2.2.1) (C := RX0) (T := TX0) (N := 6) hx hb hts (by decide +kernel) hown hK hP 0 rfl rfl 3 (by decide) (hts (.fieldLink RX0 21 "FadeLedger" "turnsLeft" "I") (by decide +kernel)) (fun _ h9 => h9) rfl dX0_takeTurn_23 ?_
      refine tpi (fun v5 e5 => ?_)
      refine lv_if_le (tgt := 39) hx hb dX0_takeTurn_26 (by decide) (fun c6 => ?_) (fun c6 => ?_)
      · refine lv_iconst (v := 1) hx hb dX0_takeTurn_39 (by decide) ?_
        have fin : f_take st = (1, st) := by
          clear hP hD hS; subst e1; subst e3; subst e5; simp only [f_take, c2, c4, c6, ↓reduceIte, not_true_eq_false, not_false_eq_true, and_self, and_true, true_and, and_false, false_and, eq_self, i10]
        exact cM_retz (Wd := FWd h0 h1 h2 cA cB) (st := st) (st' := (f_take st).2) hx hb hr hlocks dX0_takeTurn_40 hS hP hD rfl (congrArg Prod.fst fin).symm (congrArg Prod.snd fin).symm
      · refine lv_aload_n hx hb dX0_takeTurn_29 rfl (lv_at hl 0 rfl) ?_
        refine lv_dup hx hb dX0_takeTurn_30 rfl ?_
        refine va_get (D := D) (ci := 0) (v := .int st.2.2.2.1) (C := RX0) (T := TX0) (N := 6) hx hb hts (by decide +kernel) hown hK hP 0 rfl rfl 3 (by decide) (hts (.fieldLink RX0 21 "FadeLedger" "turnsLeft" "I") (by decide +kernel)) (fun _ h9 => h9) rfl dX0_takeTurn_31 ?_
        refine tpi (fun v7 e7 => ?_)
        refine lv_iconst (v := 1) hx hb dX0_takeTurn_34 (by decide) ?_
        refine lv_isub hx hb dX0_takeTurn_35 ?_
        refine tpi (fun v8 e8 => ?_)
        refine va_put (D := D) (ci := 0) (v := .int v8) (ty := .int) (C := RX0) (T := TX0) (N := 6) hx hb hts (by decide +kernel) tyX0 tyX0_ok nmX0 hown hK hP hD hS 0 rfl rfl 3 (by decide) (hts (.fieldLink RX0 21 "FadeLedger" "turnsLeft" "I") (by decide +kernel)) (fun _ h9 => h9) rfl (by decide +kernel) rfl rfl (Nat.le_of_ble_eq_true rfl) dX0_takeTurn_36 (fun H locs hP hD hS => ?_)
        obtain ⟨s9, t9⟩ : ∃ z : FS, ((st.1, st.2.1, st.2.2.1, v8, st.2.2.2.2.1, st.2.2.2.2.2) : FS) = z := ⟨_, rfl⟩
        replace hP : va_P D vwCl (FWd h0 h1 h2 cA cB s9) H := by rw [← t9]; exact hP
        replace hD : va_D A (FWd h0 h1 h2 cA cB s9) := by rw [← t9]; exact hD
        refine lv_iconst (v := 1) hx hb dX0_takeTurn_39 (by decide) ?_
        have fin : f_take st = (1, s9) := by
          clear hP hD hS; subst e1; subst e3; subst e5; subst e7; subst e8; subst t9; simp only [f_take, c2, c4, c6, ↓reduceIte, not_true_eq_false, not_false_eq_true, and_self, and_true, true_and, and_false, false_and, eq_self, i10]
        exact cM_retz (Wd := FWd h0 h1 h2 cA cB) (st := s9) (st' := (f_take st).2) hx hb hr hlocks dX0_takeTurn_40 hS hP hD rfl (congrArg Prod.fst fin).symm (congrArg Prod.snd fin).symm
    · refine lv_aload_n hx hb dX0_takeTurn_16 rfl (lv_at hl 0 rfl) ?_
      refine cM_this (Wd := FWd h0 h1 h2 cA cB) (ci := 0) (q0 := 0) (n := 0) (as := []) (rest := []) ⟨hx, hb, hml, hown, hts⟩ (c_X0_losePower l D h0 h1 h2 cA cB st) gX0_takeTurn_X0_losePower rfl rfl rfl (by decide +kernel) ⟨Nat.le_of_ble_eq_true rfl, Nat.le_of_ble_eq_true rfl⟩ hK hP hD hS hA rfl rfl rfl hl.1 rfl rfl (Nat.le_of_ble_eq_true rfl) dX0_takeTurn_17 ⟨Nat.zero_le _, Nat.zero_le _⟩ (fun H locs hP hD hS => ?_)
      refine W.eq (g2 := F0 m 20 ls []) rfl ?_
      obtain ⟨s10, t10⟩ : ∃ z : FS, f_lose st = z := ⟨_, rfl⟩
      replace hP : va_P D vwCl (FWd h0 h1 h2 cA cB s10) H := by rw [← t10]; exact hP
      replace hD : va_D A (FWd h0 h1 h2 cA cB s10) := by rw [← t10]; exact hD
      refine lv_iconst (v := 0) hx hb dX0_takeTurn_20 (by decide) ?_
      have fin : f_take st = (0, s10) := by
        clear hP hD hS; subst e1; subst e3; subst t10; simp only [f_take, c2, c4, ↓reduceIte, not_true_eq_false, not_false_eq_true, and_self, and_true, true_and, and_false, false_and, eq_self, i10]
      exact cM_retz (Wd := FWd h0 h1 h2 cA cB) (st := s10) (st' := (f_take st).2) hx hb hr hlocks dX0_takeTurn_21 hS hP hD rfl (congrArg Prod.fst fin).symm (congrArg Prod.snd fin).symm
  · refine lv_iconst (v := 0) hx hb dX0_takeTurn_7 (by decide) ?_
    have fin : f_take st = (0, st) := by
      clear hP hD hS; subst e1; simp only [f_take, c2, ↓reduceIte, not_true_eq_false, not_false_eq_true, and_self, and_true, true_and, and_false, false_and, eq_self, i10]
    exact cM_retz (Wd := FWd h0 h1 h2 cA cB) (st := st) (st' := (f_take st).2) hx hb hr hlocks dX0_takeTurn_8 hS hP hD rfl (congrArg Prod.fst fin).symm (congrArg Prod.snd fin).symm
abbrev rmX0_readTurn : Room := { frames := 2, cells := 0, slots := 0, locals := 40 }
-- readTurn
set_option maxHeartbeats 400000 in
set_option maxRecDepth 100000 in
theorem c_X0_readTurn (l : Launch) (D : va_G) (h0 h1 h2 : Nat) (cA cB : ClassId) (st : FS) (a : Int32) (b : Int32) (hp : vp_in a 4) (hc : vp_in b 20) : cM l D vwCl (FT cA cB) (FWd h0 h1 h2 cA cB) yX0_readTurn wsX0_readTurn rmX0_readTurn [.ref h0, .int a, .int b] st (some (.long (f_read a b st).1)) (f_read a b st).2 := by
  refine cM_in (cc := cX0_readTurn) (maxL := 6) (ret := (some .long)) (by decide) rfl (Nat.le_of_ble_eq_true rfl) ?_
  intro p e s m below meth c ls A hx hb hr hlocks hml hown hts hA hK hP hD hS hl
  have hown : s.vm.findClass RX0 = some m.cls := hown
  have hl : lv_has ls 6 [(0, .ref h0), (1, .int a), (2, .int b)] := hl
  -- walk
  refine lv_aload_n hx hb dX0_readTurn_0 rfl (lv_at hl 0 rfl) ?_
  refine cM_this (Wd := FWd h0 h1 h2 cA cB) (ci := 0) (q0 := 0) (n := 0) (as := []) (rest := []) ⟨hx, hb, hml, hown, hts⟩ (c_X0_takeTurn l D h0 h1 h2 cA cB st) gX0_readTurn_X0_takeTurn rfl rfl rfl (by decide +kernel) ⟨Nat.le_of_ble_eq_true rfl, Nat.le_of_ble_eq_true rfl⟩ hK hP hD hS hA rfl rfl rfl hl.1 rfl rfl (Nat.le_of_ble_eq_true rfl) dX0_readTurn_1 ⟨Nat.zero_le _, Nat.zero_le _⟩ (fun H locs hP hD hS => ?_)
  obtain ⟨s1, t1⟩ : ∃ z : FS, (f_take st).2 = z := ⟨_, rfl⟩
  replace hP : va_P D vwCl (FWd h0 h1 h2 cA cB s1) H := by rw [← t1]; exact hP
  replace hD : va_D A (FWd h0 h1 h2 cA cB s1) := by rw [← t1]; exact hD
  refine tpi (fun v2 e2 => ?_)
  refine lv_if_ne (tgt := 9) hx hb dX0_readTurn_4 (by decide) (fun c3 => ?_) (fun c3 => ?_)
  · refine lv_aload_n hx hb dX0_readTurn_9 rfl (lv_at hl 0 rfl) ?_
    refine lv_dup hx hb dX0_readTurn_10 rfl ?_
    refine va_get (D := D) (ci := 0) (v := .int s1.2.2.2.2.1) (C := RX0) (T := TX0) (N := 6) hx hb hts (by decide +kernel) hown hK hP 0 rfl rfl 4 (by decide) (hts (.fieldLink RX0 114 "FadeLedger" "reads" "I") (by decide +kernel)) (fun _ h9 => h9) rfl dX0_readTurn_11 ?_
    refine tpi (fun v4 e4 => ?_)
    refine lv_iconst (v := 1) hx hb dX0_readTurn_14 (by decide) ?_
    refine lv_iadd hx hb dX0_readTurn_15 ?_
    refine tpi (fun v5 e5 => ?_)
    refine va_put (D := D) (ci := 0) (v := .int v5) (ty := .int) (C := RX0) (T := TX0) (N := 6) hx hb hts (by decide +kernel) tyX0 tyX0_ok nmX0 hown hK hP hD hS 0 rfl rfl 4 (by decide) (hts (.fieldLink RX0 114 "FadeLedger" "reads" "I") (by decide +kernel)) (fun _ h9 => h9) rfl (by decide +kernel) rfl rfl (Nat.le_of_ble_eq_true rfl) dX0_readTurn_16 (fun H locs hP hD hS => ?_)
    obtain ⟨s6, t6⟩ : ∃ z : FS, ((s1.1, s1.2.1, s1.2.2.1, s1.2.2.2.1, v5, s1.2.2.2.2.2) : FS) = z := ⟨_, rfl⟩
    replace hP : va_P D vwCl (FWd h0 h1 h2 cA cB s6) H := by rw [← t6]; exact hP
    replace hD : va_D A (FWd h0 h1 h2 cA cB s6) := by rw [← t6]; exact hD
    refine lv_iload_n hx hb dX0_readTurn_19 rfl (lv_at hl 1 rfl) ?_
    refine lv_iload_n hx hb dX0_readTurn_20 rfl (lv_at hl 2 rfl) ?_
    refine cS_call (n := 2) (as := [.int a, .int b]) (rest := []) ⟨hx, hb, hml, hown, hts⟩ (c_X0_slot l a b) gX0_readTurn_X0_slot rfl rfl rfl (by decide +kernel) ⟨Nat.le_of_ble_eq_true rfl, Nat.le_of_ble_eq_true rfl⟩ hl.1 rfl rfl (Nat.le_of_ble_eq_true rfl) dX0_readTurn_21 ⟨Nat.zero_le _, Nat.zero_le _⟩ ?_
    refine tpi (fun v7 e7 => ?_)
    refine lv_istore_n (lv' := [(3, .int v7), (0, .ref h0), (1, .int a), (2, .int b)]) hx hb dX0_readTurn_24 rfl hl (by decide) rfl (fun ls hl => ?_)
    refine lv_aload_n hx hb dX0_readTurn_25 rfl (lv_at hl 1 rfl) ?_
    refine va_get (D := D) (ci := 0) (v := .ref h1) (C := RX0) (T := TX0) (N := 6) hx hb hts (by decide +kernel) hown hK hP 0 rfl rfl 0 (by decide) (hts (.fieldLink RX0 9 "FadeLedger" "memory" "[J") (by decide +kernel)) (fun _ h9 => h9) rfl dX0_readTurn_26 ?_
    refine lv_iload_n hx hb dX0_readTurn_29 rfl (lv_at hl 0 rfl) ?_
    refine va_lald hx hb hK hP 1 0 rfl rfl (by subst e2; subst e4; subst e5; subst e7; exact slot_in hp hc) dX0_readTurn_30 ?_
    refine tpl (fun v8 e8 => ?_)
    refine lv_lstore (lv' := [(4, .long v8), (3, .int v7), (0, .ref h0), (1, .int a), (2, .int b)]) hx hb dX0_readTurn_31 hl (by decide) rfl (fun ls hl => ?_)
    refine lv_aload_n hx hb dX0_readTurn_33 rfl (lv_at hl 2 rfl) ?_
    refine va_get (D := D) (ci := 0) (v := .ref h1) (C := RX0) (T := TX0) (N := 6) hx hb hts (by decide +kernel) hown hK hP 0 rfl rfl 0 (by decide) (hts (.fieldLink RX0 9 "FadeLedger" "memory" "[J") (by decide +kernel)) (fun _ h9 => h9) rfl dX0_readTurn_34 ?_
    refine lv_iload_n hx hb dX0_readTurn_37 rfl (lv_at hl 1 rfl) ?_
    refine lv_lconst (v := 0) hx hb dX0_readTurn_38 (by decide) ?_
    refine va_last hx hb hK hP hD hS 1 0 rfl rfl (by subst e2; subst e4; subst e5; subst e7; subst e8; exact slot_in hp hc) dX0_readTurn_39 (fun H locs hP hD hS => ?_)
    obtain ⟨s9, t9⟩ : ∃ z : FS, ((vp_updL s6.1 v7.toNatClampNeg 0, s6.2.1, s6.2.2.1, s6.2.2.2.1, s6.2.2.2.2.1, s6.2.2.2.2.2) : FS) = z := ⟨_, rfl⟩
    replace hP : va_P D vwCl (FWd h0 h1 h2 cA cB s9) H := by rw [← t9]; exact hP
    replace hD : va_D A (FWd h0 h1 h2 cA cB s9) := by rw [← t9]; exact hD
    refine lv_lload hx hb dX0_readTurn_40 (lv_at hl 0 rfl) ?_
    have fin : f_read a b st = (v8, s9) := by
      clear hP hD hS; subst t1; subst e2; subst e4; subst e5; subst t6; subst e7; subst e8; subst t9; simp only [f_read, f_readT, c3, ↓reduceIte, not_true_eq_false, not_false_eq_true, and_self, and_true, true_and, and_false, false_and, eq_self, i10]
    exact cM_retl (Wd := FWd h0 h1 h2 cA cB) (st := s9) (st' := (f_read a b st).2) hx hb hr hlocks dX0_readTurn_42 hS hP hD (congrArg Prod.fst fin).symm (congrArg Prod.snd fin).symm
  · refine lv_lconst (v := 0) hx hb dX0_readTurn_7 (by decide) ?_
    have fin : f_read a b st = (0, s1) := by
      clear hP hD hS; subst t1; subst e2; simp only [f_read, f_readT, c3, ↓reduceIte, not_true_eq_false, not_false_eq_true, and_self, and_true, true_and, and_false, false_and, eq_self, i10]
    exact cM_retl (Wd := FWd h0 h1 h2 cA cB) (st := s1) (st' := (f_read a b st).2) hx hb hr hlocks dX0_readTurn_8 hS hP hD (congrArg Prod.fst fin).symm (congrArg Prod.snd fin).symm
abbrev rmX0_writeTurn : Room := { frames := 2, cells := 0, slots := 0, locals := 40 }
-- writeTurn
set_option maxHeartbeats 400000 in
set_option maxRecDepth 100000 in
theorem c_X0_writeTurn (l : Launch) (D : va_G) (h0 h1 h2 : Nat) (cA cB : ClassId) (st : FS) (a : Int32) (b : Int32) (v : Int64) (hp : vp_in a 4) (hc : vp_in b 20) : cM l D vwCl (FT cA cB) (FWd h0 h1 h2 cA cB) yX0_writeTurn wsX0_writeTurn rmX0_writeTurn [.ref h0, .int a, .int b, .long v] st none (f_write a b v st) := by
  refine cM_in (cc := cX0_writeTurn) (maxL := 5) (ret := none) (by decide) rfl (Nat.le_of_ble_eq_true rfl) ?_
  intro p e s m below meth c ls A hx hb hr hlocks hml hown hts hA hK hP hD hS hl
  have hown : s.vm.findClass RX0 = some m.cls := hown
  have hl : lv_has ls 5 [(0, .ref h0), (1, .int a), (2, .int b), (3, .long v)] := hl
  -- walk
  refine lv_aload_n hx hb dX0_writeTurn_0 rfl (lv_at hl 0 rfl) ?_
  refine cM_this (Wd := FWd h0 h1 h2 cA cB) (ci := 0) (q0 := 0) (n := 0) (as := []) (rest := []) ⟨hx, hb, hml, hown, hts⟩ (c_X0_takeTurn l D h0 h1 h2 cA cB st) gX0_writeTurn_X0_takeTurn rfl rfl rfl (by decide +kernel) ⟨Nat.le_of_ble_eq_true rfl, Nat.le_of_ble_eq_true rfl⟩ hK hP hD hS hA rfl rfl rfl hl.1 rfl rfl (Nat.le_of_ble_eq_true rfl) dX0_writeTurn_1 ⟨Nat.zero_le _, Nat.zero_le _⟩ (fun H locs hP hD hS => ?_)
  obtain ⟨s1, t1⟩ : ∃ z : FS, (f_take st).2 = z := ⟨_, rfl⟩
  replace hP : va_P D vwCl (FWd h0 h1 h2 cA cB s1) H := by rw [← t1]; exact hP
  replace hD : va_D A (FWd h0 h1 h2 cA cB s1) := by rw [← t1]; exact hD
  refine tpi (fun v2 e2 => ?_)
  refine lv_if_eq (tgt := 28) hx hb dX0_writeTurn_4 (by decide) (fun c3 => ?_) (fun c3 => ?_)
  · have fin : (f_write a b v st) = s1 := by clear hP hD hS; subst t1; subst e2; simp only [f_write, f_writeT, c3, ↓reduceIte, not_true_eq_false, not_false_eq_true, and_self, and_true, true_and, and_false, false_and, eq_self]
    exact cM_retv (Wd := FWd h0 h1 h2 cA cB) (st := s1) (st' := (f_write a b v st)) hx hb hr hlocks dX0_writeTurn_28 hS hP hD fin.symm
  · refine lv_aload_n hx hb dX0_writeTurn_7 rfl (lv_at hl 0 rfl) ?_
    refine lv_dup hx hb dX0_writeTurn_8 rfl ?_
    refine va_get (D := D) (ci := 0) (v := .int s1.2.2.2.2.2) (C := RX0) (T := TX0) (N := 6) hx hb hts (by decide +kernel) hown hK hP 0 rfl rfl 5 (by decide) (hts (.fieldLink RX0 117 "FadeLedger" "writes" "I") (by decide +kernel)) (fun _ h9 => h9) rfl dX0_writeTurn_9 ?_
    refine tpi (fun v4 e4 => ?_)
    refine lv_iconst (v := 1) hx hb dX0_writeTurn_12 (by decide) ?_
    refine lv_iadd hx hb dX0_writeTurn_13 ?_
    refine tpi (fun v5 e5 => ?_)
    refine va_put (D := D) (ci := 0) (v := .int v5) (ty := .int) (C := RX0) (T := TX0) (N := 6) hx hb hts (by decide +kernel) tyX0 tyX0_ok nmX0 hown hK hP hD hS 0 rfl rfl 5 (by decide) (hts (.fieldLink RX0 117 "FadeLedger" "writes" "I") (by decide +kernel)) (fun _ h9 => h9) rfl (by decide +kernel) rfl rfl (Nat.le_of_ble_eq_true rfl) dX0_writeTurn_14 (fun H locs hP hD hS => ?_)
    obtain ⟨s6, t6⟩ : ∃ z : FS, ((s1.1, s1.2.1, s1.2.2.1, s1.2.2.2.1, s1.2.2.2.2.1, v5) : FS) = z := ⟨_, rfl⟩
    replace hP : va_P D vwCl (FWd h0 h1 h2 cA cB s6) H := by rw [← t6]; exact hP
    replace hD : va_D A (FWd h0 h1 h2 cA cB s6) := by rw [← t6]; exact hD
    refine lv_aload_n hx hb dX0_writeTurn_17 rfl (lv_at hl 0 rfl) ?_
    refine va_get (D := D) (ci := 0) (v := .ref h1) (C := RX0) (T := TX0) (N := 6) hx hb hts (by decide +kernel) hown hK hP 0 rfl rfl 0 (by decide) (hts (.fieldLink RX0 9 "FadeLedger" "memory" "[J") (by decide +kernel)) (fun _ h9 => h9) rfl dX0_writeTurn_18 ?_
    refine lv_iload_n hx hb dX0_writeTurn_21 rfl (lv_at hl 1 rfl) ?_
    refine lv_iload_n hx hb dX0_writeTurn_22 rfl (lv_at hl 2 rfl) ?_
    refine cS_call (n := 2) (as := [.int a, .int b]) (rest := [.ref h1]) ⟨hx, hb, hml, hown, hts⟩ (c_X0_slot l a b) gX0_writeTurn_X0_slot rfl rfl rfl (by decide +kernel) ⟨Nat.le_of_ble_eq_true rfl, Nat.le_of_ble_eq_true rfl⟩ hl.1 rfl rfl (Nat.le_of_ble_eq_true rfl) dX0_writeTurn_23 ⟨Nat.zero_le _, Nat.zero_le _⟩ ?_
    refine tpi (fun v7 e7 => ?_)
    refine lv_lload_n hx hb dX0_writeTurn_26 rfl (lv_at hl 3 rfl) ?_
    refine va_last hx hb hK hP hD hS 1 0 rfl rfl (by subst e2; subst e4; subst e5; subst e7; exact slot_in hp hc) dX0_writeTurn_27 (fun H locs hP hD hS => ?_)
    obtain ⟨s8, t8⟩ : ∃ z : FS, ((vp_updL s6.1 v7.toNatClampNeg v, s6.2.1, s6.2.2.1, s6.2.2.2.1, s6.2.2.2.2.1, s6.2.2.2.2.2) : FS) = z := ⟨_, rfl⟩
    replace hP : va_P D vwCl (FWd h0 h1 h2 cA cB s8) H := by rw [← t8]; exact hP
    replace hD : va_D A (FWd h0 h1 h2 cA cB s8) := by rw [← t8]; exact hD
    have fin : (f_write a b v st) = s8 := by clear hP hD hS; subst t1; subst e2; subst e4; subst e5; subst t6; subst e7; subst t8; simp only [f_write, f_writeT, c3, ↓reduceIte, not_true_eq_false, not_false_eq_true, and_self, and_true, true_and, and_false, false_and, eq_self]
    exact cM_retv (Wd := FWd h0 h1 h2 cA cB) (st := s8) (st' := (f_write a b v st)) hx hb hr hlocks dX0_writeTurn_28 hS hP hD fin.symm
abbrev rmX0_put : Room := { frames := 3, cells := 0, slots := 0, locals := 64 }
-- put
set_option maxHeartbeats 400000 in
set_option maxRecDepth 100000 in
theorem c_X0_put (l : Launch) (D : va_G) (h0 h1 h2 : Nat) (cA cB : ClassId) (st : FS) (a : Int32) (v : Int64) (hc : vp_in a 20) : cM l D vwCl (FT cA cB) (FWd h0 h1 h2 cA cB) yX0_put wsX0_put rmX0_put [.ref h0, .int a, .long v] st none (f_put a v st) := by
  refine cM_in (cc := cX0_put) (maxL := 5) (ret := none) (by decide) rfl (Nat.le_of_ble_eq_true rfl) ?_
  intro p e s m below meth c ls A hx hb hr hlocks hml hown hts hA hK hP hD hS hl
  have hown : s.vm.findClass RX0 = some m.cls := hown
  have hl : lv_has ls 5 [(0, .ref h0), (1, .int a), (2, .long v)] := hl
  -- walk
  refine lv_iconst (v := 0) hx hb dX0_put_0 (by decide) ?_
  refine lv_istore (lv' := [(4, .int 0), (0, .ref h0), (1, .int a), (2, .long v)]) hx hb dX0_put_1 hl (by decide) rfl (fun ls hl => ?_)
  refine lv_iload hx hb dX0_put_3 (lv_at hl 0 rfl) ?_
  refine lv_iconst (v := 4) hx hb dX0_put_5 (by decide) ?_
  refine lv_icmp_ge (tgt := 23) hx hb dX0_put_6 (by decide) (fun c0 => absurd c0 (by decide)) (fun _ => ?_)
  refine lv_aload_n hx hb dX0_put_9 rfl (lv_at hl 1 rfl) ?_
  refine lv_iload hx hb dX0_put_10 (lv_at hl 0 rfl) ?_
  refine lv_iload_n hx hb dX0_put_12 rfl (lv_at hl 2 rfl) ?_
  refine lv_lload_n hx hb dX0_put_13 rfl (lv_at hl 3 rfl) ?_
  refine cM_this (Wd := FWd h0 h1 h2 cA cB) (ci := 0) (q0 := 0) (n := 3) (as := [.int 0, .int a, .long v]) (rest := []) ⟨hx, hb, hml, hown, hts⟩ (c_X0_writeTurn l D h0 h1 h2 cA cB st 0 a v in4_0 hc) gX0_put_X0_writeTurn rfl rfl rfl (by decide +kernel) ⟨Nat.le_of_ble_eq_true rfl, Nat.le_of_ble_eq_true rfl⟩ hK hP hD hS hA rfl rfl rfl hl.1 rfl rfl (Nat.le_of_ble_eq_true rfl) dX0_put_14 ⟨Nat.zero_le _, Nat.zero_le _⟩ (fun H locs hP hD hS => ?_)
  refine W.eq (g2 := F0 m 17 ls []) rfl ?_
  obtain ⟨s1, t1⟩ : ∃ z : FS, f_write 0 a v st = z := ⟨_, rfl⟩
  replace hP : va_P D vwCl (FWd h0 h1 h2 cA cB s1) H := by rw [← t1]; exact hP
  replace hD : va_D A (FWd h0 h1 h2 cA cB s1) := by rw [← t1]; exact hD
  refine lv_iinc (v := 1) (lv' := [(4, .int 1), (0, .ref h0), (1, .int a), (2, .long v)]) hx hb dX0_put_17 hl (k := 0) rfl (by decide) (by decide) rfl (fun ls hl => ?_)
  refine lv_goto (tgt := 3) hx hb dX0_put_20 (by decide) ?_
  refine lv_iload hx hb dX0_put_3 (lv_at hl 0 rfl) ?_
  refine lv_iconst (v := 4) hx hb dX0_put_5 (by decide) ?_
  refine lv_icmp_ge (tgt := 23) hx hb dX0_put_6 (by decide) (fun c0 => absurd c0 (by decide)) (fun _ => ?_)
  refine lv_aload_n hx hb dX0_put_9 rfl (lv_at hl 1 rfl) ?_
  refine lv_iload hx hb dX0_put_10 (lv_at hl 0 rfl) ?_
  refine lv_iload_n hx hb dX0_put_12 rfl (lv_at hl 2 rfl) ?_
  refine lv_lload_n hx hb dX0_put_13 rfl (lv_at hl 3 rfl) ?_
  refine cM_this (Wd := FWd h0 h1 h2 cA cB) (ci := 0) (q0 := 0) (n := 3) (as := [.int 1, .int a, .long v]) (rest := []) ⟨hx, hb, hml, hown, hts⟩ (c_X0_writeTurn l D h0 h1 h2 cA cB s1 1 a v in4_1 hc) gX0_put_X0_writeTurn rfl rfl rfl (by decide +kernel) ⟨Nat.le_of_ble_eq_true rfl, Nat.le_of_ble_eq_true rfl⟩ hK hP hD hS hA rfl rfl rfl hl.1 rfl rfl (Nat.le_of_ble_eq_true rfl) dX0_put_14 ⟨Nat.zero_le _, Nat.zero_le _⟩ (fun H locs hP hD hS => ?_)
  refine W.eq (g2 := F0 m 17 ls []) rfl ?_
  obtain ⟨s2, t2⟩ : ∃ z : FS, f_write 1 a v s1 = z := ⟨_, rfl⟩
  replace hP : va_P D vwCl (FWd h0 h1 h2 cA cB s2) H := by rw [← t2]; exact hP
  replace hD : va_D A (FWd h0 h1 h2 cA cB s2) := by rw [← t2]; exact hD
  refine lv_iinc (v := 2) (lv' := [(4, .int 2), (0, .ref h0), (1, .int a), (2, .long v)]) hx hb dX0_put_17 hl (k := 0) rfl (by decide) (by decide) rfl (fun ls hl => ?_)
  refine lv_goto (tgt := 3) hx hb dX0_put_20 (by decide) ?_
  refine lv_iload hx hb dX0_put_3 (lv_at hl 0 rfl) ?_
  refine lv_iconst (v := 4) hx hb dX0_put_5 (by decide) ?_
  refine lv_icmp_ge (tgt := 23) hx hb dX0_put_6 (by decide) (fun c0 => absurd c0 (by decide)) (fun _ => ?_)
  refine lv_aload_n hx hb dX0_put_9 rfl (lv_at hl 1 rfl) ?_
  refine lv_iload hx hb dX0_put_10 (lv_at hl 0 rfl) ?_
  refine lv_iload_n hx hb dX0_put_12 rfl (lv_at hl 2 rfl) ?_
  refine lv_lload_n hx hb dX0_put_13 rfl (lv_at hl 3 rfl) ?_
  refine cM_this (Wd := FWd h0 h1 h2 cA cB) (ci := 0) (q0 := 0) (n := 3) (as := [.int 2, .int a, .long v]) (rest := []) ⟨hx, hb, hml, hown, hts⟩ (c_X0_writeTurn l D h0 h1 h2 cA cB s2 2 a v in4_2 hc) gX0_put_X0_writeTurn rfl rfl rfl (by decide +kernel) ⟨Nat.le_of_ble_eq_true rfl, Nat.le_of_ble_eq_true rfl⟩ hK hP hD hS hA rfl rfl rfl hl.1 rfl rfl (Nat.le_of_ble_eq_true rfl) dX0_put_14 ⟨Nat.zero_le _, Nat.zero_le _⟩ (fun H locs hP hD hS => ?_)
  refine W.eq (g2 := F0 m 17 ls []) rfl ?_
  obtain ⟨s3, t3⟩ : ∃ z : FS, f_write 2 a v s2 = z := ⟨_, rfl⟩
  replace hP : va_P D vwCl (FWd h0 h1 h2 cA cB s3) H := by rw [← t3]; exact hP
  replace hD : va_D A (FWd h0 h1 h2 cA cB s3) := by rw [← t3]; exact hD
  refine lv_iinc (v := 3) (lv' := [(4, .int 3), (0, .ref h0), (1, .int a), (2, .long v)]) hx hb dX0_put_17 hl (k := 0) rfl (by decide) (by decide) rfl (fun ls hl => ?_)
  refine lv_goto (tgt := 3) hx hb dX0_put_20 (by decide) ?_
  refine lv_iload hx hb dX0_put_3 (lv_at hl 0 rfl) ?_
  refine lv_iconst (v := 4) hx hb dX0_put_5 (by decide) ?_
  refine lv_icmp_ge (tgt := 23) hx hb dX0_put_6 (by decide) (fun c0 => absurd c0 (by decide)) (fun _ => ?_)
  refine lv_aload_n hx hb dX0_put_9 rfl (lv_at hl 1 rfl) ?_
  refine lv_iload hx hb dX0_put_10 (lv_at hl 0 rfl) ?_
  refine lv_iload_n hx hb dX0_put_12 rfl (lv_at hl 2 rfl) ?_
  refine lv_lload_n hx hb dX0_put_13 rfl (lv_at hl 3 rfl) ?_
  refine cM_this (Wd := FWd h0 h1 h2 cA cB) (ci := 0) (q0 := 0) (n := 3) (as := [.int 3, .int a, .long v]) (rest := []) ⟨hx, hb, hml, hown, hts⟩ (c_X0_writeTurn l D h0 h1 h2 cA cB s3 3 a v in4_3 hc) gX0_put_X0_writeTurn rfl rfl rfl (by decide +kernel) ⟨Nat.le_of_ble_eq_true rfl, Nat.le_of_ble_eq_true rfl⟩ hK hP hD hS hA rfl rfl rfl hl.1 rfl rfl (Nat.le_of_ble_eq_true rfl) dX0_put_14 ⟨Nat.zero_le _, Nat.zero_le _⟩ (fun H locs hP hD hS => ?_)
  refine W.eq (g2 := F0 m 17 ls []) rfl ?_
  obtain ⟨s4, t4⟩ : ∃ z : FS, f_write 3 a v s3 = z := ⟨_, rfl⟩
  replace hP : va_P D vwCl (FWd h0 h1 h2 cA cB s4) H := by rw [← t4]; exact hP
  replace hD : va_D A (FWd h0 h1 h2 cA cB s4) := by rw [← t4]; exact hD
  refine lv_iinc (v := 4) (lv' := [(4, .int 4), (0, .ref h0), (1, .int a), (2, .long v)]) hx hb dX0_put_17 hl (k := 0) rfl (by decide) (by decide) rfl (fun ls hl => ?_)
  refine lv_goto (tgt := 3) hx hb dX0_put_20 (by decide) ?_
  refine lv_iload hx hb dX0_put_3 (lv_at hl 0 rfl) ?_
  refine lv_iconst (v := 4) hx hb dX0_put_5 (by decide) ?_
  refine lv_icmp_ge (tgt := 23) hx hb dX0_put_6 (by decide) (fun _ => ?_) (fun c0 => absurd c0 (by decide))
  have fin : (f_put a v st) = s4 := by clear hP hD hS; subst t1; subst t2; subst t3; subst t4; simp only [f_put]
  exact cM_retv (Wd := FWd h0 h1 h2 cA cB) (st := s4) (st' := (f_put a v st)) hx hb hr hlocks dX0_put_23 hS hP hD fin.symm
abbrev rmX0_look : Room := { frames := 3, cells := 0, slots := 0, locals := 65 }
-- look
set_option maxHeartbeats 400000 in
set_option maxRecDepth 100000 in
theorem c_X0_look (l : Launch) (D : va_G) (h0 h1 h2 : Nat) (cA cB : ClassId) (st : FS) (a : Int32) (hc : vp_in a 20) : cM l D vwCl (FT cA cB) (FWd h0 h1 h2 cA cB) yX0_look wsX0_look rmX0_look [.ref h0, .int a] st (some (.long (f_look a st).1)) (f_look a st).2 := by
  refine cM_in (cc := cX0_look) (maxL := 4) (ret := (some .long)) (by decide) rfl (Nat.le_of_ble_eq_true rfl) ?_
  intro p e s m below meth c ls A hx hb hr hlocks hml hown hts hA hK hP hD hS hl
  have hown : s.vm.findClass RX0 = some m.cls := hown
  have hl : lv_has ls 4 [(0, .ref h0), (1, .int a)] := hl
  -- walk
  refine lv_aload_n hx hb dX0_look_0 rfl (lv_at hl 0 rfl) ?_
  refine lv_iconst (v := 0) hx hb dX0_look_1 (by decide) ?_
  refine lv_iload_n hx hb dX0_look_2 rfl (lv_at hl 1 rfl) ?_
  refine cM_this (Wd := FWd h0 h1 h2 cA cB) (ci := 0) (q0 := 0) (n := 2) (as := [.int 0, .int a]) (rest := []) ⟨hx, hb, hml, hown, hts⟩ (c_X0_readTurn l D h0 h1 h2 cA cB st 0 a in4_0 hc) gX0_look_X0_readTurn rfl rfl rfl (by decide +kernel) ⟨Nat.le_of_ble_eq_true rfl, Nat.le_of_ble_eq_true rfl⟩ hK hP hD hS hA rfl rfl rfl hl.1 rfl rfl (Nat.le_of_ble_eq_true rfl) dX0_look_3 ⟨Nat.zero_le _, Nat.zero_le _⟩ (fun H locs hP hD hS => ?_)
  obtain ⟨s1, t1⟩ : ∃ z : FS, (f_read 0 a st).2 = z := ⟨_, rfl⟩
  replace hP : va_P D vwCl (FWd h0 h1 h2 cA cB s1) H := by rw [← t1]; exact hP
  replace hD : va_D A (FWd h0 h1 h2 cA cB s1) := by rw [← t1]; exact hD
  refine tpl (fun v2 e2 => ?_)
  refine lv_lstore_n (lv' := [(2, .long v2), (0, .ref h0), (1, .int a)]) hx hb dX0_look_6 rfl hl (by decide) rfl (fun ls hl => ?_)
  refine lv_aload_n hx hb dX0_look_7 rfl (lv_at hl 1 rfl) ?_
  refine lv_iconst (v := 0) hx hb dX0_look_8 (by decide) ?_
  refine lv_iload_n hx hb dX0_look_9 rfl (lv_at hl 2 rfl) ?_
  refine lv_lload_n hx hb dX0_look_10 rfl (lv_at hl 0 rfl) ?_
  refine cM_this (Wd := FWd h0 h1 h2 cA cB) (ci := 0) (q0 := 0) (n := 3) (as := [.int 0, .int a, .long v2]) (rest := []) ⟨hx, hb, hml, hown, hts⟩ (c_X0_writeTurn l D h0 h1 h2 cA cB s1 0 a v2 in4_0 hc) gX0_look_X0_writeTurn rfl rfl rfl (by decide +kernel) ⟨Nat.le_of_ble_eq_true rfl, Nat.le_of_ble_eq_true rfl⟩ hK hP hD hS hA rfl rfl rfl hl.1 rfl rfl (Nat.le_of_ble_eq_true rfl) dX0_look_11 ⟨Nat.zero_le _, Nat.zero_le _⟩ (fun H locs hP hD hS => ?_)
  refine W.eq (g2 := F0 m 14 ls []) rfl ?_
  obtain ⟨s3, t3⟩ : ∃ z : FS, f_write 0 a v2 s1 = z := ⟨_, rfl⟩
  replace hP : va_P D vwCl (FWd h0 h1 h2 cA cB s3) H := by rw [← t3]; exact hP
  replace hD : va_D A (FWd h0 h1 h2 cA cB s3) := by rw [← t3]; exact hD
  refine lv_lload_n hx hb dX0_look_14 rfl (lv_at hl 0 rfl) ?_
  have fin : f_look a st = (v2, s3) := by
    clear hP hD hS; subst t1; subst e2; subst t3; simp only [f_look]
  exact cM_retl (Wd := FWd h0 h1 h2 cA cB) (st := s3) (st' := (f_look a st).2) hx hb hr hlocks dX0_look_15 hS hP hD (congrArg Prod.fst fin).symm (congrArg Prod.snd fin).symm
abbrev rmX0_foundIn : Room := { frames := 1, cells := 0, slots := 0, locals := 21 }
-- foundIn
set_option maxHeartbeats 400000 in
set_option maxRecDepth 100000 in
theorem c_X0_foundIn (l : Launch) (D : va_G) (h0 h1 h2 : Nat) (cA cB : ClassId) (st : FS) (a : Int32) (hc : vp_in a 20) : cM l D vwCl (FT cA cB) (FWd h0 h1 h2 cA cB) yX0_foundIn wsX0_foundIn rmX0_foundIn [.ref h0, .int a] st (some (.long (f_found a st))) st := by
  refine cM_in (cc := cX0_foundIn) (maxL := 2) (ret := (some .long)) (by decide) rfl (Nat.le_of_ble_eq_true rfl) ?_
  intro p e s m below meth c ls A hx hb hr hlocks hml hown hts hA hK hP hD hS hl
  have hown : s.vm.findClass RX0 = some m.cls := hown
  have hl : lv_has ls 2 [(0, .ref h0), (1, .int a)] := hl
  -- walk
  refine lv_aload_n hx hb dX0_foundIn_0 rfl (lv_at hl 0 rfl) ?_
  refine va_get (D := D) (ci := 0) (v := .ref h1) (C := RX0) (T := TX0) (N := 6) hx hb hts (by decide +kernel) hown hK hP 0 rfl rfl 0 (by decide) (hts (.fieldLink RX0 9 "FadeLedger" "memory" "[J") (by decide +kernel)) (fun _ h9 => h9) rfl dX0_foundIn_1 ?_
  refine lv_iconst (v := 0) hx hb dX0_foundIn_4 (by decide) ?_
  refine lv_iload_n hx hb dX0_foundIn_5 rfl (lv_at hl 1 rfl) ?_
  refine cS_call (n := 2) (as := [.int 0, .int a]) (rest := [.ref h1]) ⟨hx, hb, hml, hown, hts⟩ (c_X0_slot l 0 a) gX0_foundIn_X0_slot rfl rfl rfl (by decide +kernel) ⟨Nat.le_of_ble_eq_true rfl, Nat.le_of_ble_eq_true rfl⟩ hl.1 rfl rfl (Nat.le_of_ble_eq_true rfl) dX0_foundIn_6 ⟨Nat.zero_le _, Nat.zero_le _⟩ ?_
  refine tpi (fun v1 e1 => ?_)
  refine va_lald hx hb hK hP 1 0 rfl rfl (by subst e1; exact slot_in in4_0 hc) dX0_foundIn_9 ?_
  refine tpl (fun v2 e2 => ?_)
  have fin : (f_found a st, st) = (v2, st) := by
    clear hP hD hS; subst e1; subst e2; simp only [f_found]
  exact cM_retl (Wd := FWd h0 h1 h2 cA cB) (st := st) (st' := st) hx hb hr hlocks dX0_foundIn_10 hS hP hD (congrArg Prod.fst fin).symm (congrArg Prod.snd fin).symm
abbrev rmX0_answerOf : Room := { frames := 0, cells := 0, slots := 0, locals := 0 }
-- answerOf
set_option maxHeartbeats 400000 in
set_option maxRecDepth 100000 in
theorem c_X0_answerOf (l : Launch) (D : va_G) (h0 h1 h2 : Nat) (cA cB : ClassId) (st : FS) (a : Int32)  : cM l D vwCl (FT cA cB) (FWd h0 h1 h2 cA cB) yX0_answerOf wsX0_answerOf rmX0_answerOf [.ref h0, .int a] st (some (.int (f_ans a st))) st := by
  refine cM_in (cc := cX0_answerOf) (maxL := 2) (ret := (some .int)) (by decide) rfl (Nat.le_of_ble_eq_true rfl) ?_
  intro p e s m below meth c ls A hx hb hr hlocks hml hown hts hA hK hP hD hS hl
  have hown : s.vm.findClass RX0 = some m.cls := hown
  have hl : lv_has ls 2 [(0, .ref h0), (1, .int a)] := hl
  -- walk
  refine lv_aload_n hx hb dX0_answerOf_0 rfl (lv_at hl 0 rfl) ?_
  refine va_get (D := D) (ci := 0) (v := .int st.2.2.1) (C := RX0) (T := TX0) (N := 6) hx hb hts (by decide +kernel) hown hK hP 0 rfl rfl 2 (by decide) (hts (.fieldLink RX0 17 "FadeLedger" "powered" "Z") (by decide +kernel)) (fun _ h9 => h9) rfl dX0_answerOf_1 ?_
  refine tpi (fun v1 e1 => ?_)
  refine lv_if_ne (tgt := 10) hx hb dX0_answerOf_4 (by decide) (fun c2 => ?_) (fun c2 => ?_)
  · refine lv_iload_n hx hb dX0_answerOf_10 rfl (lv_at hl 1 rfl) ?_
    refine lv_if_eq (tgt := 18) hx hb dX0_answerOf_11 (by decide) (fun c3 => ?_) (fun c3 => ?_)
    · refine lv_iconst (v := (-1)) hx hb dX0_answerOf_18 (by decide) ?_
      have fin : (f_ans a st, st) = ((-1), st) := by
        clear hP hD hS; subst e1; simp only [f_ans, c2, c3, ↓reduceIte, not_true_eq_false, not_false_eq_true, and_self, and_true, true_and, and_false, false_and, eq_self, i10]
      exact cM_reti (Wd := FWd h0 h1 h2 cA cB) (st := st) (st' := st) hx hb hr hlocks dX0_answerOf_19 hS hP hD (congrArg Prod.fst fin).symm (congrArg Prod.snd fin).symm
    · refine lv_iconst (v := 1) hx hb dX0_answerOf_14 (by decide) ?_
      refine lv_goto (tgt := 19) hx hb dX0_answerOf_15 (by decide) ?_
      have fin : (f_ans a st, st) = (1, st) := by
        clear hP hD hS; subst e1; simp only [f_ans, c2, c3, ↓reduceIte, not_true_eq_false, not_false_eq_true, and_self, and_true, true_and, and_false, false_and, eq_self, i10]
      exact cM_reti (Wd := FWd h0 h1 h2 cA cB) (st := st) (st' := st) hx hb hr hlocks dX0_answerOf_19 hS hP hD (congrArg Prod.fst fin).symm (congrArg Prod.snd fin).symm
  · refine lv_bipush (v := (-2)) hx hb dX0_answerOf_7 (by decide) ?_
    have fin : (f_ans a st, st) = ((-2), st) := by
      clear hP hD hS; subst e1; simp only [f_ans, c2, ↓reduceIte, not_true_eq_false, not_false_eq_true, and_self, and_true, true_and, and_false, false_and, eq_self, i10]
    exact cM_reti (Wd := FWd h0 h1 h2 cA cB) (st := st) (st' := st) hx hb hr hlocks dX0_answerOf_9 hS hP hD (congrArg Prod.fst fin).symm (congrArg Prod.snd fin).symm
end
section
/-! THE CLASS'S PUBLIC METHODS AS FUNCTIONS -/
def f_an2 (x : Int32) (s : FS) : Int32 × FS := (f_ans x s, s)
def f_open (a b : Int32) (s : FS) : Int32 × FS := if f_acct a = 0 then (-1, s) else f_an2 (f_unop (f_read 0 a s).1) (if f_unop (f_read 0 a s).1 = 0 then f_write 0 a (f_read 0 a s).1 (f_read 0 a s).2 else f_put a (f_make b 1) (f_read 0 a s).2)
def f_balance (a : Int32) (s : FS) : Int64 × FS := if f_acct a = 0 then (8796093022208, s) else (if (f_look a s).2.2.2.1 = 0 then 4398046511104 else if f_valid (f_look a s).1 = 0 then 2199023255552 else if f_unop (f_look a s).1 = 0 then (f_bal (f_look a s).1).toInt64 else 1099511627776, (f_look a s).2)
def f_postAcc (m : Int32) (w : Int64) : Int32 := bI (¬ f_isop w = 0 ∧ ¬ f_hasn w = 0 ∧ ¬ f_isint ((f_bal w).toInt64 + m.toInt64) = 0)
def f_postB (a m : Int32) (w : Int64) (s : FS) : Int32 × FS := f_an2 (f_postAcc m w) (if f_postAcc m w = 0 then f_write 0 a w s else f_put a (f_make ((f_bal w).toInt64 + m.toInt64).toInt32 (f_num w + 1)) s)
def f_post (a m : Int32) (s : FS) : Int32 × FS := if f_acct a = 0 then (-1, s) else f_postB a m (f_read 0 a s).1 (f_read 0 a s).2
def f_trAcc (m : Int32) (x y z : Int64) : Int32 := bI (¬ f_can x (-m.toInt64) = 0 ∧ ¬ f_can y m.toInt64 = 0 ∧ ¬ f_valid z = 0 ∧ ¬ f_hasn z = 0)
def f_doTr (f t m : Int32) (x y z : Int64) (s : FS) : FS :=
  f_put 19 (f_make (f * 256 + t + 131072) (f_num z + 1)) (f_put t (f_next y m) (f_put f (f_next x (-m)) (f_put 19 (f_make (f * 256 + t + 65536) (f_num z + 1)) (f_put 18 (f_make (f_num (f_next y m)) (f_num z + 1)) (f_put 17 (f_make (f_num (f_next x (-m))) (f_num z + 1)) (f_put 16 (f_make m (f_num z + 1)) s))))))
def f_trB (f t m : Int32) (x y z : Int64) (s : FS) : Int32 × FS := f_an2 (f_trAcc m x y z) (if f_trAcc m x y z = 0 then s else f_doTr f t m x y z s)
def f_transfer (f t m : Int32) (s : FS) : Int32 × FS := if f_acct f = 0 then (-1, s) else if f_acct t = 0 then (-1, s) else if f = t then (-1, s) else if 0 ≤ m then
  f_trB f t m (f_look f s).1 (f_look t (f_look f s).2).1 (f_look 16 (f_look t (f_look f s).2).2).1 (f_look 16 (f_look t (f_look f s).2).2).2 else (-1, s)
def f_number (a : Int32) (s : FS) : Int32 × FS := if f_acct a = 0 then (-1, s) else (if (f_look a s).2.2.2.1 = 0 then -2 else if f_valid (f_look a s).1 = 0 then -1 else f_num (f_look a s).1, (f_look a s).2)
def f_failAfter (n : Int32) (s : FS) : Int32 × FS := if 0 ≤ n then (1, (s.1, s.2.1, s.2.2.1, n, s.2.2.2.2.1, s.2.2.2.2.2)) else (0, s)
def f_fail (s : FS) : Int32 × FS := if s.2.2.1 = 0 then (0, s) else (1, f_lose s)
def f_on (s : FS) : Int32 := s.2.2.1
def f_lost (a : Int32) (s : FS) : Int32 := if f_cell a = 0 then 0 else s.2.1 a.toNatClampNeg
def f_word (p c : Int32) (s : FS) : Int64 := if p < 0 then 0 else if 4 ≤ p then 0 else if f_cell c = 0 then 0 else s.1 (f_slot p c).toNatClampNeg
def f_done (w : Int32) (s : FS) : Int32 := if w = 0 then s.2.2.2.2.1 else if w = 1 then s.2.2.2.2.2 else -1
theorem on_nar {x : Int32} (h : x = 0 ∨ x = 1) : narrow .boolean (.int x) = .int x := by
  rcases h with h | h <;> subst h <;> rfl
end
section
abbrev rmX0_open : Room := { frames := 4, cells := 0, slots := 0, locals := 88 }
-- open
set_option maxHeartbeats 400000 in
set_option maxRecDepth 100000 in
theorem c_X0_open (l : Launch) (D : va_G) (h0 h1 h2 : Nat) (cA cB : ClassId) (st : FS) (a : Int32) (b : Int32)  : cM l D vwCl (FT cA cB) (FWd h0 h1 h2 cA cB) yX0_open wsX0_open rmX0_open [.ref h0, .int a, .int b] st (some (.int (f_open a b st).1)) (f_open a b st).2 := by
  refine cM_in (cc := cX0_open) (maxL := 6) (ret := (some .int)) (by decide) rfl (Nat.le_of_ble_eq_true rfl) ?_
  intro p e s m below meth c ls A hx hb hr hlocks hml hown hts hA hK hP hD hS hl
  have hown : s.vm.findClass RX0 = some m.cls := hown
  have hl : lv_has ls 6 [(0, .ref h0), (1, .int a), (2, .int b)] := hl
  -- walk
  refine lv_iload_n hx hb dX0_open_0 rfl (lv_at hl 1 rfl) ?_
  refine cS_call (n := 1) (as := [.int a]) (rest := []) ⟨hx, hb, hml, hown, hts⟩ (c_X0_isAccount l a) gX0_open_X0_isAccount rfl rfl rfl (by decide +kernel) ⟨Nat.le_of_ble_eq_true rfl, Nat.le_of_ble_eq_true rfl⟩ hl.1 rfl rfl (Nat.le_of_ble_eq_true rfl) dX0_open_1 ⟨Nat.zero_le _, Nat.zero_le _⟩ ?_
  refine tpi (fun v1 e1 => ?_)
  refine lv_if_ne (tgt := 9) hx hb dX0_open_4 (by decide) (fun c2 => ?_) (fun c2 => ?_)
  · have hc : vp_in a 20 := acct_in20 (by rw [e1]; exact c2)
    refine lv_aload_n hx hb dX0_open_9 rfl (lv_at hl 0 rfl) ?_
    refine lv_iconst (v := 0) hx hb dX0_open_10 (by decide) ?_
    refine lv_iload_n hx hb dX0_open_11 rfl (lv_at hl 1 rfl) ?_
    refine cM_this (Wd := FWd h0 h1 h2 cA cB) (ci := 0) (q0 := 0) (n := 2) (as := [.int 0, .int a]) (rest := []) ⟨hx, hb, hml, hown, hts⟩ (c_X0_readTurn l D h0 h1 h2 cA cB st 0 a in4_0 hc) gX0_open_X0_readTurn rfl rfl rfl (by decide +kernel) ⟨Nat.le_of_ble_eq_true rfl, Nat.le_of_ble_eq_true rfl⟩ hK hP hD hS hA rfl rfl rfl hl.1 rfl rfl (Nat.le_of_ble_eq_true rfl) dX0_open_12 ⟨Nat.zero_le _, Nat.zero_le _⟩ (fun H locs hP hD hS => ?_)
    obtain ⟨s3, t3⟩ : ∃ z : FS, (f_read 0 a st).2 = z := ⟨_, rfl⟩
    replace hP : va_P D vwCl (FWd h0 h1 h2 cA cB s3) H := by rw [← t3]; exact hP
    replace hD : va_D A (FWd h0 h1 h2 cA cB s3) := by rw [← t3]; exact hD
    refine tpl (fun v4 e4 => ?_)
    refine lv_lstore_n (lv' := [(3, .long v4), (0, .ref h0), (1, .int a), (2, .int b)]) hx hb dX0_open_15 rfl hl (by decide) rfl (fun ls hl => ?_)
    refine lv_lload_n hx hb dX0_open_16 rfl (lv_at hl 0 rfl) ?_
    refine cS_call (n := 1) (as := [.long v4]) (rest := []) ⟨hx, hb, hml, hown, hts⟩ (c_X0_isUnopened l v4) gX0_open_X0_isUnopened rfl rfl rfl (by decide +kernel) ⟨Nat.le_of_ble_eq_true rfl, Nat.le_of_ble_eq_true rfl⟩ hl.1 rfl rfl (Nat.le_of_ble_eq_true rfl) dX0_open_17 ⟨Nat.zero_le _, Nat.zero_le _⟩ ?_
    refine tpi (fun v5 e5 => ?_)
    refine lv_istore (lv' := [(5, .int v5), (3, .long v4), (0, .ref h0), (1, .int a), (2, .int b)]) hx hb dX0_open_20 hl (by decide) rfl (fun ls hl => ?_)
    refine lv_iload hx hb dX0_open_22 (lv_at hl 0 rfl) ?_
    refine lv_if_eq (tgt := 40) hx hb dX0_open_24 (by decide) (fun c6 => ?_) (fun c6 => ?_)
    · refine lv_aload_n hx hb dX0_open_40 rfl (lv_at hl 2 rfl) ?_
      refine lv_iconst (v := 0) hx hb dX0_open_41 (by decide) ?_
      refine lv_iload_n hx hb dX0_open_42 rfl (lv_at hl 3 rfl) ?_
      refine lv_lload_n hx hb dX0_open_43 rfl (lv_at hl 1 rfl) ?_
      refine cM_this (Wd := FWd h0 h1 h2 cA cB) (ci := 0) (q0 := 0) (n := 3) (as := [.int 0, .int a, .long v4]) (rest := []) ⟨hx, hb, hml, hown, hts⟩ (c_X0_writeTurn l D h0 h1 h2 cA cB s3 0 a v4 in4_0 hc) gX0_open_X0_writeTurn rfl rfl rfl (by decide +kernel) ⟨Nat.le_of_ble_eq_true rfl, Nat.le_of_ble_eq_true rfl⟩ hK hP hD hS hA rfl rfl rfl hl.1 rfl rfl (Nat.le_of_ble_eq_true rfl) dX0_open_44 ⟨Nat.zero_le _, Nat.zero_le _⟩ (fun H locs hP hD hS => ?_)
      refine W.eq (g2 := F0 m 47 ls []) rfl ?_
      obtain ⟨s7, t7⟩ : ∃ z : FS, f_write 0 a v4 s3 = z := ⟨_, rfl⟩
      replace hP : va_P D vwCl (FWd h0 h1 h2 cA cB s7) H := by rw [← t7]; exact hP
      replace hD : va_D A (FWd h0 h1 h2 cA cB s7) := by rw [← t7]; exact hD
      refine lv_aload_n hx hb dX0_open_47 rfl (lv_at hl 2 rfl) ?_
      refine lv_iload hx hb dX0_open_48 (lv_at hl 0 rfl) ?_
      refine cM_this (Wd := FWd h0 h1 h2 cA cB) (ci := 0) (q0 := 0) (n := 1) (as := [.int v5]) (rest := []) ⟨hx, hb, hml, hown, hts⟩ (c_X0_answerOf l D h0 h1 h2 cA cB s7 v5) gX0_open_X0_answerOf rfl rfl rfl (by decide +kernel) ⟨Nat.le_of_ble_eq_true rfl, Nat.le_of_ble_eq_true rfl⟩ hK hP hD hS hA rfl rfl rfl hl.1 rfl rfl (Nat.le_of_ble_eq_true rfl) dX0_open_50 ⟨Nat.zero_le _, Nat.zero_le _⟩ (fun H locs hP hD hS => ?_)
      refine tpi (fun v8 e8 => ?_)
      have fin : f_open a b st = (v8, s7) := by
        clear hP hD hS; subst e1; subst t3; subst e4; subst e5; subst t7; subst e8; simp only [f_open, f_an2, c2, c6, ↓reduceIte, not_true_eq_false, not_false_eq_true, and_self, and_true, true_and, and_false, false_and, eq_self, i10]
      exact cM_reti (Wd := FWd h0 h1 h2 cA cB) (st := s7) (st' := (f_open a b st).2) hx hb hr hlocks dX0_open_53 hS hP hD (congrArg Prod.fst fin).symm (congrArg Prod.snd fin).symm
    · refine lv_aload_n hx hb dX0_open_27 rfl (lv_at hl 2 rfl) ?_
      refine lv_iload_n hx hb dX0_open_28 rfl (lv_at hl 3 rfl) ?_
      refine lv_iload_n hx hb dX0_open_29 rfl (lv_at hl 4 rfl) ?_
      refine lv_iconst (v := 1) hx hb dX0_open_30 (by decide) ?_
      refine cS_call (n := 2) (as := [.int b, .int 1]) (rest := [.int a, .ref h0]) ⟨hx, hb, hml, hown, hts⟩ (c_X0_makeWord l b 1) gX0_open_X0_makeWord rfl rfl rfl (by decide +kernel) ⟨Nat.le_of_ble_eq_true rfl, Nat.le_of_ble_eq_true rfl⟩ hl.1 rfl rfl (Nat.le_of_ble_eq_true rfl) dX0_open_31 ⟨Nat.zero_le _, Nat.zero_le _⟩ ?_
      refine tpl (fun v9 e9 => ?_)
      refine cM_this (Wd := FWd h0 h1 h2 cA cB) (ci := 0) (q0 := 0) (n := 2) (as := [.int a, .long v9]) (rest := []) ⟨hx, hb, hml, hown, hts⟩ (c_X0_put l D h0 h1 h2 cA cB s3 a v9 hc) gX0_open_X0_put rfl rfl rfl (by decide +kernel) ⟨Nat.le_of_ble_eq_true rfl, Nat.le_of_ble_eq_true rfl⟩ hK hP hD hS hA rfl rfl rfl hl.1 rfl rfl (Nat.le_of_ble_eq_true rfl) dX0_open_34 ⟨Nat.zero_le _, Nat.zero_le _⟩ (fun H locs hP hD hS => ?_)
      refine W.eq (g2 := F0 m 37 ls []) rfl ?_
      obtain ⟨s10, t10⟩ : ∃ z : FS, f_put a v9 s3 = z := ⟨_, rfl⟩
      replace hP : va_P D vwCl (FWd h0 h1 h2 cA cB s10) H := by rw [← t10]; exact hP
      replace hD : va_D A (FWd h0 h1 h2 cA cB s10) := by rw [← t10]; exact hD
      refine lv_goto (tgt := 47) hx hb dX0_open_37 (by decide) ?_
      refine lv_aload_n hx hb dX0_open_47 rfl (lv_at hl 2 rfl) ?_
      refine lv_iload hx hb dX0_open_48 (lv_at hl 0 rfl) ?_
      refine cM_this (Wd := FWd h0 h1 h2 cA cB) (ci := 0) (q0 := 0) (n := 1) (as := [.int v5]) (rest := []) ⟨hx, hb, hml, hown, hts⟩ (c_X0_answerOf l D h0 h1 h2 cA cB s10 v5) gX0_open_X0_answerOf rfl rfl rfl (by decide +kernel) ⟨Nat.le_of_ble_eq_true rfl, Nat.le_of_ble_eq_true rfl⟩ hK hP hD hS hA rfl rfl rfl hl.1 rfl rfl (Nat.le_of_ble_eq_true rfl) dX0_open_50 ⟨Nat.zero_le _, Nat.zero_le _⟩ (fun H locs hP hD hS => ?_)
      refine tpi (fun v11 e11 => ?_)
      have fin : f_open a b st = (v11, s10) := by
        clear hP hD hS; subst e1; subst t3; subst e4; subst e5; subst e9; subst t10; subst e11; simp only [f_open, f_an2, c2, c6, ↓reduceIte, not_true_eq_false, not_false_eq_true, and_self, and_true, true_and, and_false, false_and, eq_self, i10]
      exact cM_reti (Wd := FWd h0 h1 h2 cA cB) (st := s10) (st' := (f_open a b st).2) hx hb hr hlocks dX0_open_53 hS hP hD (congrArg Prod.fst fin).symm (congrArg Prod.snd fin).symm
  · refine lv_iconst (v := (-1)) hx hb dX0_open_7 (by decide) ?_
    have fin : f_open a b st = ((-1), st) := by
      clear hP hD hS; subst e1; simp only [f_open, f_an2, c2, ↓reduceIte, not_true_eq_false, not_false_eq_true, and_self, and_true, true_and, and_false, false_and, eq_self, i10]
    exact cM_reti (Wd := FWd h0 h1 h2 cA cB) (st := st) (st' := (f_open a b st).2) hx hb hr hlocks dX0_open_8 hS hP hD (congrArg Prod.fst fin).symm (congrArg Prod.snd fin).symm
abbrev rmX0_balance : Room := { frames := 4, cells := 0, slots := 0, locals := 88 }
-- balance
set_option maxHeartbeats 400000 in
set_option maxRecDepth 100000 in
theorem c_X0_balance (l : Launch) (D : va_G) (h0 h1 h2 : Nat) (cA cB : ClassId) (st : FS) (a : Int32)  : cM l D vwCl (FT cA cB) (FWd h0 h1 h2 cA cB) yX0_balance wsX0_balance rmX0_balance [.ref h0, .int a] st (some (.long (f_balance a st).1)) (f_balance a st).2 := by
  refine cM_in (cc := cX0_balance) (maxL := 4) (ret := (some .long)) (by decide) rfl (Nat.le_of_ble_eq_true rfl) ?_
  intro p e s m below meth c ls A hx hb hr hlocks hml hown hts hA hK hP hD hS hl
  have hown : s.vm.findClass RX0 = some m.cls := hown
  have hl : lv_has ls 4 [(0, .ref h0), (1, .int a)] := hl
  -- walk
  refine lv_iload_n hx hb dX0_balance_0 rfl (lv_at hl 1 rfl) ?_
  refine cS_call (n := 1) (as := [.int a]) (rest := []) ⟨hx, hb, hml, hown, hts⟩ (c_X0_isAccount l a) gX0_balance_X0_isAccount rfl rfl rfl (by decide +kernel) ⟨Nat.le_of_ble_eq_true rfl, Nat.le_of_ble_eq_true rfl⟩ hl.1 rfl rfl (Nat.le_of_ble_eq_true rfl) dX0_balance_1 ⟨Nat.zero_le _, Nat.zero_le _⟩ ?_
  refine tpi (fun v1 e1 => ?_)
  refine lv_if_ne (tgt := 11) hx hb dX0_balance_4 (by decide) (fun c2 => ?_) (fun c2 => ?_)
  · have hc : vp_in a 20 := acct_in20 (by rw [e1]; exact c2)
    refine lv_aload_n hx hb dX0_balance_11 rfl (lv_at hl 0 rfl) ?_
    refine lv_iload_n hx hb dX0_balance_12 rfl (lv_at hl 1 rfl) ?_
    refine cM_this (Wd := FWd h0 h1 h2 cA cB) (ci := 0) (q0 := 0) (n := 1) (as := [.int a]) (rest := []) ⟨hx, hb, hml, hown, hts⟩ (c_X0_look l D h0 h1 h2 cA cB st a hc) gX0_balance_X0_look rfl rfl rfl (by decide +kernel) ⟨Nat.le_of_ble_eq_true rfl, Nat.le_of_ble_eq_true rfl⟩ hK hP hD hS hA rfl rfl rfl hl.1 rfl rfl (Nat.le_of_ble_eq_true rfl) dX0_balance_13 ⟨Nat.zero_le _, Nat.zero_le _⟩ (fun H locs hP hD hS => ?_)
    obtain ⟨s3, t3⟩ : ∃ z : FS, (f_look a st).2 = z := ⟨_, rfl⟩
    replace hP : va_P D vwCl (FWd h0 h1 h2 cA cB s3) H := by rw [← t3]; exact hP
    replace hD : va_D A (FWd h0 h1 h2 cA cB s3) := by rw [← t3]; exact hD
    refine tpl (fun v4 e4 => ?_)
    refine lv_lstore_n (lv' := [(2, .long v4), (0, .ref h0), (1, .int a)]) hx hb dX0_balance_16 rfl hl (by decide) rfl (fun ls hl => ?_)
    refine lv_aload_n hx hb dX0_balance_17 rfl (lv_at hl 1 rfl) ?_
    refine va_get (D := D) (ci := 0) (v := .int s3.2.2.1) (C := RX0) (T := TX0) (N := 6) hx hb hts (by decide +kernel) hown hK hP 0 rfl rfl 2 (by decide) (hts (.fieldLink RX0 17 "FadeLedger" "powered" "Z") (by decide +kernel)) (fun _ h9 => h9) rfl dX0_balance_18 ?_
    refine tpi (fun v5 e5 => ?_)
    refine lv_if_ne (tgt := 28) hx hb dX0_balance_21 (by decide) (fun c6 => ?_) (fun c6 => ?_)
    · refine lv_lload_n hx hb dX0_balance_28 rfl (lv_at hl 0 rfl) ?_
      refine cS_call (n := 1) (as := [.long v4]) (rest := []) ⟨hx, hb, hml, hown, hts⟩ (c_X0_isValid l v4) gX0_balance_X0_isValid rfl rfl rfl (by decide +kernel) ⟨Nat.le_of_ble_eq_true rfl, Nat.le_of_ble_eq_true rfl⟩ hl.1 rfl rfl (Nat.le_of_ble_eq_true rfl) dX0_balance_29 ⟨Nat.zero_le _, Nat.zero_le _⟩ ?_
      refine tpi (fun v7 e7 => ?_)
      refine lv_if_ne (tgt := 39) hx hb dX0_balance_32 (by decide) (fun c8 => ?_) (fun c8 => ?_)
      · refine lv_lload_n hx hb dX0_balance_39 rfl (lv_at hl 0 rfl) ?_
        refine cS_call (n := 1) (as := [.long v4]) (rest := []) ⟨hx, hb, hml, hown, hts⟩ (c_X0_isUnopened l v4) gX0_balance_X0_isUnopened rfl rfl rfl (by decide +kernel) ⟨Nat.le_of_ble_eq_true rfl, Nat.le_of_ble_eq_true rfl⟩ hl.1 rfl rfl (Nat.le_of_ble_eq_true rfl) dX0_balance_40 ⟨Nat.zero_le _, Nat.zero_le _⟩ ?_
        refine tpi (fun v9 e9 => ?_)
        refine lv_if_eq (tgt := 52) hx hb dX0_balance_43 (by decide) (fun c10 => ?_) (fun c10 => ?_)
        · refine lv_lload_n hx hb dX0_balance_52 rfl (lv_at hl 0 rfl) ?_
          refine cS_call (n := 1) (as := [.long v4]) (rest := []) ⟨hx, hb, hml, hown, hts⟩ (c_X0_balanceOf l v4) gX0_balance_X0_balanceOf rfl rfl rfl (by decide +kernel) ⟨Nat.le_of_ble_eq_true rfl, Nat.le_of_ble_eq_true rfl⟩ hl.1 rfl rfl (Nat.le_of_ble_eq_true rfl) dX0_balance_53 ⟨Nat.zero_le _, Nat.zero_le _⟩ ?_
          refine tpi (fun v11 e11 => ?_)
          refine lv_i2l hx hb dX0_balance_56 rfl ?_
          refine tpl (fun v12 e12 => ?_)
          have fin : f_balance a st = (v12, s3) := by
            clear hP hD hS; subst e1; subst t3; subst e4; subst e5; subst e7; subst e9; subst e11; subst e12; simp only [f_balance, c2, c6, c8, c10, ↓reduceIte, not_true_eq_false, not_false_eq_true, and_self, and_true, true_and, and_false, false_and, eq_self, i10]
          exact cM_retl (Wd := FWd h0 h1 h2 cA cB) (st := s3) (st' := (f_balance a st).2) hx hb hr hlocks dX0_balance_57 hS hP hD (congrArg Prod.fst fin).symm (congrArg Prod.snd fin).symm
        · refine lv_ldc2 (v := 1099511627776) hx hb hown (hts (.constantLong RX0 65 1099511627776) (by decide +kernel)) dX0_balance_46 ?_
          refine lv_goto (tgt := 57) hx hb dX0_balance_49 (by decide) ?_
          have fin : f_balance a st = (1099511627776, s3) := by
            clear hP hD hS; subst e1; subst t3; subst e4; subst e5; subst e7; subst e9; simp only [f_balance, c2, c6, c8, c10, ↓reduceIte, not_true_eq_false, not_false_eq_true, and_self, and_true, true_and, and_false, false_and, eq_self, i10]
          exact cM_retl (Wd := FWd h0 h1 h2 cA cB) (st := s3) (st' := (f_balance a st).2) hx hb hr hlocks dX0_balance_57 hS hP hD (congrArg Prod.fst fin).symm (congrArg Prod.snd fin).symm
      · refine lv_ldc2 (v := 2199023255552) hx hb hown (hts (.constantLong RX0 63 2199023255552) (by decide +kernel)) dX0_balance_35 ?_
        have fin : f_balance a st = (2199023255552, s3) := by
          clear hP hD hS; subst e1; subst t3; subst e4; subst e5; subst e7; simp only [f_balance, c2, c6, c8, ↓reduceIte, not_true_eq_false, not_false_eq_true, and_self, and_true, true_and, and_false, false_and, eq_self, i10]
        exact cM_retl (Wd := FWd h0 h1 h2 cA cB) (st := s3) (st' := (f_balance a st).2) hx hb hr hlocks dX0_balance_38 hS hP hD (congrArg Prod.fst fin).symm (congrArg Prod.snd fin).symm
    · refine lv_ldc2 (v := 4398046511104) hx hb hown (hts (.constantLong RX0 58 4398046511104) (by decide +kernel)) dX0_balance_24 ?_
      have fin : f_balance a st = (4398046511104, s3) := by
        clear hP hD hS; subst e1; subst t3; subst e4; subst e5; simp only [f_balance, c2, c6, ↓reduceIte, not_true_eq_false, not_false_eq_true, and_self, and_true, true_and, and_false, false_and, eq_self, i10]
      exact cM_retl (Wd := FWd h0 h1 h2 cA cB) (st := s3) (st' := (f_balance a st).2) hx hb hr hlocks dX0_balance_27 hS hP hD (congrArg Prod.fst fin).symm (congrArg Prod.snd fin).symm
  · refine lv_ldc2 (v := 8796093022208) hx hb hown (hts (.constantLong RX0 52 8796093022208) (by decide +kernel)) dX0_balance_7 ?_
    have fin : f_balance a st = (8796093022208, st) := by
      clear hP hD hS; subst e1; simp only [f_balance, c2, ↓reduceIte, not_true_eq_false, not_false_eq_true, and_self, and_true, true_and, and_false, false_and, eq_self, i10]
    exact cM_retl (Wd := FWd h0 h1 h2 cA cB) (st := st) (st' := (f_balance a st).2) hx hb hr hlocks dX0_balance_10 hS hP hD (congrArg Prod.fst fin).symm (congrArg Prod.snd fin).symm
abbrev rmX0_post : Room := { frames := 4, cells := 0, slots := 0, locals := 88 }
-- post
set_option maxHeartbeats 400000 in
set_option maxRecDepth 100000 in
theorem c_X0_post (l : Launch) (D : va_G) (h0 h1 h2 : Nat) (cA cB : ClassId) (st : FS) (a : Int32) (k : Int32)  : cM l D vwCl (FT cA cB) (FWd h0 h1 h2 cA cB) yX0_post wsX0_post rmX0_post [.ref h0, .int a, .int k] st (some (.int (f_post a k st).1)) (f_post a k st).2 := by
  refine cM_in (cc := cX0_post) (maxL := 8) (ret := (some .int)) (by decide) rfl (Nat.le_of_ble_eq_true rfl) ?_
  intro p e s m below meth c ls A hx hb hr hlocks hml hown hts hA hK hP hD hS hl
  have hown : s.vm.findClass RX0 = some m.cls := hown
  have hl : lv_has ls 8 [(0, .ref h0), (1, .int a), (2, .int k)] := hl
  -- walk
  refine lv_iload_n hx hb dX0_post_0 rfl (lv_at hl 1 rfl) ?_
  refine cS_call (n := 1) (as := [.int a]) (rest := []) ⟨hx, hb, hml, hown, hts⟩ (c_X0_isAccount l a) gX0_post_X0_isAccount rfl rfl rfl (by decide +kernel) ⟨Nat.le_of_ble_eq_true rfl, Nat.le_of_ble_eq_true rfl⟩ hl.1 rfl rfl (Nat.le_of_ble_eq_true rfl) dX0_post_1 ⟨Nat.zero_le _, Nat.zero_le _⟩ ?_
  refine tpi (fun v1 e1 => ?_)
  refine lv_if_ne (tgt := 9) hx hb dX0_post_4 (by decide) (fun c2 => ?_) (fun c2 => ?_)
  · have hc : vp_in a 20 := acct_in20 (by rw [e1]; exact c2)
    refine lv_aload_n hx hb dX0_post_9 rfl (lv_at hl 0 rfl) ?_
    refine lv_iconst (v := 0) hx hb dX0_post_10 (by decide) ?_
    refine lv_iload_n hx hb dX0_post_11 rfl (lv_at hl 1 rfl) ?_
    refine cM_this (Wd := FWd h0 h1 h2 cA cB) (ci := 0) (q0 := 0) (n := 2) (as := [.int 0, .int a]) (rest := []) ⟨hx, hb, hml, hown, hts⟩ (c_X0_readTurn l D h0 h1 h2 cA cB st 0 a in4_0 hc) gX0_post_X0_readTurn rfl rfl rfl (by decide +kernel) ⟨Nat.le_of_ble_eq_true rfl, Nat.le_of_ble_eq_true rfl⟩ hK hP hD hS hA rfl rfl rfl hl.1 rfl rfl (Nat.le_of_ble_eq_true rfl) dX0_post_12 ⟨Nat.zero_le _, Nat.zero_le _⟩ (fun H locs hP hD hS => ?_)
    obtain ⟨s3, t3⟩ : ∃ z : FS, (f_read 0 a st).2 = z := ⟨_, rfl⟩
    replace hP : va_P D vwCl (FWd h0 h1 h2 cA cB s3) H := by rw [← t3]; exact hP
    replace hD : va_D A (FWd h0 h1 h2 cA cB s3) := by rw [← t3]; exact hD
    refine tpl (fun v4 e4 => ?_)
    refine lv_lstore_n (lv' := [(3, .long v4), (0, .ref h0), (1, .int a), (2, .int k)]) hx hb dX0_post_15 rfl hl (by decide) rfl (fun ls hl => ?_)
    refine lv_lload_n hx hb dX0_post_16 rfl (lv_at hl 0 rfl) ?_
    refine cS_call (n := 1) (as := [.long v4]) (rest := []) ⟨hx, hb, hml, hown, hts⟩ (c_X0_balanceOf l v4) gX0_post_X0_balanceOf rfl rfl rfl (by decide +kernel) ⟨Nat.le_of_ble_eq_true rfl, Nat.le_of_ble_eq_true rfl⟩ hl.1 rfl rfl (Nat.le_of_ble_eq_true rfl) dX0_post_17 ⟨Nat.zero_le _, Nat.zero_le _⟩ ?_
    refine tpi (fun v5 e5 => ?_)
    refine lv_i2l hx hb dX0_post_20 rfl ?_
    refine tpl (fun v6 e6 => ?_)
    refine lv_iload_n hx hb dX0_post_21 rfl (lv_at hl 3 rfl) ?_
    refine lv_i2l hx hb dX0_post_22 rfl ?_
    refine tpl (fun v7 e7 => ?_)
    refine lv_ladd hx hb dX0_post_23 ?_
    refine tpl (fun v8 e8 => ?_)
    refine lv_lstore (lv' := [(5, .long v8), (3, .long v4), (0, .ref h0), (1, .int a), (2, .int k)]) hx hb dX0_post_24 hl (by decide) rfl (fun ls hl => ?_)
    refine lv_lload_n hx hb dX0_post_26 rfl (lv_at hl 1 rfl) ?_
    refine cS_call (n := 1) (as := [.long v4]) (rest := []) ⟨hx, hb, hml, hown, hts⟩ (c_X0_isOpen l v4) gX0_post_X0_isOpen rfl rfl rfl (by decide +kernel) ⟨Nat.le_of_ble_eq_true rfl, Nat.le_of_ble_eq_true rfl⟩ hl.1 rfl rfl (Nat.le_of_ble_eq_true rfl) dX0_post_27 ⟨Nat.zero_le _, Nat.zero_le _⟩ ?_
    refine tpi (fun v9 e9 => ?_)
    refine lv_if_eq (tgt := 52) hx hb dX0_post_30 (by decide) (fun c10 => ?_) (fun c10 => ?_)
    · refine lv_iconst (v := 0) hx hb dX0_post_52 (by decide) ?_
      refine lv_istore (lv' := [(7, .int 0), (5, .long v8), (3, .long v4), (0, .ref h0), (1, .int a), (2, .int k)]) hx hb dX0_post_53 hl (by decide) rfl (fun ls hl => ?_)
      refine lv_iload hx hb dX0_post_55 (lv_at hl 0 rfl) ?_
      refine lv_if_eq (tgt := 80) hx hb dX0_post_57 (by decide) (fun _ => ?_) (fun c0 => absurd c0 (by decide))
      refine lv_aload_n hx hb dX0_post_80 rfl (lv_at hl 3 rfl) ?_
      refine lv_iconst (v := 0) hx hb dX0_post_81 (by decide) ?_
      refine lv_iload_n hx hb dX0_post_82 rfl (lv_at hl 4 rfl) ?_
      refine lv_lload_n hx hb dX0_post_83 rfl (lv_at hl 2 rfl) ?_
      refine cM_this (Wd := FWd h0 h1 h2 cA cB) (ci := 0) (q0 := 0) (n := 3) (as := [.int 0, .int a, .long v4]) (rest := []) ⟨hx, hb, hml, hown, hts⟩ (c_X0_writeTurn l D h0 h1 h2 cA cB s3 0 a v4 in4_0 hc) gX0_post_X0_writeTurn rfl rfl rfl (by decide +kernel) ⟨Nat.le_of_ble_eq_true rfl, Nat.le_of_ble_eq_true rfl⟩ hK hP hD hS hA rfl rfl rfl hl.1 rfl rfl (Nat.le_of_ble_eq_true rfl) dX0_post_84 ⟨Nat.zero_le _, Nat.zero_le _⟩ (fun H locs hP hD hS => ?_)
      refine W.eq (g2 := F0 m 87 ls []) rfl ?_
      obtain ⟨s11, t11⟩ : ∃ z : FS, f_write 0 a v4 s3 = z := ⟨_, rfl⟩
      replace hP : va_P D vwCl (FWd h0 h1 h2 cA cB s11) H := by rw [← t11]; exact hP
      replace hD : va_D A (FWd h0 h1 h2 cA cB s11) := by rw [← t11]; exact hD
      refine lv_aload_n hx hb dX0_post_87 rfl (lv_at hl 3 rfl) ?_
      refine lv_iload hx hb dX0_post_88 (lv_at hl 0 rfl) ?_
      refine cM_this (Wd := FWd h0 h1 h2 cA cB) (ci := 0) (q0 := 0) (n := 1) (as := [.int 0]) (rest := []) ⟨hx, hb, hml, hown, hts⟩ (c_X0_answerOf l D h0 h1 h2 cA cB s11 0) gX0_post_X0_answerOf rfl rfl rfl (by decide +kernel) ⟨Nat.le_of_ble_eq_true rfl, Nat.le_of_ble_eq_true rfl⟩ hK hP hD hS hA rfl rfl rfl hl.1 rfl rfl (Nat.le_of_ble_eq_true rfl) dX0_post_90 ⟨Nat.zero_le _, Nat.zero_le _⟩ (fun H locs hP hD hS => ?_)
      refine tpi (fun v12 e12 => ?_)
      have fin : f_post a k st = (v12, s11) := by
        clear hP hD hS; subst e1; subst t3; subst e4; subst e5; subst e6; subst e7; subst e8; subst e9; subst t11; subst e12; simp only [f_post, f_postB, f_postAcc, f_an2, bI, c2, c10, ↓reduceIte, not_true_eq_false, not_false_eq_true, and_self, and_true, true_and, and_false, false_and, eq_self, i10]
      exact cM_reti (Wd := FWd h0 h1 h2 cA cB) (st := s11) (st' := (f_post a k st).2) hx hb hr hlocks dX0_post_93 hS hP hD (congrArg Prod.fst fin).symm (congrArg Prod.snd fin).symm
    · refine lv_lload_n hx hb dX0_post_33 rfl (lv_at hl 1 rfl) ?_
      refine cS_call (n := 1) (as := [.long v4]) (rest := []) ⟨hx, hb, hml, hown, hts⟩ (c_X0_hasNextNumber l v4) gX0_post_X0_hasNextNumber rfl rfl rfl (by decide +kernel) ⟨Nat.le_of_ble_eq_true rfl, Nat.le_of_ble_eq_true rfl⟩ hl.1 rfl rfl (Nat.le_of_ble_eq_true rfl) dX0_post_34 ⟨Nat.zero_le _, Nat.zero_le _⟩ ?_
      refine tpi (fun v13 e13 => ?_)
      refine lv_if_eq (tgt := 52) hx hb dX0_post_37 (by decide) (fun c14 => ?_) (fun c14 => ?_)
      · refine lv_iconst (v := 0) hx hb dX0_post_52 (by decide) ?_
        refine lv_istore (lv' := [(7, .int 0), (5, .long v8), (3, .long v4), (0, .ref h0), (1, .int a), (2, .int k)]) hx hb dX0_post_53 hl (by decide) rfl (fun ls hl => ?_)
        refine lv_iload hx hb dX0_post_55 (lv_at hl 0 rfl) ?_
        refine lv_if_eq (tgt := 80) hx hb dX0_post_57 (by decide) (fun _ => ?_) (fun c0 => absurd c0 (by decide))
        refine lv_aload_n hx hb dX0_post_80 rfl (lv_at hl 3 rfl) ?_
        refine lv_iconst (v := 0) hx hb dX0_post_81 (by decide) ?_
        refine lv_iload_n hx hb dX0_post_82 rfl (lv_at hl 4 rfl) ?_
        refine lv_lload_n hx hb dX0_post_83 rfl (lv_at hl 2 rfl) ?_
        refine cM_this (Wd := FWd h0 h1 h2 cA cB) (ci := 0) (q0 := 0) (n := 3) (as := [.int 0, .int a, .long v4]) (rest := []) ⟨hx, hb, hml, hown, hts⟩ (c_X0_writeTurn l D h0 h1 h2 cA cB s3 0 a v4 in4_0 hc) gX0_post_X0_writeTurn rfl rfl rfl (by decide +kernel) ⟨Nat.le_of_ble_eq_true rfl, Nat.le_of_ble_eq_true rfl⟩ hK hP hD hS hA rfl rfl rfl hl.1 rfl rfl (Nat.le_of_ble_eq_true rfl) dX0_post_84 ⟨Nat.zero_le _, Nat.zero_le _⟩ (fun H locs hP hD hS => ?_)
        refine W.eq (g2 := F0 m 87 ls []) rfl ?_
        obtain ⟨s15, t15⟩ : ∃ z : FS, f_write 0 a v4 s3 = z := ⟨_, rfl⟩
        replace hP : va_P D vwCl (FWd h0 h1 h2 cA cB s15) H := by rw [← t15]; exact hP
        replace hD : va_D A (FWd h0 h1 h2 cA cB s15) := by rw [← t15]; exact hD
        refine lv_aload_n hx hb dX0_post_87 rfl (lv_at hl 3 rfl) ?_
        refine lv_iload hx hb dX0_post_88 (lv_at hl 0 rfl) ?_
        refine cM_this (Wd := FWd h0 h1 h2 cA cB) (ci := 0) (q0 := 0) (n := 1) (as := [.int 0]) (rest := []) ⟨hx, hb, hml, hown, hts⟩ (c_X0_answerOf l D h0 h1 h2 cA cB s15 0) gX0_post_X0_answerOf rfl rfl rfl (by decide +kernel) ⟨Nat.le_of_ble_eq_true rfl, Nat.le_of_ble_eq_true rfl⟩ hK hP hD hS hA rfl rfl rfl hl.1 rfl rfl (Nat.le_of_ble_eq_true rfl) dX0_post_90 ⟨Nat.zero_le _, Nat.zero_le _⟩ (fun H locs hP hD hS => ?_)
        refine tpi (fun v16 e16 => ?_)
        have fin : f_post a k st = (v16, s15) := by
          clear hP hD hS; subst e1; subst t3; subst e4; subst e5; subst e6; subst e7; subst e8; subst e9; subst e13; subst t15; subst e16; simp only [f_post, f_postB, f_postAcc, f_an2, bI, c2, c10, c14, ↓reduceIte, not_true_eq_false, not_false_eq_true, and_self, and_true, true_and, and_false, false_and, eq_self, i10]
        exact cM_reti (Wd := FWd h0 h1 h2 cA cB) (st := s15) (st' := (f_post a k st).2) hx hb hr hlocks dX0_post_93 hS hP hD (congrArg Prod.fst fin).symm (congrArg Prod.snd fin).symm
      · refine lv_lload hx hb dX0_post_40 (lv_at hl 0 rfl) ?_
        refine cS_call (n := 1) (as := [.long v8]) (rest := []) ⟨hx, hb, hml, hown, hts⟩ (c_X0_isInt l v8) gX0_post_X0_isInt rfl rfl rfl (by decide +kernel) ⟨Nat.le_of_ble_eq_true rfl, Nat.le_of_ble_eq_true rfl⟩ hl.1 rfl rfl (Nat.le_of_ble_eq_true rfl) dX0_post_42 ⟨Nat.zero_le _, Nat.zero_le _⟩ ?_
        refine tpi (fun v17 e17 => ?_)
        refine lv_if_eq (tgt := 52) hx hb dX0_post_45 (by decide) (fun c18 => ?_) (fun c18 => ?_)
        · refine lv_iconst (v := 0) hx hb dX0_post_52 (by decide) ?_
          refine lv_istore (lv' := [(7, .int 0), (5, .long v8), (3, .long v4), (0, .ref h0), (1, .int a), (2, .int k)]) hx hb dX0_post_53 hl (by decide) rfl (fun ls hl => ?_)
          refine lv_iload hx hb dX0_post_55 (lv_at hl 0 rfl) ?_
          refine lv_if_eq (tgt := 80) hx hb dX0_post_57 (by decide) (fun _ => ?_) (fun c0 => absurd c0 (by decide))
          refine lv_aload_n hx hb dX0_post_80 rfl (lv_at hl 3 rfl) ?_
          refine lv_iconst (v := 0) hx hb dX0_post_81 (by decide) ?_
          refine lv_iload_n hx hb dX0_post_82 rfl (lv_at hl 4 rfl) ?_
          refine lv_lload_n hx hb dX0_post_83 rfl (lv_at hl 2 rfl) ?_
          refine cM_this (Wd := FWd h0 h1 h2 cA cB) (ci := 0) (q0 := 0) (n := 3) (as := [.int 0, .int a, .long v4]) (rest := []) ⟨hx, hb, hml, hown, hts⟩ (c_X0_writeTurn l D h0 h1 h2 cA cB s3 0 a v4 in4_0 hc) gX0_post_X0_writeTurn rfl rfl rfl (by decide +kernel) ⟨Nat.le_of_ble_eq_true rfl, Nat.le_of_ble_eq_true rfl⟩ hK hP hD hS hA rfl rfl rfl hl.1 rfl rfl (Nat.le_of_ble_eq_true rfl) dX0_post_84 ⟨Nat.zero_le _, Nat.zero_le _⟩ (fun H locs hP hD hS => ?_)
          refine W.eq (g2 := F0 m 87 ls []) rfl ?_
          obtain ⟨s19, t19⟩ : ∃ z : FS, f_write 0 a v4 s3 = z := ⟨_, rfl⟩
          replace hP : va_P D vwCl (FWd h0 h1 h2 cA cB s19) H := by rw [← t19]; exact hP
          replace hD : va_D A (FWd h0 h1 h2 cA cB s19) := by rw [← t19]; exact hD
          refine lv_aload_n hx hb dX0_post_87 rfl (lv_at hl 3 rfl) ?_
          refine lv_iload hx hb dX0_post_88 (lv_at hl 0 rfl) ?_
          refine cM_this (Wd := FWd h0 h1 h2 cA cB) (ci := 0) (q0 := 0) (n := 1) (as := [.int 0]) (rest := []) ⟨hx, hb, hml, hown, hts⟩ (c_X0_answerOf l D h0 h1 h2 cA cB s19 0) gX0_post_X0_answerOf rfl rfl rfl (by decide +kernel) ⟨Nat.le_of_ble_eq_true rfl, Nat.le_of_ble_eq_true rfl⟩ hK hP hD hS hA rfl rfl rfl hl.1 rfl rfl (Nat.le_of_ble_eq_true rfl) dX0_post_90 ⟨Nat.zero_le _, Nat.zero_le _⟩ (fun H locs hP hD hS => ?_)
          refine tpi (fun v20 e20 => ?_)
          have fin : f_post a k st = (v20, s19) := by
            clear hP hD hS; subst e1; subst t3; subst e4; subst e5; subst e6; subst e7; subst e8; subst e9; subst e13; subst e17; subst t19; subst e20; simp only [f_post, f_postB, f_postAcc, f_an2, bI, c2, c10, c14, c18, ↓reduceIte, not_true_eq_false, not_false_eq_true, and_self, and_true, true_and, and_false, false_and, eq_self, i10]
          exact cM_reti (Wd := FWd h0 h1 h2 cA cB) (st := s19) (st' := (f_post a k st).2) hx hb hr hlocks dX0_post_93 hS hP hD (congrArg Prod.fst fin).symm (congrArg Prod.snd fin).symm
        · refine lv_iconst (v := 1) hx hb dX0_post_48 (by decide) ?_
          refine lv_goto (tgt := 53) hx hb dX0_post_49 (by decide) ?_
          refine lv_istore (lv' := [(7, .int 1), (5, .long v8), (3, .long v4), (0, .ref h0), (1, .int a), (2, .int k)]) hx hb dX0_post_53 hl (by decide) rfl (fun ls hl => ?_)
          refine lv_iload hx hb dX0_post_55 (lv_at hl 0 rfl) ?_
          refine lv_if_eq (tgt := 80) hx hb dX0_post_57 (by decide) (fun c0 => absurd c0 (by decide)) (fun _ => ?_)
          refine lv_aload_n hx hb dX0_post_60 rfl (lv_at hl 3 rfl) ?_
          refine lv_iload_n hx hb dX0_post_61 rfl (lv_at hl 4 rfl) ?_
          refine lv_lload hx hb dX0_post_62 (lv_at hl 1 rfl) ?_
          refine lv_l2i hx hb dX0_post_64 rfl ?_
          refine tpi (fun v21 e21 => ?_)
          refine lv_lload_n hx hb dX0_post_65 rfl (lv_at hl 2 rfl) ?_
          refine cS_call (n := 1) (as := [.long v4]) (rest := [.int v21, .int a, .ref h0]) ⟨hx, hb, hml, hown, hts⟩ (c_X0_numberOf l v4) gX0_post_X0_numberOf rfl rfl rfl (by decide +kernel) ⟨Nat.le_of_ble_eq_true rfl, Nat.le_of_ble_eq_true rfl⟩ hl.1 rfl rfl (Nat.le_of_ble_eq_true rfl) dX0_post_66 ⟨Nat.zero_le _, Nat.zero_le _⟩ ?_
          refine tpi (fun v22 e22 => ?_)
          refine lv_iconst (v := 1) hx hb dX0_post_69 (by decide) ?_
          refine lv_iadd hx hb dX0_post_70 ?_
          refine tpi (fun v23 e23 => ?_)
          refine cS_call (n := 2) (as := [.int v21, .int v23]) (rest := [.int a, .ref h0]) ⟨hx, hb, hml, hown, hts⟩ (c_X0_makeWord l v21 v23) gX0_post_X0_makeWord rfl rfl rfl (by decide +kernel) ⟨Nat.le_of_ble_eq_true rfl, Nat.le_of_ble_eq_true rfl⟩ hl.1 rfl rfl (Nat.le_of_ble_eq_true rfl) dX0_post_71 ⟨Nat.zero_le _, Nat.zero_le _⟩ ?_
          refine tpl (fun v24 e24 => ?_)
          refine cM_this (Wd := FWd h0 h1 h2 cA cB) (ci := 0) (q0 := 0) (n := 2) (as := [.int a, .long v24]) (rest := []) ⟨hx, hb, hml, hown, hts⟩ (c_X0_put l D h0 h1 h2 cA cB s3 a v24 hc) gX0_post_X0_put rfl rfl rfl (by decide +kernel) ⟨Nat.le_of_ble_eq_true rfl, Nat.le_of_ble_eq_true rfl⟩ hK hP hD hS hA rfl rfl rfl hl.1 rfl rfl (Nat.le_of_ble_eq_true rfl) dX0_post_74 ⟨Nat.zero_le _, Nat.zero_le _⟩ (fun H locs hP hD hS => ?_)
          refine W.eq (g2 := F0 m 77 ls []) rfl ?_
          obtain ⟨s25, t25⟩ : ∃ z : FS, f_put a v24 s3 = z := ⟨_, rfl⟩
          replace hP : va_P D vwCl (FWd h0 h1 h2 cA cB s25) H := by rw [← t25]; exact hP
          replace hD : va_D A (FWd h0 h1 h2 cA cB s25) := by rw [← t25]; exact hD
          refine lv_goto (tgt := 87) hx hb dX0_post_77 (by decide) ?_
          refine lv_aload_n hx hb dX0_post_87 rfl (lv_at hl 3 rfl) ?_
          refine lv_iload hx hb dX0_post_88 (lv_at hl 0 rfl) ?_
          refine cM_this (Wd := FWd h0 h1 h2 cA cB) (ci := 0) (q0 := 0) (n := 1) (as := [.int 1]) (rest := []) ⟨hx, hb, hml, hown, hts⟩ (c_X0_answerOf l D h0 h1 h2 cA cB s25 1) gX0_post_X0_answerOf rfl rfl rfl (by decide +kernel) ⟨Nat.le_of_ble_eq_true rfl, Nat.le_of_ble_eq_true rfl⟩ hK hP hD hS hA rfl rfl rfl hl.1 rfl rfl (Nat.le_of_ble_eq_true rfl) dX0_post_90 ⟨Nat.zero_le _, Nat.zero_le _⟩ (fun H locs hP hD hS => ?_)
          refine tpi (fun v26 e26 => ?_)
          have fin : f_post a k st = (v26, s25) := by
            clear hP hD hS; subst e1; subst t3; subst e4; subst e5; subst e6; subst e7; subst e8; subst e9; subst e13; subst e17; subst e21; subst e22; subst e23; subst e24; subst t25; subst e26; simp only [f_post, f_postB, f_postAcc, f_an2, bI, c2, c10, c14, c18, ↓reduceIte, not_true_eq_false, not_false_eq_true, and_self, and_true, true_and, and_false, false_and, eq_self, i10]
          exact cM_reti (Wd := FWd h0 h1 h2 cA cB) (st := s25) (st' := (f_post a k st).2) hx hb hr hlocks dX0_post_93 hS hP hD (congrArg Prod.fst fin).symm (congrArg Prod.snd fin).symm
  · refine lv_iconst (v := (-1)) hx hb dX0_post_7 (by decide) ?_
    have fin : f_post a k st = ((-1), st) := by
      clear hP hD hS; subst e1; simp only [f_post, f_postB, f_postAcc, f_an2, bI, c2, ↓reduceIte, not_true_eq_false, not_false_eq_true, and_self, and_true, true_and, and_false, false_and, eq_self, i10]
    exact cM_reti (Wd := FWd h0 h1 h2 cA cB) (st := st) (st' := (f_post a k st).2) hx hb hr hlocks dX0_post_8 hS hP hD (congrArg Prod.fst fin).symm (congrArg Prod.snd fin).symm
abbrev rmX0_number : Room := { frames := 4, cells := 0, slots := 0, locals := 88 }
-- number
set_option maxHeartbeats 400000 in
set_option maxRecDepth 100000 in
theorem c_X0_number (l : Launch) (D : va_G) (h0 h1 h2 : Nat) (cA cB : ClassId) (st : FS) (a : Int32)  : cM l D vwCl (FT cA cB) (FWd h0 h1 h2 cA cB) yX0_number wsX0_number rmX0_number [.ref h0, .int a] st (some (.int (f_number a st).1)) (f_number a st).2 := by
  refine cM_in (cc := cX0_number) (maxL := 4) (ret := (some .int)) (by decide) rfl (Nat.le_of_ble_eq_true rfl) ?_
  intro p e s m below meth c ls A hx hb hr hlocks hml hown hts hA hK hP hD hS hl
  have hown : s.vm.findClass RX0 = some m.cls := hown
  have hl : lv_has ls 4 [(0, .ref h0), (1, .int a)] := hl
  -- walk
  refine lv_iload_n hx hb dX0_number_0 rfl (lv_at hl 1 rfl) ?_
  refine cS_call (n := 1) (as := [.int a]) (rest := []) ⟨hx, hb, hml, hown, hts⟩ (c_X0_isAccount l a) gX0_number_X0_isAccount rfl rfl rfl (by decide +kernel) ⟨Nat.le_of_ble_eq_true rfl, Nat.le_of_ble_eq_true rfl⟩ hl.1 rfl rfl (Nat.le_of_ble_eq_true rfl) dX0_number_1 ⟨Nat.zero_le _, Nat.zero_le _⟩ ?_
  refine tpi (fun v1 e1 => ?_)
  refine lv_if_ne (tgt := 9) hx hb dX0_number_4 (by decide) (fun c2 => ?_) (fun c2 => ?_)
  · have hc : vp_in a 20 := acct_in20 (by rw [e1]; exact c2)
    refine lv_aload_n hx hb dX0_number_9 rfl (lv_at hl 0 rfl) ?_
    refine lv_iload_n hx hb dX0_number_10 rfl (lv_at hl 1 rfl) ?_
    refine cM_this (Wd := FWd h0 h1 h2 cA cB) (ci := 0) (q0 := 0) (n := 1) (as := [.int a]) (rest := []) ⟨hx, hb, hml, hown, hts⟩ (c_X0_look l D h0 h1 h2 cA cB st a hc) gX0_number_X0_look rfl rfl rfl (by decide +kernel) ⟨Nat.le_of_ble_eq_true rfl, Nat.le_of_ble_eq_true rfl⟩ hK hP hD hS hA rfl rfl rfl hl.1 rfl rfl (Nat.le_of_ble_eq_true rfl) dX0_number_11 ⟨Nat.zero_le _, Nat.zero_le _⟩ (fun H locs hP hD hS => ?_)
    obtain ⟨s3, t3⟩ : ∃ z : FS, (f_look a st).2 = z := ⟨_, rfl⟩
    replace hP : va_P D vwCl (FWd h0 h1 h2 cA cB s3) H := by rw [← t3]; exact hP
    replace hD : va_D A (FWd h0 h1 h2 cA cB s3) := by rw [← t3]; exact hD
    refine tpl (fun v4 e4 => ?_)
    refine lv_lstore_n (lv' := [(2, .long v4), (0, .ref h0), (1, .int a)]) hx hb dX0_number_14 rfl hl (by decide) rfl (fun ls hl => ?_)
    refine lv_aload_n hx hb dX0_number_15 rfl (lv_at hl 1 rfl) ?_
    refine va_get (D := D) (ci := 0) (v := .int s3.2.2.1) (C := RX0) (T := TX0) (N := 6) hx hb hts (by decide +kernel) hown hK hP 0 rfl rfl 2 (by decide) (hts (.fieldLink RX0 17 "FadeLedger" "powered" "Z") (by decide +kernel)) (fun _ h9 => h9) rfl dX0_number_16 ?_
    refine tpi (fun v5 e5 => ?_)
    refine lv_if_ne (tgt := 25) hx hb dX0_number_19 (by decide) (fun c6 => ?_) (fun c6 => ?_)
    · refine lv_lload_n hx hb dX0_number_25 rfl (lv_at hl 0 rfl) ?_
      refine cS_call (n := 1) (as := [.long v4]) (rest := []) ⟨hx, hb, hml, hown, hts⟩ (c_X0_isValid l v4) gX0_number_X0_isValid rfl rfl rfl (by decide +kernel) ⟨Nat.le_of_ble_eq_true rfl, Nat.le_of_ble_eq_true rfl⟩ hl.1 rfl rfl (Nat.le_of_ble_eq_true rfl) dX0_number_26 ⟨Nat.zero_le _, Nat.zero_le _⟩ ?_
      refine tpi (fun v7 e7 => ?_)
      refine lv_if_eq (tgt := 39) hx hb dX0_number_29 (by decide) (fun c8 => ?_) (fun c8 => ?_)
      · refine lv_iconst (v := (-1)) hx hb dX0_number_39 (by decide) ?_
        have fin : f_number a st = ((-1), s3) := by
          clear hP hD hS; subst e1; subst t3; subst e4; subst e5; subst e7; simp only [f_number, c2, c6, c8, ↓reduceIte, not_true_eq_false, not_false_eq_true, and_self, and_true, true_and, and_false, false_and, eq_self, i10]
        exact cM_reti (Wd := FWd h0 h1 h2 cA cB) (st := s3) (st' := (f_number a st).2) hx hb hr hlocks dX0_number_40 hS hP hD (congrArg Prod.fst fin).symm (congrArg Prod.snd fin).symm
      · refine lv_lload_n hx hb dX0_number_32 rfl (lv_at hl 0 rfl) ?_
        refine cS_call (n := 1) (as := [.long v4]) (rest := []) ⟨hx, hb, hml, hown, hts⟩ (c_X0_numberOf l v4) gX0_number_X0_numberOf rfl rfl rfl (by decide +kernel) ⟨Nat.le_of_ble_eq_true rfl, Nat.le_of_ble_eq_true rfl⟩ hl.1 rfl rfl (Nat.le_of_ble_eq_true rfl) dX0_number_33 ⟨Nat.zero_le _, Nat.zero_le _⟩ ?_
        refine tpi (fun v9 e9 => ?_)
        refine lv_goto (tgt := 40) hx hb dX0_number_36 (by decide) ?_
        have fin : f_number a st = (v9, s3) := by
          clear hP hD hS; subst e1; subst t3; subst e4; subst e5; subst e7; subst e9; simp only [f_number, c2, c6, c8, ↓reduceIte, not_true_eq_false, not_false_eq_true, and_self, and_true, true_and, and_false, false_and, eq_self, i10]
        exact cM_reti (Wd := FWd h0 h1 h2 cA cB) (st := s3) (st' := (f_number a st).2) hx hb hr hlocks dX0_number_40 hS hP hD (congrArg Prod.fst fin).symm (congrArg Prod.snd fin).symm
    · refine lv_bipush (v := (-2)) hx hb dX0_number_22 (by decide) ?_
      have fin : f_number a st = ((-2), s3) := by
        clear hP hD hS; subst e1; subst t3; subst e4; subst e5; simp only [f_number, c2, c6, ↓reduceIte, not_true_eq_false, not_false_eq_true, and_self, and_true, true_and, and_false, false_and, eq_self, i10]
      exact cM_reti (Wd := FWd h0 h1 h2 cA cB) (st := s3) (st' := (f_number a st).2) hx hb hr hlocks dX0_number_24 hS hP hD (congrArg Prod.fst fin).symm (congrArg Prod.snd fin).symm
  · refine lv_iconst (v := (-1)) hx hb dX0_number_7 (by decide) ?_
    have fin : f_number a st = ((-1), st) := by
      clear hP hD hS; subst e1; simp only [f_number, c2, ↓reduceIte, not_true_eq_false, not_false_eq_true, and_self, and_true, true_and, and_false, false_and, eq_self, i10]
    exact cM_reti (Wd := FWd h0 h1 h2 cA cB) (st := st) (st' := (f_number a st).2) hx hb hr hlocks dX0_number_8 hS hP hD (congrArg Prod.fst fin).symm (congrArg Prod.snd fin).symm
abbrev rmX0_failAfter : Room := { frames := 0, cells := 0, slots := 0, locals := 0 }
-- failAfter
set_option maxHeartbeats 400000 in
set_option maxRecDepth 100000 in
theorem c_X0_failAfter (l : Launch) (D : va_G) (h0 h1 h2 : Nat) (cA cB : ClassId) (st : FS) (n : Int32)  : cM l D vwCl (FT cA cB) (FWd h0 h1 h2 cA cB) yX0_failAfter wsX0_failAfter rmX0_failAfter [.ref h0, .int n] st (some (.int (f_failAfter n st).1)) (f_failAfter n st).2 := by
  refine cM_in (cc := cX0_failAfter) (maxL := 2) (ret := (some .boolean)) (by decide) rfl (Nat.le_of_ble_eq_true rfl) ?_
  intro p e s m below meth c ls A hx hb hr hlocks hml hown hts hA hK hP hD hS hl
  have hown : s.vm.findClass RX0 = some m.cls := hown
  have hl : lv_has ls 2 [(0, .ref h0), (1, .int n)] := hl
  -- walk
  refine lv_iload_n hx hb dX0_failAfter_0 rfl (lv_at hl 1 rfl) ?_
  refine lv_if_ge (tgt := 6) hx hb dX0_failAfter_1 (by decide) (fun c1 => ?_) (fun c1 => ?_)
  · refine lv_aload_n hx hb dX0_failAfter_6 rfl (lv_at hl 0 rfl) ?_
    refine lv_iload_n hx hb dX0_failAfter_7 rfl (lv_at hl 1 rfl) ?_
    refine va_put (D := D) (ci := 0) (v := .int n) (ty := .int) (C := RX0) (T := TX0) (N := 6) hx hb hts (by decide +kernel) tyX0 tyX0_ok nmX0 hown hK hP hD hS 0 rfl rfl 3 (by decide) (hts (.fieldLink RX0 21 "FadeLedger" "turnsLeft" "I") (by decide +kernel)) (fun _ h9 => h9) rfl (by decide +kernel) rfl rfl (Nat.le_of_ble_eq_true rfl) dX0_failAfter_8 (fun H locs hP hD hS => ?_)
    obtain ⟨s2, t2⟩ : ∃ z : FS, ((st.1, st.2.1, st.2.2.1, n, st.2.2.2.2.1, st.2.2.2.2.2) : FS) = z := ⟨_, rfl⟩
    replace hP : va_P D vwCl (FWd h0 h1 h2 cA cB s2) H := by rw [← t2]; exact hP
    replace hD : va_D A (FWd h0 h1 h2 cA cB s2) := by rw [← t2]; exact hD
    refine lv_iconst (v := 1) hx hb dX0_failAfter_11 (by decide) ?_
    have fin : f_failAfter n st = (1, s2) := by
      clear hP hD hS; subst t2; simp only [f_failAfter, c1, ↓reduceIte, not_true_eq_false, not_false_eq_true, and_self, and_true, true_and, and_false, false_and, eq_self, i10]
    exact cM_retz (Wd := FWd h0 h1 h2 cA cB) (st := s2) (st' := (f_failAfter n st).2) hx hb hr hlocks dX0_failAfter_12 hS hP hD rfl (congrArg Prod.fst fin).symm (congrArg Prod.snd fin).symm
  · refine lv_iconst (v := 0) hx hb dX0_failAfter_4 (by decide) ?_
    have fin : f_failAfter n st = (0, st) := by
      clear hP hD hS; simp only [f_failAfter, c1, ↓reduceIte, not_true_eq_false, not_false_eq_true, and_self, and_true, true_and, and_false, false_and, eq_self, i10]
    exact cM_retz (Wd := FWd h0 h1 h2 cA cB) (st := st) (st' := (f_failAfter n st).2) hx hb hr hlocks dX0_failAfter_5 hS hP hD rfl (congrArg Prod.fst fin).symm (congrArg Prod.snd fin).symm
abbrev rmX0_fail : Room := { frames := 1, cells := 0, slots := 0, locals := 20 }
-- fail
set_option maxHeartbeats 400000 in
set_option maxRecDepth 100000 in
theorem c_X0_fail (l : Launch) (D : va_G) (h0 h1 h2 : Nat) (cA cB : ClassId) (st : FS)   : cM l D vwCl (FT cA cB) (FWd h0 h1 h2 cA cB) yX0_fail wsX0_fail rmX0_fail [.ref h0] st (some (.int (f_fail st).1)) (f_fail st).2 := by
  refine cM_in (cc := cX0_fail) (maxL := 1) (ret := (some .boolean)) (by decide) rfl (Nat.le_of_ble_eq_true rfl) ?_
  intro p e s m below meth c ls A hx hb hr hlocks hml hown hts hA hK hP hD hS hl
  have hown : s.vm.findClass RX0 = some m.cls := hown
  have hl : lv_has ls 1 [(0, .ref h0)] := hl
  -- walk
  refine lv_aload_n hx hb dX0_fail_0 rfl (lv_at hl 0 rfl) ?_
  refine va_get (D := D) (ci := 0) (v := .int st.2.2.1) (C := RX0) (T := TX0) (N := 6) hx hb hts (by decide +kernel) hown hK hP 0 rfl rfl 2 (by decide) (hts (.fieldLink RX0 17 "FadeLedger" "powered" "Z") (by decide +kernel)) (fun _ h9 => h9) rfl dX0_fail_1 ?_
  refine tpi (fun v1 e1 => ?_)
  refine lv_if_ne (tgt := 9) hx hb dX0_fail_4 (by decide) (fun c2 => ?_) (fun c2 => ?_)
  · refine lv_aload_n hx hb dX0_fail_9 rfl (lv_at hl 0 rfl) ?_
    refine cM_this (Wd := FWd h0 h1 h2 cA cB) (ci := 0) (q0 := 0) (n := 0) (as := []) (rest := []) ⟨hx, hb, hml, hown, hts⟩ (c_X0_losePower l D h0 h1 h2 cA cB st) gX0_fail_X0_losePower rfl rfl rfl (by decide +kernel) ⟨Nat.le_of_ble_eq_true rfl, Nat.le_of_ble_eq_true rfl⟩ hK hP hD hS hA rfl rfl rfl hl.1 rfl rfl (Nat.le_of_ble_eq_true rfl) dX0_fail_10 ⟨Nat.zero_le _, Nat.zero_le _⟩ (fun H locs hP hD hS => ?_)
    refine W.eq (g2 := F0 m 13 ls []) rfl ?_
    obtain ⟨s3, t3⟩ : ∃ z : FS, f_lose st = z := ⟨_, rfl⟩
    replace hP : va_P D vwCl (FWd h0 h1 h2 cA cB s3) H := by rw [← t3]; exact hP
    replace hD : va_D A (FWd h0 h1 h2 cA cB s3) := by rw [← t3]; exact hD
    refine lv_iconst (v := 1) hx hb dX0_fail_13 (by decide) ?_
    have fin : f_fail st = (1, s3) := by
      clear hP hD hS; subst e1; subst t3; simp only [f_fail, c2, ↓reduceIte, not_true_eq_false, not_false_eq_true, and_self, and_true, true_and, and_false, false_and, eq_self, i10]
    exact cM_retz (Wd := FWd h0 h1 h2 cA cB) (st := s3) (st' := (f_fail st).2) hx hb hr hlocks dX0_fail_14 hS hP hD rfl (congrArg Prod.fst fin).symm (congrArg Prod.snd fin).symm
  · refine lv_iconst (v := 0) hx hb dX0_fail_7 (by decide) ?_
    have fin : f_fail st = (0, st) := by
      clear hP hD hS; subst e1; simp only [f_fail, c2, ↓reduceIte, not_true_eq_false, not_false_eq_true, and_self, and_true, true_and, and_false, false_and, eq_self, i10]
    exact cM_retz (Wd := FWd h0 h1 h2 cA cB) (st := st) (st' := (f_fail st).2) hx hb hr hlocks dX0_fail_8 hS hP hD rfl (congrArg Prod.fst fin).symm (congrArg Prod.snd fin).symm
abbrev rmX0_on : Room := { frames := 0, cells := 0, slots := 0, locals := 0 }
-- on
set_option maxHeartbeats 400000 in
set_option maxRecDepth 100000 in
theorem c_X0_on (l : Launch) (D : va_G) (h0 h1 h2 : Nat) (cA cB : ClassId) (st : FS)  (ho : st.2.2.1 = 0 ∨ st.2.2.1 = 1) : cM l D vwCl (FT cA cB) (FWd h0 h1 h2 cA cB) yX0_on wsX0_on rmX0_on [.ref h0] st (some (.int (f_on st))) st := by
  refine cM_in (cc := cX0_on) (maxL := 1) (ret := (some .boolean)) (by decide) rfl (Nat.le_of_ble_eq_true rfl) ?_
  intro p e s m below meth c ls A hx hb hr hlocks hml hown hts hA hK hP hD hS hl
  have hown : s.vm.findClass RX0 = some m.cls := hown
  have hl : lv_has ls 1 [(0, .ref h0)] := hl
  -- walk
  refine lv_aload_n hx hb dX0_on_0 rfl (lv_at hl 0 rfl) ?_
  refine va_get (D := D) (ci := 0) (v := .int st.2.2.1) (C := RX0) (T := TX0) (N := 6) hx hb hts (by decide +kernel) hown hK hP 0 rfl rfl 2 (by decide) (hts (.fieldLink RX0 17 "FadeLedger" "powered" "Z") (by decide +kernel)) (fun _ h9 => h9) rfl dX0_on_1 ?_
  refine tpi (fun v1 e1 => ?_)
  have fin : (f_on st, st) = (v1, st) := by
    clear hP hD hS; subst e1; simp only [f_on]
  exact cM_retz (Wd := FWd h0 h1 h2 cA cB) (st := st) (st' := st) hx hb hr hlocks dX0_on_4 hS hP hD (by subst e1; exact on_nar ho) (congrArg Prod.fst fin).symm (congrArg Prod.snd fin).symm
abbrev rmX0_lost : Room := { frames := 1, cells := 0, slots := 0, locals := 20 }
-- lost
set_option maxHeartbeats 400000 in
set_option maxRecDepth 100000 in
theorem c_X0_lost (l : Launch) (D : va_G) (h0 h1 h2 : Nat) (cA cB : ClassId) (st : FS) (a : Int32)  : cM l D vwCl (FT cA cB) (FWd h0 h1 h2 cA cB) yX0_lost wsX0_lost rmX0_lost [.ref h0, .int a] st (some (.int (f_lost a st))) st := by
  refine cM_in (cc := cX0_lost) (maxL := 2) (ret := (some .int)) (by decide) rfl (Nat.le_of_ble_eq_true rfl) ?_
  intro p e s m below meth c ls A hx hb hr hlocks hml hown hts hA hK hP hD hS hl
  have hown : s.vm.findClass RX0 = some m.cls := hown
  have hl : lv_has ls 2 [(0, .ref h0), (1, .int a)] := hl
  -- walk
  refine lv_iload_n hx hb dX0_lost_0 rfl (lv_at hl 1 rfl) ?_
  refine cS_call (n := 1) (as := [.int a]) (rest := []) ⟨hx, hb, hml, hown, hts⟩ (c_X0_isCell l a) gX0_lost_X0_isCell rfl rfl rfl (by decide +kernel) ⟨Nat.le_of_ble_eq_true rfl, Nat.le_of_ble_eq_true rfl⟩ hl.1 rfl rfl (Nat.le_of_ble_eq_true rfl) dX0_lost_1 ⟨Nat.zero_le _, Nat.zero_le _⟩ ?_
  refine tpi (fun v1 e1 => ?_)
  refine lv_if_eq (tgt := 16) hx hb dX0_lost_4 (by decide) (fun c2 => ?_) (fun c2 => ?_)
  · refine lv_iconst (v := 0) hx hb dX0_lost_16 (by decide) ?_
    have fin : (f_lost a st, st) = (0, st) := by
      clear hP hD hS; subst e1; simp only [f_lost, c2, ↓reduceIte, not_true_eq_false, not_false_eq_true, and_self, and_true, true_and, and_false, false_and, eq_self, i10]
    exact cM_reti (Wd := FWd h0 h1 h2 cA cB) (st := st) (st' := st) hx hb hr hlocks dX0_lost_17 hS hP hD (congrArg Prod.fst fin).symm (congrArg Prod.snd fin).symm
  · refine lv_aload_n hx hb dX0_lost_7 rfl (lv_at hl 0 rfl) ?_
    refine va_get (D := D) (ci := 0) (v := .ref h2) (C := RX0) (T := TX0) (N := 6) hx hb hts (by decide +kernel) hown hK hP 0 rfl rfl 1 (by decide) (hts (.fieldLink RX0 13 "FadeLedger" "invalidPlanes" "[I") (by decide +kernel)) (fun _ h9 => h9) rfl dX0_lost_8 ?_
    refine lv_iload_n hx hb dX0_lost_11 rfl (lv_at hl 1 rfl) ?_
    refine va_iald hx hb hK hP 2 1 rfl rfl (cell_in (by rw [e1]; exact c2)) dX0_lost_12 ?_
    refine tpi (fun v3 e3 => ?_)
    refine lv_goto (tgt := 17) hx hb dX0_lost_13 (by decide) ?_
    have fin : (f_lost a st, st) = (v3, st) := by
      clear hP hD hS; subst e1; subst e3; simp only [f_lost, c2, ↓reduceIte, not_true_eq_false, not_false_eq_true, and_self, and_true, true_and, and_false, false_and, eq_self, i10]
    exact cM_reti (Wd := FWd h0 h1 h2 cA cB) (st := st) (st' := st) hx hb hr hlocks dX0_lost_17 hS hP hD (congrArg Prod.fst fin).symm (congrArg Prod.snd fin).symm
abbrev rmX0_word : Room := { frames := 1, cells := 0, slots := 0, locals := 21 }
-- word
set_option maxHeartbeats 400000 in
set_option maxRecDepth 100000 in
theorem c_X0_word (l : Launch) (D : va_G) (h0 h1 h2 : Nat) (cA cB : ClassId) (st : FS) (i : Int32) (j : Int32)  : cM l D vwCl (FT cA cB) (FWd h0 h1 h2 cA cB) yX0_word wsX0_word rmX0_word [.ref h0, .int i, .int j] st (some (.long (f_word i j st))) st := by
  refine cM_in (cc := cX0_word) (maxL := 3) (ret := (some .long)) (by decide) rfl (Nat.le_of_ble_eq_true rfl) ?_
  intro p e s m below meth c ls A hx hb hr hlocks hml hown hts hA hK hP hD hS hl
  have hown : s.vm.findClass RX0 = some m.cls := hown
  have hl : lv_has ls 3 [(0, .ref h0), (1, .int i), (2, .int j)] := hl
  -- walk
  refine lv_iload_n hx hb dX0_word_0 rfl (lv_at hl 1 rfl) ?_
  refine lv_if_lt (tgt := 16) hx hb dX0_word_1 (by decide) (fun c1 => ?_) (fun c1 => ?_)
  · refine lv_lconst (v := 0) hx hb dX0_word_16 (by decide) ?_
    have fin : (f_word i j st, st) = (0, st) := by
      clear hP hD hS; simp only [f_word, c1, ↓reduceIte, not_true_eq_false, not_false_eq_true, and_self, and_true, true_and, and_false, false_and, eq_self, i10]
    exact cM_retl (Wd := FWd h0 h1 h2 cA cB) (st := st) (st' := st) hx hb hr hlocks dX0_word_17 hS hP hD (congrArg Prod.fst fin).symm (congrArg Prod.snd fin).symm
  · refine lv_iload_n hx hb dX0_word_4 rfl (lv_at hl 1 rfl) ?_
    refine lv_iconst (v := 4) hx hb dX0_word_5 (by decide) ?_
    refine lv_icmp_ge (tgt := 16) hx hb dX0_word_6 (by decide) (fun c2 => ?_) (fun c2 => ?_)
    · refine lv_lconst (v := 0) hx hb dX0_word_16 (by decide) ?_
      have fin : (f_word i j st, st) = (0, st) := by
        clear hP hD hS; simp only [f_word, c1, c2, ↓reduceIte, not_true_eq_false, not_false_eq_true, and_self, and_true, true_and, and_false, false_and, eq_self, i10]
      exact cM_retl (Wd := FWd h0 h1 h2 cA cB) (st := st) (st' := st) hx hb hr hlocks dX0_word_17 hS hP hD (congrArg Prod.fst fin).symm (congrArg Prod.snd fin).symm
    · refine lv_iload_n hx hb dX0_word_9 rfl (lv_at hl 2 rfl) ?_
      refine cS_call (n := 1) (as := [.int j]) (rest := []) ⟨hx, hb, hml, hown, hts⟩ (c_X0_isCell l j) gX0_word_X0_isCell rfl rfl rfl (by decide +kernel) ⟨Nat.le_of_ble_eq_true rfl, Nat.le_of_ble_eq_true rfl⟩ hl.1 rfl rfl (Nat.le_of_ble_eq_true rfl) dX0_word_10 ⟨Nat.zero_le _, Nat.zero_le _⟩ ?_
      refine tpi (fun v3 e3 => ?_)
      refine lv_if_ne (tgt := 18) hx hb dX0_word_13 (by decide) (fun c4 => ?_) (fun c4 => ?_)
      · refine lv_aload_n hx hb dX0_word_18 rfl (lv_at hl 0 rfl) ?_
        refine va_get (D := D) (ci := 0) (v := .ref h1) (C := RX0) (T := TX0) (N := 6) hx hb hts (by decide +kernel) hown hK hP 0 rfl rfl 0 (by decide) (hts (.fieldLink RX0 9 "FadeLedger" "memory" "[J") (by decide +kernel)) (fun _ h9 => h9) rfl dX0_word_19 ?_
        refine lv_iload_n hx hb dX0_word_22 rfl (lv_at hl 1 rfl) ?_
        refine lv_iload_n hx hb dX0_word_23 rfl (lv_at hl 2 rfl) ?_
        refine cS_call (n := 2) (as := [.int i, .int j]) (rest := [.ref h1]) ⟨hx, hb, hml, hown, hts⟩ (c_X0_slot l i j) gX0_word_X0_slot rfl rfl rfl (by decide +kernel) ⟨Nat.le_of_ble_eq_true rfl, Nat.le_of_ble_eq_true rfl⟩ hl.1 rfl rfl (Nat.le_of_ble_eq_true rfl) dX0_word_24 ⟨Nat.zero_le _, Nat.zero_le _⟩ ?_
        refine tpi (fun v5 e5 => ?_)
        refine va_lald hx hb hK hP 1 0 rfl rfl (by rw [← e5]; exact slot_in (in_of (n := 4) rfl c1 c2) (cell_in (by rw [e3]; exact c4))) dX0_word_27 ?_
        refine tpl (fun v6 e6 => ?_)
        have fin : (f_word i j st, st) = (v6, st) := by
          clear hP hD hS; subst e3; subst e5; subst e6; simp only [f_word, c1, c2, c4, ↓reduceIte, not_true_eq_false, not_false_eq_true, and_self, and_true, true_and, and_false, false_and, eq_self, i10]
        exact cM_retl (Wd := FWd h0 h1 h2 cA cB) (st := st) (st' := st) hx hb hr hlocks dX0_word_28 hS hP hD (congrArg Prod.fst fin).symm (congrArg Prod.snd fin).symm
      · refine lv_lconst (v := 0) hx hb dX0_word_16 (by decide) ?_
        have fin : (f_word i j st, st) = (0, st) := by
          clear hP hD hS; subst e3; simp only [f_word, c1, c2, c4, ↓reduceIte, not_true_eq_false, not_false_eq_true, and_self, and_true, true_and, and_false, false_and, eq_self, i10]
        exact cM_retl (Wd := FWd h0 h1 h2 cA cB) (st := st) (st' := st) hx hb hr hlocks dX0_word_17 hS hP hD (congrArg Prod.fst fin).symm (congrArg Prod.snd fin).symm
abbrev rmX0_done : Room := { frames := 0, cells := 0, slots := 0, locals := 0 }
-- done
set_option maxHeartbeats 400000 in
set_option maxRecDepth 100000 in
theorem c_X0_done (l : Launch) (D : va_G) (h0 h1 h2 : Nat) (cA cB : ClassId) (st : FS) (a : Int32)  : cM l D vwCl (FT cA cB) (FWd h0 h1 h2 cA cB) yX0_done wsX0_done rmX0_done [.ref h0, .int a] st (some (.int (f_done a st))) st := by
  refine cM_in (cc := cX0_done) (maxL := 2) (ret := (some .int)) (by decide) rfl (Nat.le_of_ble_eq_true rfl) ?_
  intro p e s m below meth c ls A hx hb hr hlocks hml hown hts hA hK hP hD hS hl
  have hown : s.vm.findClass RX0 = some m.cls := hown
  have hl : lv_has ls 2 [(0, .ref h0), (1, .int a)] := hl
  -- walk
  refine lv_iload_n hx hb dX0_done_0 rfl (lv_at hl 1 rfl) ?_
  refine lv_if_ne (tgt := 9) hx hb dX0_done_1 (by decide) (fun c1 => ?_) (fun c1 => ?_)
  · refine lv_iload_n hx hb dX0_done_9 rfl (lv_at hl 1 rfl) ?_
    refine lv_iconst (v := 1) hx hb dX0_done_10 (by decide) ?_
    refine lv_icmp_ne (tgt := 21) hx hb dX0_done_11 (by decide) (fun c2 => ?_) (fun c2 => ?_)
    · refine lv_iconst (v := (-1)) hx hb dX0_done_21 (by decide) ?_
      have fin : (f_done a st, st) = ((-1), st) := by
        clear hP hD hS; simp only [f_done, c1, c2, ↓reduceIte, not_true_eq_false, not_false_eq_true, and_self, and_true, true_and, and_false, false_and, eq_self, i10]
      exact cM_reti (Wd := FWd h0 h1 h2 cA cB) (st := st) (st' := st) hx hb hr hlocks dX0_done_22 hS hP hD (congrArg Prod.fst fin).symm (congrArg Prod.snd fin).symm
    · refine lv_aload_n hx hb dX0_done_14 rfl (lv_at hl 0 rfl) ?_
      refine va_get (D := D) (ci := 0) (v := .int st.2.2.2.2.2) (C := RX0) (T := TX0) (N := 6) hx hb hts (by decide +kernel) hown hK hP 0 rfl rfl 5 (by decide) (hts (.fieldLink RX0 117 "FadeLedger" "writes" "I") (by decide +kernel)) (fun _ h9 => h9) rfl dX0_done_15 ?_
      refine tpi (fun v3 e3 => ?_)
      refine lv_goto (tgt := 22) hx hb dX0_done_18 (by decide) ?_
      have fin : (f_done a st, st) = (v3, st) := by
        clear hP hD hS; subst e3; simp only [f_done, c1, c2, ↓reduceIte, not_true_eq_false, not_false_eq_true, and_self, and_true, true_and, and_false, false_and, eq_self, i10]
      exact cM_reti (Wd := FWd h0 h1 h2 cA cB) (st := st) (st' := st) hx hb hr hlocks dX0_done_22 hS hP hD (congrArg Prod.fst fin).symm (congrArg Prod.snd fin).symm
  · refine lv_aload_n hx hb dX0_done_4 rfl (lv_at hl 0 rfl) ?_
    refine va_get (D := D) (ci := 0) (v := .int st.2.2.2.2.1) (C := RX0) (T := TX0) (N := 6) hx hb hts (by decide +kernel) hown hK hP 0 rfl rfl 4 (by decide) (hts (.fieldLink RX0 114 "FadeLedger" "reads" "I") (by decide +kernel)) (fun _ h9 => h9) rfl dX0_done_5 ?_
    refine tpi (fun v4 e4 => ?_)
    have fin : (f_done a st, st) = (v4, st) := by
      clear hP hD hS; subst e4; simp only [f_done, c1, ↓reduceIte, not_true_eq_false, not_false_eq_true, and_self, and_true, true_and, and_false, false_and, eq_self, i10]
    exact cM_reti (Wd := FWd h0 h1 h2 cA cB) (st := st) (st' := st) hx hb hr hlocks dX0_done_8 hS hP hD (congrArg Prod.fst fin).symm (congrArg Prod.snd fin).symm
abbrev rmX0_transfer : Room := { frames := 4, cells := 0, slots := 0, locals := 90 }
-- transfer
set_option maxHeartbeats 400000 in
set_option maxRecDepth 100000 in
theorem c_X0_transfer (l : Launch) (D : va_G) (h0 h1 h2 : Nat) (cA cB : ClassId) (st : FS) (f : Int32) (t : Int32) (a : Int32)  : cM l D vwCl (FT cA cB) (FWd h0 h1 h2 cA cB) yX0_transfer wsX0_transfer rmX0_transfer [.ref h0, .int f, .int t, .int a] st (some (.int (f_transfer f t a st).1)) (f_transfer f t a st).2 := by
  refine cM_in (cc := cX0_transfer) (maxL := 17) (ret := (some .int)) (by decide) rfl (Nat.le_of_ble_eq_true rfl) ?_
  intro p e s m below meth c ls A hx hb hr hlocks hml hown hts hA hK hP hD hS hl
  have hown : s.vm.findClass RX0 = some m.cls := hown
  have hl : lv_has ls 17 [(0, .ref h0), (1, .int f), (2, .int t), (3, .int a)] := hl
  -- walk
  refine lv_iload_n hx hb dX0_transfer_0 rfl (lv_at hl 1 rfl) ?_
  refine cS_call (n := 1) (as := [.int f]) (rest := []) ⟨hx, hb, hml, hown, hts⟩ (c_X0_isAccount l f) gX0_transfer_X0_isAccount rfl rfl rfl (by decide +kernel) ⟨Nat.le_of_ble_eq_true rfl, Nat.le_of_ble_eq_true rfl⟩ hl.1 rfl rfl (Nat.le_of_ble_eq_true rfl) dX0_transfer_1 ⟨Nat.zero_le _, Nat.zero_le _⟩ ?_
  refine tpi (fun v1 e1 => ?_)
  refine lv_if_eq (tgt := 23) hx hb dX0_transfer_4 (by decide) (fun c2 => ?_) (fun c2 => ?_)
  · refine lv_iconst (v := (-1)) hx hb dX0_transfer_23 (by decide) ?_
    have fin : f_transfer f t a st = ((-1), st) := by
      clear hP hD hS; subst e1; simp only [f_transfer, f_trB, f_trAcc, f_doTr, f_an2, bI, c2, ↓reduceIte, not_true_eq_false, not_false_eq_true, and_self, and_true, true_and, and_false, false_and, eq_self, i10]
    exact cM_reti (Wd := FWd h0 h1 h2 cA cB) (st := st) (st' := (f_transfer f t a st).2) hx hb hr hlocks dX0_transfer_24 hS hP hD (congrArg Prod.fst fin).symm (congrArg Prod.snd fin).symm
  · refine lv_iload_n hx hb dX0_transfer_7 rfl (lv_at hl 2 rfl) ?_
    refine cS_call (n := 1) (as := [.int t]) (rest := []) ⟨hx, hb, hml, hown, hts⟩ (c_X0_isAccount l t) gX0_transfer_X0_isAccount rfl rfl rfl (by decide +kernel) ⟨Nat.le_of_ble_eq_true rfl, Nat.le_of_ble_eq_true rfl⟩ hl.1 rfl rfl (Nat.le_of_ble_eq_true rfl) dX0_transfer_8 ⟨Nat.zero_le _, Nat.zero_le _⟩ ?_
    refine tpi (fun v3 e3 => ?_)
    refine lv_if_eq (tgt := 23) hx hb dX0_transfer_11 (by decide) (fun c4 => ?_) (fun c4 => ?_)
    · refine lv_iconst (v := (-1)) hx hb dX0_transfer_23 (by decide) ?_
      have fin : f_transfer f t a st = ((-1), st) := by
        clear hP hD hS; subst e1; subst e3; simp only [f_transfer, f_trB, f_trAcc, f_doTr, f_an2, bI, c2, c4, ↓reduceIte, not_true_eq_false, not_false_eq_true, and_self, and_true, true_and, and_false, false_and, eq_self, i10]
      exact cM_reti (Wd := FWd h0 h1 h2 cA cB) (st := st) (st' := (f_transfer f t a st).2) hx hb hr hlocks dX0_transfer_24 hS hP hD (congrArg Prod.fst fin).symm (congrArg Prod.snd fin).symm
    · refine lv_iload_n hx hb dX0_transfer_14 rfl (lv_at hl 1 rfl) ?_
      refine lv_iload_n hx hb dX0_transfer_15 rfl (lv_at hl 2 rfl) ?_
      refine lv_icmp_eq (tgt := 23) hx hb dX0_transfer_16 (by decide) (fun c5 => ?_) (fun c5 => ?_)
      · refine lv_iconst (v := (-1)) hx hb dX0_transfer_23 (by decide) ?_
        have fin : f_transfer f t a st = ((-1), st) := by
          clear hP hD hS; subst e1; subst e3; simp only [f_transfer, f_trB, f_trAcc, f_doTr, f_an2, bI, c2, c4, c5, ↓reduceIte, not_true_eq_false, not_false_eq_true, and_self, and_true, true_and, and_false, false_and, eq_self, i10]
        exact cM_reti (Wd := FWd h0 h1 h2 cA cB) (st := st) (st' := (f_transfer f t a st).2) hx hb hr hlocks dX0_transfer_24 hS hP hD (congrArg Prod.fst fin).symm (congrArg Prod.snd fin).symm
      · refine lv_iload_n hx hb dX0_transfer_19 rfl (lv_at hl 3 rfl) ?_
        refine lv_if_ge (tgt := 25) hx hb dX0_transfer_20 (by decide) (fun c6 => ?_) (fun c6 => ?_)
        · have hf : vp_in f 20 := acct_in20 (by rw [e1]; exact c2)
          have ht : vp_in t 20 := acct_in20 (by rw [e3]; exact c4)
          refine lv_aload_n hx hb dX0_transfer_25 rfl (lv_at hl 0 rfl) ?_
          refine lv_iload_n hx hb dX0_transfer_26 rfl (lv_at hl 1 rfl) ?_
          refine cM_this (Wd := FWd h0 h1 h2 cA cB) (ci := 0) (q0 := 0) (n := 1) (as := [.int f]) (rest := []) ⟨hx, hb, hml, hown, hts⟩ (c_X0_look l D h0 h1 h2 cA cB st f hf) gX0_transfer_X0_look rfl rfl rfl (by decide +kernel) ⟨Nat.le_of_ble_eq_true rfl, Nat.le_of_ble_eq_true rfl⟩ hK hP hD hS hA rfl rfl rfl hl.1 rfl rfl (Nat.le_of_ble_eq_true rfl) dX0_transfer_27 ⟨Nat.zero_le _, Nat.zero_le _⟩ (fun H locs hP hD hS => ?_)
          obtain ⟨s7, t7⟩ : ∃ z : FS, (f_look f st).2 = z := ⟨_, rfl⟩
          replace hP : va_P D vwCl (FWd h0 h1 h2 cA cB s7) H := by rw [← t7]; exact hP
          replace hD : va_D A (FWd h0 h1 h2 cA cB s7) := by rw [← t7]; exact hD
          refine tpl (fun v8 e8 => ?_)
          refine lv_lstore (lv' := [(4, .long v8), (0, .ref h0), (1, .int f), (2, .int t), (3, .int a)]) hx hb dX0_transfer_30 hl (by decide) rfl (fun ls hl => ?_)
          refine lv_aload_n hx hb dX0_transfer_32 rfl (lv_at hl 1 rfl) ?_
          refine lv_iload_n hx hb dX0_transfer_33 rfl (lv_at hl 3 rfl) ?_
          refine cM_this (Wd := FWd h0 h1 h2 cA cB) (ci := 0) (q0 := 0) (n := 1) (as := [.int t]) (rest := []) ⟨hx, hb, hml, hown, hts⟩ (c_X0_look l D h0 h1 h2 cA cB s7 t ht) gX0_transfer_X0_look rfl rfl rfl (by decide +kernel) ⟨Nat.le_of_ble_eq_true rfl, Nat.le_of_ble_eq_true rfl⟩ hK hP hD hS hA rfl rfl rfl hl.1 rfl rfl (Nat.le_of_ble_eq_true rfl) dX0_transfer_34 ⟨Nat.zero_le _, Nat.zero_le _⟩ (fun H locs hP hD hS => ?_)
          obtain ⟨s9, t9⟩ : ∃ z : FS, (f_look t s7).2 = z := ⟨_, rfl⟩
          replace hP : va_P D vwCl (FWd h0 h1 h2 cA cB s9) H := by rw [← t9]; exact hP
          replace hD : va_D A (FWd h0 h1 h2 cA cB s9) := by rw [← t9]; exact hD
          refine tpl (fun v10 e10 => ?_)
          refine lv_lstore (lv' := [(6, .long v10), (4, .long v8), (0, .ref h0), (1, .int f), (2, .int t), (3, .int a)]) hx hb dX0_transfer_37 hl (by decide) rfl (fun ls hl => ?_)
          refine lv_aload_n hx hb dX0_transfer_39 rfl (lv_at hl 2 rfl) ?_
          refine lv_bipush (v := 16) hx hb dX0_transfer_40 (by decide) ?_
          refine cM_this (Wd := FWd h0 h1 h2 cA cB) (ci := 0) (q0 := 0) (n := 1) (as := [.int 16]) (rest := []) ⟨hx, hb, hml, hown, hts⟩ (c_X0_look l D h0 h1 h2 cA cB s9 16 in20_16) gX0_transfer_X0_look rfl rfl rfl (by decide +kernel) ⟨Nat.le_of_ble_eq_true rfl, Nat.le_of_ble_eq_true rfl⟩ hK hP hD hS hA rfl rfl rfl hl.1 rfl rfl (Nat.le_of_ble_eq_true rfl) dX0_transfer_42 ⟨Nat.zero_le _, Nat.zero_le _⟩ (fun H locs hP hD hS => ?_)
          obtain ⟨s11, t11⟩ : ∃ z : FS, (f_look 16 s9).2 = z := ⟨_, rfl⟩
          replace hP : va_P D vwCl (FWd h0 h1 h2 cA cB s11) H := by rw [← t11]; exact hP
          replace hD : va_D A (FWd h0 h1 h2 cA cB s11) := by rw [← t11]; exact hD
          refine tpl (fun v12 e12 => ?_)
          refine lv_lstore (lv' := [(8, .long v12), (6, .long v10), (4, .long v8), (0, .ref h0), (1, .int f), (2, .int t), (3, .int a)]) hx hb dX0_transfer_45 hl (by decide) rfl (fun ls hl => ?_)
          refine lv_lload hx hb dX0_transfer_47 (lv_at hl 2 rfl) ?_
          refine lv_iload_n hx hb dX0_transfer_49 rfl (lv_at hl 6 rfl) ?_
          refine lv_i2l hx hb dX0_transfer_50 rfl ?_
          refine tpl (fun v13 e13 => ?_)
          refine lv_lneg hx hb dX0_transfer_51 ?_
          refine tpl (fun v14 e14 => ?_)
          refine cS_call (n := 2) (as := [.long v8, .long v14]) (rest := []) ⟨hx, hb, hml, hown, hts⟩ (c_X0_canTake l v8 v14) gX0_transfer_X0_canTake rfl rfl rfl (by decide +kernel) ⟨Nat.le_of_ble_eq_true rfl, Nat.le_of_ble_eq_true rfl⟩ hl.1 rfl rfl (Nat.le_of_ble_eq_true rfl) dX0_transfer_52 ⟨Nat.zero_le _, Nat.zero_le _⟩ ?_
          refine tpi (fun v15 e15 => ?_)
          refine lv_if_eq (tgt := 88) hx hb dX0_transfer_55 (by decide) (fun c16 => ?_) (fun c16 => ?_)
          · refine lv_iconst (v := 0) hx hb dX0_transfer_88 (by decide) ?_
            refine lv_istore (lv' := [(10, .int 0), (8, .long v12), (6, .long v10), (4, .long v8), (0, .ref h0), (1, .int f), (2, .int t), (3, .int a)]) hx hb dX0_transfer_89 hl (by decide) rfl (fun ls hl => ?_)
            refine lv_iload hx hb dX0_transfer_91 (lv_at hl 0 rfl) ?_
            refine lv_if_eq (tgt := 221) hx hb dX0_transfer_93 (by decide) (fun _ => ?_) (fun c0 => absurd c0 (by decide))
            refine lv_aload_n hx hb dX0_transfer_221 rfl (lv_at hl 4 rfl) ?_
            refine lv_iload hx hb dX0_transfer_222 (lv_at hl 0 rfl) ?_
            refine cM_this (Wd := FWd h0 h1 h2 cA cB) (ci := 0) (q0 := 0) (n := 1) (as := [.int 0]) (rest := []) ⟨hx, hb, hml, hown, hts⟩ (c_X0_answerOf l D h0 h1 h2 cA cB s11 0) gX0_transfer_X0_answerOf rfl rfl rfl (by decide +kernel) ⟨Nat.le_of_ble_eq_true rfl, Nat.le_of_ble_eq_true rfl⟩ hK hP hD hS hA rfl rfl rfl hl.1 rfl rfl (Nat.le_of_ble_eq_true rfl) dX0_transfer_224 ⟨Nat.zero_le _, Nat.zero_le _⟩ (fun H locs hP hD hS => ?_)
            refine tpi (fun v17 e17 => ?_)
            have fin : f_transfer f t a st = (v17, s11) := by
              clear hP hD hS; subst e1; subst e3; subst t7; subst e8; subst t9; subst e10; subst t11; subst e12; subst e13; subst e14; subst e15; subst e17; simp only [f_transfer, f_trB, f_trAcc, f_doTr, f_an2, bI, c2, c4, c5, c6, c16, ↓reduceIte, not_true_eq_false, not_false_eq_true, and_self, and_true, true_and, and_false, false_and, eq_self, i10]
            exact cM_reti (Wd := FWd h0 h1 h2 cA cB) (st := s11) (st' := (f_transfer f t a st).2) hx hb hr hlocks dX0_transfer_227 hS hP hD (congrArg Prod.fst fin).symm (congrArg Prod.snd fin).symm
          · refine lv_lload hx hb dX0_transfer_58 (lv_at hl 1 rfl) ?_
            refine lv_iload_n hx hb dX0_transfer_60 rfl (lv_at hl 6 rfl) ?_
            refine lv_i2l hx hb dX0_transfer_61 rfl ?_
            refine tpl (fun v18 e18 => ?_)
            refine cS_call (n := 2) (as := [.long v10, .long v18]) (rest := []) ⟨hx, hb, hml, hown, hts⟩ (c_X0_canTake l v10 v18) gX0_transfer_X0_canTake rfl rfl rfl (by decide +kernel) ⟨Nat.le_of_ble_eq_true rfl, Nat.le_of_ble_eq_true rfl⟩ hl.1 rfl rfl (Nat.le_of_ble_eq_true rfl) dX0_transfer_62 ⟨Nat.zero_le _, Nat.zero_le _⟩ ?_
            refine tpi (fun v19 e19 => ?_)
            refine lv_if_eq (tgt := 88) hx hb dX0_transfer_65 (by decide) (fun c20 => ?_) (fun c20 => ?_)
            · refine lv_iconst (v := 0) hx hb dX0_transfer_88 (by decide) ?_
              refine lv_istore (lv' := [(10, .int 0), (8, .long v12), (6, .long v10), (4, .long v8), (0, .ref h0), (1, .int f), (2, .int t), (3, .int a)]) hx hb dX0_transfer_89 hl (by decide) rfl (fun ls hl => ?_)
              refine lv_iload hx hb dX0_transfer_91 (lv_at hl 0 rfl) ?_
              refine lv_if_eq (tgt := 221) hx hb dX0_transfer_93 (by decide) (fun _ => ?_) (fun c0 => absurd c0 (by decide))
              refine lv_aload_n hx hb dX0_transfer_221 rfl (lv_at hl 4 rfl) ?_
              refine lv_iload hx hb dX0_transfer_222 (lv_at hl 0 rfl) ?_
              refine cM_this (Wd := FWd h0 h1 h2 cA cB) (ci := 0) (q0 := 0) (n := 1) (as := [.int 0]) (rest := []) ⟨hx, hb, hml, hown, hts⟩ (c_X0_answerOf l D h0 h1 h2 cA cB s11 0) gX0_transfer_X0_answerOf rfl rfl rfl (by decide +kernel) ⟨Nat.le_of_ble_eq_true rfl, Nat.le_of_ble_eq_true rfl⟩ hK hP hD hS hA rfl rfl rfl hl.1 rfl rfl (Nat.le_of_ble_eq_true rfl) dX0_transfer_224 ⟨Nat.zero_le _, Nat.zero_le _⟩ (fun H locs hP hD hS => ?_)
              refine tpi (fun v21 e21 => ?_)
              have fin : f_transfer f t a st = (v21, s11) := by
                clear hP hD hS; subst e1; subst e3; subst t7; subst e8; subst t9; subst e10; subst t11; subst e12; subst e13; subst e14; subst e15; subst e18; subst e19; subst e21; simp only [f_transfer, f_trB, f_trAcc, f_doTr, f_an2, bI, c2, c4, c5, c6, c16, c20, ↓reduceIte, not_true_eq_false, not_false_eq_true, and_self, and_true, true_and, and_false, false_and, eq_self, i10]
              exact cM_reti (Wd := FWd h0 h1 h2 cA cB) (st := s11) (st' := (f_transfer f t a st).2) hx hb hr hlocks dX0_transfer_227 hS hP hD (congrArg Prod.fst fin).symm (congrArg Prod.snd fin).symm
            · refine lv_lload hx hb dX0_transfer_68 (lv_at hl 0 rfl) ?_
              refine cS_call (n := 1) (as := [.long v12]) (rest := []) ⟨hx, hb, hml, hown, hts⟩ (c_X0_isValid l v12) gX0_transfer_X0_isValid rfl rfl rfl (by decide +kernel) ⟨Nat.le_of_ble_eq_true rfl, Nat.le_of_ble_eq_true rfl⟩ hl.1 rfl rfl (Nat.le_of_ble_eq_true rfl) dX0_transfer_70 ⟨Nat.zero_le _, Nat.zero_le _⟩ ?_
              refine tpi (fun v22 e22 => ?_)
              refine lv_if_eq (tgt := 88) hx hb dX0_transfer_73 (by decide) (fun c23 => ?_) (fun c23 => ?_)
              · refine lv_iconst (v := 0) hx hb dX0_transfer_88 (by decide) ?_
                refine lv_istore (lv' := [(10, .int 0), (8, .long v12), (6, .long v10), (4, .long v8), (0, .ref h0), (1, .int f), (2, .int t), (3, .int a)]) hx hb dX0_transfer_89 hl (by decide) rfl (fun ls hl => ?_)
                refine lv_iload hx hb dX0_transfer_91 (lv_at hl 0 rfl) ?_
                refine lv_if_eq (tgt := 221) hx hb dX0_transfer_93 (by decide) (fun _ => ?_) (fun c0 => absurd c0 (by decide))
                refine lv_aload_n hx hb dX0_transfer_221 rfl (lv_at hl 4 rfl) ?_
                refine lv_iload hx hb dX0_transfer_222 (lv_at hl 0 rfl) ?_
                refine cM_this (Wd := FWd h0 h1 h2 cA cB) (ci := 0) (q0 := 0) (n := 1) (as := [.int 0]) (rest := []) ⟨hx, hb, hml, hown, hts⟩ (c_X0_answerOf l D h0 h1 h2 cA cB s11 0) gX0_transfer_X0_answerOf rfl rfl rfl (by decide +kernel) ⟨Nat.le_of_ble_eq_true rfl, Nat.le_of_ble_eq_true rfl⟩ hK hP hD hS hA rfl rfl rfl hl.1 rfl rfl (Nat.le_of_ble_eq_true rfl) dX0_transfer_224 ⟨Nat.zero_le _, Nat.zero_le _⟩ (fun H locs hP hD hS => ?_)
                refine tpi (fun v24 e24 => ?_)
                have fin : f_transfer f t a st = (v24, s11) := by
                  clear hP hD hS; subst e1; subst e3; subst t7; subst e8; subst t9; subst e10; subst t11; subst e12; subst e13; subst e14; subst e15; subst e18; subst e19; subst e22; subst e24; simp only [f_transfer, f_trB, f_trAcc, f_doTr, f_an2, bI, c2, c4, c5, c6, c16, c20, c23, ↓reduceIte, not_true_eq_false, not_false_eq_true, and_self, and_true, true_and, and_false, false_and, eq_self, i10]
                exact cM_reti (Wd := FWd h0 h1 h2 cA cB) (st := s11) (st' := (f_transfer f t a st).2) hx hb hr hlocks dX0_transfer_227 hS hP hD (congrArg Prod.fst fin).symm (congrArg Prod.snd fin).symm
              · refine lv_lload hx hb dX0_transfer_76 (lv_at hl 0 rfl) ?_
                refine cS_call (n := 1) (as := [.long v12]) (rest := []) ⟨hx, hb, hml, hown, hts⟩ (c_X0_hasNextNumber l v12) gX0_transfer_X0_hasNextNumber rfl rfl rfl (by decide +kernel) ⟨Nat.le_of_ble_eq_true rfl, Nat.le_of_ble_eq_true rfl⟩ hl.1 rfl rfl (Nat.le_of_ble_eq_true rfl) dX0_transfer_78 ⟨Nat.zero_le _, Nat.zero_le _⟩ ?_
                refine tpi (fun v25 e25 => ?_)
                refine lv_if_eq (tgt := 88) hx hb dX0_transfer_81 (by decide) (fun c26 => ?_) (fun c26 => ?_)
                · refine lv_iconst (v := 0) hx hb dX0_transfer_88 (by decide) ?_
                  refine lv_istore (lv' := [(10, .int 0), (8, .long v12), (6, .long v10), (4, .long v8), (0, .ref h0), (1, .int f), (2, .int t), (3, .int a)]) hx hb dX0_transfer_89 hl (by decide) rfl (fun ls hl => ?_)
                  refine lv_iload hx hb dX0_transfer_91 (lv_at hl 0 rfl) ?_
                  refine lv_if_eq (tgt := 221) hx hb dX0_transfer_93 (by decide) (fun _ => ?_) (fun c0 => absurd c0 (by decide))
                  refine lv_aload_n hx hb dX0_transfer_221 rfl (lv_at hl 4 rfl) ?_
                  refine lv_iload hx hb dX0_transfer_222 (lv_at hl 0 rfl) ?_
                  refine cM_this (Wd := FWd h0 h1 h2 cA cB) (ci := 0) (q0 := 0) (n := 1) (as := [.int 0]) (rest := []) ⟨hx, hb, hml, hown, hts⟩ (c_X0_answerOf l D h0 h1 h2 cA cB s11 0) gX0_transfer_X0_answerOf rfl rfl rfl (by decide +kernel) ⟨Nat.le_of_ble_eq_true rfl, Nat.le_of_ble_eq_true rfl⟩ hK hP hD hS hA rfl rfl rfl hl.1 rfl rfl (Nat.le_of_ble_eq_true rfl) dX0_transfer_224 ⟨Nat.zero_le _, Nat.zero_le _⟩ (fun H locs hP hD hS => ?_)
                  refine tpi (fun v27 e27 => ?_)
                  have fin : f_transfer f t a st = (v27, s11) := by
                    clear hP hD hS; subst e1; subst e3; subst t7; subst e8; subst t9; subst e10; subst t11; subst e12; subst e13; subst e14; subst e15; subst e18; subst e19; subst e22; subst e25; subst e27; simp only [f_transfer, f_trB, f_trAcc, f_doTr, f_an2, bI, c2, c4, c5, c6, c16, c20, c23, c26, ↓reduceIte, not_true_eq_false, not_false_eq_true, and_self, and_true, true_and, and_false, false_and, eq_self, i10]
                  exact cM_reti (Wd := FWd h0 h1 h2 cA cB) (st := s11) (st' := (f_transfer f t a st).2) hx hb hr hlocks dX0_transfer_227 hS hP hD (congrArg Prod.fst fin).symm (congrArg Prod.snd fin).symm
                · refine lv_iconst (v := 1) hx hb dX0_transfer_84 (by decide) ?_
                  refine lv_goto (tgt := 89) hx hb dX0_transfer_85 (by decide) ?_
                  refine lv_istore (lv' := [(10, .int 1), (8, .long v12), (6, .long v10), (4, .long v8), (0, .ref h0), (1, .int f), (2, .int t), (3, .int a)]) hx hb dX0_transfer_89 hl (by decide) rfl (fun ls hl => ?_)
                  refine lv_iload hx hb dX0_transfer_91 (lv_at hl 0 rfl) ?_
                  refine lv_if_eq (tgt := 221) hx hb dX0_transfer_93 (by decide) (fun c0 => absurd c0 (by decide)) (fun _ => ?_)
                  refine lv_lload hx hb dX0_transfer_96 (lv_at hl 3 rfl) ?_
                  refine lv_iload_n hx hb dX0_transfer_98 rfl (lv_at hl 7 rfl) ?_
                  refine lv_ineg hx hb dX0_transfer_99 ?_
                  refine tpi (fun v28 e28 => ?_)
                  refine cS_call (n := 2) (as := [.long v8, .int v28]) (rest := []) ⟨hx, hb, hml, hown, hts⟩ (c_X0_nextWord l v8 v28) gX0_transfer_X0_nextWord rfl rfl rfl (by decide +kernel) ⟨Nat.le_of_ble_eq_true rfl, Nat.le_of_ble_eq_true rfl⟩ hl.1 rfl rfl (Nat.le_of_ble_eq_true rfl) dX0_transfer_100 ⟨Nat.zero_le _, Nat.zero_le _⟩ ?_
                  refine tpl (fun v29 e29 => ?_)
                  refine lv_lstore (lv' := [(11, .long v29), (10, .int 1), (8, .long v12), (6, .long v10), (4, .long v8), (0, .ref h0), (1, .int f), (2, .int t), (3, .int a)]) hx hb dX0_transfer_103 hl (by decide) rfl (fun ls hl => ?_)
                  refine lv_lload hx hb dX0_transfer_105 (lv_at hl 3 rfl) ?_
                  refine lv_iload_n hx hb dX0_transfer_107 rfl (lv_at hl 8 rfl) ?_
                  refine cS_call (n := 2) (as := [.long v10, .int a]) (rest := []) ⟨hx, hb, hml, hown, hts⟩ (c_X0_nextWord l v10 a) gX0_transfer_X0_nextWord rfl rfl rfl (by decide +kernel) ⟨Nat.le_of_ble_eq_true rfl, Nat.le_of_ble_eq_true rfl⟩ hl.1 rfl rfl (Nat.le_of_ble_eq_true rfl) dX0_transfer_108 ⟨Nat.zero_le _, Nat.zero_le _⟩ ?_
                  refine tpl (fun v30 e30 => ?_)
                  refine lv_lstore (lv' := [(13, .long v30), (11, .long v29), (10, .int 1), (8, .long v12), (6, .long v10), (4, .long v8), (0, .ref h0), (1, .int f), (2, .int t), (3, .int a)]) hx hb dX0_transfer_111 hl (by decide) rfl (fun ls hl => ?_)
                  refine lv_lload hx hb dX0_transfer_113 (lv_at hl 3 rfl) ?_
                  refine cS_call (n := 1) (as := [.long v12]) (rest := []) ⟨hx, hb, hml, hown, hts⟩ (c_X0_numberOf l v12) gX0_transfer_X0_numberOf rfl rfl rfl (by decide +kernel) ⟨Nat.le_of_ble_eq_true rfl, Nat.le_of_ble_eq_true rfl⟩ hl.1 rfl rfl (Nat.le_of_ble_eq_true rfl) dX0_transfer_115 ⟨Nat.zero_le _, Nat.zero_le _⟩ ?_
                  refine tpi (fun v31 e31 => ?_)
                  refine lv_iconst (v := 1) hx hb dX0_transfer_118 (by decide) ?_
                  refine lv_iadd hx hb dX0_transfer_119 ?_
                  refine tpi (fun v32 e32 => ?_)
                  refine lv_istore (lv' := [(15, .int v32), (13, .long v30), (11, .long v29), (10, .int 1), (8, .long v12), (6, .long v10), (4, .long v8), (0, .ref h0), (1, .int f), (2, .int t), (3, .int a)]) hx hb dX0_transfer_120 hl (by decide) rfl (fun ls hl => ?_)
                  refine lv_iload_n hx hb dX0_transfer_122 rfl (lv_at hl 8 rfl) ?_
                  refine lv_sipush (v := 256) hx hb dX0_transfer_123 (by decide) ?_
                  refine lv_imul hx hb dX0_transfer_126 ?_
                  refine tpi (fun v33 e33 => ?_)
                  refine lv_iload_n hx hb dX0_transfer_127 rfl (lv_at hl 9 rfl) ?_
                  refine lv_iadd hx hb dX0_transfer_128 ?_
                  refine tpi (fun v34 e34 => ?_)
                  refine lv_istore (lv' := [(16, .int v34), (15, .int v32), (13, .long v30), (11, .long v29), (10, .int 1), (8, .long v12), (6, .long v10), (4, .long v8), (0, .ref h0), (1, .int f), (2, .int t), (3, .int a)]) hx hb dX0_transfer_129 hl (by decide) rfl (fun ls hl => ?_)
                  refine lv_aload_n hx hb dX0_transfer_131 rfl (lv_at hl 8 rfl) ?_
                  refine lv_bipush (v := 16) hx hb dX0_transfer_132 (by decide) ?_
                  refine lv_iload_n hx hb dX0_transfer_134 rfl (lv_at hl 11 rfl) ?_
                  refine lv_iload hx hb dX0_transfer_135 (lv_at hl 1 rfl) ?_
                  refine cS_call (n := 2) (as := [.int a, .int v32]) (rest := [.int 16, .ref h0]) ⟨hx, hb, hml, hown, hts⟩ (c_X0_makeWord l a v32) gX0_transfer_X0_makeWord rfl rfl rfl (by decide +kernel) ⟨Nat.le_of_ble_eq_true rfl, Nat.le_of_ble_eq_true rfl⟩ hl.1 rfl rfl (Nat.le_of_ble_eq_true rfl) dX0_transfer_137 ⟨Nat.zero_le _, Nat.zero_le _⟩ ?_
                  refine tpl (fun v35 e35 => ?_)
                  refine cM_this (Wd := FWd h0 h1 h2 cA cB) (ci := 0) (q0 := 0) (n := 2) (as := [.int 16, .long v35]) (rest := []) ⟨hx, hb, hml, hown, hts⟩ (c_X0_put l D h0 h1 h2 cA cB s11 16 v35 in20_16) gX0_transfer_X0_put rfl rfl rfl (by decide +kernel) ⟨Nat.le_of_ble_eq_true rfl, Nat.le_of_ble_eq_true rfl⟩ hK hP hD hS hA rfl rfl rfl hl.1 rfl rfl (Nat.le_of_ble_eq_true rfl) dX0_transfer_140 ⟨Nat.zero_le _, Nat.zero_le _⟩ (fun H locs hP hD hS => ?_)
                  refine W.eq (g2 := F0 m 143 ls []) rfl ?_
                  obtain ⟨s36, t36⟩ : ∃ z : FS, f_put 16 v35 s11 = z := ⟨_, rfl⟩
                  replace hP : va_P D vwCl (FWd h0 h1 h2 cA cB s36) H := by rw [← t36]; exact hP
                  replace hD : va_D A (FWd h0 h1 h2 cA cB s36) := by rw [← t36]; exact hD
                  refine lv_aload_n hx hb dX0_transfer_143 rfl (lv_at hl 8 rfl) ?_
                  refine lv_bipush (v := 17) hx hb dX0_transfer_144 (by decide) ?_
                  refine lv_lload hx hb dX0_transfer_146 (lv_at hl 3 rfl) ?_
                  refine cS_call (n := 1) (as := [.long v29]) (rest := [.int 17, .ref h0]) ⟨hx, hb, hml, hown, hts⟩ (c_X0_numberOf l v29) gX0_transfer_X0_numberOf rfl rfl rfl (by decide +kernel) ⟨Nat.le_of_ble_eq_true rfl, Nat.le_of_ble_eq_true rfl⟩ hl.1 rfl rfl (Nat.le_of_ble_eq_true rfl) dX0_transfer_148 ⟨Nat.zero_le _, Nat.zero_le _⟩ ?_
                  refine tpi (fun v37 e37 => ?_)
                  refine lv_iload hx hb dX0_transfer_151 (lv_at hl 1 rfl) ?_
                  refine cS_call (n := 2) (as := [.int v37, .int v32]) (rest := [.int 17, .ref h0]) ⟨hx, hb, hml, hown, hts⟩ (c_X0_makeWord l v37 v32) gX0_transfer_X0_makeWord rfl rfl rfl (by decide +kernel) ⟨Nat.le_of_ble_eq_true rfl, Nat.le_of_ble_eq_true rfl⟩ hl.1 rfl rfl (Nat.le_of_ble_eq_true rfl) dX0_transfer_153 ⟨Nat.zero_le _, Nat.zero_le _⟩ ?_
                  refine tpl (fun v38 e38 => ?_)
                  refine cM_this (Wd := FWd h0 h1 h2 cA cB) (ci := 0) (q0 := 0) (n := 2) (as := [.int 17, .long v38]) (rest := []) ⟨hx, hb, hml, hown, hts⟩ (c_X0_put l D h0 h1 h2 cA cB s36 17 v38 in20_17) gX0_transfer_X0_put rfl rfl rfl (by decide +kernel) ⟨Nat.le_of_ble_eq_true rfl, Nat.le_of_ble_eq_true rfl⟩ hK hP hD hS hA rfl rfl rfl hl.1 rfl rfl (Nat.le_of_ble_eq_true rfl) dX0_transfer_156 ⟨Nat.zero_le _, Nat.zero_le _⟩ (fun H locs hP hD hS => ?_)
                  refine W.eq (g2 := F0 m 159 ls []) rfl ?_
                  obtain ⟨s39, t39⟩ : ∃ z : FS, f_put 17 v38 s36 = z := ⟨_, rfl⟩
                  replace hP : va_P D vwCl (FWd h0 h1 h2 cA cB s39) H := by rw [← t39]; exact hP
                  replace hD : va_D A (FWd h0 h1 h2 cA cB s39) := by rw [← t39]; exact hD
                  refine lv_aload_n hx hb dX0_transfer_159 rfl (lv_at hl 8 rfl) ?_
                  refine lv_bipush (v := 18) hx hb dX0_transfer_160 (by decide) ?_
                  refine lv_lload hx hb dX0_transfer_162 (lv_at hl 2 rfl) ?_
                  refine cS_call (n := 1) (as := [.long v30]) (rest := [.int 18, .ref h0]) ⟨hx, hb, hml, hown, hts⟩ (c_X0_numberOf l v30) gX0_transfer_X0_numberOf rfl rfl rfl (by decide +kernel) ⟨Nat.le_of_ble_eq_true rfl, Nat.le_of_ble_eq_true rfl⟩ hl.1 rfl rfl (Nat.le_of_ble_eq_true rfl) dX0_transfer_164 ⟨Nat.zero_le _, Nat.zero_le _⟩ ?_
                  refine tpi (fun v40 e40 => ?_)
                  refine lv_iload hx hb dX0_transfer_167 (lv_at hl 1 rfl) ?_
                  refine cS_call (n := 2) (as := [.int v40, .int v32]) (rest := [.int 18, .ref h0]) ⟨hx, hb, hml, hown, hts⟩ (c_X0_makeWord l v40 v32) gX0_transfer_X0_makeWord rfl rfl rfl (by decide +kernel) ⟨Nat.le_of_ble_eq_true rfl, Nat.le_of_ble_eq_true rfl⟩ hl.1 rfl rfl (Nat.le_of_ble_eq_true rfl) dX0_transfer_169 ⟨Nat.zero_le _, Nat.zero_le _⟩ ?_
                  refine tpl (fun v41 e41 => ?_)
                  refine cM_this (Wd := FWd h0 h1 h2 cA cB) (ci := 0) (q0 := 0) (n := 2) (as := [.int 18, .long v41]) (rest := []) ⟨hx, hb, hml, hown, hts⟩ (c_X0_put l D h0 h1 h2 cA cB s39 18 v41 in20_18) gX0_transfer_X0_put rfl rfl rfl (by decide +kernel) ⟨Nat.le_of_ble_eq_true rfl, Nat.le_of_ble_eq_true rfl⟩ hK hP hD hS hA rfl rfl rfl hl.1 rfl rfl (Nat.le_of_ble_eq_true rfl) dX0_transfer_172 ⟨Nat.zero_le _, Nat.zero_le _⟩ (fun H locs hP hD hS => ?_)
                  refine W.eq (g2 := F0 m 175 ls []) rfl ?_
                  obtain ⟨s42, t42⟩ : ∃ z : FS, f_put 18 v41 s39 = z := ⟨_, rfl⟩
                  replace hP : va_P D vwCl (FWd h0 h1 h2 cA cB s42) H := by rw [← t42]; exact hP
                  replace hD : va_D A (FWd h0 h1 h2 cA cB s42) := by rw [← t42]; exact hD
                  refine lv_aload_n hx hb dX0_transfer_175 rfl (lv_at hl 8 rfl) ?_
                  refine lv_bipush (v := 19) hx hb dX0_transfer_176 (by decide) ?_
                  refine lv_iload hx hb dX0_transfer_178 (lv_at hl 0 rfl) ?_
                  refine lv_ldc (v := 65536) hx hb hown (hts (.constant RX0 91 65536) (by decide +kernel)) dX0_transfer_180 ?_
                  refine lv_iadd hx hb dX0_transfer_182 ?_
                  refine tpi (fun v43 e43 => ?_)
                  refine lv_iload hx hb dX0_transfer_183 (lv_at hl 1 rfl) ?_
                  refine cS_call (n := 2) (as := [.int v43, .int v32]) (rest := [.int 19, .ref h0]) ⟨hx, hb, hml, hown, hts⟩ (c_X0_makeWord l v43 v32) gX0_transfer_X0_makeWord rfl rfl rfl (by decide +kernel) ⟨Nat.le_of_ble_eq_true rfl, Nat.le_of_ble_eq_true rfl⟩ hl.1 rfl rfl (Nat.le_of_ble_eq_true rfl) dX0_transfer_185 ⟨Nat.zero_le _, Nat.zero_le _⟩ ?_
                  refine tpl (fun v44 e44 => ?_)
                  refine cM_this (Wd := FWd h0 h1 h2 cA cB) (ci := 0) (q0 := 0) (n := 2) (as := [.int 19, .long v44]) (rest := []) ⟨hx, hb, hml, hown, hts⟩ (c_X0_put l D h0 h1 h2 cA cB s42 19 v44 in20_19) gX0_transfer_X0_put rfl rfl rfl (by decide +kernel) ⟨Nat.le_of_ble_eq_true rfl, Nat.le_of_ble_eq_true rfl⟩ hK hP hD hS hA rfl rfl rfl hl.1 rfl rfl (Nat.le_of_ble_eq_true rfl) dX0_transfer_188 ⟨Nat.zero_le _, Nat.zero_le _⟩ (fun H locs hP hD hS => ?_)
                  refine W.eq (g2 := F0 m 191 ls []) rfl ?_
                  obtain ⟨s45, t45⟩ : ∃ z : FS, f_put 19 v44 s42 = z := ⟨_, rfl⟩
                  replace hP : va_P D vwCl (FWd h0 h1 h2 cA cB s45) H := by rw [← t45]; exact hP
                  replace hD : va_D A (FWd h0 h1 h2 cA cB s45) := by rw [← t45]; exact hD
                  refine lv_aload_n hx hb dX0_transfer_191 rfl (lv_at hl 8 rfl) ?_
                  refine lv_iload_n hx hb dX0_transfer_192 rfl (lv_at hl 9 rfl) ?_
                  refine lv_lload hx hb dX0_transfer_193 (lv_at hl 3 rfl) ?_
                  refine cM_this (Wd := FWd h0 h1 h2 cA cB) (ci := 0) (q0 := 0) (n := 2) (as := [.int f, .long v29]) (rest := []) ⟨hx, hb, hml, hown, hts⟩ (c_X0_put l D h0 h1 h2 cA cB s45 f v29 hf) gX0_transfer_X0_put rfl rfl rfl (by decide +kernel) ⟨Nat.le_of_ble_eq_true rfl, Nat.le_of_ble_eq_true rfl⟩ hK hP hD hS hA rfl rfl rfl hl.1 rfl rfl (Nat.le_of_ble_eq_true rfl) dX0_transfer_195 ⟨Nat.zero_le _, Nat.zero_le _⟩ (fun H locs hP hD hS => ?_)
                  refine W.eq (g2 := F0 m 198 ls []) rfl ?_
                  obtain ⟨s46, t46⟩ : ∃ z : FS, f_put f v29 s45 = z := ⟨_, rfl⟩
                  replace hP : va_P D vwCl (FWd h0 h1 h2 cA cB s46) H := by rw [← t46]; exact hP
                  replace hD : va_D A (FWd h0 h1 h2 cA cB s46) := by rw [← t46]; exact hD
                  refine lv_aload_n hx hb dX0_transfer_198 rfl (lv_at hl 8 rfl) ?_
                  refine lv_iload_n hx hb dX0_transfer_199 rfl (lv_at hl 10 rfl) ?_
                  refine lv_lload hx hb dX0_transfer_200 (lv_at hl 2 rfl) ?_
                  refine cM_this (Wd := FWd h0 h1 h2 cA cB) (ci := 0) (q0 := 0) (n := 2) (as := [.int t, .long v30]) (rest := []) ⟨hx, hb, hml, hown, hts⟩ (c_X0_put l D h0 h1 h2 cA cB s46 t v30 ht) gX0_transfer_X0_put rfl rfl rfl (by decide +kernel) ⟨Nat.le_of_ble_eq_true rfl, Nat.le_of_ble_eq_true rfl⟩ hK hP hD hS hA rfl rfl rfl hl.1 rfl rfl (Nat.le_of_ble_eq_true rfl) dX0_transfer_202 ⟨Nat.zero_le _, Nat.zero_le _⟩ (fun H locs hP hD hS => ?_)
                  refine W.eq (g2 := F0 m 205 ls []) rfl ?_
                  obtain ⟨s47, t47⟩ : ∃ z : FS, f_put t v30 s46 = z := ⟨_, rfl⟩
                  replace hP : va_P D vwCl (FWd h0 h1 h2 cA cB s47) H := by rw [← t47]; exact hP
                  replace hD : va_D A (FWd h0 h1 h2 cA cB s47) := by rw [← t47]; exact hD
                  refine lv_aload_n hx hb dX0_transfer_205 rfl (lv_at hl 8 rfl) ?_
                  refine lv_bipush (v := 19) hx hb dX0_transfer_206 (by decide) ?_
                  refine lv_iload hx hb dX0_transfer_208 (lv_at hl 0 rfl) ?_
                  refine lv_ldc (v := 131072) hx hb hown (hts (.constant RX0 92 131072) (by decide +kernel)) dX0_transfer_210 ?_
                  refine lv_iadd hx hb dX0_transfer_212 ?_
                  refine tpi (fun v48 e48 => ?_)
                  refine lv_iload hx hb dX0_transfer_213 (lv_at hl 1 rfl) ?_
                  refine cS_call (n := 2) (as := [.int v48, .int v32]) (rest := [.int 19, .ref h0]) ⟨hx, hb, hml, hown, hts⟩ (c_X0_makeWord l v48 v32) gX0_transfer_X0_makeWord rfl rfl rfl (by decide +kernel) ⟨Nat.le_of_ble_eq_true rfl, Nat.le_of_ble_eq_true rfl⟩ hl.1 rfl rfl (Nat.le_of_ble_eq_true rfl) dX0_transfer_215 ⟨Nat.zero_le _, Nat.zero_le _⟩ ?_
                  refine tpl (fun v49 e49 => ?_)
                  refine cM_this (Wd := FWd h0 h1 h2 cA cB) (ci := 0) (q0 := 0) (n := 2) (as := [.int 19, .long v49]) (rest := []) ⟨hx, hb, hml, hown, hts⟩ (c_X0_put l D h0 h1 h2 cA cB s47 19 v49 in20_19) gX0_transfer_X0_put rfl rfl rfl (by decide +kernel) ⟨Nat.le_of_ble_eq_true rfl, Nat.le_of_ble_eq_true rfl⟩ hK hP hD hS hA rfl rfl rfl hl.1 rfl rfl (Nat.le_of_ble_eq_true rfl) dX0_transfer_218 ⟨Nat.zero_le _, Nat.zero_le _⟩ (fun H locs hP hD hS => ?_)
                  refine W.eq (g2 := F0 m 221 ls []) rfl ?_
                  obtain ⟨s50, t50⟩ : ∃ z : FS, f_put 19 v49 s47 = z := ⟨_, rfl⟩
                  replace hP : va_P D vwCl (FWd h0 h1 h2 cA cB s50) H := by rw [← t50]; exact hP
                  replace hD : va_D A (FWd h0 h1 h2 cA cB s50) := by rw [← t50]; exact hD
                  refine lv_aload_n hx hb dX0_transfer_221 rfl (lv_at hl 8 rfl) ?_
                  refine lv_iload hx hb dX0_transfer_222 (lv_at hl 4 rfl) ?_
                  refine cM_this (Wd := FWd h0 h1 h2 cA cB) (ci := 0) (q0 := 0) (n := 1) (as := [.int 1]) (rest := []) ⟨hx, hb, hml, hown, hts⟩ (c_X0_answerOf l D h0 h1 h2 cA cB s50 1) gX0_transfer_X0_answerOf rfl rfl rfl (by decide +kernel) ⟨Nat.le_of_ble_eq_true rfl, Nat.le_of_ble_eq_true rfl⟩ hK hP hD hS hA rfl rfl rfl hl.1 rfl rfl (Nat.le_of_ble_eq_true rfl) dX0_transfer_224 ⟨Nat.zero_le _, Nat.zero_le _⟩ (fun H locs hP hD hS => ?_)
                  refine tpi (fun v51 e51 => ?_)
                  have fin : f_transfer f t a st = (v51, s50) := by
                    clear hP hD hS; subst e1; subst e3; subst t7; subst e8; subst t9; subst e10; subst t11; subst e12; subst e13; subst e14; subst e15; subst e18; subst e19; subst e22; subst e25; subst e28; subst e29; subst e30; subst e31; subst e32; subst e33; subst e34; subst e35; subst t36; subst e37; subst e38; subst t39; subst e40; subst e41; subst t42; subst e43; subst e44; subst t45; subst t46; subst t47; subst e48; subst e49; subst t50; subst e51; simp only [f_transfer, f_trB, f_trAcc, f_doTr, f_an2, bI, c2, c4, c5, c6, c16, c20, c23, c26, ↓reduceIte, not_true_eq_false, not_false_eq_true, and_self, and_true, true_and, and_false, false_and, eq_self, i10]
                  exact cM_reti (Wd := FWd h0 h1 h2 cA cB) (st := s50) (st' := (f_transfer f t a st).2) hx hb hr hlocks dX0_transfer_227 hS hP hD (congrArg Prod.fst fin).symm (congrArg Prod.snd fin).symm
        · refine lv_iconst (v := (-1)) hx hb dX0_transfer_23 (by decide) ?_
          have fin : f_transfer f t a st = ((-1), st) := by
            clear hP hD hS; subst e1; subst e3; simp only [f_transfer, f_trB, f_trAcc, f_doTr, f_an2, bI, c2, c4, c5, c6, ↓reduceIte, not_true_eq_false, not_false_eq_true, and_self, and_true, true_and, and_false, false_and, eq_self, i10]
          exact cM_reti (Wd := FWd h0 h1 h2 cA cB) (st := st) (st' := (f_transfer f t a st).2) hx hb hr hlocks dX0_transfer_24 hS hP hD (congrArg Prod.fst fin).symm (congrArg Prod.snd fin).symm
end
section
/-! MOUNT AND TOTAL AS FUNCTIONS -/
/-- restoreCell: what one plane does to (invalid, best, state) -/
def f_rest1 (c p : Int32) (x : Int32 × Int64 × FS) : Int32 × Int64 × FS :=
  (if f_valid (f_read p c x.2.2).1 = 0 then x.1 + 1 else x.1, f_better x.2.1 (f_read p c x.2.2).1,
    f_write p c (f_read p c x.2.2).1 (if p = 3 ∧ ¬ (f_read p c x.2.2).2.2.2.1 = 0 then ((f_read p c x.2.2).2.1, upd (f_read p c x.2.2).2.2.1 c.toNatClampNeg (if f_valid (f_read p c x.2.2).1 = 0 then x.1 + 1 else x.1), (f_read p c x.2.2).2.2.2) else (f_read p c x.2.2).2))
def f_wo1 (c : Int32) (b : Int64) (p : Int32) (s : FS) : FS := if s.1 (f_slot p c).toNatClampNeg = b then s else f_write p c b s
def f_wo (c : Int32) (b : Int64) (s : FS) : FS := f_wo1 c b 3 (f_wo1 c b 2 (f_wo1 c b 1 (f_wo1 c b 0 s)))
def f_restS (c : Int32) (s : FS) : Int32 × Int64 × FS := f_rest1 c 3 (f_rest1 c 2 (f_rest1 c 1 (f_rest1 c 0 (0, 0, s))))
def f_rest (c : Int32) (s : FS) : FS := if f_valid (f_restS c s).2.1 = 0 then (f_restS c s).2.2 else f_wo c (f_restS c s).2.1 (f_restS c s).2.2
def f_cells : List Int32 := [0, 1, 2, 3, 4, 5, 6, 7, 8, 9, 10, 11, 12, 13, 14, 15, 16, 17, 18, 19]
def f_accts : List Int32 := [0, 1, 2, 3, 4, 5, 6, 7, 8, 9, 10, 11, 12, 13, 14, 15]
def f_rests (s : FS) : FS := f_cells.foldl (fun s c => f_rest c s) s
abbrev f_okc (s : FS) (c : Int32) : Prop := ¬ f_valid (f_found c s) = 0 ∧ f_num (f_found c s) = f_num (f_found 16 s)
def f_pend (s : FS) : Int32 := bI (f_okc s 16 ∧ f_okc s 17 ∧ f_okc s 18 ∧ f_okc s 19 ∧ ¬ (f_bal (f_found 19 s) &&& 65536) = 0 ∧ ¬ f_acct (f_from (f_bal (f_found 19 s))) = 0 ∧ ¬ f_acct (f_to (f_bal (f_found 19 s))) = 0)
theorem pend_acc {s : FS} (h : ¬ f_pend s = 0) : ¬ f_acct (f_from (f_bal (f_found 19 s))) = 0 ∧ ¬ f_acct (f_to (f_bal (f_found 19 s))) = 0 := (bI_ne.mp h).2.2.2.2.2
def f_finA (a ch nn : Int32) (s : FS) : FS := if ¬ f_valid (f_found a s) = 0 ∧ ¬ nn ≤ f_num (f_found a s) then f_put a (f_make (f_bal (f_found a s) + ch) nn) s else s
def f_fin1 (s : FS) : FS := f_finA (f_from (f_bal (f_found 19 s))) (-(f_bal (f_found 16 s))) (f_bal (f_found 17 s)) s
def f_fin2 (r m : Int32) (s : FS) : FS := f_finA (f_to r) m (f_bal (f_found 18 s)) s
def f_fin (s : FS) : FS := f_put 19 (f_make (f_bal (f_found 19 s) - 65536 + 131072) (f_num (f_found 19 s))) (f_fin2 (f_bal (f_found 19 s)) (f_bal (f_found 16 s)) (f_fin1 s))
def f_fp (s : FS) : FS := if s.2.2.1 = 0 then s else if f_pend s = 0 then s else f_fin s
def f_mount (s : FS) : Int32 × FS := f_an2 1 (f_fp (f_rests (s.1, s.2.1, 1, s.2.2.2.1, s.2.2.2.2.1, s.2.2.2.2.2)))
def f_tot1 (c : Int32) (x : Int64 × FS) : Int64 × FS := (if f_isop (f_look c x.2).1 = 0 then x.1 else x.1 + (f_bal (f_look c x.2).1).toInt64, (f_look c x.2).2)
def f_tot (s : FS) : Int64 × FS := f_accts.foldl (fun x c => f_tot1 c x) (0, s)
def f_total (s : FS) : Int64 × FS := (if (f_tot s).2.2.2.1 = 0 then 4398046511104 else (f_tot s).1, (f_tot s).2)
theorem in16_0 : vp_in 0 16 := by unfold vp_in; decide
theorem in16_1 : vp_in 1 16 := by unfold vp_in; decide
theorem in16_2 : vp_in 2 16 := by unfold vp_in; decide
theorem in16_3 : vp_in 3 16 := by unfold vp_in; decide
theorem in16_4 : vp_in 4 16 := by unfold vp_in; decide
theorem in16_5 : vp_in 5 16 := by unfold vp_in; decide
theorem in16_6 : vp_in 6 16 := by unfold vp_in; decide
theorem in16_7 : vp_in 7 16 := by unfold vp_in; decide
theorem in16_8 : vp_in 8 16 := by unfold vp_in; decide
theorem in16_9 : vp_in 9 16 := by unfold vp_in; decide
theorem in16_10 : vp_in 10 16 := by unfold vp_in; decide
theorem in16_11 : vp_in 11 16 := by unfold vp_in; decide
theorem in16_12 : vp_in 12 16 := by unfold vp_in; decide
theorem in16_13 : vp_in 13 16 := by unfold vp_in; decide
theorem in16_14 : vp_in 14 16 := by unfold vp_in; decide
theorem in16_15 : vp_in 15 16 := by unfold vp_in; decide
theorem in20_0 : vp_in 0 20 := by unfold vp_in; decide
theorem in20_1 : vp_in 1 20 := by unfold vp_in; decide
theorem in20_2 : vp_in 2 20 := by unfold vp_in; decide
theorem in20_3 : vp_in 3 20 := by unfold vp_in; decide
theorem in20_4 : vp_in 4 20 := by unfold vp_in; decide
theorem in20_5 : vp_in 5 20 := by unfold vp_in; decide
theorem in20_6 : vp_in 6 20 := by unfold vp_in; decide
theorem in20_7 : vp_in 7 20 := by unfold vp_in; decide
theorem in20_8 : vp_in 8 20 := by unfold vp_in; decide
theorem in20_9 : vp_in 9 20 := by unfold vp_in; decide
theorem in20_10 : vp_in 10 20 := by unfold vp_in; decide
theorem in20_11 : vp_in 11 20 := by unfold vp_in; decide
theorem in20_12 : vp_in 12 20 := by unfold vp_in; decide
theorem in20_13 : vp_in 13 20 := by unfold vp_in; decide
theorem in20_14 : vp_in 14 20 := by unfold vp_in; decide
theorem in20_15 : vp_in 15 20 := by unfold vp_in; decide
end
section
abbrev rmX0_writeWhereOther : Room := { frames := 3, cells := 0, slots := 0, locals := 64 }
-- writeWhereOther
set_option maxHeartbeats 400000 in
set_option maxRecDepth 100000 in
theorem c_X0_writeWhereOther (l : Launch) (D : va_G) (h0 h1 h2 : Nat) (cA cB : ClassId) (st : FS) (a : Int32) (v : Int64) (hc : vp_in a 20) : cM l D vwCl (FT cA cB) (FWd h0 h1 h2 cA cB) yX0_writeWhereOther wsX0_writeWhereOther rmX0_writeWhereOther [.ref h0, .int a, .long v] st none (f_wo a v st) := by
  refine cM_in (cc := cX0_writeWhereOther) (maxL := 5) (ret := none) (by decide) rfl (Nat.le_of_ble_eq_true rfl) ?_
  intro p e s m below meth c ls A hx hb hr hlocks hml hown hts hA hK hP hD hS hl
  have hown : s.vm.findClass RX0 = some m.cls := hown
  have hl : lv_has ls 5 [(0, .ref h0), (1, .int a), (2, .long v)] := hl
  -- walk
  have B : ∀ (Q : State → Prop) (k k' : Int32) (s0 : FS) (H : Heap) (locs : List Loc) (ls : Array Slot), vp_in k 4 → k + 1 = k' → va_P D vwCl (FWd h0 h1 h2 cA cB s0) H → va_D A (FWd h0 h1 h2 cA cB s0) → va_S A s.heap H locs → lv_has ls 5 [(0, .ref h0), (1, .int a), (2, .long v), (4, .int k)] → (∀ (z : FS) (H : Heap) (locs : List Loc) (ls : Array Slot), f_wo1 a v k s0 = z → va_P D vwCl (FWd h0 h1 h2 cA cB z) H → va_D A (FWd h0 h1 h2 cA cB z) → va_S A s.heap H locs → lv_has ls 5 [(0, .ref h0), (1, .int a), (2, .long v), (4, .int k')] → W p l e rmX0_writeWhereOther s m ([.ref h0, .int a, .long v] : List Value).toArray below meth c H locs 0 0 Q (F0 m 3 ls [])) → W p l e rmX0_writeWhereOther s m ([.ref h0, .int a, .long v] : List Value).toArray below meth c H locs 0 0 Q (F0 m 9 ls []) := by
    intro Q k k' s0 H locs ls hk hk2 hP hD hS hl K
    refine lv_aload_n hx hb dX0_writeWhereOther_9 rfl (lv_at hl 0 rfl) ?_
    refine va_get (D := D) (ci := 0) (v := .ref h1) (C := RX0) (T := TX0) (N := 6) hx hb hts (by decide +kernel) hown hK hP 0 rfl rfl 0 (by decide) (hts (.fieldLink RX0 9 "FadeLedger" "memory" "[J") (by decide +kernel)) (fun _ h9 => h9) rfl dX0_writeWhereOther_10 ?_
    refine lv_iload hx hb dX0_writeWhereOther_13 (lv_at hl 3 rfl) ?_
    refine lv_iload_n hx hb dX0_writeWhereOther_15 rfl (lv_at hl 1 rfl) ?_
    refine cS_call (n := 2) (as := [.int k, .int a]) (rest := [.ref h1]) ⟨hx, hb, hml, hown, hts⟩ (c_X0_slot l k a) gX0_writeWhereOther_X0_slot rfl rfl rfl (by decide +kernel) ⟨Nat.le_of_ble_eq_true rfl, Nat.le_of_ble_eq_true rfl⟩ hl.1 rfl rfl (Nat.le_of_ble_eq_true rfl) dX0_writeWhereOther_16 ⟨Nat.zero_le _, Nat.zero_le _⟩ ?_
    refine tpi (fun v1 e1 => ?_)
    refine va_lald hx hb hK hP 1 0 rfl rfl (by rw [← e1]; exact slot_in hk hc) dX0_writeWhereOther_19 ?_
    refine tpl (fun v2 e2 => ?_)
    refine lv_lload_n hx hb dX0_writeWhereOther_20 rfl (lv_at hl 2 rfl) ?_
    refine W.lcmp hx hb dX0_writeWhereOther_21 ?_
    refine tpi (fun v3 e3 => ?_)
    refine lv_if_eq (tgt := 33) hx hb dX0_writeWhereOther_22 (by decide) (fun c4 => ?_) (fun c4 => ?_)
    · refine lv_iinc (v := k') (lv' := [(4, .int k'), (0, .ref h0), (1, .int a), (2, .long v)]) hx hb dX0_writeWhereOther_33 hl (k := 3) rfl (by rw [← hk2]; rfl) (by decide) rfl (fun ls hl => ?_)
      refine lv_goto (tgt := 3) hx hb dX0_writeWhereOther_36 (by decide) ?_
      exact K s0 _ _ _ (by clear hP hD hS; subst e1; subst e2; subst e3; simp only [lg_cmp_eq] at c4; simp only [f_wo1, c4, ↓reduceIte, not_true_eq_false, not_false_eq_true, and_self, and_true, true_and, and_false, false_and, eq_self]) hP hD hS (lv_sub hl [1, 2, 3, 0] rfl)
    · refine lv_aload_n hx hb dX0_writeWhereOther_25 rfl (lv_at hl 0 rfl) ?_
      refine lv_iload hx hb dX0_writeWhereOther_26 (lv_at hl 3 rfl) ?_
      refine lv_iload_n hx hb dX0_writeWhereOther_28 rfl (lv_at hl 1 rfl) ?_
      refine lv_lload_n hx hb dX0_writeWhereOther_29 rfl (lv_at hl 2 rfl) ?_
      refine cM_this (Wd := FWd h0 h1 h2 cA cB) (ci := 0) (q0 := 0) (n := 3) (as := [.int k, .int a, .long v]) (rest := []) ⟨hx, hb, hml, hown, hts⟩ (c_X0_writeTurn l D h0 h1 h2 cA cB s0 k a v hk hc) gX0_writeWhereOther_X0_writeTurn rfl rfl rfl (by decide +kernel) ⟨Nat.le_of_ble_eq_true rfl, Nat.le_of_ble_eq_true rfl⟩ hK hP hD hS hA rfl rfl rfl hl.1 rfl rfl (Nat.le_of_ble_eq_true rfl) dX0_writeWhereOther_30 ⟨Nat.zero_le _, Nat.zero_le _⟩ (fun H locs hP hD hS => ?_)
      refine W.eq (g2 := F0 m 33 ls []) rfl ?_
      obtain ⟨s5, t5⟩ : ∃ z : FS, f_write k a v s0 = z := ⟨_, rfl⟩
      replace hP : va_P D vwCl (FWd h0 h1 h2 cA cB s5) H := by rw [← t5]; exact hP
      replace hD : va_D A (FWd h0 h1 h2 cA cB s5) := by rw [← t5]; exact hD
      refine lv_iinc (v := k') (lv' := [(4, .int k'), (0, .ref h0), (1, .int a), (2, .long v)]) hx hb dX0_writeWhereOther_33 hl (k := 3) rfl (by rw [← hk2]; rfl) (by decide) rfl (fun ls hl => ?_)
      refine lv_goto (tgt := 3) hx hb dX0_writeWhereOther_36 (by decide) ?_
      exact K s5 _ _ _ (by clear hP hD hS; subst e1; subst e2; subst e3; subst t5; simp only [lg_cmp_eq] at c4; simp only [f_wo1, c4, ↓reduceIte, not_true_eq_false, not_false_eq_true, and_self, and_true, true_and, and_false, false_and, eq_self]) hP hD hS (lv_sub hl [1, 2, 3, 0] rfl)
  refine lv_iconst (v := 0) hx hb dX0_writeWhereOther_0 (by decide) ?_
  refine lv_istore (lv' := [(4, .int 0), (0, .ref h0), (1, .int a), (2, .long v)]) hx hb dX0_writeWhereOther_1 hl (by decide) rfl (fun ls hl => ?_)
  refine lv_iload hx hb dX0_writeWhereOther_3 (lv_at hl 0 rfl) ?_
  refine lv_iconst (v := 4) hx hb dX0_writeWhereOther_5 (by decide) ?_
  refine lv_icmp_ge (tgt := 39) hx hb dX0_writeWhereOther_6 (by decide) (fun c0 => absurd c0 (by decide)) (fun _ => ?_)
  refine B _ 0 1 st _ _ _ in4_0 (by decide) hP hD hS (lv_sub hl [1, 2, 3, 0] rfl) (fun z1 H locs ls b1 hP hD hS hl => ?_)
  refine lv_iload hx hb dX0_writeWhereOther_3 (lv_at hl 3 rfl) ?_
  refine lv_iconst (v := 4) hx hb dX0_writeWhereOther_5 (by decide) ?_
  refine lv_icmp_ge (tgt := 39) hx hb dX0_writeWhereOther_6 (by decide) (fun c0 => absurd c0 (by decide)) (fun _ => ?_)
  refine B _ 1 2 z1 _ _ _ in4_1 (by decide) hP hD hS (lv_sub hl [0, 1, 2, 3] rfl) (fun z2 H locs ls b2 hP hD hS hl => ?_)
  refine lv_iload hx hb dX0_writeWhereOther_3 (lv_at hl 3 rfl) ?_
  refine lv_iconst (v := 4) hx hb dX0_writeWhereOther_5 (by decide) ?_
  refine lv_icmp_ge (tgt := 39) hx hb dX0_writeWhereOther_6 (by decide) (fun c0 => absurd c0 (by decide)) (fun _ => ?_)
  refine B _ 2 3 z2 _ _ _ in4_2 (by decide) hP hD hS (lv_sub hl [0, 1, 2, 3] rfl) (fun z3 H locs ls b3 hP hD hS hl => ?_)
  refine lv_iload hx hb dX0_writeWhereOther_3 (lv_at hl 3 rfl) ?_
  refine lv_iconst (v := 4) hx hb dX0_writeWhereOther_5 (by decide) ?_
  refine lv_icmp_ge (tgt := 39) hx hb dX0_writeWhereOther_6 (by decide) (fun c0 => absurd c0 (by decide)) (fun _ => ?_)
  refine B _ 3 4 z3 _ _ _ in4_3 (by decide) hP hD hS (lv_sub hl [0, 1, 2, 3] rfl) (fun z4 H locs ls b4 hP hD hS hl => ?_)
  refine lv_iload hx hb dX0_writeWhereOther_3 (lv_at hl 3 rfl) ?_
  refine lv_iconst (v := 4) hx hb dX0_writeWhereOther_5 (by decide) ?_
  refine lv_icmp_ge (tgt := 39) hx hb dX0_writeWhereOther_6 (by decide) (fun _ => ?_) (fun c0 => absurd c0 (by decide))
  have fin : (f_wo a v st) = z4 := by clear hP hD hS; simp only [f_wo, b1, b2, b3, b4, ↓reduceIte, not_true_eq_false, not_false_eq_true, and_self, and_true, true_and, and_false, false_and, eq_self]
  exact cM_retv (Wd := FWd h0 h1 h2 cA cB) (st := z4) (st' := (f_wo a v st)) hx hb hr hlocks dX0_writeWhereOther_39 hS hP hD fin.symm
abbrev rmX0_restoreCell : Room := { frames := 4, cells := 0, slots := 0, locals := 88 }
-- restoreCell
set_option maxHeartbeats 400000 in
set_option maxRecDepth 100000 in
theorem c_X0_restoreCell (l : Launch) (D : va_G) (h0 h1 h2 : Nat) (cA cB : ClassId) (st : FS) (a : Int32) (hc : vp_in a 20) : cM l D vwCl (FT cA cB) (FWd h0 h1 h2 cA cB) yX0_restoreCell wsX0_restoreCell rmX0_restoreCell [.ref h0, .int a] st none (f_rest a st) := by
  refine cM_in (cc := cX0_restoreCell) (maxL := 8) (ret := none) (by decide) rfl (Nat.le_of_ble_eq_true rfl) ?_
  intro p e s m below meth c ls A hx hb hr hlocks hml hown hts hA hK hP hD hS hl
  have hown : s.vm.findClass RX0 = some m.cls := hown
  have hl : lv_has ls 8 [(0, .ref h0), (1, .int a)] := hl
  -- walk
  have B : ∀ (Q : State → Prop) (k k' : Int32) (i0 : Int32) (b0 : Int64) (s0 : FS) (H : Heap) (locs : List Loc) (ls : Array Slot), vp_in k 4 → k + 1 = k' → va_P D vwCl (FWd h0 h1 h2 cA cB s0) H → va_D A (FWd h0 h1 h2 cA cB s0) → va_S A s.heap H locs → lv_has ls 8 [(0, .ref h0), (1, .int a), (2, .int i0), (3, .long b0), (5, .int k)] → (∀ (i : Int32) (g : Int64) (z : FS) (H : Heap) (locs : List Loc) (ls : Array Slot), f_rest1 a k (i0, b0, s0) = (i, g, z) → va_P D vwCl (FWd h0 h1 h2 cA cB z) H → va_D A (FWd h0 h1 h2 cA cB z) → va_S A s.heap H locs → lv_has ls 8 [(0, .ref h0), (1, .int a), (2, .int i), (3, .long g), (5, .int k')] → W p l e rmX0_restoreCell s m ([.ref h0, .int a] : List Value).toArray below meth c H locs 0 0 Q (F0 m 7 ls [])) → W p l e rmX0_restoreCell s m ([.ref h0, .int a] : List Value).toArray below meth c H locs 0 0 Q (F0 m 13 ls []) := by
    intro Q k k' i0 b0 s0 H locs ls hk hk2 hP hD hS hl K
    refine lv_aload_n hx hb dX0_restoreCell_13 rfl (lv_at hl 0 rfl) ?_
    refine lv_iload hx hb dX0_restoreCell_14 (lv_at hl 4 rfl) ?_
    refine lv_iload_n hx hb dX0_restoreCell_16 rfl (lv_at hl 1 rfl) ?_
    refine cM_this (Wd := FWd h0 h1 h2 cA cB) (ci := 0) (q0 := 0) (n := 2) (as := [.int k, .int a]) (rest := []) ⟨hx, hb, hml, hown, hts⟩ (c_X0_readTurn l D h0 h1 h2 cA cB s0 k a hk hc) gX0_restoreCell_X0_readTurn rfl rfl rfl (by decide +kernel) ⟨Nat.le_of_ble_eq_true rfl, Nat.le_of_ble_eq_true rfl⟩ hK hP hD hS hA rfl rfl rfl hl.1 rfl rfl (Nat.le_of_ble_eq_true rfl) dX0_restoreCell_17 ⟨Nat.zero_le _, Nat.zero_le _⟩ (fun H locs hP hD hS => ?_)
    obtain ⟨s1, t1⟩ : ∃ z : FS, (f_read k a s0).2 = z := ⟨_, rfl⟩
    replace hP : va_P D vwCl (FWd h0 h1 h2 cA cB s1) H := by rw [← t1]; exact hP
    replace hD : va_D A (FWd h0 h1 h2 cA cB s1) := by rw [← t1]; exact hD
    refine tpl (fun v2 e2 => ?_)
    refine lv_lstore (lv' := [(6, .long v2), (0, .ref h0), (1, .int a), (2, .int i0), (3, .long b0), (5, .int k)]) hx hb dX0_restoreCell_20 hl (by decide) rfl (fun ls hl => ?_)
    refine lv_lload_n hx hb dX0_restoreCell_22 rfl (lv_at hl 4 rfl) ?_
    refine lv_lload hx hb dX0_restoreCell_23 (lv_at hl 0 rfl) ?_
    refine cS_call (n := 2) (as := [.long b0, .long v2]) (rest := []) ⟨hx, hb, hml, hown, hts⟩ (c_X0_betterOf l b0 v2) gX0_restoreCell_X0_betterOf rfl rfl rfl (by decide +kernel) ⟨Nat.le_of_ble_eq_true rfl, Nat.le_of_ble_eq_true rfl⟩ hl.1 rfl rfl (Nat.le_of_ble_eq_true rfl) dX0_restoreCell_25 ⟨Nat.zero_le _, Nat.zero_le _⟩ ?_
    refine tpl (fun v3 e3 => ?_)
    refine lv_lstore_n (lv' := [(3, .long v3), (6, .long v2), (0, .ref h0), (1, .int a), (2, .int i0), (5, .int k)]) hx hb dX0_restoreCell_28 rfl hl (by decide) rfl (fun ls hl => ?_)
    refine lv_lload hx hb dX0_restoreCell_29 (lv_at hl 1 rfl) ?_
    refine cS_call (n := 1) (as := [.long v2]) (rest := []) ⟨hx, hb, hml, hown, hts⟩ (c_X0_isValid l v2) gX0_restoreCell_X0_isValid rfl rfl rfl (by decide +kernel) ⟨Nat.le_of_ble_eq_true rfl, Nat.le_of_ble_eq_true rfl⟩ hl.1 rfl rfl (Nat.le_of_ble_eq_true rfl) dX0_restoreCell_31 ⟨Nat.zero_le _, Nat.zero_le _⟩ ?_
    refine tpi (fun v4 e4 => ?_)
    refine lv_if_ne (tgt := 40) hx hb dX0_restoreCell_34 (by decide) (fun c5 => ?_) (fun c5 => ?_)
    · refine lv_iload hx hb dX0_restoreCell_40 (lv_at hl 5 rfl) ?_
      refine lv_iconst (v := 3) hx hb dX0_restoreCell_42 (by decide) ?_
      refine lv_icmp_ne (tgt := 60) hx hb dX0_restoreCell_43 (by decide) (fun c6 => ?_) (fun c6 => ?_)
      · refine lv_aload_n hx hb dX0_restoreCell_60 rfl (lv_at hl 2 rfl) ?_
        refine lv_iload hx hb dX0_restoreCell_61 (lv_at hl 5 rfl) ?_
        refine lv_iload_n hx hb dX0_restoreCell_63 rfl (lv_at hl 3 rfl) ?_
        refine lv_lload hx hb dX0_restoreCell_64 (lv_at hl 1 rfl) ?_
        refine cM_this (Wd := FWd h0 h1 h2 cA cB) (ci := 0) (q0 := 0) (n := 3) (as := [.int k, .int a, .long v2]) (rest := []) ⟨hx, hb, hml, hown, hts⟩ (c_X0_writeTurn l D h0 h1 h2 cA cB s1 k a v2 hk hc) gX0_restoreCell_X0_writeTurn rfl rfl rfl (by decide +kernel) ⟨Nat.le_of_ble_eq_true rfl, Nat.le_of_ble_eq_true rfl⟩ hK hP hD hS hA rfl rfl rfl hl.1 rfl rfl (Nat.le_of_ble_eq_true rfl) dX0_restoreCell_66 ⟨Nat.zero_le _, Nat.zero_le _⟩ (fun H locs hP hD hS => ?_)
        refine W.eq (g2 := F0 m 69 ls []) rfl ?_
        obtain ⟨s7, t7⟩ : ∃ z : FS, f_write k a v2 s1 = z := ⟨_, rfl⟩
        replace hP : va_P D vwCl (FWd h0 h1 h2 cA cB s7) H := by rw [← t7]; exact hP
        replace hD : va_D A (FWd h0 h1 h2 cA cB s7) := by rw [← t7]; exact hD
        refine lv_iinc (v := k') (lv' := [(5, .int k'), (3, .long v3), (6, .long v2), (0, .ref h0), (1, .int a), (2, .int i0)]) hx hb dX0_restoreCell_69 hl (k := 5) rfl (by rw [← hk2]; rfl) (by decide) rfl (fun ls hl => ?_)
        refine lv_goto (tgt := 7) hx hb dX0_restoreCell_72 (by decide) ?_
        exact K i0 v3 s7 _ _ _ (by clear hP hD hS; subst t1; subst e2; subst e3; subst e4; subst t7; simp only [f_rest1, c5, c6, ↓reduceIte, not_true_eq_false, not_false_eq_true, and_self, and_true, true_and, and_false, false_and, eq_self]) hP hD hS (lv_sub hl [3, 4, 5, 1, 0] rfl)
      · refine lv_aload_n hx hb dX0_restoreCell_46 rfl (lv_at hl 2 rfl) ?_
        refine va_get (D := D) (ci := 0) (v := .int s1.2.2.1) (C := RX0) (T := TX0) (N := 6) hx hb hts (by decide +kernel) hown hK hP 0 rfl rfl 2 (by decide) (hts (.fieldLink RX0 17 "FadeLedger" "powered" "Z") (by decide +kernel)) (fun _ h9 => h9) rfl dX0_restoreCell_47 ?_
        refine tpi (fun v8 e8 => ?_)
        refine lv_if_eq (tgt := 60) hx hb dX0_restoreCell_50 (by decide) (fun c9 => ?_) (fun c9 => ?_)
        · refine lv_aload_n hx hb dX0_restoreCell_60 rfl (lv_at hl 2 rfl) ?_
          refine lv_iload hx hb dX0_restoreCell_61 (lv_at hl 5 rfl) ?_
          refine lv_iload_n hx hb dX0_restoreCell_63 rfl (lv_at hl 3 rfl) ?_
          refine lv_lload hx hb dX0_restoreCell_64 (lv_at hl 1 rfl) ?_
          refine cM_this (Wd := FWd h0 h1 h2 cA cB) (ci := 0) (q0 := 0) (n := 3) (as := [.int k, .int a, .long v2]) (rest := []) ⟨hx, hb, hml, hown, hts⟩ (c_X0_writeTurn l D h0 h1 h2 cA cB s1 k a v2 hk hc) gX0_restoreCell_X0_writeTurn rfl rfl rfl (by decide +kernel) ⟨Nat.le_of_ble_eq_true rfl, Nat.le_of_ble_eq_true rfl⟩ hK hP hD hS hA rfl rfl rfl hl.1 rfl rfl (Nat.le_of_ble_eq_true rfl) dX0_restoreCell_66 ⟨Nat.zero_le _, Nat.zero_le _⟩ (fun H locs hP hD hS => ?_)
          refine W.eq (g2 := F0 m 69 ls []) rfl ?_
          obtain ⟨s10, t10⟩ : ∃ z : FS, f_write k a v2 s1 = z := ⟨_, rfl⟩
          replace hP : va_P D vwCl (FWd h0 h1 h2 cA cB s10) H := by rw [← t10]; exact hP
          replace hD : va_D A (FWd h0 h1 h2 cA cB s10) := by rw [← t10]; exact hD
          refine lv_iinc (v := k') (lv' := [(5, .int k'), (3, .long v3), (6, .long v2), (0, .ref h0), (1, .int a), (2, .int i0)]) hx hb dX0_restoreCell_69 hl (k := 5) rfl (by rw [← hk2]; rfl) (by decide) rfl (fun ls hl => ?_)
          refine lv_goto (tgt := 7) hx hb dX0_restoreCell_72 (by decide) ?_
          exact K i0 v3 s10 _ _ _ (by clear hP hD hS; subst t1; subst e2; subst e3; subst e4; subst e8; subst t10; subst c6; simp only [f_rest1, c5, c9, ↓reduceIte, not_true_eq_false, not_false_eq_true, and_self, and_true, true_and, and_false, false_and, eq_self]) hP hD hS (lv_sub hl [3, 4, 5, 1, 0] rfl)
        · refine lv_aload_n hx hb dX0_restoreCell_53 rfl (lv_at hl 2 rfl) ?_
          refine va_get (D := D) (ci := 0) (v := .ref h2) (C := RX0) (T := TX0) (N := 6) hx hb hts (by decide +kernel) hown hK hP 0 rfl rfl 1 (by decide) (hts (.fieldLink RX0 13 "FadeLedger" "invalidPlanes" "[I") (by decide +kernel)) (fun _ h9 => h9) rfl dX0_restoreCell_54 ?_
          refine lv_iload_n hx hb dX0_restoreCell_57 rfl (lv_at hl 3 rfl) ?_
          refine lv_iload_n hx hb dX0_restoreCell_58 rfl (lv_at hl 4 rfl) ?_
          refine va_iast hx hb hK hP hD hS 2 1 rfl rfl hc dX0_restoreCell_59 (fun H locs hP hD hS => ?_)
          obtain ⟨s11, t11⟩ : ∃ z : FS, ((s1.1, upd s1.2.1 a.toNatClampNeg i0, s1.2.2.1, s1.2.2.2.1, s1.2.2.2.2.1, s1.2.2.2.2.2) : FS) = z := ⟨_, rfl⟩
          replace hP : va_P D vwCl (FWd h0 h1 h2 cA cB s11) H := by rw [← t11]; exact hP
          replace hD : va_D A (FWd h0 h1 h2 cA cB s11) := by rw [← t11]; exact hD
          refine lv_aload_n hx hb dX0_restoreCell_60 rfl (lv_at hl 2 rfl) ?_
          refine lv_iload hx hb dX0_restoreCell_61 (lv_at hl 5 rfl) ?_
          refine lv_iload_n hx hb dX0_restoreCell_63 rfl (lv_at hl 3 rfl) ?_
          refine lv_lload hx hb dX0_restoreCell_64 (lv_at hl 1 rfl) ?_
          refine cM_this (Wd := FWd h0 h1 h2 cA cB) (ci := 0) (q0 := 0) (n := 3) (as := [.int k, .int a, .long v2]) (rest := []) ⟨hx, hb, hml, hown, hts⟩ (c_X0_writeTurn l D h0 h1 h2 cA cB s11 k a v2 hk hc) gX0_restoreCell_X0_writeTurn rfl rfl rfl (by decide +kernel) ⟨Nat.le_of_ble_eq_true rfl, Nat.le_of_ble_eq_true rfl⟩ hK hP hD hS hA rfl rfl rfl hl.1 rfl rfl (Nat.le_of_ble_eq_true rfl) dX0_restoreCell_66 ⟨Nat.zero_le _, Nat.zero_le _⟩ (fun H locs hP hD hS => ?_)
          refine W.eq (g2 := F0 m 69 ls []) rfl ?_
          obtain ⟨s12, t12⟩ : ∃ z : FS, f_write k a v2 s11 = z := ⟨_, rfl⟩
          replace hP : va_P D vwCl (FWd h0 h1 h2 cA cB s12) H := by rw [← t12]; exact hP
          replace hD : va_D A (FWd h0 h1 h2 cA cB s12) := by rw [← t12]; exact hD
          refine lv_iinc (v := k') (lv' := [(5, .int k'), (3, .long v3), (6, .long v2), (0, .ref h0), (1, .int a), (2, .int i0)]) hx hb dX0_restoreCell_69 hl (k := 5) rfl (by rw [← hk2]; rfl) (by decide) rfl (fun ls hl => ?_)
          refine lv_goto (tgt := 7) hx hb dX0_restoreCell_72 (by decide) ?_
          exact K i0 v3 s12 _ _ _ (by clear hP hD hS; subst t1; subst e2; subst e3; subst e4; subst e8; subst t11; subst t12; subst c6; simp only [f_rest1, c5, c9, ↓reduceIte, not_true_eq_false, not_false_eq_true, and_self, and_true, true_and, and_false, false_and, eq_self]) hP hD hS (lv_sub hl [3, 4, 5, 1, 0] rfl)
    · obtain ⟨v13, e13⟩ : ∃ y : Int32, i0 + 1 = y := ⟨_, rfl⟩
      refine lv_iinc (v := v13) (lv' := [(2, .int v13), (3, .long v3), (6, .long v2), (0, .ref h0), (1, .int a), (5, .int k)]) hx hb dX0_restoreCell_37 hl (k := 4) rfl (by rw [← e13]; rfl) (by decide) rfl (fun ls hl => ?_)
      refine lv_iload hx hb dX0_restoreCell_40 (lv_at hl 5 rfl) ?_
      refine lv_iconst (v := 3) hx hb dX0_restoreCell_42 (by decide) ?_
      refine lv_icmp_ne (tgt := 60) hx hb dX0_restoreCell_43 (by decide) (fun c14 => ?_) (fun c14 => ?_)
      · refine lv_aload_n hx hb dX0_restoreCell_60 rfl (lv_at hl 3 rfl) ?_
        refine lv_iload hx hb dX0_restoreCell_61 (lv_at hl 5 rfl) ?_
        refine lv_iload_n hx hb dX0_restoreCell_63 rfl (lv_at hl 4 rfl) ?_
        refine lv_lload hx hb dX0_restoreCell_64 (lv_at hl 2 rfl) ?_
        refine cM_this (Wd := FWd h0 h1 h2 cA cB) (ci := 0) (q0 := 0) (n := 3) (as := [.int k, .int a, .long v2]) (rest := []) ⟨hx, hb, hml, hown, hts⟩ (c_X0_writeTurn l D h0 h1 h2 cA cB s1 k a v2 hk hc) gX0_restoreCell_X0_writeTurn rfl rfl rfl (by decide +kernel) ⟨Nat.le_of_ble_eq_true rfl, Nat.le_of_ble_eq_true rfl⟩ hK hP hD hS hA rfl rfl rfl hl.1 rfl rfl (Nat.le_of_ble_eq_true rfl) dX0_restoreCell_66 ⟨Nat.zero_le _, Nat.zero_le _⟩ (fun H locs hP hD hS => ?_)
        refine W.eq (g2 := F0 m 69 ls []) rfl ?_
        obtain ⟨s15, t15⟩ : ∃ z : FS, f_write k a v2 s1 = z := ⟨_, rfl⟩
        replace hP : va_P D vwCl (FWd h0 h1 h2 cA cB s15) H := by rw [← t15]; exact hP
        replace hD : va_D A (FWd h0 h1 h2 cA cB s15) := by rw [← t15]; exact hD
        refine lv_iinc (v := k') (lv' := [(5, .int k'), (2, .int v13), (3, .long v3), (6, .long v2), (0, .ref h0), (1, .int a)]) hx hb dX0_restoreCell_69 hl (k := 5) rfl (by rw [← hk2]; rfl) (by decide) rfl (fun ls hl => ?_)
        refine lv_goto (tgt := 7) hx hb dX0_restoreCell_72 (by decide) ?_
        exact K v13 v3 s15 _ _ _ (by clear hP hD hS; subst t1; subst e2; subst e3; subst e4; subst e13; subst t15; simp only [f_rest1, c5, c14, ↓reduceIte, not_true_eq_false, not_false_eq_true, and_self, and_true, true_and, and_false, false_and, eq_self]) hP hD hS (lv_sub hl [4, 5, 1, 2, 0] rfl)
      · refine lv_aload_n hx hb dX0_restoreCell_46 rfl (lv_at hl 3 rfl) ?_
        refine va_get (D := D) (ci := 0) (v := .int s1.2.2.1) (C := RX0) (T := TX0) (N := 6) hx hb hts (by decide +kernel) hown hK hP 0 rfl rfl 2 (by decide) (hts (.fieldLink RX0 17 "FadeLedger" "powered" "Z") (by decide +kernel)) (fun _ h9 => h9) rfl dX0_restoreCell_47 ?_
        refine tpi (fun v16 e16 => ?_)
        refine lv_if_eq (tgt := 60) hx hb dX0_restoreCell_50 (by decide) (fun c17 => ?_) (fun c17 => ?_)
        · refine lv_aload_n hx hb dX0_restoreCell_60 rfl (lv_at hl 3 rfl) ?_
          refine lv_iload hx hb dX0_restoreCell_61 (lv_at hl 5 rfl) ?_
          refine lv_iload_n hx hb dX0_restoreCell_63 rfl (lv_at hl 4 rfl) ?_
          refine lv_lload hx hb dX0_restoreCell_64 (lv_at hl 2 rfl) ?_
          refine cM_this (Wd := FWd h0 h1 h2 cA cB) (ci := 0) (q0 := 0) (n := 3) (as := [.int k, .int a, .long v2]) (rest := []) ⟨hx, hb, hml, hown, hts⟩ (c_X0_writeTurn l D h0 h1 h2 cA cB s1 k a v2 hk hc) gX0_restoreCell_X0_writeTurn rfl rfl rfl (by decide +kernel) ⟨Nat.le_of_ble_eq_true rfl, Nat.le_of_ble_eq_true rfl⟩ hK hP hD hS hA rfl rfl rfl hl.1 rfl rfl (Nat.le_of_ble_eq_true rfl) dX0_restoreCell_66 ⟨Nat.zero_le _, Nat.zero_le _⟩ (fun H locs hP hD hS => ?_)
          refine W.eq (g2 := F0 m 69 ls []) rfl ?_
          obtain ⟨s18, t18⟩ : ∃ z : FS, f_write k a v2 s1 = z := ⟨_, rfl⟩
          replace hP : va_P D vwCl (FWd h0 h1 h2 cA cB s18) H := by rw [← t18]; exact hP
          replace hD : va_D A (FWd h0 h1 h2 cA cB s18) := by rw [← t18]; exact hD
          refine lv_iinc (v := k') (lv' := [(5, .int k'), (2, .int v13), (3, .long v3), (6, .long v2), (0, .ref h0), (1, .int a)]) hx hb dX0_restoreCell_69 hl (k := 5) rfl (by rw [← hk2]; rfl) (by decide) rfl (fun ls hl => ?_)
          refine lv_goto (tgt := 7) hx hb dX0_restoreCell_72 (by decide) ?_
          exact K v13 v3 s18 _ _ _ (by clear hP hD hS; subst t1; subst e2; subst e3; subst e4; subst e13; subst e16; subst t18; subst c14; simp only [f_rest1, c5, c17, ↓reduceIte, not_true_eq_false, not_false_eq_true, and_self, and_true, true_and, and_false, false_and, eq_self]) hP hD hS (lv_sub hl [4, 5, 1, 2, 0] rfl)
        · refine lv_aload_n hx hb dX0_restoreCell_53 rfl (lv_at hl 3 rfl) ?_
          refine va_get (D := D) (ci := 0) (v := .ref h2) (C := RX0) (T := TX0) (N := 6) hx hb hts (by decide +kernel) hown hK hP 0 rfl rfl 1 (by decide) (hts (.fieldLink RX0 13 "FadeLedger" "invalidPlanes" "[I") (by decide +kernel)) (fun _ h9 => h9) rfl dX0_restoreCell_54 ?_
          refine lv_iload_n hx hb dX0_restoreCell_57 rfl (lv_at hl 4 rfl) ?_
          refine lv_iload_n hx hb dX0_restoreCell_58 rfl (lv_at hl 0 rfl) ?_
          refine va_iast hx hb hK hP hD hS 2 1 rfl rfl hc dX0_restoreCell_59 (fun H locs hP hD hS => ?_)
          obtain ⟨s19, t19⟩ : ∃ z : FS, ((s1.1, upd s1.2.1 a.toNatClampNeg v13, s1.2.2.1, s1.2.2.2.1, s1.2.2.2.2.1, s1.2.2.2.2.2) : FS) = z := ⟨_, rfl⟩
          replace hP : va_P D vwCl (FWd h0 h1 h2 cA cB s19) H := by rw [← t19]; exact hP
          replace hD : va_D A (FWd h0 h1 h2 cA cB s19) := by rw [← t19]; exact hD
          refine lv_aload_n hx hb dX0_restoreCell_60 rfl (lv_at hl 3 rfl) ?_
          refine lv_iload hx hb dX0_restoreCell_61 (lv_at hl 5 rfl) ?_
          refine lv_iload_n hx hb dX0_restoreCell_63 rfl (lv_at hl 4 rfl) ?_
          refine lv_lload hx hb dX0_restoreCell_64 (lv_at hl 2 rfl) ?_
          refine cM_this (Wd := FWd h0 h1 h2 cA cB) (ci := 0) (q0 := 0) (n := 3) (as := [.int k, .int a, .long v2]) (rest := []) ⟨hx, hb, hml, hown, hts⟩ (c_X0_writeTurn l D h0 h1 h2 cA cB s19 k a v2 hk hc) gX0_restoreCell_X0_writeTurn rfl rfl rfl (by decide +kernel) ⟨Nat.le_of_ble_eq_true rfl, Nat.le_of_ble_eq_true rfl⟩ hK hP hD hS hA rfl rfl rfl hl.1 rfl rfl (Nat.le_of_ble_eq_true rfl) dX0_restoreCell_66 ⟨Nat.zero_le _, Nat.zero_le _⟩ (fun H locs hP hD hS => ?_)
          refine W.eq (g2 := F0 m 69 ls []) rfl ?_
          obtain ⟨s20, t20⟩ : ∃ z : FS, f_write k a v2 s19 = z := ⟨_, rfl⟩
          replace hP : va_P D vwCl (FWd h0 h1 h2 cA cB s20) H := by rw [← t20]; exact hP
          replace hD : va_D A (FWd h0 h1 h2 cA cB s20) := by rw [← t20]; exact hD
          refine lv_iinc (v := k') (lv' := [(5, .int k'), (2, .int v13), (3, .long v3), (6, .long v2), (0, .ref h0), (1, .int a)]) hx hb dX0_restoreCell_69 hl (k := 5) rfl (by rw [← hk2]; rfl) (by decide) rfl (fun ls hl => ?_)
          refine lv_goto (tgt := 7) hx hb dX0_restoreCell_72 (by decide) ?_
          exact K v13 v3 s20 _ _ _ (by clear hP hD hS; subst t1; subst e2; subst e3; subst e4; subst e13; subst e16; subst t19; subst t20; subst c14; simp only [f_rest1, c5, c17, ↓reduceIte, not_true_eq_false, not_false_eq_true, and_self, and_true, true_and, and_false, false_and, eq_self]) hP hD hS (lv_sub hl [4, 5, 1, 2, 0] rfl)
  refine lv_iconst (v := 0) hx hb dX0_restoreCell_0 (by decide) ?_
  refine lv_istore_n (lv' := [(2, .int 0), (0, .ref h0), (1, .int a)]) hx hb dX0_restoreCell_1 rfl hl (by decide) rfl (fun ls hl => ?_)
  refine lv_lconst (v := 0) hx hb dX0_restoreCell_2 (by decide) ?_
  refine lv_lstore_n (lv' := [(3, .long 0), (2, .int 0), (0, .ref h0), (1, .int a)]) hx hb dX0_restoreCell_3 rfl hl (by decide) rfl (fun ls hl => ?_)
  refine lv_iconst (v := 0) hx hb dX0_restoreCell_4 (by decide) ?_
  refine lv_istore (lv' := [(5, .int 0), (3, .long 0), (2, .int 0), (0, .ref h0), (1, .int a)]) hx hb dX0_restoreCell_5 hl (by decide) rfl (fun ls hl => ?_)
  refine lv_iload hx hb dX0_restoreCell_7 (lv_at hl 0 rfl) ?_
  refine lv_iconst (v := 4) hx hb dX0_restoreCell_9 (by decide) ?_
  refine lv_icmp_ge (tgt := 75) hx hb dX0_restoreCell_10 (by decide) (fun c0 => absurd c0 (by decide)) (fun _ => ?_)
  refine B _ 0 1 0 0 st _ _ _ in4_0 (by decide) hP hD hS (lv_sub hl [3, 4, 2, 1, 0] rfl) (fun i1 g1 z1 H locs ls b1 hP hD hS hl => ?_)
  refine lv_iload hx hb dX0_restoreCell_7 (lv_at hl 4 rfl) ?_
  refine lv_iconst (v := 4) hx hb dX0_restoreCell_9 (by decide) ?_
  refine lv_icmp_ge (tgt := 75) hx hb dX0_restoreCell_10 (by decide) (fun c0 => absurd c0 (by decide)) (fun _ => ?_)
  refine B _ 1 2 i1 g1 z1 _ _ _ in4_1 (by decide) hP hD hS (lv_sub hl [0, 1, 2, 3, 4] rfl) (fun i2 g2 z2 H locs ls b2 hP hD hS hl => ?_)
  refine lv_iload hx hb dX0_restoreCell_7 (lv_at hl 4 rfl) ?_
  refine lv_iconst (v := 4) hx hb dX0_restoreCell_9 (by decide) ?_
  refine lv_icmp_ge (tgt := 75) hx hb dX0_restoreCell_10 (by decide) (fun c0 => absurd c0 (by decide)) (fun _ => ?_)
  refine B _ 2 3 i2 g2 z2 _ _ _ in4_2 (by decide) hP hD hS (lv_sub hl [0, 1, 2, 3, 4] rfl) (fun i3 g3 z3 H locs ls b3 hP hD hS hl => ?_)
  refine lv_iload hx hb dX0_restoreCell_7 (lv_at hl 4 rfl) ?_
  refine lv_iconst (v := 4) hx hb dX0_restoreCell_9 (by decide) ?_
  refine lv_icmp_ge (tgt := 75) hx hb dX0_restoreCell_10 (by decide) (fun c0 => absurd c0 (by decide)) (fun _ => ?_)
  refine B _ 3 4 i3 g3 z3 _ _ _ in4_3 (by decide) hP hD hS (lv_sub hl [0, 1, 2, 3, 4] rfl) (fun i4 g4 z4 H locs ls b4 hP hD hS hl => ?_)
  refine lv_iload hx hb dX0_restoreCell_7 (lv_at hl 4 rfl) ?_
  refine lv_iconst (v := 4) hx hb dX0_restoreCell_9 (by decide) ?_
  refine lv_icmp_ge (tgt := 75) hx hb dX0_restoreCell_10 (by decide) (fun _ => ?_) (fun c0 => absurd c0 (by decide))
  refine lv_lload_n hx hb dX0_restoreCell_75 rfl (lv_at hl 3 rfl) ?_
  refine cS_call (n := 1) (as := [.long g4]) (rest := []) ⟨hx, hb, hml, hown, hts⟩ (c_X0_isValid l g4) gX0_restoreCell_X0_isValid rfl rfl rfl (by decide +kernel) ⟨Nat.le_of_ble_eq_true rfl, Nat.le_of_ble_eq_true rfl⟩ hl.1 rfl rfl (Nat.le_of_ble_eq_true rfl) dX0_restoreCell_76 ⟨Nat.zero_le _, Nat.zero_le _⟩ ?_
  refine tpi (fun v5 e5 => ?_)
  refine lv_if_eq (tgt := 88) hx hb dX0_restoreCell_79 (by decide) (fun c6 => ?_) (fun c6 => ?_)
  · have fin : (f_rest a st) = z4 := by clear hP hD hS; subst e5; simp only [f_rest, f_restS, b1, b2, b3, b4, c6, ↓reduceIte, not_true_eq_false, not_false_eq_true, and_self, and_true, true_and, and_false, false_and, eq_self]
    exact cM_retv (Wd := FWd h0 h1 h2 cA cB) (st := z4) (st' := (f_rest a st)) hx hb hr hlocks dX0_restoreCell_88 hS hP hD fin.symm
  · refine lv_aload_n hx hb dX0_restoreCell_82 rfl (lv_at hl 0 rfl) ?_
    refine lv_iload_n hx hb dX0_restoreCell_83 rfl (lv_at hl 1 rfl) ?_
    refine lv_lload_n hx hb dX0_restoreCell_84 rfl (lv_at hl 3 rfl) ?_
    refine cM_this (Wd := FWd h0 h1 h2 cA cB) (ci := 0) (q0 := 0) (n := 2) (as := [.int a, .long g4]) (rest := []) ⟨hx, hb, hml, hown, hts⟩ (c_X0_writeWhereOther l D h0 h1 h2 cA cB z4 a g4 hc) gX0_restoreCell_X0_writeWhereOther rfl rfl rfl (by decide +kernel) ⟨Nat.le_of_ble_eq_true rfl, Nat.le_of_ble_eq_true rfl⟩ hK hP hD hS hA rfl rfl rfl hl.1 rfl rfl (Nat.le_of_ble_eq_true rfl) dX0_restoreCell_85 ⟨Nat.zero_le _, Nat.zero_le _⟩ (fun H locs hP hD hS => ?_)
    refine W.eq (g2 := F0 m 88 ls []) rfl ?_
    obtain ⟨s7, t7⟩ : ∃ z : FS, f_wo a g4 z4 = z := ⟨_, rfl⟩
    replace hP : va_P D vwCl (FWd h0 h1 h2 cA cB s7) H := by rw [← t7]; exact hP
    replace hD : va_D A (FWd h0 h1 h2 cA cB s7) := by rw [← t7]; exact hD
    have fin : (f_rest a st) = s7 := by clear hP hD hS; subst e5; subst t7; simp only [f_rest, f_restS, b1, b2, b3, b4, c6, ↓reduceIte, not_true_eq_false, not_false_eq_true, and_self, and_true, true_and, and_false, false_and, eq_self]
    exact cM_retv (Wd := FWd h0 h1 h2 cA cB) (st := s7) (st' := (f_rest a st)) hx hb hr hlocks dX0_restoreCell_88 hS hP hD fin.symm
abbrev rmX0_slipIsPending : Room := { frames := 2, cells := 0, slots := 0, locals := 44 }
-- slipIsPending
set_option maxHeartbeats 400000 in
set_option maxRecDepth 100000 in
theorem c_X0_slipIsPending (l : Launch) (D : va_G) (h0 h1 h2 : Nat) (cA cB : ClassId) (st : FS)   : cM l D vwCl (FT cA cB) (FWd h0 h1 h2 cA cB) yX0_slipIsPending wsX0_slipIsPending rmX0_slipIsPending [.ref h0] st (some (.int (f_pend st))) st := by
  refine cM_in (cc := cX0_slipIsPending) (maxL := 5) (ret := (some .boolean)) (by decide) rfl (Nat.le_of_ble_eq_true rfl) ?_
  intro p e s m below meth c ls A hx hb hr hlocks hml hown hts hA hK hP hD hS hl
  have hown : s.vm.findClass RX0 = some m.cls := hown
  have hl : lv_has ls 5 [(0, .ref h0)] := hl
  -- walk
  refine lv_aload_n hx hb dX0_slipIsPending_0 rfl (lv_at hl 0 rfl) ?_
  refine lv_bipush (v := 16) hx hb dX0_slipIsPending_1 (by decide) ?_
  refine cM_this (Wd := FWd h0 h1 h2 cA cB) (ci := 0) (q0 := 0) (n := 1) (as := [.int 16]) (rest := []) ⟨hx, hb, hml, hown, hts⟩ (c_X0_foundIn l D h0 h1 h2 cA cB st 16 in20_16) gX0_slipIsPending_X0_foundIn rfl rfl rfl (by decide +kernel) ⟨Nat.le_of_ble_eq_true rfl, Nat.le_of_ble_eq_true rfl⟩ hK hP hD hS hA rfl rfl rfl hl.1 rfl rfl (Nat.le_of_ble_eq_true rfl) dX0_slipIsPending_3 ⟨Nat.zero_le _, Nat.zero_le _⟩ (fun H locs hP hD hS => ?_)
  refine tpl (fun v1 e1 => ?_)
  refine cS_call (n := 1) (as := [.long v1]) (rest := []) ⟨hx, hb, hml, hown, hts⟩ (c_X0_numberOf l v1) gX0_slipIsPending_X0_numberOf rfl rfl rfl (by decide +kernel) ⟨Nat.le_of_ble_eq_true rfl, Nat.le_of_ble_eq_true rfl⟩ hl.1 rfl rfl (Nat.le_of_ble_eq_true rfl) dX0_slipIsPending_6 ⟨Nat.zero_le _, Nat.zero_le _⟩ ?_
  refine tpi (fun v2 e2 => ?_)
  refine lv_istore_n (lv' := [(1, .int v2), (0, .ref h0)]) hx hb dX0_slipIsPending_9 rfl hl (by decide) rfl (fun ls hl => ?_)
  refine lv_bipush (v := 16) hx hb dX0_slipIsPending_10 (by decide) ?_
  refine lv_istore_n (lv' := [(2, .int 16), (1, .int v2), (0, .ref h0)]) hx hb dX0_slipIsPending_12 rfl hl (by decide) rfl (fun ls hl => ?_)
  refine lv_iload_n hx hb dX0_slipIsPending_13 rfl (lv_at hl 0 rfl) ?_
  refine lv_bipush (v := 19) hx hb dX0_slipIsPending_14 (by decide) ?_
  refine lv_icmp_gt (tgt := 48) hx hb dX0_slipIsPending_16 (by decide) (fun c0 => absurd c0 (by decide)) (fun _ => ?_)
  refine lv_aload_n hx hb dX0_slipIsPending_19 rfl (lv_at hl 2 rfl) ?_
  refine lv_iload_n hx hb dX0_slipIsPending_20 rfl (lv_at hl 0 rfl) ?_
  refine cM_this (Wd := FWd h0 h1 h2 cA cB) (ci := 0) (q0 := 0) (n := 1) (as := [.int 16]) (rest := []) ⟨hx, hb, hml, hown, hts⟩ (c_X0_foundIn l D h0 h1 h2 cA cB st 16 in20_16) gX0_slipIsPending_X0_foundIn rfl rfl rfl (by decide +kernel) ⟨Nat.le_of_ble_eq_true rfl, Nat.le_of_ble_eq_true rfl⟩ hK hP hD hS hA rfl rfl rfl hl.1 rfl rfl (Nat.le_of_ble_eq_true rfl) dX0_slipIsPending_21 ⟨Nat.zero_le _, Nat.zero_le _⟩ (fun H locs hP hD hS => ?_)
  refine tpl (fun v3 e3 => ?_)
  refine lv_lstore_n (lv' := [(3, .long v3), (2, .int 16), (1, .int v2), (0, .ref h0)]) hx hb dX0_slipIsPending_24 rfl hl (by decide) rfl (fun ls hl => ?_)
  refine lv_lload_n hx hb dX0_slipIsPending_25 rfl (lv_at hl 0 rfl) ?_
  refine cS_call (n := 1) (as := [.long v3]) (rest := []) ⟨hx, hb, hml, hown, hts⟩ (c_X0_isValid l v3) gX0_slipIsPending_X0_isValid rfl rfl rfl (by decide +kernel) ⟨Nat.le_of_ble_eq_true rfl, Nat.le_of_ble_eq_true rfl⟩ hl.1 rfl rfl (Nat.le_of_ble_eq_true rfl) dX0_slipIsPending_26 ⟨Nat.zero_le _, Nat.zero_le _⟩ ?_
  refine tpi (fun v4 e4 => ?_)
  refine lv_if_eq (tgt := 40) hx hb dX0_slipIsPending_29 (by decide) (fun c5 => ?_) (fun c5 => ?_)
  · refine lv_iconst (v := 0) hx hb dX0_slipIsPending_40 (by decide) ?_
    have fin : (f_pend st, st) = (0, st) := by
      clear hP hD hS; subst e1; subst e2; subst e3; subst e4; first | exact absurd (by with_reducible rfl) c5 | simp only [f_pend, f_okc, bI, c5, ↓reduceIte, not_true_eq_false, not_false_eq_true, and_self, and_true, true_and, and_false, false_and, eq_self, i10]
    exact cM_retz (Wd := FWd h0 h1 h2 cA cB) (st := st) (st' := st) hx hb hr hlocks dX0_slipIsPending_41 hS hP hD rfl (congrArg Prod.fst fin).symm (congrArg Prod.snd fin).symm
  · refine lv_lload_n hx hb dX0_slipIsPending_32 rfl (lv_at hl 0 rfl) ?_
    refine cS_call (n := 1) (as := [.long v3]) (rest := []) ⟨hx, hb, hml, hown, hts⟩ (c_X0_numberOf l v3) gX0_slipIsPending_X0_numberOf rfl rfl rfl (by decide +kernel) ⟨Nat.le_of_ble_eq_true rfl, Nat.le_of_ble_eq_true rfl⟩ hl.1 rfl rfl (Nat.le_of_ble_eq_true rfl) dX0_slipIsPending_33 ⟨Nat.zero_le _, Nat.zero_le _⟩ ?_
    refine tpi (fun v6 e6 => ?_)
    refine lv_iload_n hx hb dX0_slipIsPending_36 rfl (lv_at hl 2 rfl) ?_
    refine lv_icmp_eq (tgt := 42) hx hb dX0_slipIsPending_37 (by decide) (fun c7 => ?_) (fun c7 => ?_)
    · refine lv_iinc (v := 17) (lv' := [(2, .int 17), (3, .long v3), (1, .int v2), (0, .ref h0)]) hx hb dX0_slipIsPending_42 hl (k := 1) rfl (by decide) (by decide) rfl (fun ls hl => ?_)
      refine lv_goto (tgt := 13) hx hb dX0_slipIsPending_45 (by decide) ?_
      refine lv_iload_n hx hb dX0_slipIsPending_13 rfl (lv_at hl 0 rfl) ?_
      refine lv_bipush (v := 19) hx hb dX0_slipIsPending_14 (by decide) ?_
      refine lv_icmp_gt (tgt := 48) hx hb dX0_slipIsPending_16 (by decide) (fun c0 => absurd c0 (by decide)) (fun _ => ?_)
      refine lv_aload_n hx hb dX0_slipIsPending_19 rfl (lv_at hl 3 rfl) ?_
      refine lv_iload_n hx hb dX0_slipIsPending_20 rfl (lv_at hl 0 rfl) ?_
      refine cM_this (Wd := FWd h0 h1 h2 cA cB) (ci := 0) (q0 := 0) (n := 1) (as := [.int 17]) (rest := []) ⟨hx, hb, hml, hown, hts⟩ (c_X0_foundIn l D h0 h1 h2 cA cB st 17 in20_17) gX0_slipIsPending_X0_foundIn rfl rfl rfl (by decide +kernel) ⟨Nat.le_of_ble_eq_true rfl, Nat.le_of_ble_eq_true rfl⟩ hK hP hD hS hA rfl rfl rfl hl.1 rfl rfl (Nat.le_of_ble_eq_true rfl) dX0_slipIsPending_21 ⟨Nat.zero_le _, Nat.zero_le _⟩ (fun H locs hP hD hS => ?_)
      refine tpl (fun v8 e8 => ?_)
      refine lv_lstore_n (lv' := [(3, .long v8), (2, .int 17), (1, .int v2), (0, .ref h0)]) hx hb dX0_slipIsPending_24 rfl hl (by decide) rfl (fun ls hl => ?_)
      refine lv_lload_n hx hb dX0_slipIsPending_25 rfl (lv_at hl 0 rfl) ?_
      refine cS_call (n := 1) (as := [.long v8]) (rest := []) ⟨hx, hb, hml, hown, hts⟩ (c_X0_isValid l v8) gX0_slipIsPending_X0_isValid rfl rfl rfl (by decide +kernel) ⟨Nat.le_of_ble_eq_true rfl, Nat.le_of_ble_eq_true rfl⟩ hl.1 rfl rfl (Nat.le_of_ble_eq_true rfl) dX0_slipIsPending_26 ⟨Nat.zero_le _, Nat.zero_le _⟩ ?_
      refine tpi (fun v9 e9 => ?_)
      refine lv_if_eq (tgt := 40) hx hb dX0_slipIsPending_29 (by decide) (fun c10 => ?_) (fun c10 => ?_)
      · refine lv_iconst (v := 0) hx hb dX0_slipIsPending_40 (by decide) ?_
        have fin : (f_pend st, st) = (0, st) := by
          clear hP hD hS; subst e1; subst e2; subst e3; subst e4; subst e6; subst e8; subst e9; first | exact absurd (by with_reducible rfl) c10 | simp only [f_pend, f_okc, bI, c5, c10, ↓reduceIte, not_true_eq_false, not_false_eq_true, and_self, and_true, true_and, and_false, false_and, eq_self, i10]
        exact cM_retz (Wd := FWd h0 h1 h2 cA cB) (st := st) (st' := st) hx hb hr hlocks dX0_slipIsPending_41 hS hP hD rfl (congrArg Prod.fst fin).symm (congrArg Prod.snd fin).symm
      · refine lv_lload_n hx hb dX0_slipIsPending_32 rfl (lv_at hl 0 rfl) ?_
        refine cS_call (n := 1) (as := [.long v8]) (rest := []) ⟨hx, hb, hml, hown, hts⟩ (c_X0_numberOf l v8) gX0_slipIsPending_X0_numberOf rfl rfl rfl (by decide +kernel) ⟨Nat.le_of_ble_eq_true rfl, Nat.le_of_ble_eq_true rfl⟩ hl.1 rfl rfl (Nat.le_of_ble_eq_true rfl) dX0_slipIsPending_33 ⟨Nat.zero_le _, Nat.zero_le _⟩ ?_
        refine tpi (fun v11 e11 => ?_)
        refine lv_iload_n hx hb dX0_slipIsPending_36 rfl (lv_at hl 2 rfl) ?_
        refine lv_icmp_eq (tgt := 42) hx hb dX0_slipIsPending_37 (by decide) (fun c12 => ?_) (fun c12 => ?_)
        · refine lv_iinc (v := 18) (lv' := [(2, .int 18), (3, .long v8), (1, .int v2), (0, .ref h0)]) hx hb dX0_slipIsPending_42 hl (k := 1) rfl (by decide) (by decide) rfl (fun ls hl => ?_)
          refine lv_goto (tgt := 13) hx hb dX0_slipIsPending_45 (by decide) ?_
          refine lv_iload_n hx hb dX0_slipIsPending_13 rfl (lv_at hl 0 rfl) ?_
          refine lv_bipush (v := 19) hx hb dX0_slipIsPending_14 (by decide) ?_
          refine lv_icmp_gt (tgt := 48) hx hb dX0_slipIsPending_16 (by decide) (fun c0 => absurd c0 (by decide)) (fun _ => ?_)
          refine lv_aload_n hx hb dX0_slipIsPending_19 rfl (lv_at hl 3 rfl) ?_
          refine lv_iload_n hx hb dX0_slipIsPending_20 rfl (lv_at hl 0 rfl) ?_
          refine cM_this (Wd := FWd h0 h1 h2 cA cB) (ci := 0) (q0 := 0) (n := 1) (as := [.int 18]) (rest := []) ⟨hx, hb, hml, hown, hts⟩ (c_X0_foundIn l D h0 h1 h2 cA cB st 18 in20_18) gX0_slipIsPending_X0_foundIn rfl rfl rfl (by decide +kernel) ⟨Nat.le_of_ble_eq_true rfl, Nat.le_of_ble_eq_true rfl⟩ hK hP hD hS hA rfl rfl rfl hl.1 rfl rfl (Nat.le_of_ble_eq_true rfl) dX0_slipIsPending_21 ⟨Nat.zero_le _, Nat.zero_le _⟩ (fun H locs hP hD hS => ?_)
          refine tpl (fun v13 e13 => ?_)
          refine lv_lstore_n (lv' := [(3, .long v13), (2, .int 18), (1, .int v2), (0, .ref h0)]) hx hb dX0_slipIsPending_24 rfl hl (by decide) rfl (fun ls hl => ?_)
          refine lv_lload_n hx hb dX0_slipIsPending_25 rfl (lv_at hl 0 rfl) ?_
          refine cS_call (n := 1) (as := [.long v13]) (rest := []) ⟨hx, hb, hml, hown, hts⟩ (c_X0_isValid l v13) gX0_slipIsPending_X0_isValid rfl rfl rfl (by decide +kernel) ⟨Nat.le_of_ble_eq_true rfl, Nat.le_of_ble_eq_true rfl⟩ hl.1 rfl rfl (Nat.le_of_ble_eq_true rfl) dX0_slipIsPending_26 ⟨Nat.zero_le _, Nat.zero_le _⟩ ?_
          refine tpi (fun v14 e14 => ?_)
          refine lv_if_eq (tgt := 40) hx hb dX0_slipIsPending_29 (by decide) (fun c15 => ?_) (fun c15 => ?_)
          · refine lv_iconst (v := 0) hx hb dX0_slipIsPending_40 (by decide) ?_
            have fin : (f_pend st, st) = (0, st) := by
              clear hP hD hS; subst e1; subst e2; subst e3; subst e4; subst e6; subst e8; subst e9; subst e11; subst e13; subst e14; first | exact absurd (by with_reducible rfl) c15 | simp only [f_pend, f_okc, bI, c5, c10, c12, c15, ↓reduceIte, not_true_eq_false, not_false_eq_true, and_self, and_true, true_and, and_false, false_and, eq_self, i10]
            exact cM_retz (Wd := FWd h0 h1 h2 cA cB) (st := st) (st' := st) hx hb hr hlocks dX0_slipIsPending_41 hS hP hD rfl (congrArg Prod.fst fin).symm (congrArg Prod.snd fin).symm
          · refine lv_lload_n hx hb dX0_slipIsPending_32 rfl (lv_at hl 0 rfl) ?_
            refine cS_call (n := 1) (as := [.long v13]) (rest := []) ⟨hx, hb, hml, hown, hts⟩ (c_X0_numberOf l v13) gX0_slipIsPending_X0_numberOf rfl rfl rfl (by decide +kernel) ⟨Nat.le_of_ble_eq_true rfl, Nat.le_of_ble_eq_true rfl⟩ hl.1 rfl rfl (Nat.le_of_ble_eq_true rfl) dX0_slipIsPending_33 ⟨Nat.zero_le _, Nat.zero_le _⟩ ?_
            refine tpi (fun v16 e16 => ?_)
            refine lv_iload_n hx hb dX0_slipIsPending_36 rfl (lv_at hl 2 rfl) ?_
            refine lv_icmp_eq (tgt := 42) hx hb dX0_slipIsPending_37 (by decide) (fun c17 => ?_) (fun c17 => ?_)
            · refine lv_iinc (v := 19) (lv' := [(2, .int 19), (3, .long v13), (1, .int v2), (0, .ref h0)]) hx hb dX0_slipIsPending_42 hl (k := 1) rfl (by decide) (by decide) rfl (fun ls hl => ?_)
              refine lv_goto (tgt := 13) hx hb dX0_slipIsPending_45 (by decide) ?_
              refine lv_iload_n hx hb dX0_slipIsPending_13 rfl (lv_at hl 0 rfl) ?_
              refine lv_bipush (v := 19) hx hb dX0_slipIsPending_14 (by decide) ?_
              refine lv_icmp_gt (tgt := 48) hx hb dX0_slipIsPending_16 (by decide) (fun c0 => absurd c0 (by decide)) (fun _ => ?_)
              refine lv_aload_n hx hb dX0_slipIsPending_19 rfl (lv_at hl 3 rfl) ?_
              refine lv_iload_n hx hb dX0_slipIsPending_20 rfl (lv_at hl 0 rfl) ?_
              refine cM_this (Wd := FWd h0 h1 h2 cA cB) (ci := 0) (q0 := 0) (n := 1) (as := [.int 19]) (rest := []) ⟨hx, hb, hml, hown, hts⟩ (c_X0_foundIn l D h0 h1 h2 cA cB st 19 in20_19) gX0_slipIsPending_X0_foundIn rfl rfl rfl (by decide +kernel) ⟨Nat.le_of_ble_eq_true rfl, Nat.le_of_ble_eq_true rfl⟩ hK hP hD hS hA rfl rfl rfl hl.1 rfl rfl (Nat.le_of_ble_eq_true rfl) dX0_slipIsPending_21 ⟨Nat.zero_le _, Nat.zero_le _⟩ (fun H locs hP hD hS => ?_)
              refine tpl (fun v18 e18 => ?_)
              refine lv_lstore_n (lv' := [(3, .long v18), (2, .int 19), (1, .int v2), (0, .ref h0)]) hx hb dX0_slipIsPending_24 rfl hl (by decide) rfl (fun ls hl => ?_)
              refine lv_lload_n hx hb dX0_slipIsPending_25 rfl (lv_at hl 0 rfl) ?_
              refine cS_call (n := 1) (as := [.long v18]) (rest := []) ⟨hx, hb, hml, hown, hts⟩ (c_X0_isValid l v18) gX0_slipIsPending_X0_isValid rfl rfl rfl (by decide +kernel) ⟨Nat.le_of_ble_eq_true rfl, Nat.le_of_ble_eq_true rfl⟩ hl.1 rfl rfl (Nat.le_of_ble_eq_true rfl) dX0_slipIsPending_26 ⟨Nat.zero_le _, Nat.zero_le _⟩ ?_
              refine tpi (fun v19 e19 => ?_)
              refine lv_if_eq (tgt := 40) hx hb dX0_slipIsPending_29 (by decide) (fun c20 => ?_) (fun c20 => ?_)
              · refine lv_iconst (v := 0) hx hb dX0_slipIsPending_40 (by decide) ?_
                have fin : (f_pend st, st) = (0, st) := by
                  clear hP hD hS; subst e1; subst e2; subst e3; subst e4; subst e6; subst e8; subst e9; subst e11; subst e13; subst e14; subst e16; subst e18; subst e19; first | exact absurd (by with_reducible rfl) c20 | simp only [f_pend, f_okc, bI, c5, c10, c12, c15, c17, c20, ↓reduceIte, not_true_eq_false, not_false_eq_true, and_self, and_true, true_and, and_false, false_and, eq_self, i10]
                exact cM_retz (Wd := FWd h0 h1 h2 cA cB) (st := st) (st' := st) hx hb hr hlocks dX0_slipIsPending_41 hS hP hD rfl (congrArg Prod.fst fin).symm (congrArg Prod.snd fin).symm
              · refine lv_lload_n hx hb dX0_slipIsPending_32 rfl (lv_at hl 0 rfl) ?_
                refine cS_call (n := 1) (as := [.long v18]) (rest := []) ⟨hx, hb, hml, hown, hts⟩ (c_X0_numberOf l v18) gX0_slipIsPending_X0_numberOf rfl rfl rfl (by decide +kernel) ⟨Nat.le_of_ble_eq_true rfl, Nat.le_of_ble_eq_true rfl⟩ hl.1 rfl rfl (Nat.le_of_ble_eq_true rfl) dX0_slipIsPending_33 ⟨Nat.zero_le _, Nat.zero_le _⟩ ?_
                refine tpi (fun v21 e21 => ?_)
                refine lv_iload_n hx hb dX0_slipIsPending_36 rfl (lv_at hl 2 rfl) ?_
                refine lv_icmp_eq (tgt := 42) hx hb dX0_slipIsPending_37 (by decide) (fun c22 => ?_) (fun c22 => ?_)
                · refine lv_iinc (v := 20) (lv' := [(2, .int 20), (3, .long v18), (1, .int v2), (0, .ref h0)]) hx hb dX0_slipIsPending_42 hl (k := 1) rfl (by decide) (by decide) rfl (fun ls hl => ?_)
                  refine lv_goto (tgt := 13) hx hb dX0_slipIsPending_45 (by decide) ?_
                  refine lv_iload_n hx hb dX0_slipIsPending_13 rfl (lv_at hl 0 rfl) ?_
                  refine lv_bipush (v := 19) hx hb dX0_slipIsPending_14 (by decide) ?_
                  refine lv_icmp_gt (tgt := 48) hx hb dX0_slipIsPending_16 (by decide) (fun _ => ?_) (fun c0 => absurd c0 (by decide))
                  refine lv_aload_n hx hb dX0_slipIsPending_48 rfl (lv_at hl 3 rfl) ?_
                  refine lv_bipush (v := 19) hx hb dX0_slipIsPending_49 (by decide) ?_
                  refine cM_this (Wd := FWd h0 h1 h2 cA cB) (ci := 0) (q0 := 0) (n := 1) (as := [.int 19]) (rest := []) ⟨hx, hb, hml, hown, hts⟩ (c_X0_foundIn l D h0 h1 h2 cA cB st 19 in20_19) gX0_slipIsPending_X0_foundIn rfl rfl rfl (by decide +kernel) ⟨Nat.le_of_ble_eq_true rfl, Nat.le_of_ble_eq_true rfl⟩ hK hP hD hS hA rfl rfl rfl hl.1 rfl rfl (Nat.le_of_ble_eq_true rfl) dX0_slipIsPending_51 ⟨Nat.zero_le _, Nat.zero_le _⟩ (fun H locs hP hD hS => ?_)
                  refine tpl (fun v23 e23 => ?_)
                  refine cS_call (n := 1) (as := [.long v23]) (rest := []) ⟨hx, hb, hml, hown, hts⟩ (c_X0_balanceOf l v23) gX0_slipIsPending_X0_balanceOf rfl rfl rfl (by decide +kernel) ⟨Nat.le_of_ble_eq_true rfl, Nat.le_of_ble_eq_true rfl⟩ hl.1 rfl rfl (Nat.le_of_ble_eq_true rfl) dX0_slipIsPending_54 ⟨Nat.zero_le _, Nat.zero_le _⟩ ?_
                  refine tpi (fun v24 e24 => ?_)
                  refine lv_istore_n (lv' := [(2, .int v24), (3, .long v18), (1, .int v2), (0, .ref h0)]) hx hb dX0_slipIsPending_57 rfl hl (by decide) rfl (fun ls hl => ?_)
                  refine lv_iload_n hx hb dX0_slipIsPending_58 rfl (lv_at hl 0 rfl) ?_
                  refine lv_ldc (v := 65536) hx hb hown (hts (.constant RX0 91 65536) (by decide +kernel)) dX0_slipIsPending_59 ?_
                  refine lv_iand hx hb dX0_slipIsPending_61 ?_
                  refine tpi (fun v25 e25 => ?_)
                  refine lv_if_eq (tgt := 89) hx hb dX0_slipIsPending_62 (by decide) (fun c26 => ?_) (fun c26 => ?_)
                  · refine lv_iconst (v := 0) hx hb dX0_slipIsPending_89 (by decide) ?_
                    have fin : (f_pend st, st) = (0, st) := by
                      clear hP hD hS; subst e1; subst e2; subst e3; subst e4; subst e6; subst e8; subst e9; subst e11; subst e13; subst e14; subst e16; subst e18; subst e19; subst e21; subst e23; subst e24; subst e25; first | exact absurd (by with_reducible rfl) c26 | simp only [f_pend, f_okc, bI, c5, c10, c12, c15, c17, c20, c22, c26, ↓reduceIte, not_true_eq_false, not_false_eq_true, and_self, and_true, true_and, and_false, false_and, eq_self, i10]
                    exact cM_retz (Wd := FWd h0 h1 h2 cA cB) (st := st) (st' := st) hx hb hr hlocks dX0_slipIsPending_90 hS hP hD rfl (congrArg Prod.fst fin).symm (congrArg Prod.snd fin).symm
                  · refine lv_iload_n hx hb dX0_slipIsPending_65 rfl (lv_at hl 0 rfl) ?_
                    refine cS_call (n := 1) (as := [.int v24]) (rest := []) ⟨hx, hb, hml, hown, hts⟩ (c_X0_fromOf l v24) gX0_slipIsPending_X0_fromOf rfl rfl rfl (by decide +kernel) ⟨Nat.le_of_ble_eq_true rfl, Nat.le_of_ble_eq_true rfl⟩ hl.1 rfl rfl (Nat.le_of_ble_eq_true rfl) dX0_slipIsPending_66 ⟨Nat.zero_le _, Nat.zero_le _⟩ ?_
                    refine tpi (fun v27 e27 => ?_)
                    refine cS_call (n := 1) (as := [.int v27]) (rest := []) ⟨hx, hb, hml, hown, hts⟩ (c_X0_isAccount l v27) gX0_slipIsPending_X0_isAccount rfl rfl rfl (by decide +kernel) ⟨Nat.le_of_ble_eq_true rfl, Nat.le_of_ble_eq_true rfl⟩ hl.1 rfl rfl (Nat.le_of_ble_eq_true rfl) dX0_slipIsPending_69 ⟨Nat.zero_le _, Nat.zero_le _⟩ ?_
                    refine tpi (fun v28 e28 => ?_)
                    refine lv_if_eq (tgt := 89) hx hb dX0_slipIsPending_72 (by decide) (fun c29 => ?_) (fun c29 => ?_)
                    · refine lv_iconst (v := 0) hx hb dX0_slipIsPending_89 (by decide) ?_
                      have fin : (f_pend st, st) = (0, st) := by
                        clear hP hD hS; subst e1; subst e2; subst e3; subst e4; subst e6; subst e8; subst e9; subst e11; subst e13; subst e14; subst e16; subst e18; subst e19; subst e21; subst e23; subst e24; subst e25; subst e27; subst e28; first | exact absurd (by with_reducible rfl) c29 | simp only [f_pend, f_okc, bI, c5, c10, c12, c15, c17, c20, c22, c26, c29, ↓reduceIte, not_true_eq_false, not_false_eq_true, and_self, and_true, true_and, and_false, false_and, eq_self, i10]
                      exact cM_retz (Wd := FWd h0 h1 h2 cA cB) (st := st) (st' := st) hx hb hr hlocks dX0_slipIsPending_90 hS hP hD rfl (congrArg Prod.fst fin).symm (congrArg Prod.snd fin).symm
                    · refine lv_iload_n hx hb dX0_slipIsPending_75 rfl (lv_at hl 0 rfl) ?_
                      refine cS_call (n := 1) (as := [.int v24]) (rest := []) ⟨hx, hb, hml, hown, hts⟩ (c_X0_toOf l v24) gX0_slipIsPending_X0_toOf rfl rfl rfl (by decide +kernel) ⟨Nat.le_of_ble_eq_true rfl, Nat.le_of_ble_eq_true rfl⟩ hl.1 rfl rfl (Nat.le_of_ble_eq_true rfl) dX0_slipIsPending_76 ⟨Nat.zero_le _, Nat.zero_le _⟩ ?_
                      refine tpi (fun v30 e30 => ?_)
                      refine cS_call (n := 1) (as := [.int v30]) (rest := []) ⟨hx, hb, hml, hown, hts⟩ (c_X0_isAccount l v30) gX0_slipIsPending_X0_isAccount rfl rfl rfl (by decide +kernel) ⟨Nat.le_of_ble_eq_true rfl, Nat.le_of_ble_eq_true rfl⟩ hl.1 rfl rfl (Nat.le_of_ble_eq_true rfl) dX0_slipIsPending_79 ⟨Nat.zero_le _, Nat.zero_le _⟩ ?_
                      refine tpi (fun v31 e31 => ?_)
                      refine lv_if_eq (tgt := 89) hx hb dX0_slipIsPending_82 (by decide) (fun c32 => ?_) (fun c32 => ?_)
                      · refine lv_iconst (v := 0) hx hb dX0_slipIsPending_89 (by decide) ?_
                        have fin : (f_pend st, st) = (0, st) := by
                          clear hP hD hS; subst e1; subst e2; subst e3; subst e4; subst e6; subst e8; subst e9; subst e11; subst e13; subst e14; subst e16; subst e18; subst e19; subst e21; subst e23; subst e24; subst e25; subst e27; subst e28; subst e30; subst e31; first | exact absurd (by with_reducible rfl) c32 | simp only [f_pend, f_okc, bI, c5, c10, c12, c15, c17, c20, c22, c26, c29, c32, ↓reduceIte, not_true_eq_false, not_false_eq_true, and_self, and_true, true_and, and_false, false_and, eq_self, i10]
                        exact cM_retz (Wd := FWd h0 h1 h2 cA cB) (st := st) (st' := st) hx hb hr hlocks dX0_slipIsPending_90 hS hP hD rfl (congrArg Prod.fst fin).symm (congrArg Prod.snd fin).symm
                      · refine lv_iconst (v := 1) hx hb dX0_slipIsPending_85 (by decide) ?_
                        refine lv_goto (tgt := 90) hx hb dX0_slipIsPending_86 (by decide) ?_
                        have fin : (f_pend st, st) = (1, st) := by
                          clear hP hD hS; subst e1; subst e2; subst e3; subst e4; subst e6; subst e8; subst e9; subst e11; subst e13; subst e14; subst e16; subst e18; subst e19; subst e21; subst e23; subst e24; subst e25; subst e27; subst e28; subst e30; subst e31; first | exact absurd (by with_reducible rfl) c32 | simp only [f_pend, f_okc, bI, c5, c10, c12, c15, c17, c20, c22, c26, c29, c32, ↓reduceIte, not_true_eq_false, not_false_eq_true, and_self, and_true, true_and, and_false, false_and, eq_self, i10]
                        exact cM_retz (Wd := FWd h0 h1 h2 cA cB) (st := st) (st' := st) hx hb hr hlocks dX0_slipIsPending_90 hS hP hD rfl (congrArg Prod.fst fin).symm (congrArg Prod.snd fin).symm
                · refine lv_iconst (v := 0) hx hb dX0_slipIsPending_40 (by decide) ?_
                  have fin : (f_pend st, st) = (0, st) := by
                    clear hP hD hS; subst e1; subst e2; subst e3; subst e4; subst e6; subst e8; subst e9; subst e11; subst e13; subst e14; subst e16; subst e18; subst e19; subst e21; first | exact absurd (by with_reducible rfl) c22 | simp only [f_pend, f_okc, bI, c5, c10, c12, c15, c17, c20, c22, ↓reduceIte, not_true_eq_false, not_false_eq_true, and_self, and_true, true_and, and_false, false_and, eq_self, i10]
                  exact cM_retz (Wd := FWd h0 h1 h2 cA cB) (st := st) (st' := st) hx hb hr hlocks dX0_slipIsPending_41 hS hP hD rfl (congrArg Prod.fst fin).symm (congrArg Prod.snd fin).symm
            · refine lv_iconst (v := 0) hx hb dX0_slipIsPending_40 (by decide) ?_
              have fin : (f_pend st, st) = (0, st) := by
                clear hP hD hS; subst e1; subst e2; subst e3; subst e4; subst e6; subst e8; subst e9; subst e11; subst e13; subst e14; subst e16; first | exact absurd (by with_reducible rfl) c17 | simp only [f_pend, f_okc, bI, c5, c10, c12, c15, c17, ↓reduceIte, not_true_eq_false, not_false_eq_true, and_self, and_true, true_and, and_false, false_and, eq_self, i10]
              exact cM_retz (Wd := FWd h0 h1 h2 cA cB) (st := st) (st' := st) hx hb hr hlocks dX0_slipIsPending_41 hS hP hD rfl (congrArg Prod.fst fin).symm (congrArg Prod.snd fin).symm
        · refine lv_iconst (v := 0) hx hb dX0_slipIsPending_40 (by decide) ?_
          have fin : (f_pend st, st) = (0, st) := by
            clear hP hD hS; subst e1; subst e2; subst e3; subst e4; subst e6; subst e8; subst e9; subst e11; first | exact absurd (by with_reducible rfl) c12 | simp only [f_pend, f_okc, bI, c5, c10, c12, ↓reduceIte, not_true_eq_false, not_false_eq_true, and_self, and_true, true_and, and_false, false_and, eq_self, i10]
          exact cM_retz (Wd := FWd h0 h1 h2 cA cB) (st := st) (st' := st) hx hb hr hlocks dX0_slipIsPending_41 hS hP hD rfl (congrArg Prod.fst fin).symm (congrArg Prod.snd fin).symm
    · refine lv_iconst (v := 0) hx hb dX0_slipIsPending_40 (by decide) ?_
      have fin : (f_pend st, st) = (0, st) := by
        clear hP hD hS; subst e1; subst e2; subst e3; subst e4; subst e6; first | exact absurd (by with_reducible rfl) c7 | simp only [f_pend, f_okc, bI, c5, c7, ↓reduceIte, not_true_eq_false, not_false_eq_true, and_self, and_true, true_and, and_false, false_and, eq_self, i10]
      exact cM_retz (Wd := FWd h0 h1 h2 cA cB) (st := st) (st' := st) hx hb hr hlocks dX0_slipIsPending_41 hS hP hD rfl (congrArg Prod.fst fin).symm (congrArg Prod.snd fin).symm
abbrev rmX0_finishAccount : Room := { frames := 4, cells := 0, slots := 0, locals := 88 }
-- finishAccount
set_option maxHeartbeats 400000 in
set_option maxRecDepth 100000 in
theorem c_X0_finishAccount (l : Launch) (D : va_G) (h0 h1 h2 : Nat) (cA cB : ClassId) (st : FS) (a : Int32) (ch : Int32) (nn : Int32) (hc : vp_in a 20) : cM l D vwCl (FT cA cB) (FWd h0 h1 h2 cA cB) yX0_finishAccount wsX0_finishAccount rmX0_finishAccount [.ref h0, .int a, .int ch, .int nn] st none (f_finA a ch nn st) := by
  refine cM_in (cc := cX0_finishAccount) (maxL := 6) (ret := none) (by decide) rfl (Nat.le_of_ble_eq_true rfl) ?_
  intro p e s m below meth c ls A hx hb hr hlocks hml hown hts hA hK hP hD hS hl
  have hown : s.vm.findClass RX0 = some m.cls := hown
  have hl : lv_has ls 6 [(0, .ref h0), (1, .int a), (2, .int ch), (3, .int nn)] := hl
  -- walk
  refine lv_aload_n hx hb dX0_finishAccount_0 rfl (lv_at hl 0 rfl) ?_
  refine lv_iload_n hx hb dX0_finishAccount_1 rfl (lv_at hl 1 rfl) ?_
  refine cM_this (Wd := FWd h0 h1 h2 cA cB) (ci := 0) (q0 := 0) (n := 1) (as := [.int a]) (rest := []) ⟨hx, hb, hml, hown, hts⟩ (c_X0_foundIn l D h0 h1 h2 cA cB st a hc) gX0_finishAccount_X0_foundIn rfl rfl rfl (by decide +kernel) ⟨Nat.le_of_ble_eq_true rfl, Nat.le_of_ble_eq_true rfl⟩ hK hP hD hS hA rfl rfl rfl hl.1 rfl rfl (Nat.le_of_ble_eq_true rfl) dX0_finishAccount_2 ⟨Nat.zero_le _, Nat.zero_le _⟩ (fun H locs hP hD hS => ?_)
  refine tpl (fun v1 e1 => ?_)
  refine lv_lstore (lv' := [(4, .long v1), (0, .ref h0), (1, .int a), (2, .int ch), (3, .int nn)]) hx hb dX0_finishAccount_5 hl (by decide) rfl (fun ls hl => ?_)
  refine lv_lload hx hb dX0_finishAccount_7 (lv_at hl 0 rfl) ?_
  refine cS_call (n := 1) (as := [.long v1]) (rest := []) ⟨hx, hb, hml, hown, hts⟩ (c_X0_isValid l v1) gX0_finishAccount_X0_isValid rfl rfl rfl (by decide +kernel) ⟨Nat.le_of_ble_eq_true rfl, Nat.le_of_ble_eq_true rfl⟩ hl.1 rfl rfl (Nat.le_of_ble_eq_true rfl) dX0_finishAccount_9 ⟨Nat.zero_le _, Nat.zero_le _⟩ ?_
  refine tpi (fun v2 e2 => ?_)
  refine lv_if_eq (tgt := 40) hx hb dX0_finishAccount_12 (by decide) (fun c3 => ?_) (fun c3 => ?_)
  · have fin : (f_finA a ch nn st) = st := by clear hP hD hS; subst e1; subst e2; simp only [f_finA, c3, ↓reduceIte, not_true_eq_false, not_false_eq_true, and_self, and_true, true_and, and_false, false_and, eq_self]
    exact cM_retv (Wd := FWd h0 h1 h2 cA cB) (st := st) (st' := (f_finA a ch nn st)) hx hb hr hlocks dX0_finishAccount_40 hS hP hD fin.symm
  · refine lv_lload hx hb dX0_finishAccount_15 (lv_at hl 0 rfl) ?_
    refine cS_call (n := 1) (as := [.long v1]) (rest := []) ⟨hx, hb, hml, hown, hts⟩ (c_X0_numberOf l v1) gX0_finishAccount_X0_numberOf rfl rfl rfl (by decide +kernel) ⟨Nat.le_of_ble_eq_true rfl, Nat.le_of_ble_eq_true rfl⟩ hl.1 rfl rfl (Nat.le_of_ble_eq_true rfl) dX0_finishAccount_17 ⟨Nat.zero_le _, Nat.zero_le _⟩ ?_
    refine tpi (fun v4 e4 => ?_)
    refine lv_iload_n hx hb dX0_finishAccount_20 rfl (lv_at hl 4 rfl) ?_
    refine lv_icmp_ge (tgt := 40) hx hb dX0_finishAccount_21 (by decide) (fun c5 => ?_) (fun c5 => ?_)
    · have fin : (f_finA a ch nn st) = st := by clear hP hD hS; subst e1; subst e2; subst e4; simp only [f_finA, c3, c5, ↓reduceIte, not_true_eq_false, not_false_eq_true, and_self, and_true, true_and, and_false, false_and, eq_self]
      exact cM_retv (Wd := FWd h0 h1 h2 cA cB) (st := st) (st' := (f_finA a ch nn st)) hx hb hr hlocks dX0_finishAccount_40 hS hP hD fin.symm
    · refine lv_aload_n hx hb dX0_finishAccount_24 rfl (lv_at hl 1 rfl) ?_
      refine lv_iload_n hx hb dX0_finishAccount_25 rfl (lv_at hl 2 rfl) ?_
      refine lv_lload hx hb dX0_finishAccount_26 (lv_at hl 0 rfl) ?_
      refine cS_call (n := 1) (as := [.long v1]) (rest := [.int a, .ref h0]) ⟨hx, hb, hml, hown, hts⟩ (c_X0_balanceOf l v1) gX0_finishAccount_X0_balanceOf rfl rfl rfl (by decide +kernel) ⟨Nat.le_of_ble_eq_true rfl, Nat.le_of_ble_eq_true rfl⟩ hl.1 rfl rfl (Nat.le_of_ble_eq_true rfl) dX0_finishAccount_28 ⟨Nat.zero_le _, Nat.zero_le _⟩ ?_
      refine tpi (fun v6 e6 => ?_)
      refine lv_iload_n hx hb dX0_finishAccount_31 rfl (lv_at hl 3 rfl) ?_
      refine lv_iadd hx hb dX0_finishAccount_32 ?_
      refine tpi (fun v7 e7 => ?_)
      refine lv_iload_n hx hb dX0_finishAccount_33 rfl (lv_at hl 4 rfl) ?_
      refine cS_call (n := 2) (as := [.int v7, .int nn]) (rest := [.int a, .ref h0]) ⟨hx, hb, hml, hown, hts⟩ (c_X0_makeWord l v7 nn) gX0_finishAccount_X0_makeWord rfl rfl rfl (by decide +kernel) ⟨Nat.le_of_ble_eq_true rfl, Nat.le_of_ble_eq_true rfl⟩ hl.1 rfl rfl (Nat.le_of_ble_eq_true rfl) dX0_finishAccount_34 ⟨Nat.zero_le _, Nat.zero_le _⟩ ?_
      refine tpl (fun v8 e8 => ?_)
      refine cM_this (Wd := FWd h0 h1 h2 cA cB) (ci := 0) (q0 := 0) (n := 2) (as := [.int a, .long v8]) (rest := []) ⟨hx, hb, hml, hown, hts⟩ (c_X0_put l D h0 h1 h2 cA cB st a v8 hc) gX0_finishAccount_X0_put rfl rfl rfl (by decide +kernel) ⟨Nat.le_of_ble_eq_true rfl, Nat.le_of_ble_eq_true rfl⟩ hK hP hD hS hA rfl rfl rfl hl.1 rfl rfl (Nat.le_of_ble_eq_true rfl) dX0_finishAccount_37 ⟨Nat.zero_le _, Nat.zero_le _⟩ (fun H locs hP hD hS => ?_)
      refine W.eq (g2 := F0 m 40 ls []) rfl ?_
      obtain ⟨s9, t9⟩ : ∃ z : FS, f_put a v8 st = z := ⟨_, rfl⟩
      replace hP : va_P D vwCl (FWd h0 h1 h2 cA cB s9) H := by rw [← t9]; exact hP
      replace hD : va_D A (FWd h0 h1 h2 cA cB s9) := by rw [← t9]; exact hD
      have fin : (f_finA a ch nn st) = s9 := by clear hP hD hS; subst e1; subst e2; subst e4; subst e6; subst e7; subst e8; subst t9; simp only [f_finA, c3, c5, ↓reduceIte, not_true_eq_false, not_false_eq_true, and_self, and_true, true_and, and_false, false_and, eq_self]
      exact cM_retv (Wd := FWd h0 h1 h2 cA cB) (st := s9) (st' := (f_finA a ch nn st)) hx hb hr hlocks dX0_finishAccount_40 hS hP hD fin.symm
abbrev rmX0_finishTransfer : Room := { frames := 5, cells := 0, slots := 0, locals := 113 }
-- finishTransfer
set_option maxHeartbeats 400000 in
set_option maxRecDepth 100000 in
theorem c_X0_finishTransfer (l : Launch) (D : va_G) (h0 h1 h2 : Nat) (cA cB : ClassId) (st : FS)  (hF : vp_in (f_from (f_bal (f_found 19 st))) 20) (hT : vp_in (f_to (f_bal (f_found 19 st))) 20) : cM l D vwCl (FT cA cB) (FWd h0 h1 h2 cA cB) yX0_finishTransfer wsX0_finishTransfer rmX0_finishTransfer [.ref h0] st none (f_fin st) := by
  refine cM_in (cc := cX0_finishTransfer) (maxL := 5) (ret := none) (by decide) rfl (Nat.le_of_ble_eq_true rfl) ?_
  intro p e s m below meth c ls A hx hb hr hlocks hml hown hts hA hK hP hD hS hl
  have hown : s.vm.findClass RX0 = some m.cls := hown
  have hl : lv_has ls 5 [(0, .ref h0)] := hl
  -- walk
  refine lv_aload_n hx hb dX0_finishTransfer_0 rfl (lv_at hl 0 rfl) ?_
  refine lv_bipush (v := 19) hx hb dX0_finishTransfer_1 (by decide) ?_
  refine cM_this (Wd := FWd h0 h1 h2 cA cB) (ci := 0) (q0 := 0) (n := 1) (as := [.int 19]) (rest := []) ⟨hx, hb, hml, hown, hts⟩ (c_X0_foundIn l D h0 h1 h2 cA cB st 19 in20_19) gX0_finishTransfer_X0_foundIn rfl rfl rfl (by decide +kernel) ⟨Nat.le_of_ble_eq_true rfl, Nat.le_of_ble_eq_true rfl⟩ hK hP hD hS hA rfl rfl rfl hl.1 rfl rfl (Nat.le_of_ble_eq_true rfl) dX0_finishTransfer_3 ⟨Nat.zero_le _, Nat.zero_le _⟩ (fun H locs hP hD hS => ?_)
  refine tpl (fun v1 e1 => ?_)
  refine lv_lstore_n (lv' := [(1, .long v1), (0, .ref h0)]) hx hb dX0_finishTransfer_6 rfl hl (by decide) rfl (fun ls hl => ?_)
  refine lv_lload_n hx hb dX0_finishTransfer_7 rfl (lv_at hl 0 rfl) ?_
  refine cS_call (n := 1) (as := [.long v1]) (rest := []) ⟨hx, hb, hml, hown, hts⟩ (c_X0_balanceOf l v1) gX0_finishTransfer_X0_balanceOf rfl rfl rfl (by decide +kernel) ⟨Nat.le_of_ble_eq_true rfl, Nat.le_of_ble_eq_true rfl⟩ hl.1 rfl rfl (Nat.le_of_ble_eq_true rfl) dX0_finishTransfer_8 ⟨Nat.zero_le _, Nat.zero_le _⟩ ?_
  refine tpi (fun v2 e2 => ?_)
  refine lv_istore_n (lv' := [(3, .int v2), (1, .long v1), (0, .ref h0)]) hx hb dX0_finishTransfer_11 rfl hl (by decide) rfl (fun ls hl => ?_)
  refine lv_aload_n hx hb dX0_finishTransfer_12 rfl (lv_at hl 2 rfl) ?_
  refine lv_bipush (v := 16) hx hb dX0_finishTransfer_13 (by decide) ?_
  refine cM_this (Wd := FWd h0 h1 h2 cA cB) (ci := 0) (q0 := 0) (n := 1) (as := [.int 16]) (rest := []) ⟨hx, hb, hml, hown, hts⟩ (c_X0_foundIn l D h0 h1 h2 cA cB st 16 in20_16) gX0_finishTransfer_X0_foundIn rfl rfl rfl (by decide +kernel) ⟨Nat.le_of_ble_eq_true rfl, Nat.le_of_ble_eq_true rfl⟩ hK hP hD hS hA rfl rfl rfl hl.1 rfl rfl (Nat.le_of_ble_eq_true rfl) dX0_finishTransfer_15 ⟨Nat.zero_le _, Nat.zero_le _⟩ (fun H locs hP hD hS => ?_)
  refine tpl (fun v3 e3 => ?_)
  refine cS_call (n := 1) (as := [.long v3]) (rest := []) ⟨hx, hb, hml, hown, hts⟩ (c_X0_balanceOf l v3) gX0_finishTransfer_X0_balanceOf rfl rfl rfl (by decide +kernel) ⟨Nat.le_of_ble_eq_true rfl, Nat.le_of_ble_eq_true rfl⟩ hl.1 rfl rfl (Nat.le_of_ble_eq_true rfl) dX0_finishTransfer_18 ⟨Nat.zero_le _, Nat.zero_le _⟩ ?_
  refine tpi (fun v4 e4 => ?_)
  refine lv_istore (lv' := [(4, .int v4), (3, .int v2), (1, .long v1), (0, .ref h0)]) hx hb dX0_finishTransfer_21 hl (by decide) rfl (fun ls hl => ?_)
  refine lv_aload_n hx hb dX0_finishTransfer_23 rfl (lv_at hl 3 rfl) ?_
  refine lv_iload_n hx hb dX0_finishTransfer_24 rfl (lv_at hl 1 rfl) ?_
  refine cS_call (n := 1) (as := [.int v2]) (rest := [.ref h0]) ⟨hx, hb, hml, hown, hts⟩ (c_X0_fromOf l v2) gX0_finishTransfer_X0_fromOf rfl rfl rfl (by decide +kernel) ⟨Nat.le_of_ble_eq_true rfl, Nat.le_of_ble_eq_true rfl⟩ hl.1 rfl rfl (Nat.le_of_ble_eq_true rfl) dX0_finishTransfer_25 ⟨Nat.zero_le _, Nat.zero_le _⟩ ?_
  refine tpi (fun v5 e5 => ?_)
  refine lv_iload hx hb dX0_finishTransfer_28 (lv_at hl 0 rfl) ?_
  refine lv_ineg hx hb dX0_finishTransfer_30 ?_
  refine tpi (fun v6 e6 => ?_)
  refine lv_aload_n hx hb dX0_finishTransfer_31 rfl (lv_at hl 3 rfl) ?_
  refine lv_bipush (v := 17) hx hb dX0_finishTransfer_32 (by decide) ?_
  refine cM_this (Wd := FWd h0 h1 h2 cA cB) (ci := 0) (q0 := 0) (n := 1) (as := [.int 17]) (rest := [.int v6, .int v5, .ref h0]) ⟨hx, hb, hml, hown, hts⟩ (c_X0_foundIn l D h0 h1 h2 cA cB st 17 in20_17) gX0_finishTransfer_X0_foundIn rfl rfl rfl (by decide +kernel) ⟨Nat.le_of_ble_eq_true rfl, Nat.le_of_ble_eq_true rfl⟩ hK hP hD hS hA rfl rfl rfl hl.1 rfl rfl (Nat.le_of_ble_eq_true rfl) dX0_finishTransfer_34 ⟨Nat.zero_le _, Nat.zero_le _⟩ (fun H locs hP hD hS => ?_)
  refine tpl (fun v7 e7 => ?_)
  refine cS_call (n := 1) (as := [.long v7]) (rest := [.int v6, .int v5, .ref h0]) ⟨hx, hb, hml, hown, hts⟩ (c_X0_balanceOf l v7) gX0_finishTransfer_X0_balanceOf rfl rfl rfl (by decide +kernel) ⟨Nat.le_of_ble_eq_true rfl, Nat.le_of_ble_eq_true rfl⟩ hl.1 rfl rfl (Nat.le_of_ble_eq_true rfl) dX0_finishTransfer_37 ⟨Nat.zero_le _, Nat.zero_le _⟩ ?_
  refine tpi (fun v8 e8 => ?_)
  refine cM_this (Wd := FWd h0 h1 h2 cA cB) (ci := 0) (q0 := 0) (n := 3) (as := [.int v5, .int v6, .int v8]) (rest := []) ⟨hx, hb, hml, hown, hts⟩ (c_X0_finishAccount l D h0 h1 h2 cA cB st v5 v6 v8 (by rw [← e5, ← e2, ← e1]; exact hF)) gX0_finishTransfer_X0_finishAccount rfl rfl rfl (by decide +kernel) ⟨Nat.le_of_ble_eq_true rfl, Nat.le_of_ble_eq_true rfl⟩ hK hP hD hS hA rfl rfl rfl hl.1 rfl rfl (Nat.le_of_ble_eq_true rfl) dX0_finishTransfer_40 ⟨Nat.zero_le _, Nat.zero_le _⟩ (fun H locs hP hD hS => ?_)
  refine W.eq (g2 := F0 m 43 ls []) rfl ?_
  obtain ⟨s9, t9⟩ : ∃ z : FS, f_finA v5 v6 v8 st = z := ⟨_, rfl⟩
  replace hP : va_P D vwCl (FWd h0 h1 h2 cA cB s9) H := by rw [← t9]; exact hP
  replace hD : va_D A (FWd h0 h1 h2 cA cB s9) := by rw [← t9]; exact hD
  refine lv_aload_n hx hb dX0_finishTransfer_43 rfl (lv_at hl 3 rfl) ?_
  refine lv_iload_n hx hb dX0_finishTransfer_44 rfl (lv_at hl 1 rfl) ?_
  refine cS_call (n := 1) (as := [.int v2]) (rest := [.ref h0]) ⟨hx, hb, hml, hown, hts⟩ (c_X0_toOf l v2) gX0_finishTransfer_X0_toOf rfl rfl rfl (by decide +kernel) ⟨Nat.le_of_ble_eq_true rfl, Nat.le_of_ble_eq_true rfl⟩ hl.1 rfl rfl (Nat.le_of_ble_eq_true rfl) dX0_finishTransfer_45 ⟨Nat.zero_le _, Nat.zero_le _⟩ ?_
  refine tpi (fun v10 e10 => ?_)
  refine lv_iload hx hb dX0_finishTransfer_48 (lv_at hl 0 rfl) ?_
  refine lv_aload_n hx hb dX0_finishTransfer_50 rfl (lv_at hl 3 rfl) ?_
  refine lv_bipush (v := 18) hx hb dX0_finishTransfer_51 (by decide) ?_
  refine cM_this (Wd := FWd h0 h1 h2 cA cB) (ci := 0) (q0 := 0) (n := 1) (as := [.int 18]) (rest := [.int v4, .int v10, .ref h0]) ⟨hx, hb, hml, hown, hts⟩ (c_X0_foundIn l D h0 h1 h2 cA cB s9 18 in20_18) gX0_finishTransfer_X0_foundIn rfl rfl rfl (by decide +kernel) ⟨Nat.le_of_ble_eq_true rfl, Nat.le_of_ble_eq_true rfl⟩ hK hP hD hS hA rfl rfl rfl hl.1 rfl rfl (Nat.le_of_ble_eq_true rfl) dX0_finishTransfer_53 ⟨Nat.zero_le _, Nat.zero_le _⟩ (fun H locs hP hD hS => ?_)
  refine tpl (fun v11 e11 => ?_)
  refine cS_call (n := 1) (as := [.long v11]) (rest := [.int v4, .int v10, .ref h0]) ⟨hx, hb, hml, hown, hts⟩ (c_X0_balanceOf l v11) gX0_finishTransfer_X0_balanceOf rfl rfl rfl (by decide +kernel) ⟨Nat.le_of_ble_eq_true rfl, Nat.le_of_ble_eq_true rfl⟩ hl.1 rfl rfl (Nat.le_of_ble_eq_true rfl) dX0_finishTransfer_56 ⟨Nat.zero_le _, Nat.zero_le _⟩ ?_
  refine tpi (fun v12 e12 => ?_)
  refine cM_this (Wd := FWd h0 h1 h2 cA cB) (ci := 0) (q0 := 0) (n := 3) (as := [.int v10, .int v4, .int v12]) (rest := []) ⟨hx, hb, hml, hown, hts⟩ (c_X0_finishAccount l D h0 h1 h2 cA cB s9 v10 v4 v12 (by rw [← e10, ← e2, ← e1]; exact hT)) gX0_finishTransfer_X0_finishAccount rfl rfl rfl (by decide +kernel) ⟨Nat.le_of_ble_eq_true rfl, Nat.le_of_ble_eq_true rfl⟩ hK hP hD hS hA rfl rfl rfl hl.1 rfl rfl (Nat.le_of_ble_eq_true rfl) dX0_finishTransfer_59 ⟨Nat.zero_le _, Nat.zero_le _⟩ (fun H locs hP hD hS => ?_)
  refine W.eq (g2 := F0 m 62 ls []) rfl ?_
  obtain ⟨s13, t13⟩ : ∃ z : FS, f_finA v10 v4 v12 s9 = z := ⟨_, rfl⟩
  replace hP : va_P D vwCl (FWd h0 h1 h2 cA cB s13) H := by rw [← t13]; exact hP
  replace hD : va_D A (FWd h0 h1 h2 cA cB s13) := by rw [← t13]; exact hD
  refine lv_aload_n hx hb dX0_finishTransfer_62 rfl (lv_at hl 3 rfl) ?_
  refine lv_bipush (v := 19) hx hb dX0_finishTransfer_63 (by decide) ?_
  refine lv_iload_n hx hb dX0_finishTransfer_65 rfl (lv_at hl 1 rfl) ?_
  refine lv_ldc (v := 65536) hx hb hown (hts (.constant RX0 91 65536) (by decide +kernel)) dX0_finishTransfer_66 ?_
  refine lv_isub hx hb dX0_finishTransfer_68 ?_
  refine tpi (fun v14 e14 => ?_)
  refine lv_ldc (v := 131072) hx hb hown (hts (.constant RX0 92 131072) (by decide +kernel)) dX0_finishTransfer_69 ?_
  refine lv_iadd hx hb dX0_finishTransfer_71 ?_
  refine tpi (fun v15 e15 => ?_)
  refine lv_lload_n hx hb dX0_finishTransfer_72 rfl (lv_at hl 2 rfl) ?_
  refine cS_call (n := 1) (as := [.long v1]) (rest := [.int v15, .int 19, .ref h0]) ⟨hx, hb, hml, hown, hts⟩ (c_X0_numberOf l v1) gX0_finishTransfer_X0_numberOf rfl rfl rfl (by decide +kernel) ⟨Nat.le_of_ble_eq_true rfl, Nat.le_of_ble_eq_true rfl⟩ hl.1 rfl rfl (Nat.le_of_ble_eq_true rfl) dX0_finishTransfer_73 ⟨Nat.zero_le _, Nat.zero_le _⟩ ?_
  refine tpi (fun v16 e16 => ?_)
  refine cS_call (n := 2) (as := [.int v15, .int v16]) (rest := [.int 19, .ref h0]) ⟨hx, hb, hml, hown, hts⟩ (c_X0_makeWord l v15 v16) gX0_finishTransfer_X0_makeWord rfl rfl rfl (by decide +kernel) ⟨Nat.le_of_ble_eq_true rfl, Nat.le_of_ble_eq_true rfl⟩ hl.1 rfl rfl (Nat.le_of_ble_eq_true rfl) dX0_finishTransfer_76 ⟨Nat.zero_le _, Nat.zero_le _⟩ ?_
  refine tpl (fun v17 e17 => ?_)
  refine cM_this (Wd := FWd h0 h1 h2 cA cB) (ci := 0) (q0 := 0) (n := 2) (as := [.int 19, .long v17]) (rest := []) ⟨hx, hb, hml, hown, hts⟩ (c_X0_put l D h0 h1 h2 cA cB s13 19 v17 in20_19) gX0_finishTransfer_X0_put rfl rfl rfl (by decide +kernel) ⟨Nat.le_of_ble_eq_true rfl, Nat.le_of_ble_eq_true rfl⟩ hK hP hD hS hA rfl rfl rfl hl.1 rfl rfl (Nat.le_of_ble_eq_true rfl) dX0_finishTransfer_79 ⟨Nat.zero_le _, Nat.zero_le _⟩ (fun H locs hP hD hS => ?_)
  refine W.eq (g2 := F0 m 82 ls []) rfl ?_
  obtain ⟨s18, t18⟩ : ∃ z : FS, f_put 19 v17 s13 = z := ⟨_, rfl⟩
  replace hP : va_P D vwCl (FWd h0 h1 h2 cA cB s18) H := by rw [← t18]; exact hP
  replace hD : va_D A (FWd h0 h1 h2 cA cB s18) := by rw [← t18]; exact hD
  have fin : (f_fin st) = s18 := by clear hP hD hS; subst e1; subst e2; subst e3; subst e4; subst e5; subst e6; subst e7; subst e8; subst t9; subst e10; subst e11; subst e12; subst t13; subst e14; subst e15; subst e16; subst e17; subst t18; simp only [f_fin, f_fin1, f_fin2]
  exact cM_retv (Wd := FWd h0 h1 h2 cA cB) (st := s18) (st' := (f_fin st)) hx hb hr hlocks dX0_finishTransfer_82 hS hP hD fin.symm
abbrev rmX0_mount : Room := { frames := 6, cells := 0, slots := 0, locals := 137 }
-- mount
set_option maxHeartbeats 400000 in
set_option maxRecDepth 100000 in
theorem c_X0_mount (l : Launch) (D : va_G) (h0 h1 h2 : Nat) (cA cB : ClassId) (st : FS)   : cM l D vwCl (FT cA cB) (FWd h0 h1 h2 cA cB) yX0_mount wsX0_mount rmX0_mount [.ref h0] st (some (.int (f_mount st).1)) (f_mount st).2 := by
  refine cM_in (cc := cX0_mount) (maxL := 2) (ret := (some .int)) (by decide) rfl (Nat.le_of_ble_eq_true rfl) ?_
  intro p e s m below meth c ls A hx hb hr hlocks hml hown hts hA hK hP hD hS hl
  have hown : s.vm.findClass RX0 = some m.cls := hown
  have hl : lv_has ls 2 [(0, .ref h0)] := hl
  -- walk
  refine lv_aload_n hx hb dX0_mount_0 rfl (lv_at hl 0 rfl) ?_
  refine lv_iconst (v := 1) hx hb dX0_mount_1 (by decide) ?_
  refine va_put (D := D) (ci := 0) (v := .int 1) (ty := .boolean) (C := RX0) (T := TX0) (N := 6) hx hb hts (by decide +kernel) tyX0 tyX0_ok nmX0 hown hK hP hD hS 0 rfl rfl 2 (by decide) (hts (.fieldLink RX0 17 "FadeLedger" "powered" "Z") (by decide +kernel)) (fun _ h9 => h9) rfl (by decide +kernel) rfl rfl (Nat.le_of_ble_eq_true rfl) dX0_mount_2 (fun H locs hP hD hS => ?_)
  obtain ⟨s1, t1⟩ : ∃ z : FS, ((st.1, st.2.1, 1, st.2.2.2.1, st.2.2.2.2.1, st.2.2.2.2.2) : FS) = z := ⟨_, rfl⟩
  replace hP : va_P D vwCl (FWd h0 h1 h2 cA cB s1) H := by rw [← t1]; exact hP
  replace hD : va_D A (FWd h0 h1 h2 cA cB s1) := by rw [← t1]; exact hD
  refine lv_iconst (v := 0) hx hb dX0_mount_5 (by decide) ?_
  refine lv_istore_n (lv' := [(1, .int 0), (0, .ref h0)]) hx hb dX0_mount_6 rfl hl (by decide) rfl (fun ls hl => ?_)
  refine lv_iload_n hx hb dX0_mount_7 rfl (lv_at hl 0 rfl) ?_
  refine lv_bipush (v := 20) hx hb dX0_mount_8 (by decide) ?_
  refine lv_icmp_ge (tgt := 24) hx hb dX0_mount_10 (by decide) (fun c0 => absurd c0 (by decide)) (fun _ => ?_)
  refine lv_aload_n hx hb dX0_mount_13 rfl (lv_at hl 1 rfl) ?_
  refine lv_iload_n hx hb dX0_mount_14 rfl (lv_at hl 0 rfl) ?_
  refine cM_this (Wd := FWd h0 h1 h2 cA cB) (ci := 0) (q0 := 0) (n := 1) (as := [.int 0]) (rest := []) ⟨hx, hb, hml, hown, hts⟩ (c_X0_restoreCell l D h0 h1 h2 cA cB s1 0 in20_0) gX0_mount_X0_restoreCell rfl rfl rfl (by decide +kernel) ⟨Nat.le_of_ble_eq_true rfl, Nat.le_of_ble_eq_true rfl⟩ hK hP hD hS hA rfl rfl rfl hl.1 rfl rfl (Nat.le_of_ble_eq_true rfl) dX0_mount_15 ⟨Nat.zero_le _, Nat.zero_le _⟩ (fun H locs hP hD hS => ?_)
  refine W.eq (g2 := F0 m 18 ls []) rfl ?_
  obtain ⟨s2, t2⟩ : ∃ z : FS, f_rest 0 s1 = z := ⟨_, rfl⟩
  replace hP : va_P D vwCl (FWd h0 h1 h2 cA cB s2) H := by rw [← t2]; exact hP
  replace hD : va_D A (FWd h0 h1 h2 cA cB s2) := by rw [← t2]; exact hD
  refine lv_iinc (v := 1) (lv' := [(1, .int 1), (0, .ref h0)]) hx hb dX0_mount_18 hl (k := 0) rfl (by decide) (by decide) rfl (fun ls hl => ?_)
  refine lv_goto (tgt := 7) hx hb dX0_mount_21 (by decide) ?_
  refine lv_iload_n hx hb dX0_mount_7 rfl (lv_at hl 0 rfl) ?_
  refine lv_bipush (v := 20) hx hb dX0_mount_8 (by decide) ?_
  refine lv_icmp_ge (tgt := 24) hx hb dX0_mount_10 (by decide) (fun c0 => absurd c0 (by decide)) (fun _ => ?_)
  refine lv_aload_n hx hb dX0_mount_13 rfl (lv_at hl 1 rfl) ?_
  refine lv_iload_n hx hb dX0_mount_14 rfl (lv_at hl 0 rfl) ?_
  refine cM_this (Wd := FWd h0 h1 h2 cA cB) (ci := 0) (q0 := 0) (n := 1) (as := [.int 1]) (rest := []) ⟨hx, hb, hml, hown, hts⟩ (c_X0_restoreCell l D h0 h1 h2 cA cB s2 1 in20_1) gX0_mount_X0_restoreCell rfl rfl rfl (by decide +kernel) ⟨Nat.le_of_ble_eq_true rfl, Nat.le_of_ble_eq_true rfl⟩ hK hP hD hS hA rfl rfl rfl hl.1 rfl rfl (Nat.le_of_ble_eq_true rfl) dX0_mount_15 ⟨Nat.zero_le _, Nat.zero_le _⟩ (fun H locs hP hD hS => ?_)
  refine W.eq (g2 := F0 m 18 ls []) rfl ?_
  obtain ⟨s3, t3⟩ : ∃ z : FS, f_rest 1 s2 = z := ⟨_, rfl⟩
  replace hP : va_P D vwCl (FWd h0 h1 h2 cA cB s3) H := by rw [← t3]; exact hP
  replace hD : va_D A (FWd h0 h1 h2 cA cB s3) := by rw [← t3]; exact hD
  refine lv_iinc (v := 2) (lv' := [(1, .int 2), (0, .ref h0)]) hx hb dX0_mount_18 hl (k := 0) rfl (by decide) (by decide) rfl (fun ls hl => ?_)
  refine lv_goto (tgt := 7) hx hb dX0_mount_21 (by decide) ?_
  refine lv_iload_n hx hb dX0_mount_7 rfl (lv_at hl 0 rfl) ?_
  refine lv_bipush (v := 20) hx hb dX0_mount_8 (by decide) ?_
  refine lv_icmp_ge (tgt := 24) hx hb dX0_mount_10 (by decide) (fun c0 => absurd c0 (by decide)) (fun _ => ?_)
  refine lv_aload_n hx hb dX0_mount_13 rfl (lv_at hl 1 rfl) ?_
  refine lv_iload_n hx hb dX0_mount_14 rfl (lv_at hl 0 rfl) ?_
  refine cM_this (Wd := FWd h0 h1 h2 cA cB) (ci := 0) (q0 := 0) (n := 1) (as := [.int 2]) (rest := []) ⟨hx, hb, hml, hown, hts⟩ (c_X0_restoreCell l D h0 h1 h2 cA cB s3 2 in20_2) gX0_mount_X0_restoreCell rfl rfl rfl (by decide +kernel) ⟨Nat.le_of_ble_eq_true rfl, Nat.le_of_ble_eq_true rfl⟩ hK hP hD hS hA rfl rfl rfl hl.1 rfl rfl (Nat.le_of_ble_eq_true rfl) dX0_mount_15 ⟨Nat.zero_le _, Nat.zero_le _⟩ (fun H locs hP hD hS => ?_)
  refine W.eq (g2 := F0 m 18 ls []) rfl ?_
  obtain ⟨s4, t4⟩ : ∃ z : FS, f_rest 2 s3 = z := ⟨_, rfl⟩
  replace hP : va_P D vwCl (FWd h0 h1 h2 cA cB s4) H := by rw [← t4]; exact hP
  replace hD : va_D A (FWd h0 h1 h2 cA cB s4) := by rw [← t4]; exact hD
  refine lv_iinc (v := 3) (lv' := [(1, .int 3), (0, .ref h0)]) hx hb dX0_mount_18 hl (k := 0) rfl (by decide) (by decide) rfl (fun ls hl => ?_)
  refine lv_goto (tgt := 7) hx hb dX0_mount_21 (by decide) ?_
  refine lv_iload_n hx hb dX0_mount_7 rfl (lv_at hl 0 rfl) ?_
  refine lv_bipush (v := 20) hx hb dX0_mount_8 (by decide) ?_
  refine lv_icmp_ge (tgt := 24) hx hb dX0_mount_10 (by decide) (fun c0 => absurd c0 (by decide)) (fun _ => ?_)
  refine lv_aload_n hx hb dX0_mount_13 rfl (lv_at hl 1 rfl) ?_
  refine lv_iload_n hx hb dX0_mount_14 rfl (lv_at hl 0 rfl) ?_
  refine cM_this (Wd := FWd h0 h1 h2 cA cB) (ci := 0) (q0 := 0) (n := 1) (as := [.int 3]) (rest := []) ⟨hx, hb, hml, hown, hts⟩ (c_X0_restoreCell l D h0 h1 h2 cA cB s4 3 in20_3) gX0_mount_X0_restoreCell rfl rfl rfl (by decide +kernel) ⟨Nat.le_of_ble_eq_true rfl, Nat.le_of_ble_eq_true rfl⟩ hK hP hD hS hA rfl rfl rfl hl.1 rfl rfl (Nat.le_of_ble_eq_true rfl) dX0_mount_15 ⟨Nat.zero_le _, Nat.zero_le _⟩ (fun H locs hP hD hS => ?_)
  refine W.eq (g2 := F0 m 18 ls []) rfl ?_
  obtain ⟨s5, t5⟩ : ∃ z : FS, f_rest 3 s4 = z := ⟨_, rfl⟩
  replace hP : va_P D vwCl (FWd h0 h1 h2 cA cB s5) H := by rw [← t5]; exact hP
  replace hD : va_D A (FWd h0 h1 h2 cA cB s5) := by rw [← t5]; exact hD
  refine lv_iinc (v := 4) (lv' := [(1, .int 4), (0, .ref h0)]) hx hb dX0_mount_18 hl (k := 0) rfl (by decide) (by decide) rfl (fun ls hl => ?_)
  refine lv_goto (tgt := 7) hx hb dX0_mount_21 (by decide) ?_
  refine lv_iload_n hx hb dX0_mount_7 rfl (lv_at hl 0 rfl) ?_
  refine lv_bipush (v := 20) hx hb dX0_mount_8 (by decide) ?_
  refine lv_icmp_ge (tgt := 24) hx hb dX0_mount_10 (by decide) (fun c0 => absurd c0 (by decide)) (fun _ => ?_)
  refine lv_aload_n hx hb dX0_mount_13 rfl (lv_at hl 1 rfl) ?_
  refine lv_iload_n hx hb dX0_mount_14 rfl (lv_at hl 0 rfl) ?_
  refine cM_this (Wd := FWd h0 h1 h2 cA cB) (ci := 0) (q0 := 0) (n := 1) (as := [.int 4]) (rest := []) ⟨hx, hb, hml, hown, hts⟩ (c_X0_restoreCell l D h0 h1 h2 cA cB s5 4 in20_4) gX0_mount_X0_restoreCell rfl rfl rfl (by decide +kernel) ⟨Nat.le_of_ble_eq_true rfl, Nat.le_of_ble_eq_true rfl⟩ hK hP hD hS hA rfl rfl rfl hl.1 rfl rfl (Nat.le_of_ble_eq_true rfl) dX0_mount_15 ⟨Nat.zero_le _, Nat.zero_le _⟩ (fun H locs hP hD hS => ?_)
  refine W.eq (g2 := F0 m 18 ls []) rfl ?_
  obtain ⟨s6, t6⟩ : ∃ z : FS, f_rest 4 s5 = z := ⟨_, rfl⟩
  replace hP : va_P D vwCl (FWd h0 h1 h2 cA cB s6) H := by rw [← t6]; exact hP
  replace hD : va_D A (FWd h0 h1 h2 cA cB s6) := by rw [← t6]; exact hD
  refine lv_iinc (v := 5) (lv' := [(1, .int 5), (0, .ref h0)]) hx hb dX0_mount_18 hl (k := 0) rfl (by decide) (by decide) rfl (fun ls hl => ?_)
  refine lv_goto (tgt := 7) hx hb dX0_mount_21 (by decide) ?_
  refine lv_iload_n hx hb dX0_mount_7 rfl (lv_at hl 0 rfl) ?_
  refine lv_bipush (v := 20) hx hb dX0_mount_8 (by decide) ?_
  refine lv_icmp_ge (tgt := 24) hx hb dX0_mount_10 (by decide) (fun c0 => absurd c0 (by decide)) (fun _ => ?_)
  refine lv_aload_n hx hb dX0_mount_13 rfl (lv_at hl 1 rfl) ?_
  refine lv_iload_n hx hb dX0_mount_14 rfl (lv_at hl 0 rfl) ?_
  refine cM_this (Wd := FWd h0 h1 h2 cA cB) (ci := 0) (q0 := 0) (n := 1) (as := [.int 5]) (rest := []) ⟨hx, hb, hml, hown, hts⟩ (c_X0_restoreCell l D h0 h1 h2 cA cB s6 5 in20_5) gX0_mount_X0_restoreCell rfl rfl rfl (by decide +kernel) ⟨Nat.le_of_ble_eq_true rfl, Nat.le_of_ble_eq_true rfl⟩ hK hP hD hS hA rfl rfl rfl hl.1 rfl rfl (Nat.le_of_ble_eq_true rfl) dX0_mount_15 ⟨Nat.zero_le _, Nat.zero_le _⟩ (fun H locs hP hD hS => ?_)
  refine W.eq (g2 := F0 m 18 ls []) rfl ?_
  obtain ⟨s7, t7⟩ : ∃ z : FS, f_rest 5 s6 = z := ⟨_, rfl⟩
  replace hP : va_P D vwCl (FWd h0 h1 h2 cA cB s7) H := by rw [← t7]; exact hP
  replace hD : va_D A (FWd h0 h1 h2 cA cB s7) := by rw [← t7]; exact hD
  refine lv_iinc (v := 6) (lv' := [(1, .int 6), (0, .ref h0)]) hx hb dX0_mount_18 hl (k := 0) rfl (by decide) (by decide) rfl (fun ls hl => ?_)
  refine lv_goto (tgt := 7) hx hb dX0_mount_21 (by decide) ?_
  refine lv_iload_n hx hb dX0_mount_7 rfl (lv_at hl 0 rfl) ?_
  refine lv_bipush (v := 20) hx hb dX0_mount_8 (by decide) ?_
  refine lv_icmp_ge (tgt := 24) hx hb dX0_mount_10 (by decide) (fun c0 => absurd c0 (by decide)) (fun _ => ?_)
  refine lv_aload_n hx hb dX0_mount_13 rfl (lv_at hl 1 rfl) ?_
  refine lv_iload_n hx hb dX0_mount_14 rfl (lv_at hl 0 rfl) ?_
  refine cM_this (Wd := FWd h0 h1 h2 cA cB) (ci := 0) (q0 := 0) (n := 1) (as := [.int 6]) (rest := []) ⟨hx, hb, hml, hown, hts⟩ (c_X0_restoreCell l D h0 h1 h2 cA cB s7 6 in20_6) gX0_mount_X0_restoreCell rfl rfl rfl (by decide +kernel) ⟨Nat.le_of_ble_eq_true rfl, Nat.le_of_ble_eq_true rfl⟩ hK hP hD hS hA rfl rfl rfl hl.1 rfl rfl (Nat.le_of_ble_eq_true rfl) dX0_mount_15 ⟨Nat.zero_le _, Nat.zero_le _⟩ (fun H locs hP hD hS => ?_)
  refine W.eq (g2 := F0 m 18 ls []) rfl ?_
  obtain ⟨s8, t8⟩ : ∃ z : FS, f_rest 6 s7 = z := ⟨_, rfl⟩
  replace hP : va_P D vwCl (FWd h0 h1 h2 cA cB s8) H := by rw [← t8]; exact hP
  replace hD : va_D A (FWd h0 h1 h2 cA cB s8) := by rw [← t8]; exact hD
  refine lv_iinc (v := 7) (lv' := [(1, .int 7), (0, .ref h0)]) hx hb dX0_mount_18 hl (k := 0) rfl (by decide) (by decide) rfl (fun ls hl => ?_)
  refine lv_goto (tgt := 7) hx hb dX0_mount_21 (by decide) ?_
  refine lv_iload_n hx hb dX0_mount_7 rfl (lv_at hl 0 rfl) ?_
  refine lv_bipush (v := 20) hx hb dX0_mount_8 (by decide) ?_
  refine lv_icmp_ge (tgt := 24) hx hb dX0_mount_10 (by decide) (fun c0 => absurd c0 (by decide)) (fun _ => ?_)
  refine lv_aload_n hx hb dX0_mount_13 rfl (lv_at hl 1 rfl) ?_
  refine lv_iload_n hx hb dX0_mount_14 rfl (lv_at hl 0 rfl) ?_
  refine cM_this (Wd := FWd h0 h1 h2 cA cB) (ci := 0) (q0 := 0) (n := 1) (as := [.int 7]) (rest := []) ⟨hx, hb, hml, hown, hts⟩ (c_X0_restoreCell l D h0 h1 h2 cA cB s8 7 in20_7) gX0_mount_X0_restoreCell rfl rfl rfl (by decide +kernel) ⟨Nat.le_of_ble_eq_true rfl, Nat.le_of_ble_eq_true rfl⟩ hK hP hD hS hA rfl rfl rfl hl.1 rfl rfl (Nat.le_of_ble_eq_true rfl) dX0_mount_15 ⟨Nat.zero_le _, Nat.zero_le _⟩ (fun H locs hP hD hS => ?_)
  refine W.eq (g2 := F0 m 18 ls []) rfl ?_
  obtain ⟨s9, t9⟩ : ∃ z : FS, f_rest 7 s8 = z := ⟨_, rfl⟩
  replace hP : va_P D vwCl (FWd h0 h1 h2 cA cB s9) H := by rw [← t9]; exact hP
  replace hD : va_D A (FWd h0 h1 h2 cA cB s9) := by rw [← t9]; exact hD
  refine lv_iinc (v := 8) (lv' := [(1, .int 8), (0, .ref h0)]) hx hb dX0_mount_18 hl (k := 0) rfl (by decide) (by decide) rfl (fun ls hl => ?_)
  refine lv_goto (tgt := 7) hx hb dX0_mount_21 (by decide) ?_
  refine lv_iload_n hx hb dX0_mount_7 rfl (lv_at hl 0 rfl) ?_
  refine lv_bipush (v := 20) hx hb dX0_mount_8 (by decide) ?_
  refine lv_icmp_ge (tgt := 24) hx hb dX0_mount_10 (by decide) (fun c0 => absurd c0 (by decide)) (fun _ => ?_)
  refine lv_aload_n hx hb dX0_mount_13 rfl (lv_at hl 1 rfl) ?_
  refine lv_iload_n hx hb dX0_mount_14 rfl (lv_at hl 0 rfl) ?_
  refine cM_this (Wd := FWd h0 h1 h2 cA cB) (ci := 0) (q0 := 0) (n := 1) (as := [.int 8]) (rest := []) ⟨hx, hb, hml, hown, hts⟩ (c_X0_restoreCell l D h0 h1 h2 cA cB s9 8 in20_8) gX0_mount_X0_restoreCell rfl rfl rfl (by decide +kernel) ⟨Nat.le_of_ble_eq_true rfl, Nat.le_of_ble_eq_true rfl⟩ hK hP hD hS hA rfl rfl rfl hl.1 rfl rfl (Nat.le_of_ble_eq_true rfl) dX0_mount_15 ⟨Nat.zero_le _, Nat.zero_le _⟩ (fun H locs hP hD hS => ?_)
  refine W.eq (g2 := F0 m 18 ls []) rfl ?_
  obtain ⟨s10, t10⟩ : ∃ z : FS, f_rest 8 s9 = z := ⟨_, rfl⟩
  replace hP : va_P D vwCl (FWd h0 h1 h2 cA cB s10) H := by rw [← t10]; exact hP
  replace hD : va_D A (FWd h0 h1 h2 cA cB s10) := by rw [← t10]; exact hD
  refine lv_iinc (v := 9) (lv' := [(1, .int 9), (0, .ref h0)]) hx hb dX0_mount_18 hl (k := 0) rfl (by decide) (by decide) rfl (fun ls hl => ?_)
  refine lv_goto (tgt := 7) hx hb dX0_mount_21 (by decide) ?_
  refine lv_iload_n hx hb dX0_mount_7 rfl (lv_at hl 0 rfl) ?_
  refine lv_bipush (v := 20) hx hb dX0_mount_8 (by decide) ?_
  refine lv_icmp_ge (tgt := 24) hx hb dX0_mount_10 (by decide) (fun c0 => absurd c0 (by decide)) (fun _ => ?_)
  refine lv_aload_n hx hb dX0_mount_13 rfl (lv_at hl 1 rfl) ?_
  refine lv_iload_n hx hb dX0_mount_14 rfl (lv_at hl 0 rfl) ?_
  refine cM_this (Wd := FWd h0 h1 h2 cA cB) (ci := 0) (q0 := 0) (n := 1) (as := [.int 9]) (rest := []) ⟨hx, hb, hml, hown, hts⟩ (c_X0_restoreCell l D h0 h1 h2 cA cB s10 9 in20_9) gX0_mount_X0_restoreCell rfl rfl rfl (by decide +kernel) ⟨Nat.le_of_ble_eq_true rfl, Nat.le_of_ble_eq_true rfl⟩ hK hP hD hS hA rfl rfl rfl hl.1 rfl rfl (Nat.le_of_ble_eq_true rfl) dX0_mount_15 ⟨Nat.zero_le _, Nat.zero_le _⟩ (fun H locs hP hD hS => ?_)
  refine W.eq (g2 := F0 m 18 ls []) rfl ?_
  obtain ⟨s11, t11⟩ : ∃ z : FS, f_rest 9 s10 = z := ⟨_, rfl⟩
  replace hP : va_P D vwCl (FWd h0 h1 h2 cA cB s11) H := by rw [← t11]; exact hP
  replace hD : va_D A (FWd h0 h1 h2 cA cB s11) := by rw [← t11]; exact hD
  refine lv_iinc (v := 10) (lv' := [(1, .int 10), (0, .ref h0)]) hx hb dX0_mount_18 hl (k := 0) rfl (by decide) (by decide) rfl (fun ls hl => ?_)
  refine lv_goto (tgt := 7) hx hb dX0_mount_21 (by decide) ?_
  refine lv_iload_n hx hb dX0_mount_7 rfl (lv_at hl 0 rfl) ?_
  refine lv_bipush (v := 20) hx hb dX0_mount_8 (by decide) ?_
  refine lv_icmp_ge (tgt := 24) hx hb dX0_mount_10 (by decide) (fun c0 => absurd c0 (by decide)) (fun _ => ?_)
  refine lv_aload_n hx hb dX0_mount_13 rfl (lv_at hl 1 rfl) ?_
  refine lv_iload_n hx hb dX0_mount_14 rfl (lv_at hl 0 rfl) ?_
  refine cM_this (Wd := FWd h0 h1 h2 cA cB) (ci := 0) (q0 := 0) (n := 1) (as := [.int 10]) (rest := []) ⟨hx, hb, hml, hown, hts⟩ (c_X0_restoreCell l D h0 h1 h2 cA cB s11 10 in20_10) gX0_mount_X0_restoreCell rfl rfl rfl (by decide +kernel) ⟨Nat.le_of_ble_eq_true rfl, Nat.le_of_ble_eq_true rfl⟩ hK hP hD hS hA rfl rfl rfl hl.1 rfl rfl (Nat.le_of_ble_eq_true rfl) dX0_mount_15 ⟨Nat.zero_le _, Nat.zero_le _⟩ (fun H locs hP hD hS => ?_)
  refine W.eq (g2 := F0 m 18 ls []) rfl ?_
  obtain ⟨s12, t12⟩ : ∃ z : FS, f_rest 10 s11 = z := ⟨_, rfl⟩
  replace hP : va_P D vwCl (FWd h0 h1 h2 cA cB s12) H := by rw [← t12]; exact hP
  replace hD : va_D A (FWd h0 h1 h2 cA cB s12) := by rw [← t12]; exact hD
  refine lv_iinc (v := 11) (lv' := [(1, .int 11), (0, .ref h0)]) hx hb dX0_mount_18 hl (k := 0) rfl (by decide) (by decide) rfl (fun ls hl => ?_)
  refine lv_goto (tgt := 7) hx hb dX0_mount_21 (by decide) ?_
  refine lv_iload_n hx hb dX0_mount_7 rfl (lv_at hl 0 rfl) ?_
  refine lv_bipush (v := 20) hx hb dX0_mount_8 (by decide) ?_
  refine lv_icmp_ge (tgt := 24) hx hb dX0_mount_10 (by decide) (fun c0 => absurd c0 (by decide)) (fun _ => ?_)
  refine lv_aload_n hx hb dX0_mount_13 rfl (lv_at hl 1 rfl) ?_
  refine lv_iload_n hx hb dX0_mount_14 rfl (lv_at hl 0 rfl) ?_
  refine cM_this (Wd := FWd h0 h1 h2 cA cB) (ci := 0) (q0 := 0) (n := 1) (as := [.int 11]) (rest := []) ⟨hx, hb, hml, hown, hts⟩ (c_X0_restoreCell l D h0 h1 h2 cA cB s12 11 in20_11) gX0_mount_X0_restoreCell rfl rfl rfl (by decide +kernel) ⟨Nat.le_of_ble_eq_true rfl, Nat.le_of_ble_eq_true rfl⟩ hK hP hD hS hA rfl rfl rfl hl.1 rfl rfl (Nat.le_of_ble_eq_true rfl) dX0_mount_15 ⟨Nat.zero_le _, Nat.zero_le _⟩ (fun H locs hP hD hS => ?_)
  refine W.eq (g2 := F0 m 18 ls []) rfl ?_
  obtain ⟨s13, t13⟩ : ∃ z : FS, f_rest 11 s12 = z := ⟨_, rfl⟩
  replace hP : va_P D vwCl (FWd h0 h1 h2 cA cB s13) H := by rw [← t13]; exact hP
  replace hD : va_D A (FWd h0 h1 h2 cA cB s13) := by rw [← t13]; exact hD
  refine lv_iinc (v := 12) (lv' := [(1, .int 12), (0, .ref h0)]) hx hb dX0_mount_18 hl (k := 0) rfl (by decide) (by decide) rfl (fun ls hl => ?_)
  refine lv_goto (tgt := 7) hx hb dX0_mount_21 (by decide) ?_
  refine lv_iload_n hx hb dX0_mount_7 rfl (lv_at hl 0 rfl) ?_
  refine lv_bipush (v := 20) hx hb dX0_mount_8 (by decide) ?_
  refine lv_icmp_ge (tgt := 24) hx hb dX0_mount_10 (by decide) (fun c0 => absurd c0 (by decide)) (fun _ => ?_)
  refine lv_aload_n hx hb dX0_mount_13 rfl (lv_at hl 1 rfl) ?_
  refine lv_iload_n hx hb dX0_mount_14 rfl (lv_at hl 0 rfl) ?_
  refine cM_this (Wd := FWd h0 h1 h2 cA cB) (ci := 0) (q0 := 0) (n := 1) (as := [.int 12]) (rest := []) ⟨hx, hb, hml, hown, hts⟩ (c_X0_restoreCell l D h0 h1 h2 cA cB s13 12 in20_12) gX0_mount_X0_restoreCell rfl rfl rfl (by decide +kernel) ⟨Nat.le_of_ble_eq_true rfl, Nat.le_of_ble_eq_true rfl⟩ hK hP hD hS hA rfl rfl rfl hl.1 rfl rfl (Nat.le_of_ble_eq_true rfl) dX0_mount_15 ⟨Nat.zero_le _, Nat.zero_le _⟩ (fun H locs hP hD hS => ?_)
  refine W.eq (g2 := F0 m 18 ls []) rfl ?_
  obtain ⟨s14, t14⟩ : ∃ z : FS, f_rest 12 s13 = z := ⟨_, rfl⟩
  replace hP : va_P D vwCl (FWd h0 h1 h2 cA cB s14) H := by rw [← t14]; exact hP
  replace hD : va_D A (FWd h0 h1 h2 cA cB s14) := by rw [← t14]; exact hD
  refine lv_iinc (v := 13) (lv' := [(1, .int 13), (0, .ref h0)]) hx hb dX0_mount_18 hl (k := 0) rfl (by decide) (by decide) rfl (fun ls hl => ?_)
  refine lv_goto (tgt := 7) hx hb dX0_mount_21 (by decide) ?_
  refine lv_iload_n hx hb dX0_mount_7 rfl (lv_at hl 0 rfl) ?_
  refine lv_bipush (v := 20) hx hb dX0_mount_8 (by decide) ?_
  refine lv_icmp_ge (tgt := 24) hx hb dX0_mount_10 (by decide) (fun c0 => absurd c0 (by decide)) (fun _ => ?_)
  refine lv_aload_n hx hb dX0_mount_13 rfl (lv_at hl 1 rfl) ?_
  refine lv_iload_n hx hb dX0_mount_14 rfl (lv_at hl 0 rfl) ?_
  refine cM_this (Wd := FWd h0 h1 h2 cA cB) (ci := 0) (q0 := 0) (n := 1) (as := [.int 13]) (rest := []) ⟨hx, hb, hml, hown, hts⟩ (c_X0_restoreCell l D h0 h1 h2 cA cB s14 13 in20_13) gX0_mount_X0_restoreCell rfl rfl rfl (by decide +kernel) ⟨Nat.le_of_ble_eq_true rfl, Nat.le_of_ble_eq_true rfl⟩ hK hP hD hS hA rfl rfl rfl hl.1 rfl rfl (Nat.le_of_ble_eq_true rfl) dX0_mount_15 ⟨Nat.zero_le _, Nat.zero_le _⟩ (fun H locs hP hD hS => ?_)
  refine W.eq (g2 := F0 m 18 ls []) rfl ?_
  obtain ⟨s15, t15⟩ : ∃ z : FS, f_rest 13 s14 = z := ⟨_, rfl⟩
  replace hP : va_P D vwCl (FWd h0 h1 h2 cA cB s15) H := by rw [← t15]; exact hP
  replace hD : va_D A (FWd h0 h1 h2 cA cB s15) := by rw [← t15]; exact hD
  refine lv_iinc (v := 14) (lv' := [(1, .int 14), (0, .ref h0)]) hx hb dX0_mount_18 hl (k := 0) rfl (by decide) (by decide) rfl (fun ls hl => ?_)
  refine lv_goto (tgt := 7) hx hb dX0_mount_21 (by decide) ?_
  refine lv_iload_n hx hb dX0_mount_7 rfl (lv_at hl 0 rfl) ?_
  refine lv_bipush (v := 20) hx hb dX0_mount_8 (by decide) ?_
  refine lv_icmp_ge (tgt := 24) hx hb dX0_mount_10 (by decide) (fun c0 => absurd c0 (by decide)) (fun _ => ?_)
  refine lv_aload_n hx hb dX0_mount_13 rfl (lv_at hl 1 rfl) ?_
  refine lv_iload_n hx hb dX0_mount_14 rfl (lv_at hl 0 rfl) ?_
  refine cM_this (Wd := FWd h0 h1 h2 cA cB) (ci := 0) (q0 := 0) (n := 1) (as := [.int 14]) (rest := []) ⟨hx, hb, hml, hown, hts⟩ (c_X0_restoreCell l D h0 h1 h2 cA cB s15 14 in20_14) gX0_mount_X0_restoreCell rfl rfl rfl (by decide +kernel) ⟨Nat.le_of_ble_eq_true rfl, Nat.le_of_ble_eq_true rfl⟩ hK hP hD hS hA rfl rfl rfl hl.1 rfl rfl (Nat.le_of_ble_eq_true rfl) dX0_mount_15 ⟨Nat.zero_le _, Nat.zero_le _⟩ (fun H locs hP hD hS => ?_)
  refine W.eq (g2 := F0 m 18 ls []) rfl ?_
  obtain ⟨s16, t16⟩ : ∃ z : FS, f_rest 14 s15 = z := ⟨_, rfl⟩
  replace hP : va_P D vwCl (FWd h0 h1 h2 cA cB s16) H := by rw [← t16]; exact hP
  replace hD : va_D A (FWd h0 h1 h2 cA cB s16) := by rw [← t16]; exact hD
  refine lv_iinc (v := 15) (lv' := [(1, .int 15), (0, .ref h0)]) hx hb dX0_mount_18 hl (k := 0) rfl (by decide) (by decide) rfl (fun ls hl => ?_)
  refine lv_goto (tgt := 7) hx hb dX0_mount_21 (by decide) ?_
  refine lv_iload_n hx hb dX0_mount_7 rfl (lv_at hl 0 rfl) ?_
  refine lv_bipush (v := 20) hx hb dX0_mount_8 (by decide) ?_
  refine lv_icmp_ge (tgt := 24) hx hb dX0_mount_10 (by decide) (fun c0 => absurd c0 (by decide)) (fun _ => ?_)
  refine lv_aload_n hx hb dX0_mount_13 rfl (lv_at hl 1 rfl) ?_
  refine lv_iload_n hx hb dX0_mount_14 rfl (lv_at hl 0 rfl) ?_
  refine cM_this (Wd := FWd h0 h1 h2 cA cB) (ci := 0) (q0 := 0) (n := 1) (as := [.int 15]) (rest := []) ⟨hx, hb, hml, hown, hts⟩ (c_X0_restoreCell l D h0 h1 h2 cA cB s16 15 in20_15) gX0_mount_X0_restoreCell rfl rfl rfl (by decide +kernel) ⟨Nat.le_of_ble_eq_true rfl, Nat.le_of_ble_eq_true rfl⟩ hK hP hD hS hA rfl rfl rfl hl.1 rfl rfl (Nat.le_of_ble_eq_true rfl) dX0_mount_15 ⟨Nat.zero_le _, Nat.zero_le _⟩ (fun H locs hP hD hS => ?_)
  refine W.eq (g2 := F0 m 18 ls []) rfl ?_
  obtain ⟨s17, t17⟩ : ∃ z : FS, f_rest 15 s16 = z := ⟨_, rfl⟩
  replace hP : va_P D vwCl (FWd h0 h1 h2 cA cB s17) H := by rw [← t17]; exact hP
  replace hD : va_D A (FWd h0 h1 h2 cA cB s17) := by rw [← t17]; exact hD
  refine lv_iinc (v := 16) (lv' := [(1, .int 16), (0, .ref h0)]) hx hb dX0_mount_18 hl (k := 0) rfl (by decide) (by decide) rfl (fun ls hl => ?_)
  refine lv_goto (tgt := 7) hx hb dX0_mount_21 (by decide) ?_
  refine lv_iload_n hx hb dX0_mount_7 rfl (lv_at hl 0 rfl) ?_
  refine lv_bipush (v := 20) hx hb dX0_mount_8 (by decide) ?_
  refine lv_icmp_ge (tgt := 24) hx hb dX0_mount_10 (by decide) (fun c0 => absurd c0 (by decide)) (fun _ => ?_)
  refine lv_aload_n hx hb dX0_mount_13 rfl (lv_at hl 1 rfl) ?_
  refine lv_iload_n hx hb dX0_mount_14 rfl (lv_at hl 0 rfl) ?_
  refine cM_this (Wd := FWd h0 h1 h2 cA cB) (ci := 0) (q0 := 0) (n := 1) (as := [.int 16]) (rest := []) ⟨hx, hb, hml, hown, hts⟩ (c_X0_restoreCell l D h0 h1 h2 cA cB s17 16 in20_16) gX0_mount_X0_restoreCell rfl rfl rfl (by decide +kernel) ⟨Nat.le_of_ble_eq_true rfl, Nat.le_of_ble_eq_true rfl⟩ hK hP hD hS hA rfl rfl rfl hl.1 rfl rfl (Nat.le_of_ble_eq_true rfl) dX0_mount_15 ⟨Nat.zero_le _, Nat.zero_le _⟩ (fun H locs hP hD hS => ?_)
  refine W.eq (g2 := F0 m 18 ls []) rfl ?_
  obtain ⟨s18, t18⟩ : ∃ z : FS, f_rest 16 s17 = z := ⟨_, rfl⟩
  replace hP : va_P D vwCl (FWd h0 h1 h2 cA cB s18) H := by rw [← t18]; exact hP
  replace hD : va_D A (FWd h0 h1 h2 cA cB s18) := by rw [← t18]; exact hD
  refine lv_iinc (v := 17) (lv' := [(1, .int 17), (0, .ref h0)]) hx hb dX0_mount_18 hl (k := 0) rfl (by decide) (by decide) rfl (fun ls hl => ?_)
  refine lv_goto (tgt := 7) hx hb dX0_mount_21 (by decide) ?_
  refine lv_iload_n hx hb dX0_mount_7 rfl (lv_at hl 0 rfl) ?_
  refine lv_bipush (v := 20) hx hb dX0_mount_8 (by decide) ?_
  refine lv_icmp_ge (tgt := 24) hx hb dX0_mount_10 (by decide) (fun c0 => absurd c0 (by decide)) (fun _ => ?_)
  refine lv_aload_n hx hb dX0_mount_13 rfl (lv_at hl 1 rfl) ?_
  refine lv_iload_n hx hb dX0_mount_14 rfl (lv_at hl 0 rfl) ?_
  refine cM_this (Wd := FWd h0 h1 h2 cA cB) (ci := 0) (q0 := 0) (n := 1) (as := [.int 17]) (rest := []) ⟨hx, hb, hml, hown, hts⟩ (c_X0_restoreCell l D h0 h1 h2 cA cB s18 17 in20_17) gX0_mount_X0_restoreCell rfl rfl rfl (by decide +kernel) ⟨Nat.le_of_ble_eq_true rfl, Nat.le_of_ble_eq_true rfl⟩ hK hP hD hS hA rfl rfl rfl hl.1 rfl rfl (Nat.le_of_ble_eq_true rfl) dX0_mount_15 ⟨Nat.zero_le _, Nat.zero_le _⟩ (fun H locs hP hD hS => ?_)
  refine W.eq (g2 := F0 m 18 ls []) rfl ?_
  obtain ⟨s19, t19⟩ : ∃ z : FS, f_rest 17 s18 = z := ⟨_, rfl⟩
  replace hP : va_P D vwCl (FWd h0 h1 h2 cA cB s19) H := by rw [← t19]; exact hP
  replace hD : va_D A (FWd h0 h1 h2 cA cB s19) := by rw [← t19]; exact hD
  refine lv_iinc (v := 18) (lv' := [(1, .int 18), (0, .ref h0)]) hx hb dX0_mount_18 hl (k := 0) rfl (by decide) (by decide) rfl (fun ls hl => ?_)
  refine lv_goto (tgt := 7) hx hb dX0_mount_21 (by decide) ?_
  refine lv_iload_n hx hb dX0_mount_7 rfl (lv_at hl 0 rfl) ?_
  refine lv_bipush (v := 20) hx hb dX0_mount_8 (by decide) ?_
  refine lv_icmp_ge (tgt := 24) hx hb dX0_mount_10 (by decide) (fun c0 => absurd c0 (by decide)) (fun _ => ?_)
  refine lv_aload_n hx hb dX0_mount_13 rfl (lv_at hl 1 rfl) ?_
  refine lv_iload_n hx hb dX0_mount_14 rfl (lv_at hl 0 rfl) ?_
  refine cM_this (Wd := FWd h0 h1 h2 cA cB) (ci := 0) (q0 := 0) (n := 1) (as := [.int 18]) (rest := []) ⟨hx, hb, hml, hown, hts⟩ (c_X0_restoreCell l D h0 h1 h2 cA cB s19 18 in20_18) gX0_mount_X0_restoreCell rfl rfl rfl (by decide +kernel) ⟨Nat.le_of_ble_eq_true rfl, Nat.le_of_ble_eq_true rfl⟩ hK hP hD hS hA rfl rfl rfl hl.1 rfl rfl (Nat.le_of_ble_eq_true rfl) dX0_mount_15 ⟨Nat.zero_le _, Nat.zero_le _⟩ (fun H locs hP hD hS => ?_)
  refine W.eq (g2 := F0 m 18 ls []) rfl ?_
  obtain ⟨s20, t20⟩ : ∃ z : FS, f_rest 18 s19 = z := ⟨_, rfl⟩
  replace hP : va_P D vwCl (FWd h0 h1 h2 cA cB s20) H := by rw [← t20]; exact hP
  replace hD : va_D A (FWd h0 h1 h2 cA cB s20) := by rw [← t20]; exact hD
  refine lv_iinc (v := 19) (lv' := [(1, .int 19), (0, .ref h0)]) hx hb dX0_mount_18 hl (k := 0) rfl (by decide) (by decide) rfl (fun ls hl => ?_)
  refine lv_goto (tgt := 7) hx hb dX0_mount_21 (by decide) ?_
  refine lv_iload_n hx hb dX0_mount_7 rfl (lv_at hl 0 rfl) ?_
  refine lv_bipush (v := 20) hx hb dX0_mount_8 (by decide) ?_
  refine lv_icmp_ge (tgt := 24) hx hb dX0_mount_10 (by decide) (fun c0 => absurd c0 (by decide)) (fun _ => ?_)
  refine lv_aload_n hx hb dX0_mount_13 rfl (lv_at hl 1 rfl) ?_
  refine lv_iload_n hx hb dX0_mount_14 rfl (lv_at hl 0 rfl) ?_
  refine cM_this (Wd := FWd h0 h1 h2 cA cB) (ci := 0) (q0 := 0) (n := 1) (as := [.int 19]) (rest := []) ⟨hx, hb, hml, hown, hts⟩ (c_X0_restoreCell l D h0 h1 h2 cA cB s20 19 in20_19) gX0_mount_X0_restoreCell rfl rfl rfl (by decide +kernel) ⟨Nat.le_of_ble_eq_true rfl, Nat.le_of_ble_eq_true rfl⟩ hK hP hD hS hA rfl rfl rfl hl.1 rfl rfl (Nat.le_of_ble_eq_true rfl) dX0_mount_15 ⟨Nat.zero_le _, Nat.zero_le _⟩ (fun H locs hP hD hS => ?_)
  refine W.eq (g2 := F0 m 18 ls []) rfl ?_
  obtain ⟨s21, t21⟩ : ∃ z : FS, f_rest 19 s20 = z := ⟨_, rfl⟩
  replace hP : va_P D vwCl (FWd h0 h1 h2 cA cB s21) H := by rw [← t21]; exact hP
  replace hD : va_D A (FWd h0 h1 h2 cA cB s21) := by rw [← t21]; exact hD
  refine lv_iinc (v := 20) (lv' := [(1, .int 20), (0, .ref h0)]) hx hb dX0_mount_18 hl (k := 0) rfl (by decide) (by decide) rfl (fun ls hl => ?_)
  refine lv_goto (tgt := 7) hx hb dX0_mount_21 (by decide) ?_
  refine lv_iload_n hx hb dX0_mount_7 rfl (lv_at hl 0 rfl) ?_
  refine lv_bipush (v := 20) hx hb dX0_mount_8 (by decide) ?_
  refine lv_icmp_ge (tgt := 24) hx hb dX0_mount_10 (by decide) (fun _ => ?_) (fun c0 => absurd c0 (by decide))
  refine lv_aload_n hx hb dX0_mount_24 rfl (lv_at hl 1 rfl) ?_
  refine va_get (D := D) (ci := 0) (v := .int s21.2.2.1) (C := RX0) (T := TX0) (N := 6) hx hb hts (by decide +kernel) hown hK hP 0 rfl rfl 2 (by decide) (hts (.fieldLink RX0 17 "FadeLedger" "powered" "Z") (by decide +kernel)) (fun _ h9 => h9) rfl dX0_mount_25 ?_
  refine tpi (fun v22 e22 => ?_)
  refine lv_if_eq (tgt := 42) hx hb dX0_mount_28 (by decide) (fun c23 => ?_) (fun c23 => ?_)
  · refine lv_aload_n hx hb dX0_mount_42 rfl (lv_at hl 1 rfl) ?_
    refine lv_iconst (v := 1) hx hb dX0_mount_43 (by decide) ?_
    refine cM_this (Wd := FWd h0 h1 h2 cA cB) (ci := 0) (q0 := 0) (n := 1) (as := [.int 1]) (rest := []) ⟨hx, hb, hml, hown, hts⟩ (c_X0_answerOf l D h0 h1 h2 cA cB s21 1) gX0_mount_X0_answerOf rfl rfl rfl (by decide +kernel) ⟨Nat.le_of_ble_eq_true rfl, Nat.le_of_ble_eq_true rfl⟩ hK hP hD hS hA rfl rfl rfl hl.1 rfl rfl (Nat.le_of_ble_eq_true rfl) dX0_mount_44 ⟨Nat.zero_le _, Nat.zero_le _⟩ (fun H locs hP hD hS => ?_)
    refine tpi (fun v24 e24 => ?_)
    have fin : f_mount st = (v24, s21) := by
      clear hP hD hS; subst t1; subst t2; subst t3; subst t4; subst t5; subst t6; subst t7; subst t8; subst t9; subst t10; subst t11; subst t12; subst t13; subst t14; subst t15; subst t16; subst t17; subst t18; subst t19; subst t20; subst t21; subst e22; subst e24; simp only [f_mount, f_rests, f_cells, List.foldl, f_an2, f_fp, c23, ↓reduceIte, not_true_eq_false, not_false_eq_true, and_self, and_true, true_and, and_false, false_and, eq_self, i10]
    exact cM_reti (Wd := FWd h0 h1 h2 cA cB) (st := s21) (st' := (f_mount st).2) hx hb hr hlocks dX0_mount_47 hS hP hD (congrArg Prod.fst fin).symm (congrArg Prod.snd fin).symm
  · refine lv_aload_n hx hb dX0_mount_31 rfl (lv_at hl 1 rfl) ?_
    refine cM_this (Wd := FWd h0 h1 h2 cA cB) (ci := 0) (q0 := 0) (n := 0) (as := []) (rest := []) ⟨hx, hb, hml, hown, hts⟩ (c_X0_slipIsPending l D h0 h1 h2 cA cB s21) gX0_mount_X0_slipIsPending rfl rfl rfl (by decide +kernel) ⟨Nat.le_of_ble_eq_true rfl, Nat.le_of_ble_eq_true rfl⟩ hK hP hD hS hA rfl rfl rfl hl.1 rfl rfl (Nat.le_of_ble_eq_true rfl) dX0_mount_32 ⟨Nat.zero_le _, Nat.zero_le _⟩ (fun H locs hP hD hS => ?_)
    refine tpi (fun v25 e25 => ?_)
    refine lv_if_eq (tgt := 42) hx hb dX0_mount_35 (by decide) (fun c26 => ?_) (fun c26 => ?_)
    · refine lv_aload_n hx hb dX0_mount_42 rfl (lv_at hl 1 rfl) ?_
      refine lv_iconst (v := 1) hx hb dX0_mount_43 (by decide) ?_
      refine cM_this (Wd := FWd h0 h1 h2 cA cB) (ci := 0) (q0 := 0) (n := 1) (as := [.int 1]) (rest := []) ⟨hx, hb, hml, hown, hts⟩ (c_X0_answerOf l D h0 h1 h2 cA cB s21 1) gX0_mount_X0_answerOf rfl rfl rfl (by decide +kernel) ⟨Nat.le_of_ble_eq_true rfl, Nat.le_of_ble_eq_true rfl⟩ hK hP hD hS hA rfl rfl rfl hl.1 rfl rfl (Nat.le_of_ble_eq_true rfl) dX0_mount_44 ⟨Nat.zero_le _, Nat.zero_le _⟩ (fun H locs hP hD hS => ?_)
      refine tpi (fun v27 e27 => ?_)
      have fin : f_mount st = (v27, s21) := by
        clear hP hD hS; subst t1; subst t2; subst t3; subst t4; subst t5; subst t6; subst t7; subst t8; subst t9; subst t10; subst t11; subst t12; subst t13; subst t14; subst t15; subst t16; subst t17; subst t18; subst t19; subst t20; subst t21; subst e22; subst e25; subst e27; simp only [f_mount, f_rests, f_cells, List.foldl, f_an2, f_fp, c23, c26, ↓reduceIte, not_true_eq_false, not_false_eq_true, and_self, and_true, true_and, and_false, false_and, eq_self, i10]
      exact cM_reti (Wd := FWd h0 h1 h2 cA cB) (st := s21) (st' := (f_mount st).2) hx hb hr hlocks dX0_mount_47 hS hP hD (congrArg Prod.fst fin).symm (congrArg Prod.snd fin).symm
    · refine lv_aload_n hx hb dX0_mount_38 rfl (lv_at hl 1 rfl) ?_
      refine cM_this (Wd := FWd h0 h1 h2 cA cB) (ci := 0) (q0 := 0) (n := 0) (as := []) (rest := []) ⟨hx, hb, hml, hown, hts⟩ (c_X0_finishTransfer l D h0 h1 h2 cA cB s21 (acct_in20 (pend_acc (by rw [e25]; exact c26)).1) (acct_in20 (pend_acc (by rw [e25]; exact c26)).2)) gX0_mount_X0_finishTransfer rfl rfl rfl (by decide +kernel) ⟨Nat.le_of_ble_eq_true rfl, Nat.le_of_ble_eq_true rfl⟩ hK hP hD hS hA rfl rfl rfl hl.1 rfl rfl (Nat.le_of_ble_eq_true rfl) dX0_mount_39 ⟨Nat.zero_le _, Nat.zero_le _⟩ (fun H locs hP hD hS => ?_)
      refine W.eq (g2 := F0 m 42 ls []) rfl ?_
      obtain ⟨s28, t28⟩ : ∃ z : FS, f_fin s21 = z := ⟨_, rfl⟩
      replace hP : va_P D vwCl (FWd h0 h1 h2 cA cB s28) H := by rw [← t28]; exact hP
      replace hD : va_D A (FWd h0 h1 h2 cA cB s28) := by rw [← t28]; exact hD
      refine lv_aload_n hx hb dX0_mount_42 rfl (lv_at hl 1 rfl) ?_
      refine lv_iconst (v := 1) hx hb dX0_mount_43 (by decide) ?_
      refine cM_this (Wd := FWd h0 h1 h2 cA cB) (ci := 0) (q0 := 0) (n := 1) (as := [.int 1]) (rest := []) ⟨hx, hb, hml, hown, hts⟩ (c_X0_answerOf l D h0 h1 h2 cA cB s28 1) gX0_mount_X0_answerOf rfl rfl rfl (by decide +kernel) ⟨Nat.le_of_ble_eq_true rfl, Nat.le_of_ble_eq_true rfl⟩ hK hP hD hS hA rfl rfl rfl hl.1 rfl rfl (Nat.le_of_ble_eq_true rfl) dX0_mount_44 ⟨Nat.zero_le _, Nat.zero_le _⟩ (fun H locs hP hD hS => ?_)
      refine tpi (fun v29 e29 => ?_)
      have fin : f_mount st = (v29, s28) := by
        clear hP hD hS; subst t1; subst t2; subst t3; subst t4; subst t5; subst t6; subst t7; subst t8; subst t9; subst t10; subst t11; subst t12; subst t13; subst t14; subst t15; subst t16; subst t17; subst t18; subst t19; subst t20; subst t21; subst e22; subst e25; subst t28; subst e29; simp only [f_mount, f_rests, f_cells, List.foldl, f_an2, f_fp, c23, c26, ↓reduceIte, not_true_eq_false, not_false_eq_true, and_self, and_true, true_and, and_false, false_and, eq_self, i10]
      exact cM_reti (Wd := FWd h0 h1 h2 cA cB) (st := s28) (st' := (f_mount st).2) hx hb hr hlocks dX0_mount_47 hS hP hD (congrArg Prod.fst fin).symm (congrArg Prod.snd fin).symm
abbrev rmX0_total : Room := { frames := 4, cells := 0, slots := 0, locals := 88 }
-- total
set_option maxHeartbeats 400000 in
set_option maxRecDepth 100000 in
theorem c_X0_total (l : Launch) (D : va_G) (h0 h1 h2 : Nat) (cA cB : ClassId) (st : FS)   : cM l D vwCl (FT cA cB) (FWd h0 h1 h2 cA cB) yX0_total wsX0_total rmX0_total [.ref h0] st (some (.long (f_total st).1)) (f_total st).2 := by
  refine cM_in (cc := cX0_total) (maxL := 6) (ret := (some .long)) (by decide) rfl (Nat.le_of_ble_eq_true rfl) ?_
  intro p e s m below meth c ls A hx hb hr hlocks hml hown hts hA hK hP hD hS hl
  have hown : s.vm.findClass RX0 = some m.cls := hown
  have hl : lv_has ls 6 [(0, .ref h0)] := hl
  -- walk
  have B : ∀ (Q : State → Prop) (k k' : Int32) (u0 : Int64) (s0 : FS) (H : Heap) (locs : List Loc) (ls : Array Slot), vp_in k 16 → k + 1 = k' → va_P D vwCl (FWd h0 h1 h2 cA cB s0) H → va_D A (FWd h0 h1 h2 cA cB s0) → va_S A s.heap H locs → lv_has ls 6 [(0, .ref h0), (1, .long u0), (3, .int k)] → (∀ (u : Int64) (z : FS) (H : Heap) (locs : List Loc) (ls : Array Slot), f_tot1 k (u0, s0) = (u, z) → va_P D vwCl (FWd h0 h1 h2 cA cB z) H → va_D A (FWd h0 h1 h2 cA cB z) → va_S A s.heap H locs → lv_has ls 6 [(0, .ref h0), (1, .long u), (3, .int k')] → W p l e rmX0_total s m ([.ref h0] : List Value).toArray below meth c H locs 0 0 Q (F0 m 4 ls [])) → W p l e rmX0_total s m ([.ref h0] : List Value).toArray below meth c H locs 0 0 Q (F0 m 10 ls []) := by
    intro Q k k' u0 s0 H locs ls hk hk2 hP hD hS hl K
    refine lv_aload_n hx hb dX0_total_10 rfl (lv_at hl 0 rfl) ?_
    refine lv_iload_n hx hb dX0_total_11 rfl (lv_at hl 2 rfl) ?_
    refine cM_this (Wd := FWd h0 h1 h2 cA cB) (ci := 0) (q0 := 0) (n := 1) (as := [.int k]) (rest := []) ⟨hx, hb, hml, hown, hts⟩ (c_X0_look l D h0 h1 h2 cA cB s0 k (in_up hk (by decide))) gX0_total_X0_look rfl rfl rfl (by decide +kernel) ⟨Nat.le_of_ble_eq_true rfl, Nat.le_of_ble_eq_true rfl⟩ hK hP hD hS hA rfl rfl rfl hl.1 rfl rfl (Nat.le_of_ble_eq_true rfl) dX0_total_12 ⟨Nat.zero_le _, Nat.zero_le _⟩ (fun H locs hP hD hS => ?_)
    obtain ⟨s1, t1⟩ : ∃ z : FS, (f_look k s0).2 = z := ⟨_, rfl⟩
    replace hP : va_P D vwCl (FWd h0 h1 h2 cA cB s1) H := by rw [← t1]; exact hP
    replace hD : va_D A (FWd h0 h1 h2 cA cB s1) := by rw [← t1]; exact hD
    refine tpl (fun v2 e2 => ?_)
    refine lv_lstore (lv' := [(4, .long v2), (0, .ref h0), (1, .long u0), (3, .int k)]) hx hb dX0_total_15 hl (by decide) rfl (fun ls hl => ?_)
    refine lv_lload hx hb dX0_total_17 (lv_at hl 0 rfl) ?_
    refine cS_call (n := 1) (as := [.long v2]) (rest := []) ⟨hx, hb, hml, hown, hts⟩ (c_X0_isOpen l v2) gX0_total_X0_isOpen rfl rfl rfl (by decide +kernel) ⟨Nat.le_of_ble_eq_true rfl, Nat.le_of_ble_eq_true rfl⟩ hl.1 rfl rfl (Nat.le_of_ble_eq_true rfl) dX0_total_19 ⟨Nat.zero_le _, Nat.zero_le _⟩ ?_
    refine tpi (fun v3 e3 => ?_)
    refine lv_if_eq (tgt := 34) hx hb dX0_total_22 (by decide) (fun c4 => ?_) (fun c4 => ?_)
    · refine lv_iinc (v := k') (lv' := [(3, .int k'), (4, .long v2), (0, .ref h0), (1, .long u0)]) hx hb dX0_total_34 hl (k := 3) rfl (by rw [← hk2]; rfl) (by decide) rfl (fun ls hl => ?_)
      refine lv_goto (tgt := 4) hx hb dX0_total_37 (by decide) ?_
      exact K u0 s1 _ _ _ (by clear hP hD hS; subst t1; subst e2; subst e3; simp only [f_tot1, c4, ↓reduceIte, not_true_eq_false, not_false_eq_true, and_self, and_true, true_and, and_false, false_and, eq_self]) hP hD hS (lv_sub hl [2, 3, 0] rfl)
    · refine lv_lload_n hx hb dX0_total_25 rfl (lv_at hl 2 rfl) ?_
      refine lv_lload hx hb dX0_total_26 (lv_at hl 0 rfl) ?_
      refine cS_call (n := 1) (as := [.long v2]) (rest := [.long u0]) ⟨hx, hb, hml, hown, hts⟩ (c_X0_balanceOf l v2) gX0_total_X0_balanceOf rfl rfl rfl (by decide +kernel) ⟨Nat.le_of_ble_eq_true rfl, Nat.le_of_ble_eq_true rfl⟩ hl.1 rfl rfl (Nat.le_of_ble_eq_true rfl) dX0_total_28 ⟨Nat.zero_le _, Nat.zero_le _⟩ ?_
      refine tpi (fun v5 e5 => ?_)
      refine lv_i2l hx hb dX0_total_31 rfl ?_
      refine tpl (fun v6 e6 => ?_)
      refine lv_ladd hx hb dX0_total_32 ?_
      refine tpl (fun v7 e7 => ?_)
      refine lv_lstore_n (lv' := [(1, .long v7), (4, .long v2), (0, .ref h0), (3, .int k)]) hx hb dX0_total_33 rfl hl (by decide) rfl (fun ls hl => ?_)
      refine lv_iinc (v := k') (lv' := [(3, .int k'), (1, .long v7), (4, .long v2), (0, .ref h0)]) hx hb dX0_total_34 hl (k := 3) rfl (by rw [← hk2]; rfl) (by decide) rfl (fun ls hl => ?_)
      refine lv_goto (tgt := 4) hx hb dX0_total_37 (by decide) ?_
      exact K v7 s1 _ _ _ (by clear hP hD hS; subst t1; subst e2; subst e3; subst e5; subst e6; subst e7; simp only [f_tot1, c4, ↓reduceIte, not_true_eq_false, not_false_eq_true, and_self, and_true, true_and, and_false, false_and, eq_self]) hP hD hS (lv_sub hl [3, 1, 0] rfl)
  refine lv_lconst (v := 0) hx hb dX0_total_0 (by decide) ?_
  refine lv_lstore_n (lv' := [(1, .long 0), (0, .ref h0)]) hx hb dX0_total_1 rfl hl (by decide) rfl (fun ls hl => ?_)
  refine lv_iconst (v := 0) hx hb dX0_total_2 (by decide) ?_
  refine lv_istore_n (lv' := [(3, .int 0), (1, .long 0), (0, .ref h0)]) hx hb dX0_total_3 rfl hl (by decide) rfl (fun ls hl => ?_)
  refine lv_iload_n hx hb dX0_total_4 rfl (lv_at hl 0 rfl) ?_
  refine lv_bipush (v := 16) hx hb dX0_total_5 (by decide) ?_
  refine lv_icmp_ge (tgt := 40) hx hb dX0_total_7 (by decide) (fun c0 => absurd c0 (by decide)) (fun _ => ?_)
  refine B _ 0 1 0 st _ _ _ in16_0 (by decide) hP hD hS (lv_sub hl [2, 1, 0] rfl) (fun u1 z1 H locs ls b1 hP hD hS hl => ?_)
  refine lv_iload_n hx hb dX0_total_4 rfl (lv_at hl 2 rfl) ?_
  refine lv_bipush (v := 16) hx hb dX0_total_5 (by decide) ?_
  refine lv_icmp_ge (tgt := 40) hx hb dX0_total_7 (by decide) (fun c0 => absurd c0 (by decide)) (fun _ => ?_)
  refine B _ 1 2 u1 z1 _ _ _ in16_1 (by decide) hP hD hS (lv_sub hl [0, 1, 2] rfl) (fun u2 z2 H locs ls b2 hP hD hS hl => ?_)
  refine lv_iload_n hx hb dX0_total_4 rfl (lv_at hl 2 rfl) ?_
  refine lv_bipush (v := 16) hx hb dX0_total_5 (by decide) ?_
  refine lv_icmp_ge (tgt := 40) hx hb dX0_total_7 (by decide) (fun c0 => absurd c0 (by decide)) (fun _ => ?_)
  refine B _ 2 3 u2 z2 _ _ _ in16_2 (by decide) hP hD hS (lv_sub hl [0, 1, 2] rfl) (fun u3 z3 H locs ls b3 hP hD hS hl => ?_)
  refine lv_iload_n hx hb dX0_total_4 rfl (lv_at hl 2 rfl) ?_
  refine lv_bipush (v := 16) hx hb dX0_total_5 (by decide) ?_
  refine lv_icmp_ge (tgt := 40) hx hb dX0_total_7 (by decide) (fun c0 => absurd c0 (by decide)) (fun _ => ?_)
  refine B _ 3 4 u3 z3 _ _ _ in16_3 (by decide) hP hD hS (lv_sub hl [0, 1, 2] rfl) (fun u4 z4 H locs ls b4 hP hD hS hl => ?_)
  refine lv_iload_n hx hb dX0_total_4 rfl (lv_at hl 2 rfl) ?_
  refine lv_bipush (v := 16) hx hb dX0_total_5 (by decide) ?_
  refine lv_icmp_ge (tgt := 40) hx hb dX0_total_7 (by decide) (fun c0 => absurd c0 (by decide)) (fun _ => ?_)
  refine B _ 4 5 u4 z4 _ _ _ in16_4 (by decide) hP hD hS (lv_sub hl [0, 1, 2] rfl) (fun u5 z5 H locs ls b5 hP hD hS hl => ?_)
  refine lv_iload_n hx hb dX0_total_4 rfl (lv_at hl 2 rfl) ?_
  refine lv_bipush (v := 16) hx hb dX0_total_5 (by decide) ?_
  refine lv_icmp_ge (tgt := 40) hx hb dX0_total_7 (by decide) (fun c0 => absurd c0 (by decide)) (fun _ => ?_)
  refine B _ 5 6 u5 z5 _ _ _ in16_5 (by decide) hP hD hS (lv_sub hl [0, 1, 2] rfl) (fun u6 z6 H locs ls b6 hP hD hS hl => ?_)
  refine lv_iload_n hx hb dX0_total_4 rfl (lv_at hl 2 rfl) ?_
  refine lv_bipush (v := 16) hx hb dX0_total_5 (by decide) ?_
  refine lv_icmp_ge (tgt := 40) hx hb dX0_total_7 (by decide) (fun c0 => absurd c0 (by decide)) (fun _ => ?_)
  refine B _ 6 7 u6 z6 _ _ _ in16_6 (by decide) hP hD hS (lv_sub hl [0, 1, 2] rfl) (fun u7 z7 H locs ls b7 hP hD hS hl => ?_)
  refine lv_iload_n hx hb dX0_total_4 rfl (lv_at hl 2 rfl) ?_
  refine lv_bipush (v := 16) hx hb dX0_total_5 (by decide) ?_
  refine lv_icmp_ge (tgt := 40) hx hb dX0_total_7 (by decide) (fun c0 => absurd c0 (by decide)) (fun _ => ?_)
  refine B _ 7 8 u7 z7 _ _ _ in16_7 (by decide) hP hD hS (lv_sub hl [0, 1, 2] rfl) (fun u8 z8 H locs ls b8 hP hD hS hl => ?_)
  refine lv_iload_n hx hb dX0_total_4 rfl (lv_at hl 2 rfl) ?_
  refine lv_bipush (v := 16) hx hb dX0_total_5 (by decide) ?_
  refine lv_icmp_ge (tgt := 40) hx hb dX0_total_7 (by decide) (fun c0 => absurd c0 (by decide)) (fun _ => ?_)
  refine B _ 8 9 u8 z8 _ _ _ in16_8 (by decide) hP hD hS (lv_sub hl [0, 1, 2] rfl) (fun u9 z9 H locs ls b9 hP hD hS hl => ?_)
  refine lv_iload_n hx hb dX0_total_4 rfl (lv_at hl 2 rfl) ?_
  refine lv_bipush (v := 16) hx hb dX0_total_5 (by decide) ?_
  refine lv_icmp_ge (tgt := 40) hx hb dX0_total_7 (by decide) (fun c0 => absurd c0 (by decide)) (fun _ => ?_)
  refine B _ 9 10 u9 z9 _ _ _ in16_9 (by decide) hP hD hS (lv_sub hl [0, 1, 2] rfl) (fun u10 z10 H locs ls b10 hP hD hS hl => ?_)
  refine lv_iload_n hx hb dX0_total_4 rfl (lv_at hl 2 rfl) ?_
  refine lv_bipush (v := 16) hx hb dX0_total_5 (by decide) ?_
  refine lv_icmp_ge (tgt := 40) hx hb dX0_total_7 (by decide) (fun c0 => absurd c0 (by decide)) (fun _ => ?_)
  refine B _ 10 11 u10 z10 _ _ _ in16_10 (by decide) hP hD hS (lv_sub hl [0, 1, 2] rfl) (fun u11 z11 H locs ls b11 hP hD hS hl => ?_)
  refine lv_iload_n hx hb dX0_total_4 rfl (lv_at hl 2 rfl) ?_
  refine lv_bipush (v := 16) hx hb dX0_total_5 (by decide) ?_
  refine lv_icmp_ge (tgt := 40) hx hb dX0_total_7 (by decide) (fun c0 => absurd c0 (by decide)) (fun _ => ?_)
  refine B _ 11 12 u11 z11 _ _ _ in16_11 (by decide) hP hD hS (lv_sub hl [0, 1, 2] rfl) (fun u12 z12 H locs ls b12 hP hD hS hl => ?_)
  refine lv_iload_n hx hb dX0_total_4 rfl (lv_at hl 2 rfl) ?_
  refine lv_bipush (v := 16) hx hb dX0_total_5 (by decide) ?_
  refine lv_icmp_ge (tgt := 40) hx hb dX0_total_7 (by decide) (fun c0 => absurd c0 (by decide)) (fun _ => ?_)
  refine B _ 12 13 u12 z12 _ _ _ in16_12 (by decide) hP hD hS (lv_sub hl [0, 1, 2] rfl) (fun u13 z13 H locs ls b13 hP hD hS hl => ?_)
  refine lv_iload_n hx hb dX0_total_4 rfl (lv_at hl 2 rfl) ?_
  refine lv_bipush (v := 16) hx hb dX0_total_5 (by decide) ?_
  refine lv_icmp_ge (tgt := 40) hx hb dX0_total_7 (by decide) (fun c0 => absurd c0 (by decide)) (fun _ => ?_)
  refine B _ 13 14 u13 z13 _ _ _ in16_13 (by decide) hP hD hS (lv_sub hl [0, 1, 2] rfl) (fun u14 z14 H locs ls b14 hP hD hS hl => ?_)
  refine lv_iload_n hx hb dX0_total_4 rfl (lv_at hl 2 rfl) ?_
  refine lv_bipush (v := 16) hx hb dX0_total_5 (by decide) ?_
  refine lv_icmp_ge (tgt := 40) hx hb dX0_total_7 (by decide) (fun c0 => absurd c0 (by decide)) (fun _ => ?_)
  refine B _ 14 15 u14 z14 _ _ _ in16_14 (by decide) hP hD hS (lv_sub hl [0, 1, 2] rfl) (fun u15 z15 H locs ls b15 hP hD hS hl => ?_)
  refine lv_iload_n hx hb dX0_total_4 rfl (lv_at hl 2 rfl) ?_
  refine lv_bipush (v := 16) hx hb dX0_total_5 (by decide) ?_
  refine lv_icmp_ge (tgt := 40) hx hb dX0_total_7 (by decide) (fun c0 => absurd c0 (by decide)) (fun _ => ?_)
  refine B _ 15 16 u15 z15 _ _ _ in16_15 (by decide) hP hD hS (lv_sub hl [0, 1, 2] rfl) (fun u16 z16 H locs ls b16 hP hD hS hl => ?_)
  refine lv_iload_n hx hb dX0_total_4 rfl (lv_at hl 2 rfl) ?_
  refine lv_bipush (v := 16) hx hb dX0_total_5 (by decide) ?_
  refine lv_icmp_ge (tgt := 40) hx hb dX0_total_7 (by decide) (fun _ => ?_) (fun c0 => absurd c0 (by decide))
  refine lv_aload_n hx hb dX0_total_40 rfl (lv_at hl 0 rfl) ?_
  refine va_get (D := D) (ci := 0) (v := .int z16.2.2.1) (C := RX0) (T := TX0) (N := 6) hx hb hts (by decide +kernel) hown hK hP 0 rfl rfl 2 (by decide) (hts (.fieldLink RX0 17 "FadeLedger" "powered" "Z") (by decide +kernel)) (fun _ h9 => h9) rfl dX0_total_41 ?_
  refine tpi (fun v17 e17 => ?_)
  refine lv_if_eq (tgt := 51) hx hb dX0_total_44 (by decide) (fun c18 => ?_) (fun c18 => ?_)
  · refine lv_ldc2 (v := 4398046511104) hx hb hown (hts (.constantLong RX0 58 4398046511104) (by decide +kernel)) dX0_total_51 ?_
    have fin : f_total st = (4398046511104, z16) := by
      clear hP hD hS; subst e17; simp only [f_total, f_tot, f_accts, List.foldl, b1, b2, b3, b4, b5, b6, b7, b8, b9, b10, b11, b12, b13, b14, b15, b16, c18, ↓reduceIte, not_true_eq_false, not_false_eq_true, and_self, and_true, true_and, and_false, false_and, eq_self, i10]
    exact cM_retl (Wd := FWd h0 h1 h2 cA cB) (st := z16) (st' := (f_total st).2) hx hb hr hlocks dX0_total_54 hS hP hD (congrArg Prod.fst fin).symm (congrArg Prod.snd fin).symm
  · refine lv_lload_n hx hb dX0_total_47 rfl (lv_at hl 1 rfl) ?_
    refine lv_goto (tgt := 54) hx hb dX0_total_48 (by decide) ?_
    have fin : f_total st = (u16, z16) := by
      clear hP hD hS; subst e17; simp only [f_total, f_tot, f_accts, List.foldl, b1, b2, b3, b4, b5, b6, b7, b8, b9, b10, b11, b12, b13, b14, b15, b16, c18, ↓reduceIte, not_true_eq_false, not_false_eq_true, and_self, and_true, true_and, and_false, false_and, eq_self, i10]
    exact cM_retl (Wd := FWd h0 h1 h2 cA cB) (st := z16) (st' := (f_total st).2) hx hb hr hlocks dX0_total_54 hS hP hD (congrArg Prod.fst fin).symm (congrArg Prod.snd fin).symm
end
section
/-! THE REFERENCE'S STATE: the class's (words, losses, power, left, reads, writes), then kinds, places, puts, turns, bests -/
abbrev RS : Type := FS × (Nat → Int32) × (Nat → Int32) × (Nat → Int64) × Int32 × (Nat → Int64)
abbrev RWd (g0 g1 g2 g3 g4 g5 g6 : Nat) (cA cB : ClassId) (s : RS) : va_W := [(g0, .inr (1, [.ref g1, .ref g2, .int s.1.2.2.1, .int s.1.2.2.2.1, .int s.1.2.2.2.2.1, .int s.1.2.2.2.2.2, .ref g3, .ref g4, .ref g5, .int s.2.2.2.2.1, .ref g6])), (g1, .inl (cA, 80, .inr (.inl s.1.1))), (g2, .inl (cB, 20, .inl s.1.2.1)), (g3, .inl (cB, 256, .inl s.2.1)), (g4, .inl (cB, 256, .inl s.2.2.1)), (g5, .inl (cA, 256, .inr (.inl s.2.2.2.1))), (g6, .inl (cA, 20, .inr (.inl s.2.2.2.2.2)))]
def g_b (v : Int64) (k : Int32) : Int64 := (v >>> ((8 * k).toInt64 &&& 63)) &&& 255
def g_sum (v : Int64) : Int64 := 0 + g_b v 1 + g_b v 2 + g_b v 3 + g_b v 4 + g_b v 5 + g_b v 6 + g_b v 7
def g_seal (v : Int64) : Int64 := (g_sum v - g_sum v / 251 * 251) + 1
def g_valid (v : Int64) : Int32 := bI (v &&& 255 = g_seal v)
def g_num (v : Int64) : Int32 := ((v >>> ((8 : Int32).toInt64 &&& 63)) &&& 16777215).toInt32
def g_word (b n : Int32) : Int64 := f_upper b n ||| g_seal (f_upper b n)
def g_isop (v : Int64) : Int32 := bI (¬ g_valid v = 0 ∧ ¬ g_num v ≤ 0)
def g_isint (v : Int64) : Int32 := bI (¬ v < -2147483648 ∧ ¬ 2147483647 < v)
def g_can (v t : Int64) : Int32 := bI (¬ g_isop v = 0 ∧ ¬ 16777215 ≤ g_num v ∧ ¬ t < 0 ∧ ¬ g_isint t = 0)
def r_place (p c : Int32) : Int32 := 20 * p + c
def r_turn (k p c : Int32) (w : Int64) (s : RS) : RS := (s.1, upd s.2.1 s.2.2.2.2.1.toNatClampNeg k, upd s.2.2.1 s.2.2.2.2.1.toNatClampNeg (r_place p c), vp_updL s.2.2.2.1 s.2.2.2.2.1.toNatClampNeg w, s.2.2.2.2.1 + 1, s.2.2.2.2.2)
def r_look (c : Int32) (s : RS) : RS := r_turn 1 0 c (s.1.1 c.toNatClampNeg) (r_turn 0 0 c 0 s)
def r_put (c : Int32) (w : Int64) (s : RS) : RS := r_turn 1 3 c w (r_turn 1 2 c w (r_turn 1 1 c w (r_turn 1 0 c w s)))
def r_zero (s : RS) : RS := (s.1, s.2.1, s.2.2.1, s.2.2.2.1, 0, s.2.2.2.2.2)
/-- a plan: kind, place, word -/
abbrev RPl : Type := List (Int32 × Int32 × Int64)
def r_ex1 (q : Int32 × Int32 × Int64) (s : FS) : FS :=
  if q.1 = 0 then (vp_updL s.1 q.2.1.toNatClampNeg 0, if q.2.2 ≤ 0 then s.2.1 else upd s.2.1 (q.2.1 - q.2.1 / 20 * 20).toNatClampNeg (q.2.2.toInt32 - 1), s.2.2.1, s.2.2.2.1, s.2.2.2.2.1 + 1, s.2.2.2.2.2)
  else (vp_updL s.1 q.2.1.toNatClampNeg q.2.2, s.2.1, s.2.2.1, s.2.2.2.1, s.2.2.2.2.1, s.2.2.2.2.2 + 1)
def r_run : RPl → FS → Int32 × FS
  | [], s => (1, s)
  | q :: qs, s => if (f_take s).1 = 0 then (0, (f_take s).2) else r_run qs (r_ex1 q (f_take s).2)
def r_wk (L : RPl) (s : RS) : Int32 × RS := ((r_run L s.1).1, ((r_run L s.1).2, s.2))
def r_plan (s : RS) (L : RPl) : Prop := s.2.2.2.2.1 = nI L.length ∧ L.length ≤ 256 ∧ ∀ (i : Nat) (q : Int32 × Int32 × Int64), L[i]? = some q → s.2.1 i = q.1 ∧ s.2.2.1 i = q.2.1 ∧ s.2.2.2.1 i = q.2.2 ∧ vp_in q.2.1 80
theorem place_in {p c : Int32} (hp : vp_in p 4) (hc : vp_in c 20) : vp_in (r_place p c) 80 := by
  obtain ⟨i, hi, rfl⟩ := vp_in_of hp (by decide)
  obtain ⟨j, hj, rfl⟩ := vp_in_of hc (by decide)
  have h : r_place (nI i) (nI j) = nI (20 * i + j) := by
    unfold r_place
    rw [show (20 : Int32) = nI 20 from rfl, pk_mul, nI_add]
  rw [h]
  exact vp_in_nI (by omega) (by decide)
theorem turn_t {k p c : Int32} {w : Int64} {s : RS} {n : Nat} (h : s.2.2.2.2.1 = nI n) : (r_turn k p c w s).2.2.2.2.1 = nI (n + 1) := by
  show s.2.2.2.2.1 + 1 = nI (n + 1)
  rw [h, nI_1]
theorem look_t {c : Int32} {s : RS} {n : Nat} (h : s.2.2.2.2.1 = nI n) : (r_look c s).2.2.2.2.1 = nI (n + 2) := turn_t (turn_t h)
theorem put_t {c : Int32} {w : Int64} {s : RS} {n : Nat} (h : s.2.2.2.2.1 = nI n) : (r_put c w s).2.2.2.2.1 = nI (n + 4) := turn_t (turn_t (turn_t (turn_t h)))
theorem t_in {s : RS} {n : Nat} (h : s.2.2.2.2.1 = nI n) (hn : n < 256) : vp_in s.2.2.2.2.1 256 := by
  rw [h]
  exact vp_in_nI hn (by decide)
theorem plan_zero (s : RS) : r_plan (r_zero s) [] := ⟨nI_0.symm, by decide, fun i q h => by simp at h⟩
theorem plan_turn {s : RS} {L : RPl} (k p c : Int32) (w : Int64) (h : r_plan s L) (hn : L.length + 1 ≤ 256) (hp : vp_in p 4) (hc : vp_in c 20) : r_plan (r_turn k p c w s) (L ++ [(k, r_place p c, w)]) := by
  obtain ⟨h1, h2, h3⟩ := h
  have hcl : s.2.2.2.2.1.toNatClampNeg = L.length := by
    rw [h1]
    exact nI_clamp (by omega)
  refine ⟨by rw [turn_t h1]; simp, by simp; omega, fun i q hq => ?_⟩
  by_cases hi : i < L.length
  · rw [List.getElem?_append_left hi] at hq
    obtain ⟨a1, a2, a3, a4⟩ := h3 i q hq
    refine ⟨?_, ?_, ?_, a4⟩
    · show upd s.2.1 _ _ i = _
      rw [hcl, pk_un (by omega)]
      exact a1
    · show upd s.2.2.1 _ _ i = _
      rw [hcl, pk_un (by omega)]
      exact a2
    · show vp_updL s.2.2.2.1 _ _ i = _
      rw [hcl, pk_uLn (by omega)]
      exact a3
  · rw [List.getElem?_append_right (by omega)] at hq
    have hz : i - L.length < 1 := (List.getElem?_eq_some_iff.mp hq).1
    have hi2 : i = L.length := by omega
    subst hi2
    rw [Nat.sub_self] at hq
    cases hq
    refine ⟨?_, ?_, ?_, place_in hp hc⟩
    · show upd s.2.1 _ _ L.length = _
      rw [hcl, pk_us]
    · show upd s.2.2.1 _ _ L.length = _
      rw [hcl, pk_us]
    · show vp_updL s.2.2.2.1 _ _ L.length = _
      rw [hcl, pk_uLs]
def p_look (c : Int32) (w : Int64) : RPl := [(0, r_place 0 c, 0), (1, r_place 0 c, w)]
def p_put (c : Int32) (w : Int64) : RPl := [(1, r_place 0 c, w), (1, r_place 1 c, w), (1, r_place 2 c, w), (1, r_place 3 c, w)]
theorem pl_look {c : Int32} {w : Int64} : (p_look c w).length = 2 := rfl
theorem pl_put {c : Int32} {w : Int64} : (p_put c w).length = 4 := rfl
theorem plan_look {s : RS} {L : RPl} (c : Int32) (h : r_plan s L) (hn : L.length + 2 ≤ 256) (hc : vp_in c 20) : r_plan (r_look c s) (L ++ p_look c (s.1.1 c.toNatClampNeg)) := by
  have h1 := plan_turn 0 0 c 0 h (by omega) in4_0 hc
  have h2 := plan_turn 1 0 c (s.1.1 c.toNatClampNeg) h1 (by simp; omega) in4_0 hc
  rw [List.append_assoc] at h2
  exact h2
theorem plan_put {s : RS} {L : RPl} (c : Int32) (w : Int64) (h : r_plan s L) (hn : L.length + 4 ≤ 256) (hc : vp_in c 20) : r_plan (r_put c w s) (L ++ p_put c w) := by
  have h1 := plan_turn 1 0 c w h (by omega) in4_0 hc
  have h2 := plan_turn 1 1 c w h1 (by simp; omega) in4_1 hc
  have h3 := plan_turn 1 2 c w h2 (by simp; omega) in4_2 hc
  have h4 := plan_turn 1 3 c w h3 (by simp; omega) in4_3 hc
  rw [List.append_assoc, List.append_assoc, List.append_assoc] at h4
  exact h4
end
section
abbrev rmX1_seal : Room := { frames := 0, cells := 0, slots := 0, locals := 0 }
set_option maxHeartbeats 400000 in
set_option maxRecDepth 100000 in
-- seal
theorem c_X1_seal (l : Launch) (v : Int64) : cS l yX1_seal wsX1_seal rmX1_seal [.long v] (.long (g_seal v)) := by
  refine cS_in (cc := cX1_seal) (maxL := 5) (ret := (some .long)) (by decide) rfl (Nat.le_of_ble_eq_true rfl) ?_
  intro p e s m below meth c ls hx hb hr hlocks hml hown hts hl
  have hown : s.vm.findClass RX1 = some m.cls := hown
  have hl : lv_has ls 5 [(0, .long v)] := hl
  refine lv_lconst (v := 0) hx hb dX1_seal_0 (by decide) ?_
  refine lv_lstore_n (lv' := [(2, .long 0), (0, .long v)]) hx hb dX1_seal_1 rfl hl (by decide) rfl (fun ls hl => ?_)
  refine lv_iconst (v := 1) hx hb dX1_seal_2 (by decide) ?_
  refine lv_istore (lv' := [(4, .int 1), (2, .long 0), (0, .long v)]) hx hb dX1_seal_3 hl (by decide) rfl (fun ls hl => ?_)
  refine lv_iload hx hb dX1_seal_5 (lv_at hl 0 rfl) ?_
  refine lv_bipush (v := 8) hx hb dX1_seal_7 (by decide) ?_
  refine lv_icmp_ge (tgt := 32) hx hb dX1_seal_9 (by decide) (fun c0 => absurd c0 (by decide)) (fun _ => ?_)
  refine lv_lload_n hx hb dX1_seal_12 rfl (lv_at hl 1 rfl) ?_
  refine lv_lload_n hx hb dX1_seal_13 rfl (lv_at hl 2 rfl) ?_
  refine lv_bipush (v := 8) hx hb dX1_seal_14 (by decide) ?_
  refine lv_iload hx hb dX1_seal_16 (lv_at hl 0 rfl) ?_
  refine lv_imul hx hb dX1_seal_18 ?_
  refine tpi (fun v1 e1 => ?_)
  refine lv_lshr hx hb dX1_seal_19 rfl ?_
  refine tpl (fun v2 e2 => ?_)
  refine lv_ldc2 (v := 255) hx hb hown (hts (.constantLong RX1 41 255) (by decide +kernel)) dX1_seal_20 ?_
  refine lv_land hx hb dX1_seal_23 ?_
  refine tpl (fun v3 e3 => ?_)
  refine lv_ladd hx hb dX1_seal_24 ?_
  refine tpl (fun v4 e4 => ?_)
  refine lv_lstore_n (lv' := [(2, .long v4), (4, .int 1), (0, .long v)]) hx hb dX1_seal_25 rfl hl (by decide) rfl (fun ls hl => ?_)
  refine lv_iinc (v := 2) (lv' := [(4, .int 2), (2, .long v4), (0, .long v)]) hx hb dX1_seal_26 hl (k := 1) rfl (by decide) (by decide) rfl (fun ls hl => ?_)
  refine lv_goto (tgt := 5) hx hb dX1_seal_29 (by decide) ?_
  refine lv_iload hx hb dX1_seal_5 (lv_at hl 0 rfl) ?_
  refine lv_bipush (v := 8) hx hb dX1_seal_7 (by decide) ?_
  refine lv_icmp_ge (tgt := 32) hx hb dX1_seal_9 (by decide) (fun c0 => absurd c0 (by decide)) (fun _ => ?_)
  refine lv_lload_n hx hb dX1_seal_12 rfl (lv_at hl 1 rfl) ?_
  refine lv_lload_n hx hb dX1_seal_13 rfl (lv_at hl 2 rfl) ?_
  refine lv_bipush (v := 8) hx hb dX1_seal_14 (by decide) ?_
  refine lv_iload hx hb dX1_seal_16 (lv_at hl 0 rfl) ?_
  refine lv_imul hx hb dX1_seal_18 ?_
  refine tpi (fun v5 e5 => ?_)
  refine lv_lshr hx hb dX1_seal_19 rfl ?_
  refine tpl (fun v6 e6 => ?_)
  refine lv_ldc2 (v := 255) hx hb hown (hts (.constantLong RX1 41 255) (by decide +kernel)) dX1_seal_20 ?_
  refine lv_land hx hb dX1_seal_23 ?_
  refine tpl (fun v7 e7 => ?_)
  refine lv_ladd hx hb dX1_seal_24 ?_
  refine tpl (fun v8 e8 => ?_)
  refine lv_lstore_n (lv' := [(2, .long v8), (4, .int 2), (0, .long v)]) hx hb dX1_seal_25 rfl hl (by decide) rfl (fun ls hl => ?_)
  refine lv_iinc (v := 3) (lv' := [(4, .int 3), (2, .long v8), (0, .long v)]) hx hb dX1_seal_26 hl (k := 1) rfl (by decide) (by decide) rfl (fun ls hl => ?_)
  refine lv_goto (tgt := 5) hx hb dX1_seal_29 (by decide) ?_
  refine lv_iload hx hb dX1_seal_5 (lv_at hl 0 rfl) ?_
  refine lv_bipush (v := 8) hx hb dX1_seal_7 (by decide) ?_
  refine lv_icmp_ge (tgt := 32) hx hb dX1_seal_9 (by decide) (fun c0 => absurd c0 (by decide)) (fun _ => ?_)
  refine lv_lload_n hx hb dX1_seal_12 rfl (lv_at hl 1 rfl) ?_
  refine lv_lload_n hx hb dX1_seal_13 rfl (lv_at hl 2 rfl) ?_
  refine lv_bipush (v := 8) hx hb dX1_seal_14 (by decide) ?_
  refine lv_iload hx hb dX1_seal_16 (lv_at hl 0 rfl) ?_
  refine lv_imul hx hb dX1_seal_18 ?_
  refine tpi (fun v9 e9 => ?_)
  refine lv_lshr hx hb dX1_seal_19 rfl ?_
  refine tpl (fun v10 e10 => ?_)
  refine lv_ldc2 (v := 255) hx hb hown (hts (.constantLong RX1 41 255) (by decide +kernel)) dX1_seal_20 ?_
  refine lv_land hx hb dX1_seal_23 ?_
  refine tpl (fun v11 e11 => ?_)
  refine lv_ladd hx hb dX1_seal_24 ?_
  refine tpl (fun v12 e12 => ?_)
  refine lv_lstore_n (lv' := [(2, .long v12), (4, .int 3), (0, .long v)]) hx hb dX1_seal_25 rfl hl (by decide) rfl (fun ls hl => ?_)
  refine lv_iinc (v := 4) (lv' := [(4, .int 4), (2, .long v12), (0, .long v)]) hx hb dX1_seal_26 hl (k := 1) rfl (by decide) (by decide) rfl (fun ls hl => ?_)
  refine lv_goto (tgt := 5) hx hb dX1_seal_29 (by decide) ?_
  refine lv_iload hx hb dX1_seal_5 (lv_at hl 0 rfl) ?_
  refine lv_bipush (v := 8) hx hb dX1_seal_7 (by decide) ?_
  refine lv_icmp_ge (tgt := 32) hx hb dX1_seal_9 (by decide) (fun c0 => absurd c0 (by decide)) (fun _ => ?_)
  refine lv_lload_n hx hb dX1_seal_12 rfl (lv_at hl 1 rfl) ?_
  refine lv_lload_n hx hb dX1_seal_13 rfl (lv_at hl 2 rfl) ?_
  refine lv_bipush (v := 8) hx hb dX1_seal_14 (by decide) ?_
  refine lv_iload hx hb dX1_seal_16 (lv_at hl 0 rfl) ?_
  refine lv_imul hx hb dX1_seal_18 ?_
  refine tpi (fun v13 e13 => ?_)
  refine lv_lshr hx hb dX1_seal_19 rfl ?_
  refine tpl (fun v14 e14 => ?_)
  refine lv_ldc2 (v := 255) hx hb hown (hts (.constantLong RX1 41 255) (by decide +kernel)) dX1_seal_20 ?_
  refine lv_land hx hb dX1_seal_23 ?_
  refine tpl (fun v15 e15 => ?_)
  refine lv_ladd hx hb dX1_seal_24 ?_
  refine tpl (fun v16 e16 => ?_)
  refine lv_lstore_n (lv' := [(2, .long v16), (4, .int 4), (0, .long v)]) hx hb dX1_seal_25 rfl hl (by decide) rfl (fun ls hl => ?_)
  refine lv_iinc (v := 5) (lv' := [(4, .int 5), (2, .long v16), (0, .long v)]) hx hb dX1_seal_26 hl (k := 1) rfl (by decide) (by decide) rfl (fun ls hl => ?_)
  refine lv_goto (tgt := 5) hx hb dX1_seal_29 (by decide) ?_
  refine lv_iload hx hb dX1_seal_5 (lv_at hl 0 rfl) ?_
  refine lv_bipush (v := 8) hx hb dX1_seal_7 (by decide) ?_
  refine lv_icmp_ge (tgt := 32) hx hb dX1_seal_9 (by decide) (fun c0 => absurd c0 (by decide)) (fun _ => ?_)
  refine lv_lload_n hx hb dX1_seal_12 rfl (lv_at hl 1 rfl) ?_
  refine lv_lload_n hx hb dX1_seal_13 rfl (lv_at hl 2 rfl) ?_
  refine lv_bipush (v := 8) hx hb dX1_seal_14 (by decide) ?_
  refine lv_iload hx hb dX1_seal_16 (lv_at hl 0 rfl) ?_
  refine lv_imul hx hb dX1_seal_18 ?_
  refine tpi (fun v17 e17 => ?_)
  refine lv_lshr hx hb dX1_seal_19 rfl ?_
  refine tpl (fun v18 e18 => ?_)
  refine lv_ldc2 (v := 255) hx hb hown (hts (.constantLong RX1 41 255) (by decide +kernel)) dX1_seal_20 ?_
  refine lv_land hx hb dX1_seal_23 ?_
  refine tpl (fun v19 e19 => ?_)
  refine lv_ladd hx hb dX1_seal_24 ?_
  refine tpl (fun v20 e20 => ?_)
  refine lv_lstore_n (lv' := [(2, .long v20), (4, .int 5), (0, .long v)]) hx hb dX1_seal_25 rfl hl (by decide) rfl (fun ls hl => ?_)
  refine lv_iinc (v := 6) (lv' := [(4, .int 6), (2, .long v20), (0, .long v)]) hx hb dX1_seal_26 hl (k := 1) rfl (by decide) (by decide) rfl (fun ls hl => ?_)
  refine lv_goto (tgt := 5) hx hb dX1_seal_29 (by decide) ?_
  refine lv_iload hx hb dX1_seal_5 (lv_at hl 0 rfl) ?_
  refine lv_bipush (v := 8) hx hb dX1_seal_7 (by decide) ?_
  refine lv_icmp_ge (tgt := 32) hx hb dX1_seal_9 (by decide) (fun c0 => absurd c0 (by decide)) (fun _ => ?_)
  refine lv_lload_n hx hb dX1_seal_12 rfl (lv_at hl 1 rfl) ?_
  refine lv_lload_n hx hb dX1_seal_13 rfl (lv_at hl 2 rfl) ?_
  refine lv_bipush (v := 8) hx hb dX1_seal_14 (by decide) ?_
  refine lv_iload hx hb dX1_seal_16 (lv_at hl 0 rfl) ?_
  refine lv_imul hx hb dX1_seal_18 ?_
  refine tpi (fun v21 e21 => ?_)
  refine lv_lshr hx hb dX1_seal_19 rfl ?_
  refine tpl (fun v22 e22 => ?_)
  refine lv_ldc2 (v := 255) hx hb hown (hts (.constantLong RX1 41 255) (by decide +kernel)) dX1_seal_20 ?_
  refine lv_land hx hb dX1_seal_23 ?_
  refine tpl (fun v23 e23 => ?_)
  refine lv_ladd hx hb dX1_seal_24 ?_
  refine tpl (fun v24 e24 => ?_)
  refine lv_lstore_n (lv' := [(2, .long v24), (4, .int 6), (0, .long v)]) hx hb dX1_seal_25 rfl hl (by decide) rfl (fun ls hl => ?_)
  refine lv_iinc (v := 7) (lv' := [(4, .int 7), (2, .long v24), (0, .long v)]) hx hb dX1_seal_26 hl (k := 1) rfl (by decide) (by decide) rfl (fun ls hl => ?_)
  refine lv_goto (tgt := 5) hx hb dX1_seal_29 (by decide) ?_
  refine lv_iload hx hb dX1_seal_5 (lv_at hl 0 rfl) ?_
  refine lv_bipush (v := 8) hx hb dX1_seal_7 (by decide) ?_
  refine lv_icmp_ge (tgt := 32) hx hb dX1_seal_9 (by decide) (fun c0 => absurd c0 (by decide)) (fun _ => ?_)
  refine lv_lload_n hx hb dX1_seal_12 rfl (lv_at hl 1 rfl) ?_
  refine lv_lload_n hx hb dX1_seal_13 rfl (lv_at hl 2 rfl) ?_
  refine lv_bipush (v := 8) hx hb dX1_seal_14 (by decide) ?_
  refine lv_iload hx hb dX1_seal_16 (lv_at hl 0 rfl) ?_
  refine lv_imul hx hb dX1_seal_18 ?_
  refine tpi (fun v25 e25 => ?_)
  refine lv_lshr hx hb dX1_seal_19 rfl ?_
  refine tpl (fun v26 e26 => ?_)
  refine lv_ldc2 (v := 255) hx hb hown (hts (.constantLong RX1 41 255) (by decide +kernel)) dX1_seal_20 ?_
  refine lv_land hx hb dX1_seal_23 ?_
  refine tpl (fun v27 e27 => ?_)
  refine lv_ladd hx hb dX1_seal_24 ?_
  refine tpl (fun v28 e28 => ?_)
  refine lv_lstore_n (lv' := [(2, .long v28), (4, .int 7), (0, .long v)]) hx hb dX1_seal_25 rfl hl (by decide) rfl (fun ls hl => ?_)
  refine lv_iinc (v := 8) (lv' := [(4, .int 8), (2, .long v28), (0, .long v)]) hx hb dX1_seal_26 hl (k := 1) rfl (by decide) (by decide) rfl (fun ls hl => ?_)
  refine lv_goto (tgt := 5) hx hb dX1_seal_29 (by decide) ?_
  refine lv_iload hx hb dX1_seal_5 (lv_at hl 0 rfl) ?_
  refine lv_bipush (v := 8) hx hb dX1_seal_7 (by decide) ?_
  refine lv_icmp_ge (tgt := 32) hx hb dX1_seal_9 (by decide) (fun _ => ?_) (fun c0 => absurd c0 (by decide))
  refine lv_lload_n hx hb dX1_seal_32 rfl (lv_at hl 1 rfl) ?_
  refine lv_ldc2 (v := 251) hx hb hown (hts (.constantLong RX1 43 251) (by decide +kernel)) dX1_seal_33 ?_
  refine lv_lrem hx hb dX1_seal_36 (by decide) ?_
  refine tpl (fun v29 e29 => ?_)
  refine lv_lconst (v := 1) hx hb dX1_seal_37 (by decide) ?_
  refine lv_ladd hx hb dX1_seal_38 ?_
  refine tpl (fun v30 e30 => ?_)
  exact cS_retl hx hb hr hlocks dX1_seal_39 (by subst e1; subst e2; subst e3; subst e4; subst e5; subst e6; subst e7; subst e8; subst e9; subst e10; subst e11; subst e12; subst e13; subst e14; subst e15; subst e16; subst e17; subst e18; subst e19; subst e20; subst e21; subst e22; subst e23; subst e24; subst e25; subst e26; subst e27; subst e28; subst e29; subst e30; rfl)
abbrev rmX1_isValid : Room := { frames := 1, cells := 0, slots := 0, locals := 24 }
set_option maxHeartbeats 400000 in
set_option maxRecDepth 100000 in
-- isValid
theorem c_X1_isValid (l : Launch) (v : Int64) : cS l yX1_isValid wsX1_isValid rmX1_isValid [.long v] (.int (g_valid v)) := by
  refine cS_in (cc := cX1_isValid) (maxL := 2) (ret := (some .boolean)) (by decide) rfl (Nat.le_of_ble_eq_true rfl) ?_
  intro p e s m below meth c ls hx hb hr hlocks hml hown hts hl
  have hown : s.vm.findClass RX1 = some m.cls := hown
  have hl : lv_has ls 2 [(0, .long v)] := hl
  refine lv_lload_n hx hb dX1_isValid_0 rfl (lv_at hl 0 rfl) ?_
  refine lv_ldc2 (v := 255) hx hb hown (hts (.constantLong RX1 41 255) (by decide +kernel)) dX1_isValid_1 ?_
  refine lv_land hx hb dX1_isValid_4 ?_
  refine tpl (fun v1 e1 => ?_)
  refine lv_lload_n hx hb dX1_isValid_5 rfl (lv_at hl 0 rfl) ?_
  refine cS_call (n := 1) (as := [.long v]) (rest := [.long v1]) ⟨hx, hb, hml, hown, hts⟩ (c_X1_seal l v) gX1_isValid_X1_seal rfl rfl rfl (by decide +kernel) ⟨Nat.le_of_ble_eq_true rfl, Nat.le_of_ble_eq_true rfl⟩ hl.1 rfl rfl (Nat.le_of_ble_eq_true rfl) dX1_isValid_6 ⟨Nat.zero_le _, Nat.zero_le _⟩ ?_
  refine tpl (fun v2 e2 => ?_)
  refine W.lcmp hx hb dX1_isValid_9 ?_
  refine tpi (fun v3 e3 => ?_)
  refine lv_if_ne (tgt := 17) hx hb dX1_isValid_10 (by decide) (fun c4 => ?_) (fun c4 => ?_)
  · refine lv_iconst (v := 0) hx hb dX1_isValid_17 (by decide) ?_
    exact cS_retz hx hb hr hlocks dX1_isValid_18 rfl (by subst e1; subst e2; subst e3; simp only [lg_cmp_eq] at c4; exact (bI_f c4).symm)
  · refine lv_iconst (v := 1) hx hb dX1_isValid_13 (by decide) ?_
    refine lv_goto (tgt := 18) hx hb dX1_isValid_14 (by decide) ?_
    exact cS_retz hx hb hr hlocks dX1_isValid_18 rfl (by subst e1; subst e2; subst e3; simp only [lg_cmp_eq] at c4; exact (bI_t c4).symm)
abbrev rmX1_balanceOf : Room := { frames := 0, cells := 0, slots := 0, locals := 0 }
set_option maxHeartbeats 400000 in
set_option maxRecDepth 100000 in
-- balanceOf
theorem c_X1_balanceOf (l : Launch) (v : Int64) : cS l yX1_balanceOf wsX1_balanceOf rmX1_balanceOf [.long v] (.int (f_bal v)) := by
  refine cS_in (cc := cX1_balanceOf) (maxL := 2) (ret := (some .int)) (by decide) rfl (Nat.le_of_ble_eq_true rfl) ?_
  intro p e s m below meth c ls hx hb hr hlocks hml hown hts hl
  have hown : s.vm.findClass RX1 = some m.cls := hown
  have hl : lv_has ls 2 [(0, .long v)] := hl
  refine lv_lload_n hx hb dX1_balanceOf_0 rfl (lv_at hl 0 rfl) ?_
  refine lv_bipush (v := 32) hx hb dX1_balanceOf_1 (by decide) ?_
  refine lv_lshr hx hb dX1_balanceOf_3 rfl ?_
  refine tpl (fun v1 e1 => ?_)
  refine lv_l2i hx hb dX1_balanceOf_4 rfl ?_
  refine tpi (fun v2 e2 => ?_)
  exact cS_reti hx hb hr hlocks dX1_balanceOf_5 (by subst e1; subst e2; rfl)
abbrev rmX1_numberOf : Room := { frames := 0, cells := 0, slots := 0, locals := 0 }
set_option maxHeartbeats 400000 in
set_option maxRecDepth 100000 in
-- numberOf
theorem c_X1_numberOf (l : Launch) (v : Int64) : cS l yX1_numberOf wsX1_numberOf rmX1_numberOf [.long v] (.int (g_num v)) := by
  refine cS_in (cc := cX1_numberOf) (maxL := 2) (ret := (some .int)) (by decide) rfl (Nat.le_of_ble_eq_true rfl) ?_
  intro p e s m below meth c ls hx hb hr hlocks hml hown hts hl
  have hown : s.vm.findClass RX1 = some m.cls := hown
  have hl : lv_has ls 2 [(0, .long v)] := hl
  refine lv_lload_n hx hb dX1_numberOf_0 rfl (lv_at hl 0 rfl) ?_
  refine lv_bipush (v := 8) hx hb dX1_numberOf_1 (by decide) ?_
  refine lv_lshr hx hb dX1_numberOf_3 rfl ?_
  refine tpl (fun v1 e1 => ?_)
  refine lv_ldc2 (v := 16777215) hx hb hown (hts (.constantLong RX1 49 16777215) (by decide +kernel)) dX1_numberOf_4 ?_
  refine lv_land hx hb dX1_numberOf_7 ?_
  refine tpl (fun v2 e2 => ?_)
  refine lv_l2i hx hb dX1_numberOf_8 rfl ?_
  refine tpi (fun v3 e3 => ?_)
  exact cS_reti hx hb hr hlocks dX1_numberOf_9 (by subst e1; subst e2; subst e3; rfl)
abbrev rmX1_wordOf : Room := { frames := 1, cells := 0, slots := 0, locals := 24 }
set_option maxHeartbeats 400000 in
set_option maxRecDepth 100000 in
-- wordOf
theorem c_X1_wordOf (l : Launch) (b : Int32) (n : Int32) : cS l yX1_wordOf wsX1_wordOf rmX1_wordOf [.int b, .int n] (.long (g_word b n)) := by
  refine cS_in (cc := cX1_wordOf) (maxL := 4) (ret := (some .long)) (by decide) rfl (Nat.le_of_ble_eq_true rfl) ?_
  intro p e s m below meth c ls hx hb hr hlocks hml hown hts hl
  have hown : s.vm.findClass RX1 = some m.cls := hown
  have hl : lv_has ls 4 [(0, .int b), (1, .int n)] := hl
  refine lv_iload_n hx hb dX1_wordOf_0 rfl (lv_at hl 0 rfl) ?_
  refine lv_i2l hx hb dX1_wordOf_1 rfl ?_
  refine tpl (fun v1 e1 => ?_)
  refine lv_bipush (v := 32) hx hb dX1_wordOf_2 (by decide) ?_
  refine lv_lshl hx hb dX1_wordOf_4 rfl ?_
  refine tpl (fun v2 e2 => ?_)
  refine lv_iload_n hx hb dX1_wordOf_5 rfl (lv_at hl 1 rfl) ?_
  refine lv_i2l hx hb dX1_wordOf_6 rfl ?_
  refine tpl (fun v3 e3 => ?_)
  refine lv_bipush (v := 8) hx hb dX1_wordOf_7 (by decide) ?_
  refine lv_lshl hx hb dX1_wordOf_9 rfl ?_
  refine tpl (fun v4 e4 => ?_)
  refine lv_lor hx hb dX1_wordOf_10 ?_
  refine tpl (fun v5 e5 => ?_)
  refine lv_lstore_n (lv' := [(2, .long v5), (0, .int b), (1, .int n)]) hx hb dX1_wordOf_11 rfl hl (by decide) rfl (fun ls hl => ?_)
  refine lv_lload_n hx hb dX1_wordOf_12 rfl (lv_at hl 0 rfl) ?_
  refine lv_lload_n hx hb dX1_wordOf_13 rfl (lv_at hl 0 rfl) ?_
  refine cS_call (n := 1) (as := [.long v5]) (rest := [.long v5]) ⟨hx, hb, hml, hown, hts⟩ (c_X1_seal l v5) gX1_wordOf_X1_seal rfl rfl rfl (by decide +kernel) ⟨Nat.le_of_ble_eq_true rfl, Nat.le_of_ble_eq_true rfl⟩ hl.1 rfl rfl (Nat.le_of_ble_eq_true rfl) dX1_wordOf_14 ⟨Nat.zero_le _, Nat.zero_le _⟩ ?_
  refine tpl (fun v6 e6 => ?_)
  refine lv_lor hx hb dX1_wordOf_17 ?_
  refine tpl (fun v7 e7 => ?_)
  exact cS_retl hx hb hr hlocks dX1_wordOf_18 (by subst e1; subst e2; subst e3; subst e4; subst e5; subst e6; subst e7; rfl)
abbrev rmX1_isOpen : Room := { frames := 2, cells := 0, slots := 0, locals := 45 }
set_option maxHeartbeats 400000 in
set_option maxRecDepth 100000 in
-- isOpen
theorem c_X1_isOpen (l : Launch) (v : Int64) : cS l yX1_isOpen wsX1_isOpen rmX1_isOpen [.long v] (.int (g_isop v)) := by
  refine cS_in (cc := cX1_isOpen) (maxL := 2) (ret := (some .boolean)) (by decide) rfl (Nat.le_of_ble_eq_true rfl) ?_
  intro p e s m below meth c ls hx hb hr hlocks hml hown hts hl
  have hown : s.vm.findClass RX1 = some m.cls := hown
  have hl : lv_has ls 2 [(0, .long v)] := hl
  refine lv_lload_n hx hb dX1_isOpen_0 rfl (lv_at hl 0 rfl) ?_
  refine cS_call (n := 1) (as := [.long v]) (rest := []) ⟨hx, hb, hml, hown, hts⟩ (c_X1_isValid l v) gX1_isOpen_X1_isValid rfl rfl rfl (by decide +kernel) ⟨Nat.le_of_ble_eq_true rfl, Nat.le_of_ble_eq_true rfl⟩ hl.1 rfl rfl (Nat.le_of_ble_eq_true rfl) dX1_isOpen_1 ⟨Nat.zero_le _, Nat.zero_le _⟩ ?_
  refine tpi (fun v1 e1 => ?_)
  refine lv_if_eq (tgt := 18) hx hb dX1_isOpen_4 (by decide) (fun c2 => ?_) (fun c2 => ?_)
  · refine lv_iconst (v := 0) hx hb dX1_isOpen_18 (by decide) ?_
    exact cS_retz hx hb hr hlocks dX1_isOpen_19 rfl (by subst e1; simp only [g_isop, bI, c2, ↓reduceIte, not_true_eq_false, not_false_eq_true, and_self, and_true, true_and, and_false, false_and, eq_self])
  · refine lv_lload_n hx hb dX1_isOpen_7 rfl (lv_at hl 0 rfl) ?_
    refine cS_call (n := 1) (as := [.long v]) (rest := []) ⟨hx, hb, hml, hown, hts⟩ (c_X1_numberOf l v) gX1_isOpen_X1_numberOf rfl rfl rfl (by decide +kernel) ⟨Nat.le_of_ble_eq_true rfl, Nat.le_of_ble_eq_true rfl⟩ hl.1 rfl rfl (Nat.le_of_ble_eq_true rfl) dX1_isOpen_8 ⟨Nat.zero_le _, Nat.zero_le _⟩ ?_
    refine tpi (fun v3 e3 => ?_)
    refine lv_if_le (tgt := 18) hx hb dX1_isOpen_11 (by decide) (fun c4 => ?_) (fun c4 => ?_)
    · refine lv_iconst (v := 0) hx hb dX1_isOpen_18 (by decide) ?_
      exact cS_retz hx hb hr hlocks dX1_isOpen_19 rfl (by subst e1; subst e3; simp only [g_isop, bI, c2, c4, ↓reduceIte, not_true_eq_false, not_false_eq_true, and_self, and_true, true_and, and_false, false_and, eq_self])
    · refine lv_iconst (v := 1) hx hb dX1_isOpen_14 (by decide) ?_
      refine lv_goto (tgt := 19) hx hb dX1_isOpen_15 (by decide) ?_
      exact cS_retz hx hb hr hlocks dX1_isOpen_19 rfl (by subst e1; subst e3; simp only [g_isop, bI, c2, c4, ↓reduceIte, not_true_eq_false, not_false_eq_true, and_self, and_true, true_and, and_false, false_and, eq_self])
abbrev rmX1_isInt : Room := { frames := 0, cells := 0, slots := 0, locals := 0 }
set_option maxHeartbeats 400000 in
set_option maxRecDepth 100000 in
-- isInt
theorem c_X1_isInt (l : Launch) (v : Int64) : cS l yX1_isInt wsX1_isInt rmX1_isInt [.long v] (.int (g_isint v)) := by
  refine cS_in (cc := cX1_isInt) (maxL := 2) (ret := (some .boolean)) (by decide) rfl (Nat.le_of_ble_eq_true rfl) ?_
  intro p e s m below meth c ls hx hb hr hlocks hml hown hts hl
  have hown : s.vm.findClass RX1 = some m.cls := hown
  have hl : lv_has ls 2 [(0, .long v)] := hl
  refine lv_lload_n hx hb dX1_isInt_0 rfl (lv_at hl 0 rfl) ?_
  refine lv_ldc2 (v := (-2147483648)) hx hb hown (hts (.constantLong RX1 59 (-2147483648)) (by decide +kernel)) dX1_isInt_1 ?_
  refine W.lcmp hx hb dX1_isInt_4 ?_
  refine tpi (fun v1 e1 => ?_)
  refine lv_if_lt (tgt := 20) hx hb dX1_isInt_5 (by decide) (fun c2 => ?_) (fun c2 => ?_)
  · refine lv_iconst (v := 0) hx hb dX1_isInt_20 (by decide) ?_
    exact cS_retz hx hb hr hlocks dX1_isInt_21 rfl (by subst e1; (try simp only [lg_cmp_eq, lg_cmp_lt, lg_cmp_le, lg_cmp_gt, lg_cmp_ge] at c2); simp only [g_isint, bI, c2, ↓reduceIte, not_true_eq_false, not_false_eq_true, and_self, and_true, true_and, and_false, false_and, eq_self])
  · refine lv_lload_n hx hb dX1_isInt_8 rfl (lv_at hl 0 rfl) ?_
    refine lv_ldc2 (v := 2147483647) hx hb hown (hts (.constantLong RX1 61 2147483647) (by decide +kernel)) dX1_isInt_9 ?_
    refine W.lcmp hx hb dX1_isInt_12 ?_
    refine tpi (fun v3 e3 => ?_)
    refine lv_if_gt (tgt := 20) hx hb dX1_isInt_13 (by decide) (fun c4 => ?_) (fun c4 => ?_)
    · refine lv_iconst (v := 0) hx hb dX1_isInt_20 (by decide) ?_
      exact cS_retz hx hb hr hlocks dX1_isInt_21 rfl (by subst e1; subst e3; (try simp only [lg_cmp_eq, lg_cmp_lt, lg_cmp_le, lg_cmp_gt, lg_cmp_ge] at c2 c4); simp only [g_isint, bI, c2, c4, ↓reduceIte, not_true_eq_false, not_false_eq_true, and_self, and_true, true_and, and_false, false_and, eq_self])
    · refine lv_iconst (v := 1) hx hb dX1_isInt_16 (by decide) ?_
      refine lv_goto (tgt := 21) hx hb dX1_isInt_17 (by decide) ?_
      exact cS_retz hx hb hr hlocks dX1_isInt_21 rfl (by subst e1; subst e3; (try simp only [lg_cmp_eq, lg_cmp_lt, lg_cmp_le, lg_cmp_gt, lg_cmp_ge] at c2 c4); simp only [g_isint, bI, c2, c4, ↓reduceIte, not_true_eq_false, not_false_eq_true, and_self, and_true, true_and, and_false, false_and, eq_self])
abbrev rmX1_isAccount : Room := { frames := 0, cells := 0, slots := 0, locals := 0 }
set_option maxHeartbeats 400000 in
set_option maxRecDepth 100000 in
-- isAccount
theorem c_X1_isAccount (l : Launch) (a : Int32) : cS l yX1_isAccount wsX1_isAccount rmX1_isAccount [.int a] (.int (f_acct a)) := by
  refine cS_in (cc := cX1_isAccount) (maxL := 1) (ret := (some .boolean)) (by decide) rfl (Nat.le_of_ble_eq_true rfl) ?_
  intro p e s m below meth c ls hx hb hr hlocks hml hown hts hl
  have hown : s.vm.findClass RX1 = some m.cls := hown
  have hl : lv_has ls 1 [(0, .int a)] := hl
  refine lv_iload_n hx hb dX1_isAccount_0 rfl (lv_at hl 0 rfl) ?_
  refine lv_if_lt (tgt := 14) hx hb dX1_isAccount_1 (by decide) (fun c1 => ?_) (fun c1 => ?_)
  · refine lv_iconst (v := 0) hx hb dX1_isAccount_14 (by decide) ?_
    exact cS_retz hx hb hr hlocks dX1_isAccount_15 rfl (by simp only [f_acct, bI, c1, ↓reduceIte, not_true_eq_false, not_false_eq_true, and_self, and_true, true_and, and_false, false_and, eq_self])
  · refine lv_iload_n hx hb dX1_isAccount_4 rfl (lv_at hl 0 rfl) ?_
    refine lv_bipush (v := 16) hx hb dX1_isAccount_5 (by decide) ?_
    refine lv_icmp_ge (tgt := 14) hx hb dX1_isAccount_7 (by decide) (fun c2 => ?_) (fun c2 => ?_)
    · refine lv_iconst (v := 0) hx hb dX1_isAccount_14 (by decide) ?_
      exact cS_retz hx hb hr hlocks dX1_isAccount_15 rfl (by simp only [f_acct, bI, c1, c2, ↓reduceIte, not_true_eq_false, not_false_eq_true, and_self, and_true, true_and, and_false, false_and, eq_self])
    · refine lv_iconst (v := 1) hx hb dX1_isAccount_10 (by decide) ?_
      refine lv_goto (tgt := 15) hx hb dX1_isAccount_11 (by decide) ?_
      exact cS_retz hx hb hr hlocks dX1_isAccount_15 rfl (by simp only [f_acct, bI, c1, c2, ↓reduceIte, not_true_eq_false, not_false_eq_true, and_self, and_true, true_and, and_false, false_and, eq_self])
abbrev rmX1_canBe : Room := { frames := 3, cells := 0, slots := 0, locals := 66 }
set_option maxHeartbeats 400000 in
set_option maxRecDepth 100000 in
-- canBe
theorem c_X1_canBe (l : Launch) (v : Int64) (t : Int64) : cS l yX1_canBe wsX1_canBe rmX1_canBe [.long v, .long t] (.int (g_can v t)) := by
  refine cS_in (cc := cX1_canBe) (maxL := 4) (ret := (some .boolean)) (by decide) rfl (Nat.le_of_ble_eq_true rfl) ?_
  intro p e s m below meth c ls hx hb hr hlocks hml hown hts hl
  have hown : s.vm.findClass RX1 = some m.cls := hown
  have hl : lv_has ls 4 [(0, .long v), (2, .long t)] := hl
  refine lv_lload_n hx hb dX1_canBe_0 rfl (lv_at hl 0 rfl) ?_
  refine cS_call (n := 1) (as := [.long v]) (rest := []) ⟨hx, hb, hml, hown, hts⟩ (c_X1_isOpen l v) gX1_canBe_X1_isOpen rfl rfl rfl (by decide +kernel) ⟨Nat.le_of_ble_eq_true rfl, Nat.le_of_ble_eq_true rfl⟩ hl.1 rfl rfl (Nat.le_of_ble_eq_true rfl) dX1_canBe_1 ⟨Nat.zero_le _, Nat.zero_le _⟩ ?_
  refine tpi (fun v1 e1 => ?_)
  refine lv_if_eq (tgt := 33) hx hb dX1_canBe_4 (by decide) (fun c2 => ?_) (fun c2 => ?_)
  · refine lv_iconst (v := 0) hx hb dX1_canBe_33 (by decide) ?_
    exact cS_retz hx hb hr hlocks dX1_canBe_34 rfl (by subst e1; (try simp only [lg_cmp_eq, lg_cmp_lt, lg_cmp_le, lg_cmp_gt, lg_cmp_ge] at c2); simp only [g_can, bI, c2, ↓reduceIte, not_true_eq_false, not_false_eq_true, and_self, and_true, true_and, and_false, false_and, eq_self])
  · refine lv_lload_n hx hb dX1_canBe_7 rfl (lv_at hl 0 rfl) ?_
    refine cS_call (n := 1) (as := [.long v]) (rest := []) ⟨hx, hb, hml, hown, hts⟩ (c_X1_numberOf l v) gX1_canBe_X1_numberOf rfl rfl rfl (by decide +kernel) ⟨Nat.le_of_ble_eq_true rfl, Nat.le_of_ble_eq_true rfl⟩ hl.1 rfl rfl (Nat.le_of_ble_eq_true rfl) dX1_canBe_8 ⟨Nat.zero_le _, Nat.zero_le _⟩ ?_
    refine tpi (fun v3 e3 => ?_)
    refine lv_ldc (v := 16777215) hx hb hown (hts (.constant RX1 106 16777215) (by decide +kernel)) dX1_canBe_11 ?_
    refine lv_icmp_ge (tgt := 33) hx hb dX1_canBe_13 (by decide) (fun c4 => ?_) (fun c4 => ?_)
    · refine lv_iconst (v := 0) hx hb dX1_canBe_33 (by decide) ?_
      exact cS_retz hx hb hr hlocks dX1_canBe_34 rfl (by subst e1; subst e3; (try simp only [lg_cmp_eq, lg_cmp_lt, lg_cmp_le, lg_cmp_gt, lg_cmp_ge] at c2 c4); simp only [g_can, bI, c2, c4, ↓reduceIte, not_true_eq_false, not_false_eq_true, and_self, and_true, true_and, and_false, false_and, eq_self])
    · refine lv_lload_n hx hb dX1_canBe_16 rfl (lv_at hl 1 rfl) ?_
      refine lv_lconst (v := 0) hx hb dX1_canBe_17 (by decide) ?_
      refine W.lcmp hx hb dX1_canBe_18 ?_
      refine tpi (fun v5 e5 => ?_)
      refine lv_if_lt (tgt := 33) hx hb dX1_canBe_19 (by decide) (fun c6 => ?_) (fun c6 => ?_)
      · refine lv_iconst (v := 0) hx hb dX1_canBe_33 (by decide) ?_
        exact cS_retz hx hb hr hlocks dX1_canBe_34 rfl (by subst e1; subst e3; subst e5; (try simp only [lg_cmp_eq, lg_cmp_lt, lg_cmp_le, lg_cmp_gt, lg_cmp_ge] at c2 c4 c6); simp only [g_can, bI, c2, c4, c6, ↓reduceIte, not_true_eq_false, not_false_eq_true, and_self, and_true, true_and, and_false, false_and, eq_self])
      · refine lv_lload_n hx hb dX1_canBe_22 rfl (lv_at hl 1 rfl) ?_
        refine cS_call (n := 1) (as := [.long t]) (rest := []) ⟨hx, hb, hml, hown, hts⟩ (c_X1_isInt l t) gX1_canBe_X1_isInt rfl rfl rfl (by decide +kernel) ⟨Nat.le_of_ble_eq_true rfl, Nat.le_of_ble_eq_true rfl⟩ hl.1 rfl rfl (Nat.le_of_ble_eq_true rfl) dX1_canBe_23 ⟨Nat.zero_le _, Nat.zero_le _⟩ ?_
        refine tpi (fun v7 e7 => ?_)
        refine lv_if_eq (tgt := 33) hx hb dX1_canBe_26 (by decide) (fun c8 => ?_) (fun c8 => ?_)
        · refine lv_iconst (v := 0) hx hb dX1_canBe_33 (by decide) ?_
          exact cS_retz hx hb hr hlocks dX1_canBe_34 rfl (by subst e1; subst e3; subst e5; subst e7; (try simp only [lg_cmp_eq, lg_cmp_lt, lg_cmp_le, lg_cmp_gt, lg_cmp_ge] at c2 c4 c6 c8); simp only [g_can, bI, c2, c4, c6, c8, ↓reduceIte, not_true_eq_false, not_false_eq_true, and_self, and_true, true_and, and_false, false_and, eq_self])
        · refine lv_iconst (v := 1) hx hb dX1_canBe_29 (by decide) ?_
          refine lv_goto (tgt := 34) hx hb dX1_canBe_30 (by decide) ?_
          exact cS_retz hx hb hr hlocks dX1_canBe_34 rfl (by subst e1; subst e3; subst e5; subst e7; (try simp only [lg_cmp_eq, lg_cmp_lt, lg_cmp_le, lg_cmp_gt, lg_cmp_ge] at c2 c4 c6 c8); simp only [g_can, bI, c2, c4, c6, c8, ↓reduceIte, not_true_eq_false, not_false_eq_true, and_self, and_true, true_and, and_false, false_and, eq_self])
end
section
abbrev rmX1_turn : Room := { frames := 0, cells := 0, slots := 0, locals := 0 }
-- turn
set_option maxHeartbeats 400000 in
set_option maxRecDepth 100000 in
theorem c_X1_turn (l : Launch) (D : va_G) (g0 g1 g2 g3 g4 g5 g6 : Nat) (cA cB : ClassId) (st : RS) (a : Int32) (b : Int32) (d : Int32) (v : Int64) (ht : vp_in st.2.2.2.2.1 256) : cM l D vwCl (FT cA cB) (RWd g0 g1 g2 g3 g4 g5 g6 cA cB) yX1_turn wsX1_turn rmX1_turn [.ref g0, .int a, .int b, .int d, .long v] st none (r_turn a b d v st) := by
  refine cM_in (cc := cX1_turn) (maxL := 6) (ret := none) (by decide) rfl (Nat.le_of_ble_eq_true rfl) ?_
  intro p e s m below meth c ls A hx hb hr hlocks hml hown hts hA hK hP hD hS hl
  have hown : s.vm.findClass RX1 = some m.cls := hown
  have hl : lv_has ls 6 [(0, .ref g0), (1, .int a), (2, .int b), (3, .int d), (4, .long v)] := hl
  -- walk
  refine lv_aload_n hx hb dX1_turn_0 rfl (lv_at hl 0 rfl) ?_
  refine va_get (D := D) (ci := 1) (v := .ref g3) (C := RX1) (T := TX1) (N := 11) hx hb hts (by decide +kernel) hown hK hP 0 rfl rfl 6 (by decide) (hts (.fieldLink RX1 25 "FadeLedgerModel" "kinds" "[I") (by decide +kernel)) (fun _ h9 => h9) rfl dX1_turn_1 ?_
  refine lv_aload_n hx hb dX1_turn_4 rfl (lv_at hl 0 rfl) ?_
  refine va_get (D := D) (ci := 1) (v := .int st.2.2.2.2.1) (C := RX1) (T := TX1) (N := 11) hx hb hts (by decide +kernel) hown hK hP 0 rfl rfl 9 (by decide) (hts (.fieldLink RX1 63 "FadeLedgerModel" "turns" "I") (by decide +kernel)) (fun _ h9 => h9) rfl dX1_turn_5 ?_
  refine tpi (fun v1 e1 => ?_)
  refine lv_iload_n hx hb dX1_turn_8 rfl (lv_at hl 1 rfl) ?_
  refine va_iast hx hb hK hP hD hS 3 1 rfl rfl (by clear hP hD hS; subst e1; exact ht) dX1_turn_9 (fun H locs hP hD hS => ?_)
  obtain ⟨s2, t2⟩ : ∃ y9 : RS, ((st.1, (upd st.2.1 v1.toNatClampNeg a), st.2.2.1, st.2.2.2.1, st.2.2.2.2.1, st.2.2.2.2.2) : RS) = y9 := ⟨_, rfl⟩
  replace hP : va_P D vwCl (RWd g0 g1 g2 g3 g4 g5 g6 cA cB s2) H := by rw [← t2]; exact hP
  replace hD : va_D A (RWd g0 g1 g2 g3 g4 g5 g6 cA cB s2) := by rw [← t2]; exact hD
  refine lv_aload_n hx hb dX1_turn_10 rfl (lv_at hl 0 rfl) ?_
  refine va_get (D := D) (ci := 1) (v := .ref g4) (C := RX1) (T := TX1) (N := 11) hx hb hts (by decide +kernel) hown hK hP 0 rfl rfl 7 (by decide) (hts (.fieldLink RX1 28 "FadeLedgerModel" "places" "[I") (by decide +kernel)) (fun _ h9 => h9) rfl dX1_turn_11 ?_
  refine lv_aload_n hx hb dX1_turn_14 rfl (lv_at hl 0 rfl) ?_
  refine va_get (D := D) (ci := 1) (v := .int s2.2.2.2.2.1) (C := RX1) (T := TX1) (N := 11) hx hb hts (by decide +kernel) hown hK hP 0 rfl rfl 9 (by decide) (hts (.fieldLink RX1 63 "FadeLedgerModel" "turns" "I") (by decide +kernel)) (fun _ h9 => h9) rfl dX1_turn_15 ?_
  refine tpi (fun v3 e3 => ?_)
  refine lv_bipush (v := 20) hx hb dX1_turn_18 (by decide) ?_
  refine lv_iload_n hx hb dX1_turn_20 rfl (lv_at hl 2 rfl) ?_
  refine lv_imul hx hb dX1_turn_21 ?_
  refine tpi (fun v4 e4 => ?_)
  refine lv_iload_n hx hb dX1_turn_22 rfl (lv_at hl 3 rfl) ?_
  refine lv_iadd hx hb dX1_turn_23 ?_
  refine tpi (fun v5 e5 => ?_)
  refine va_iast hx hb hK hP hD hS 4 1 rfl rfl (by clear hP hD hS; subst e1; subst t2; subst e3; subst e4; subst e5; exact ht) dX1_turn_24 (fun H locs hP hD hS => ?_)
  obtain ⟨s6, t6⟩ : ∃ y9 : RS, ((s2.1, s2.2.1, (upd s2.2.2.1 v3.toNatClampNeg v5), s2.2.2.2.1, s2.2.2.2.2.1, s2.2.2.2.2.2) : RS) = y9 := ⟨_, rfl⟩
  replace hP : va_P D vwCl (RWd g0 g1 g2 g3 g4 g5 g6 cA cB s6) H := by rw [← t6]; exact hP
  replace hD : va_D A (RWd g0 g1 g2 g3 g4 g5 g6 cA cB s6) := by rw [← t6]; exact hD
  refine lv_aload_n hx hb dX1_turn_25 rfl (lv_at hl 0 rfl) ?_
  refine va_get (D := D) (ci := 1) (v := .ref g5) (C := RX1) (T := TX1) (N := 11) hx hb hts (by decide +kernel) hown hK hP 0 rfl rfl 8 (by decide) (hts (.fieldLink RX1 31 "FadeLedgerModel" "puts" "[J") (by decide +kernel)) (fun _ h9 => h9) rfl dX1_turn_26 ?_
  refine lv_aload_n hx hb dX1_turn_29 rfl (lv_at hl 0 rfl) ?_
  refine va_get (D := D) (ci := 1) (v := .int s6.2.2.2.2.1) (C := RX1) (T := TX1) (N := 11) hx hb hts (by decide +kernel) hown hK hP 0 rfl rfl 9 (by decide) (hts (.fieldLink RX1 63 "FadeLedgerModel" "turns" "I") (by decide +kernel)) (fun _ h9 => h9) rfl dX1_turn_30 ?_
  refine tpi (fun v7 e7 => ?_)
  refine lv_lload hx hb dX1_turn_33 (lv_at hl 4 rfl) ?_
  refine va_last hx hb hK hP hD hS 5 0 rfl rfl (by clear hP hD hS; subst e1; subst t2; subst e3; subst e4; subst e5; subst t6; subst e7; exact ht) dX1_turn_35 (fun H locs hP hD hS => ?_)
  obtain ⟨s8, t8⟩ : ∃ y9 : RS, ((s6.1, s6.2.1, s6.2.2.1, (vp_updL s6.2.2.2.1 v7.toNatClampNeg v), s6.2.2.2.2.1, s6.2.2.2.2.2) : RS) = y9 := ⟨_, rfl⟩
  replace hP : va_P D vwCl (RWd g0 g1 g2 g3 g4 g5 g6 cA cB s8) H := by rw [← t8]; exact hP
  replace hD : va_D A (RWd g0 g1 g2 g3 g4 g5 g6 cA cB s8) := by rw [← t8]; exact hD
  refine lv_aload_n hx hb dX1_turn_36 rfl (lv_at hl 0 rfl) ?_
  refine lv_dup hx hb dX1_turn_37 rfl ?_
  refine va_get (D := D) (ci := 1) (v := .int s8.2.2.2.2.1) (C := RX1) (T := TX1) (N := 11) hx hb hts (by decide +kernel) hown hK hP 0 rfl rfl 9 (by decide) (hts (.fieldLink RX1 63 "FadeLedgerModel" "turns" "I") (by decide +kernel)) (fun _ h9 => h9) rfl dX1_turn_38 ?_
  refine tpi (fun v9 e9 => ?_)
  refine lv_iconst (v := 1) hx hb dX1_turn_41 (by decide) ?_
  refine lv_iadd hx hb dX1_turn_42 ?_
  refine tpi (fun v10 e10 => ?_)
  refine va_put (D := D) (ci := 1) (v := .int v10) (ty := .int) (C := RX1) (T := TX1) (N := 11) hx hb hts (by decide +kernel) tyX1 tyX1_ok nmX1 hown hK hP hD hS 0 rfl rfl 9 (by decide) (hts (.fieldLink RX1 63 "FadeLedgerModel" "turns" "I") (by decide +kernel)) (fun _ h9 => h9) rfl (by decide +kernel) rfl rfl (Nat.le_of_ble_eq_true rfl) dX1_turn_43 (fun H locs hP hD hS => ?_)
  obtain ⟨s11, t11⟩ : ∃ y9 : RS, ((s8.1, s8.2.1, s8.2.2.1, s8.2.2.2.1, v10, s8.2.2.2.2.2) : RS) = y9 := ⟨_, rfl⟩
  replace hP : va_P D vwCl (RWd g0 g1 g2 g3 g4 g5 g6 cA cB s11) H := by rw [← t11]; exact hP
  replace hD : va_D A (RWd g0 g1 g2 g3 g4 g5 g6 cA cB s11) := by rw [← t11]; exact hD
  have fin : (r_turn a b d v st) = s11 := by clear hP hD hS; subst e1; subst t2; subst e3; subst e4; subst e5; subst t6; subst e7; subst t8; subst e9; subst e10; subst t11; simp only [r_turn, r_place]
  exact cM_retv (Wd := RWd g0 g1 g2 g3 g4 g5 g6 cA cB) (st := s11) (st' := (r_turn a b d v st)) hx hb hr hlocks dX1_turn_46 hS hP hD fin.symm
abbrev rmX1_look : Room := { frames := 1, cells := 0, slots := 0, locals := 25 }
-- look
set_option maxHeartbeats 400000 in
set_option maxRecDepth 100000 in
theorem c_X1_look (l : Launch) (D : va_G) (g0 g1 g2 g3 g4 g5 g6 : Nat) (cA cB : ClassId) (st : RS) (a : Int32) (hc : vp_in a 20) (n : Nat) (hn : st.2.2.2.2.1 = nI n) (h : n + 2 ≤ 256) : cM l D vwCl (FT cA cB) (RWd g0 g1 g2 g3 g4 g5 g6 cA cB) yX1_look wsX1_look rmX1_look [.ref g0, .int a] st none (r_look a st) := by
  refine cM_in (cc := cX1_look) (maxL := 2) (ret := none) (by decide) rfl (Nat.le_of_ble_eq_true rfl) ?_
  intro p e s m below meth c ls A hx hb hr hlocks hml hown hts hA hK hP hD hS hl
  have hown : s.vm.findClass RX1 = some m.cls := hown
  have hl : lv_has ls 2 [(0, .ref g0), (1, .int a)] := hl
  -- walk
  refine lv_aload_n hx hb dX1_look_0 rfl (lv_at hl 0 rfl) ?_
  refine lv_iconst (v := 0) hx hb dX1_look_1 (by decide) ?_
  refine lv_iconst (v := 0) hx hb dX1_look_2 (by decide) ?_
  refine lv_iload_n hx hb dX1_look_3 rfl (lv_at hl 1 rfl) ?_
  refine lv_lconst (v := 0) hx hb dX1_look_4 (by decide) ?_
  refine cM_this (Wd := RWd g0 g1 g2 g3 g4 g5 g6 cA cB) (ci := 1) (q0 := 0) (n := 4) (as := [.int 0, .int 0, .int a, .long 0]) (rest := []) ⟨hx, hb, hml, hown, hts⟩ (c_X1_turn l D g0 g1 g2 g3 g4 g5 g6 cA cB st 0 0 a 0 (t_in hn (by omega))) gX1_look_X1_turn rfl rfl rfl (by decide +kernel) ⟨Nat.le_of_ble_eq_true rfl, Nat.le_of_ble_eq_true rfl⟩ hK hP hD hS hA rfl rfl rfl hl.1 rfl rfl (Nat.le_of_ble_eq_true rfl) dX1_look_5 ⟨Nat.zero_le _, Nat.zero_le _⟩ (fun H locs hP hD hS => ?_)
  refine W.eq (g2 := F0 m 8 ls []) rfl ?_
  obtain ⟨s1, t1⟩ : ∃ y9 : RS, r_turn 0 0 a 0 st = y9 := ⟨_, rfl⟩
  replace hP : va_P D vwCl (RWd g0 g1 g2 g3 g4 g5 g6 cA cB s1) H := by rw [← t1]; exact hP
  replace hD : va_D A (RWd g0 g1 g2 g3 g4 g5 g6 cA cB s1) := by rw [← t1]; exact hD
  refine lv_aload_n hx hb dX1_look_8 rfl (lv_at hl 0 rfl) ?_
  refine lv_iconst (v := 1) hx hb dX1_look_9 (by decide) ?_
  refine lv_iconst (v := 0) hx hb dX1_look_10 (by decide) ?_
  refine lv_iload_n hx hb dX1_look_11 rfl (lv_at hl 1 rfl) ?_
  refine lv_aload_n hx hb dX1_look_12 rfl (lv_at hl 0 rfl) ?_
  refine va_get (D := D) (ci := 1) (v := .ref g1) (C := RX1) (T := TX1) (N := 11) hx hb hts (by decide +kernel) hown hK hP 0 rfl rfl 0 (by decide) (hts (.fieldLink RX1 7 "FadeLedgerModel" "words" "[J") (by decide +kernel)) (fun _ h9 => h9) rfl dX1_look_13 ?_
  refine lv_iload_n hx hb dX1_look_16 rfl (lv_at hl 1 rfl) ?_
  refine va_lald hx hb hK hP 1 0 rfl rfl (in_up hc (by decide)) dX1_look_17 ?_
  refine tpl (fun v2 e2 => ?_)
  refine cM_this (Wd := RWd g0 g1 g2 g3 g4 g5 g6 cA cB) (ci := 1) (q0 := 0) (n := 4) (as := [.int 1, .int 0, .int a, .long v2]) (rest := []) ⟨hx, hb, hml, hown, hts⟩ (c_X1_turn l D g0 g1 g2 g3 g4 g5 g6 cA cB s1 1 0 a v2 (by rw [← t1]; exact t_in (turn_t hn) (by omega))) gX1_look_X1_turn rfl rfl rfl (by decide +kernel) ⟨Nat.le_of_ble_eq_true rfl, Nat.le_of_ble_eq_true rfl⟩ hK hP hD hS hA rfl rfl rfl hl.1 rfl rfl (Nat.le_of_ble_eq_true rfl) dX1_look_18 ⟨Nat.zero_le _, Nat.zero_le _⟩ (fun H locs hP hD hS => ?_)
  refine W.eq (g2 := F0 m 21 ls []) rfl ?_
  obtain ⟨s3, t3⟩ : ∃ y9 : RS, r_turn 1 0 a v2 s1 = y9 := ⟨_, rfl⟩
  replace hP : va_P D vwCl (RWd g0 g1 g2 g3 g4 g5 g6 cA cB s3) H := by rw [← t3]; exact hP
  replace hD : va_D A (RWd g0 g1 g2 g3 g4 g5 g6 cA cB s3) := by rw [← t3]; exact hD
  have fin : (r_look a st) = s3 := by clear hP hD hS; subst t1; subst e2; subst t3; exact rfl
  exact cM_retv (Wd := RWd g0 g1 g2 g3 g4 g5 g6 cA cB) (st := s3) (st' := (r_look a st)) hx hb hr hlocks dX1_look_21 hS hP hD fin.symm
abbrev rmX1_putAll : Room := { frames := 1, cells := 0, slots := 0, locals := 25 }
-- putAll
set_option maxHeartbeats 400000 in
set_option maxRecDepth 100000 in
theorem c_X1_putAll (l : Launch) (D : va_G) (g0 g1 g2 g3 g4 g5 g6 : Nat) (cA cB : ClassId) (st : RS) (a : Int32) (v : Int64) (n : Nat) (hn : st.2.2.2.2.1 = nI n) (h : n + 4 ≤ 256) : cM l D vwCl (FT cA cB) (RWd g0 g1 g2 g3 g4 g5 g6 cA cB) yX1_putAll wsX1_putAll rmX1_putAll [.ref g0, .int a, .long v] st none (r_put a v st) := by
  refine cM_in (cc := cX1_putAll) (maxL := 5) (ret := none) (by decide) rfl (Nat.le_of_ble_eq_true rfl) ?_
  intro p e s m below meth c ls A hx hb hr hlocks hml hown hts hA hK hP hD hS hl
  have hown : s.vm.findClass RX1 = some m.cls := hown
  have hl : lv_has ls 5 [(0, .ref g0), (1, .int a), (2, .long v)] := hl
  -- walk
  refine lv_iconst (v := 0) hx hb dX1_putAll_0 (by decide) ?_
  refine lv_istore (lv' := [(4, .int 0), (0, .ref g0), (1, .int a), (2, .long v)]) hx hb dX1_putAll_1 hl (by decide) rfl (fun ls hl => ?_)
  refine lv_iload hx hb dX1_putAll_3 (lv_at hl 0 rfl) ?_
  refine lv_iconst (v := 4) hx hb dX1_putAll_5 (by decide) ?_
  refine lv_icmp_ge (tgt := 24) hx hb dX1_putAll_6 (by decide) (fun c0 => absurd c0 (by decide)) (fun _ => ?_)
  refine lv_aload_n hx hb dX1_putAll_9 rfl (lv_at hl 1 rfl) ?_
  refine lv_iconst (v := 1) hx hb dX1_putAll_10 (by decide) ?_
  refine lv_iload hx hb dX1_putAll_11 (lv_at hl 0 rfl) ?_
  refine lv_iload_n hx hb dX1_putAll_13 rfl (lv_at hl 2 rfl) ?_
  refine lv_lload_n hx hb dX1_putAll_14 rfl (lv_at hl 3 rfl) ?_
  refine cM_this (Wd := RWd g0 g1 g2 g3 g4 g5 g6 cA cB) (ci := 1) (q0 := 0) (n := 4) (as := [.int 1, .int 0, .int a, .long v]) (rest := []) ⟨hx, hb, hml, hown, hts⟩ (c_X1_turn l D g0 g1 g2 g3 g4 g5 g6 cA cB st 1 0 a v (by clear hP hD hS; exact t_in hn (by omega))) gX1_putAll_X1_turn rfl rfl rfl (by decide +kernel) ⟨Nat.le_of_ble_eq_true rfl, Nat.le_of_ble_eq_true rfl⟩ hK hP hD hS hA rfl rfl rfl hl.1 rfl rfl (Nat.le_of_ble_eq_true rfl) dX1_putAll_15 ⟨Nat.zero_le _, Nat.zero_le _⟩ (fun H locs hP hD hS => ?_)
  refine W.eq (g2 := F0 m 18 ls []) rfl ?_
  obtain ⟨s1, t1⟩ : ∃ y9 : RS, r_turn 1 0 a v st = y9 := ⟨_, rfl⟩
  replace hP : va_P D vwCl (RWd g0 g1 g2 g3 g4 g5 g6 cA cB s1) H := by rw [← t1]; exact hP
  replace hD : va_D A (RWd g0 g1 g2 g3 g4 g5 g6 cA cB s1) := by rw [← t1]; exact hD
  refine lv_iinc (v := 1) (lv' := [(4, .int 1), (0, .ref g0), (1, .int a), (2, .long v)]) hx hb dX1_putAll_18 hl (k := 0) rfl (by decide) (by decide) rfl (fun ls hl => ?_)
  refine lv_goto (tgt := 3) hx hb dX1_putAll_21 (by decide) ?_
  refine lv_iload hx hb dX1_putAll_3 (lv_at hl 0 rfl) ?_
  refine lv_iconst (v := 4) hx hb dX1_putAll_5 (by decide) ?_
  refine lv_icmp_ge (tgt := 24) hx hb dX1_putAll_6 (by decide) (fun c0 => absurd c0 (by decide)) (fun _ => ?_)
  refine lv_aload_n hx hb dX1_putAll_9 rfl (lv_at hl 1 rfl) ?_
  refine lv_iconst (v := 1) hx hb dX1_putAll_10 (by decide) ?_
  refine lv_iload hx hb dX1_putAll_11 (lv_at hl 0 rfl) ?_
  refine lv_iload_n hx hb dX1_putAll_13 rfl (lv_at hl 2 rfl) ?_
  refine lv_lload_n hx hb dX1_putAll_14 rfl (lv_at hl 3 rfl) ?_
  refine cM_this (Wd := RWd g0 g1 g2 g3 g4 g5 g6 cA cB) (ci := 1) (q0 := 0) (n := 4) (as := [.int 1, .int 1, .int a, .long v]) (rest := []) ⟨hx, hb, hml, hown, hts⟩ (c_X1_turn l D g0 g1 g2 g3 g4 g5 g6 cA cB s1 1 1 a v (by clear hP hD hS; subst t1; exact t_in (turn_t hn) (by omega))) gX1_putAll_X1_turn rfl rfl rfl (by decide +kernel) ⟨Nat.le_of_ble_eq_true rfl, Nat.le_of_ble_eq_true rfl⟩ hK hP hD hS hA rfl rfl rfl hl.1 rfl rfl (Nat.le_of_ble_eq_true rfl) dX1_putAll_15 ⟨Nat.zero_le _, Nat.zero_le _⟩ (fun H locs hP hD hS => ?_)
  refine W.eq (g2 := F0 m 18 ls []) rfl ?_
  obtain ⟨s2, t2⟩ : ∃ y9 : RS, r_turn 1 1 a v s1 = y9 := ⟨_, rfl⟩
  replace hP : va_P D vwCl (RWd g0 g1 g2 g3 g4 g5 g6 cA cB s2) H := by rw [← t2]; exact hP
  replace hD : va_D A (RWd g0 g1 g2 g3 g4 g5 g6 cA cB s2) := by rw [← t2]; exact hD
  refine lv_iinc (v := 2) (lv' := [(4, .int 2), (0, .ref g0), (1, .int a), (2, .long v)]) hx hb dX1_putAll_18 hl (k := 0) rfl (by decide) (by decide) rfl (fun ls hl => ?_)
  refine lv_goto (tgt := 3) hx hb dX1_putAll_21 (by decide) ?_
  refine lv_iload hx hb dX1_putAll_3 (lv_at hl 0 rfl) ?_
  refine lv_iconst (v := 4) hx hb dX1_putAll_5 (by decide) ?_
  refine lv_icmp_ge (tgt := 24) hx hb dX1_putAll_6 (by decide) (fun c0 => absurd c0 (by decide)) (fun _ => ?_)
  refine lv_aload_n hx hb dX1_putAll_9 rfl (lv_at hl 1 rfl) ?_
  refine lv_iconst (v := 1) hx hb dX1_putAll_10 (by decide) ?_
  refine lv_iload hx hb dX1_putAll_11 (lv_at hl 0 rfl) ?_
  refine lv_iload_n hx hb dX1_putAll_13 rfl (lv_at hl 2 rfl) ?_
  refine lv_lload_n hx hb dX1_putAll_14 rfl (lv_at hl 3 rfl) ?_
  refine cM_this (Wd := RWd g0 g1 g2 g3 g4 g5 g6 cA cB) (ci := 1) (q0 := 0) (n := 4) (as := [.int 1, .int 2, .int a, .long v]) (rest := []) ⟨hx, hb, hml, hown, hts⟩ (c_X1_turn l D g0 g1 g2 g3 g4 g5 g6 cA cB s2 1 2 a v (by clear hP hD hS; subst t1; subst t2; exact t_in (turn_t (turn_t hn)) (by omega))) gX1_putAll_X1_turn rfl rfl rfl (by decide +kernel) ⟨Nat.le_of_ble_eq_true rfl, Nat.le_of_ble_eq_true rfl⟩ hK hP hD hS hA rfl rfl rfl hl.1 rfl rfl (Nat.le_of_ble_eq_true rfl) dX1_putAll_15 ⟨Nat.zero_le _, Nat.zero_le _⟩ (fun H locs hP hD hS => ?_)
  refine W.eq (g2 := F0 m 18 ls []) rfl ?_
  obtain ⟨s3, t3⟩ : ∃ y9 : RS, r_turn 1 2 a v s2 = y9 := ⟨_, rfl⟩
  replace hP : va_P D vwCl (RWd g0 g1 g2 g3 g4 g5 g6 cA cB s3) H := by rw [← t3]; exact hP
  replace hD : va_D A (RWd g0 g1 g2 g3 g4 g5 g6 cA cB s3) := by rw [← t3]; exact hD
  refine lv_iinc (v := 3) (lv' := [(4, .int 3), (0, .ref g0), (1, .int a), (2, .long v)]) hx hb dX1_putAll_18 hl (k := 0) rfl (by decide) (by decide) rfl (fun ls hl => ?_)
  refine lv_goto (tgt := 3) hx hb dX1_putAll_21 (by decide) ?_
  refine lv_iload hx hb dX1_putAll_3 (lv_at hl 0 rfl) ?_
  refine lv_iconst (v := 4) hx hb dX1_putAll_5 (by decide) ?_
  refine lv_icmp_ge (tgt := 24) hx hb dX1_putAll_6 (by decide) (fun c0 => absurd c0 (by decide)) (fun _ => ?_)
  refine lv_aload_n hx hb dX1_putAll_9 rfl (lv_at hl 1 rfl) ?_
  refine lv_iconst (v := 1) hx hb dX1_putAll_10 (by decide) ?_
  refine lv_iload hx hb dX1_putAll_11 (lv_at hl 0 rfl) ?_
  refine lv_iload_n hx hb dX1_putAll_13 rfl (lv_at hl 2 rfl) ?_
  refine lv_lload_n hx hb dX1_putAll_14 rfl (lv_at hl 3 rfl) ?_
  refine cM_this (Wd := RWd g0 g1 g2 g3 g4 g5 g6 cA cB) (ci := 1) (q0 := 0) (n := 4) (as := [.int 1, .int 3, .int a, .long v]) (rest := []) ⟨hx, hb, hml, hown, hts⟩ (c_X1_turn l D g0 g1 g2 g3 g4 g5 g6 cA cB s3 1 3 a v (by clear hP hD hS; subst t1; subst t2; subst t3; exact t_in (turn_t (turn_t (turn_t hn))) (by omega))) gX1_putAll_X1_turn rfl rfl rfl (by decide +kernel) ⟨Nat.le_of_ble_eq_true rfl, Nat.le_of_ble_eq_true rfl⟩ hK hP hD hS hA rfl rfl rfl hl.1 rfl rfl (Nat.le_of_ble_eq_true rfl) dX1_putAll_15 ⟨Nat.zero_le _, Nat.zero_le _⟩ (fun H locs hP hD hS => ?_)
  refine W.eq (g2 := F0 m 18 ls []) rfl ?_
  obtain ⟨s4, t4⟩ : ∃ y9 : RS, r_turn 1 3 a v s3 = y9 := ⟨_, rfl⟩
  replace hP : va_P D vwCl (RWd g0 g1 g2 g3 g4 g5 g6 cA cB s4) H := by rw [← t4]; exact hP
  replace hD : va_D A (RWd g0 g1 g2 g3 g4 g5 g6 cA cB s4) := by rw [← t4]; exact hD
  refine lv_iinc (v := 4) (lv' := [(4, .int 4), (0, .ref g0), (1, .int a), (2, .long v)]) hx hb dX1_putAll_18 hl (k := 0) rfl (by decide) (by decide) rfl (fun ls hl => ?_)
  refine lv_goto (tgt := 3) hx hb dX1_putAll_21 (by decide) ?_
  refine lv_iload hx hb dX1_putAll_3 (lv_at hl 0 rfl) ?_
  refine lv_iconst (v := 4) hx hb dX1_putAll_5 (by decide) ?_
  refine lv_icmp_ge (tgt := 24) hx hb dX1_putAll_6 (by decide) (fun _ => ?_) (fun c0 => absurd c0 (by decide))
  have fin : (r_put a v st) = s4 := by clear hP hD hS; subst t1; subst t2; subst t3; subst t4; simp only [r_put]
  exact cM_retv (Wd := RWd g0 g1 g2 g3 g4 g5 g6 cA cB) (st := s4) (st' := (r_put a v st)) hx hb hr hlocks dX1_putAll_24 hS hP hD fin.symm
end
section
/-! rows for the reference's loop over its plan -/
theorem drop_at {α : Type} {L : List α} {i : Nat} {q : α} (h : L[i]? = some q) : L.drop i = q :: L.drop (i + 1) := by
  obtain ⟨hi, hq⟩ := List.getElem?_eq_some_iff.mp h
  rw [List.drop_eq_getElem_cons hi, hq]
theorem mod_in {x : Int32} (h : vp_in x 80) : vp_in (x - x / 20 * 20) 20 := by
  obtain ⟨j, hj, rfl⟩ := vp_in_of h (by decide)
  rw [show (20 : Int32) = nI 20 from rfl, pk_rem (by omega) (by decide) (by decide)]
  exact vp_in_nI (by omega) (by decide)
end
section
abbrev rmX1_works : Room := { frames := 0, cells := 0, slots := 0, locals := 0 }
-- works: the plan is run
set_option maxHeartbeats 400000 in
set_option maxRecDepth 100000 in
theorem c_X1_works (l : Launch) (D : va_G) (g0 g1 g2 g3 g4 g5 g6 : Nat) (cA cB : ClassId) (st : RS) (L : RPl) (hL : r_plan st L) : cM l D vwCl (FT cA cB) (RWd g0 g1 g2 g3 g4 g5 g6 cA cB) yX1_works wsX1_works rmX1_works [.ref g0] st (some (.int (r_wk L st).1)) (r_wk L st).2 := by
  refine cM_in (cc := cX1_works) (maxL := 2) (ret := (some .boolean)) (by decide) rfl (Nat.le_of_ble_eq_true rfl) ?_
  intro p e s m below meth c ls A hx hb hr hlocks hml hown hts hA hK hP hD hS hl
  have hown : s.vm.findClass RX1 = some m.cls := hown
  have hl : lv_has ls 2 [(0, .ref g0)] := hl
  have hlen := hL.2.1
  have LOOP : ∀ (n i : Nat) (z : RS) (H : Heap) (locs : List Loc) (ls : Array Slot), i + n = L.length → z.2 = st.2 → r_run (L.drop i) z.1 = r_run L st.1 → va_P D vwCl (RWd g0 g1 g2 g3 g4 g5 g6 cA cB z) H → va_D A (RWd g0 g1 g2 g3 g4 g5 g6 cA cB z) → va_S A s.heap H locs → lv_has ls 2 [(0, .ref g0), (1, .int (nI i))] → W p l e rmX1_works s m ([.ref g0] : List Value).toArray below meth c H locs 0 0 (MQ below (cQ (some (.int (r_wk L st).1)) (fun t => va_P D vwCl (RWd g0 g1 g2 g3 g4 g5 g6 cA cB (r_wk L st).2) t.heap ∧ va_D A (RWd g0 g1 g2 g3 g4 g5 g6 cA cB (r_wk L st).2)) A) ([.ref g0] : List Value).toArray s 0 0 A) (F0 m 2 ls []) := by
    intro n
    induction n with
    | zero =>
      intro i z H locs ls hin hz hrun hP hD hS hl
      have hi : i = L.length := by omega
      subst hi
      refine lv_iload_n hx hb dX1_works_2 rfl (lv_at hl 1 rfl) ?_
      refine lv_aload_n hx hb dX1_works_3 rfl (lv_at hl 0 rfl) ?_
      refine va_get (D := D) (ci := 1) (v := .int z.2.2.2.2.1) (C := RX1) (T := TX1) (N := 11) hx hb hts (by decide +kernel) hown hK hP 0 rfl rfl 9 (by decide) (hts (.fieldLink RX1 63 "FadeLedgerModel" "turns" "I") (by decide +kernel)) (fun _ h9 => h9) rfl dX1_works_4 ?_
      refine tpi (fun v1 e1 => ?_)
      refine lv_icmp_ge (tgt := 170) hx hb dX1_works_7 (by decide) (fun c2 => ?_) (fun c2 => ?_)
      · refine lv_iconst (v := 1) hx hb dX1_works_170 (by decide) ?_
        have fin : r_wk L st = (1, z) := by
          clear hP hD hS; subst e1; rw [List.drop_length] at hrun; simp only [r_wk, ← hrun, r_run, ← hz]
        exact cM_retz (Wd := RWd g0 g1 g2 g3 g4 g5 g6 cA cB) (st := z) (st' := (r_wk L st).2) hx hb hr hlocks dX1_works_171 hS hP hD rfl (congrArg Prod.fst fin).symm (congrArg Prod.snd fin).symm
      · exact absurd (by rw [← e1, hz, hL.1]; exact Int32.le_refl _) c2
    | succ n ih =>
      intro i z H locs ls hin hz hrun hP hD hS hl
      have hi : i < L.length := by omega
      obtain ⟨q, hq⟩ : ∃ q, L[i]? = some q := ⟨L[i], List.getElem?_eq_getElem hi⟩
      obtain ⟨q1, q2, q3, q4⟩ := hL.2.2 i q hq
      have hcl : (nI i).toNatClampNeg = i := nI_clamp (by omega)
      have k1 : z.2.1 (nI i).toNatClampNeg = q.1 := by rw [hz, hcl, q1]
      have k2 : z.2.2.1 (nI i).toNatClampNeg = q.2.1 := by rw [hz, hcl, q2]
      have k3 : z.2.2.2.1 (nI i).toNatClampNeg = q.2.2 := by rw [hz, hcl, q3]
      have hi1 : nI i + 1 = nI (i + 1) := nI_1 i
      have hir : vp_in (nI i) 256 := vp_in_nI (by omega) (by decide)
      rw [drop_at hq] at hrun
      refine lv_iload_n hx hb dX1_works_2 rfl (lv_at hl 1 rfl) ?_
      refine lv_aload_n hx hb dX1_works_3 rfl (lv_at hl 0 rfl) ?_
      refine va_get (D := D) (ci := 1) (v := .int z.2.2.2.2.1) (C := RX1) (T := TX1) (N := 11) hx hb hts (by decide +kernel) hown hK hP 0 rfl rfl 9 (by decide) (hts (.fieldLink RX1 63 "FadeLedgerModel" "turns" "I") (by decide +kernel)) (fun _ h9 => h9) rfl dX1_works_4 ?_
      refine tpi (fun v1 e1 => ?_)
      refine lv_icmp_ge (tgt := 170) hx hb dX1_works_7 (by decide) (fun c2 => ?_) (fun c2 => ?_)
      · exact absurd c2 (by rw [← e1, hz, hL.1]; exact nI_ge hi (by omega))
      · refine lv_aload_n hx hb dX1_works_10 rfl (lv_at hl 0 rfl) ?_
        refine va_get (D := D) (ci := 1) (v := .int z.1.2.2.1) (C := RX1) (T := TX1) (N := 11) hx hb hts (by decide +kernel) hown hK hP 0 rfl rfl 2 (by decide) (hts (.fieldLink RX1 17 "FadeLedgerModel" "power" "Z") (by decide +kernel)) (fun _ h9 => h9) rfl dX1_works_11 ?_
        refine tpi (fun v3 e3 => ?_)
        refine lv_if_eq (tgt := 34) hx hb dX1_works_14 (by decide) (fun c4 => ?_) (fun c4 => ?_)
        · refine lv_aload_n hx hb dX1_works_34 rfl (lv_at hl 0 rfl) ?_
          refine va_get (D := D) (ci := 1) (v := .int z.1.2.2.1) (C := RX1) (T := TX1) (N := 11) hx hb hts (by decide +kernel) hown hK hP 0 rfl rfl 2 (by decide) (hts (.fieldLink RX1 17 "FadeLedgerModel" "power" "Z") (by decide +kernel)) (fun _ h9 => h9) rfl dX1_works_35 ?_
          refine tpi (fun v5 e5 => ?_)
          refine lv_if_ne (tgt := 43) hx hb dX1_works_38 (by decide) (fun c6 => ?_) (fun c6 => ?_)
          · exact absurd (show _ = _ from by subst e1; subst e3; subst e5; exact c4) c6
          · refine lv_iconst (v := 0) hx hb dX1_works_41 (by decide) ?_
            have fin : r_wk L st = (0, z) := by
              clear hP hD hS; subst e1; subst e3; subst e5; simp only [r_wk, ← hrun, r_run, f_take, f_lose, ← hz, c4, c6, ↓reduceIte, not_true_eq_false, not_false_eq_true, and_self, and_true, true_and, and_false, false_and, eq_self, i10]
            exact cM_retz (Wd := RWd g0 g1 g2 g3 g4 g5 g6 cA cB) (st := z) (st' := (r_wk L st).2) hx hb hr hlocks dX1_works_42 hS hP hD rfl (congrArg Prod.fst fin).symm (congrArg Prod.snd fin).symm
        · refine lv_aload_n hx hb dX1_works_17 rfl (lv_at hl 0 rfl) ?_
          refine va_get (D := D) (ci := 1) (v := .int z.1.2.2.2.1) (C := RX1) (T := TX1) (N := 11) hx hb hts (by decide +kernel) hown hK hP 0 rfl rfl 3 (by decide) (hts (.fieldLink RX1 21 "FadeLedgerModel" "left" "I") (by decide +kernel)) (fun _ h9 => h9) rfl dX1_works_18 ?_
          refine tpi (fun v7 e7 => ?_)
          refine lv_if_ne (tgt := 34) hx hb dX1_works_21 (by decide) (fun c8 => ?_) (fun c8 => ?_)
          · refine lv_aload_n hx hb dX1_works_34 rfl (lv_at hl 0 rfl) ?_
            refine va_get (D := D) (ci := 1) (v := .int z.1.2.2.1) (C := RX1) (T := TX1) (N := 11) hx hb hts (by decide +kernel) hown hK hP 0 rfl rfl 2 (by decide) (hts (.fieldLink RX1 17 "FadeLedgerModel" "power" "Z") (by decide +kernel)) (fun _ h9 => h9) rfl dX1_works_35 ?_
            refine tpi (fun v9 e9 => ?_)
            refine lv_if_ne (tgt := 43) hx hb dX1_works_38 (by decide) (fun c10 => ?_) (fun c10 => ?_)
            · refine lv_aload_n hx hb dX1_works_43 rfl (lv_at hl 0 rfl) ?_
              refine va_get (D := D) (ci := 1) (v := .int z.1.2.2.2.1) (C := RX1) (T := TX1) (N := 11) hx hb hts (by decide +kernel) hown hK hP 0 rfl rfl 3 (by decide) (hts (.fieldLink RX1 21 "FadeLedgerModel" "left" "I") (by decide +kernel)) (fun _ h9 => h9) rfl dX1_works_44 ?_
              refine tpi (fun v11 e11 => ?_)
              refine lv_if_le (tgt := 60) hx hb dX1_works_47 (by decide) (fun c12 => ?_) (fun c12 => ?_)
              · refine lv_aload_n hx hb dX1_works_60 rfl (lv_at hl 0 rfl) ?_
                refine va_get (D := D) (ci := 1) (v := .ref g3) (C := RX1) (T := TX1) (N := 11) hx hb hts (by decide +kernel) hown hK hP 0 rfl rfl 6 (by decide) (hts (.fieldLink RX1 25 "FadeLedgerModel" "kinds" "[I") (by decide +kernel)) (fun _ h9 => h9) rfl dX1_works_61 ?_
                refine lv_iload_n hx hb dX1_works_64 rfl (lv_at hl 1 rfl) ?_
                refine va_iald hx hb hK hP 3 1 rfl rfl hir dX1_works_65 ?_
                refine tpi (fun v13 e13 => ?_)
                refine lv_if_ne (tgt := 94) hx hb dX1_works_66 (by decide) (fun c14 => ?_) (fun c14 => ?_)
                · refine lv_aload_n hx hb dX1_works_94 rfl (lv_at hl 0 rfl) ?_
                  refine lv_dup hx hb dX1_works_95 rfl ?_
                  refine va_get (D := D) (ci := 1) (v := .int z.1.2.2.2.2.2) (C := RX1) (T := TX1) (N := 11) hx hb hts (by decide +kernel) hown hK hP 0 rfl rfl 5 (by decide) (hts (.fieldLink RX1 73 "FadeLedgerModel" "writes" "I") (by decide +kernel)) (fun _ h9 => h9) rfl dX1_works_96 ?_
                  refine tpi (fun v15 e15 => ?_)
                  refine lv_iconst (v := 1) hx hb dX1_works_99 (by decide) ?_
                  refine lv_iadd hx hb dX1_works_100 ?_
                  refine tpi (fun v16 e16 => ?_)
                  refine va_put (D := D) (ci := 1) (v := .int v16) (ty := .int) (C := RX1) (T := TX1) (N := 11) hx hb hts (by decide +kernel) tyX1 tyX1_ok nmX1 hown hK hP hD hS 0 rfl rfl 5 (by decide) (hts (.fieldLink RX1 73 "FadeLedgerModel" "writes" "I") (by decide +kernel)) (fun _ h9 => h9) rfl (by decide +kernel) rfl rfl (Nat.le_of_ble_eq_true rfl) dX1_works_101 (fun H locs hP hD hS => ?_)
                  obtain ⟨s17, t17⟩ : ∃ y9 : RS, (((z.1.1, z.1.2.1, z.1.2.2.1, z.1.2.2.2.1, z.1.2.2.2.2.1, v16), z.2) : RS) = y9 := ⟨_, rfl⟩
                  replace hP : va_P D vwCl (RWd g0 g1 g2 g3 g4 g5 g6 cA cB s17) H := by rw [← t17]; exact hP
                  replace hD : va_D A (RWd g0 g1 g2 g3 g4 g5 g6 cA cB s17) := by rw [← t17]; exact hD
                  refine lv_aload_n hx hb dX1_works_104 rfl (lv_at hl 0 rfl) ?_
                  refine va_get (D := D) (ci := 1) (v := .ref g1) (C := RX1) (T := TX1) (N := 11) hx hb hts (by decide +kernel) hown hK hP 0 rfl rfl 0 (by decide) (hts (.fieldLink RX1 7 "FadeLedgerModel" "words" "[J") (by decide +kernel)) (fun _ h9 => h9) rfl dX1_works_105 ?_
                  refine lv_aload_n hx hb dX1_works_108 rfl (lv_at hl 0 rfl) ?_
                  refine va_get (D := D) (ci := 1) (v := .ref g4) (C := RX1) (T := TX1) (N := 11) hx hb hts (by decide +kernel) hown hK hP 0 rfl rfl 7 (by decide) (hts (.fieldLink RX1 28 "FadeLedgerModel" "places" "[I") (by decide +kernel)) (fun _ h9 => h9) rfl dX1_works_109 ?_
                  refine lv_iload_n hx hb dX1_works_112 rfl (lv_at hl 1 rfl) ?_
                  refine va_iald hx hb hK hP 4 1 rfl rfl hir dX1_works_113 ?_
                  refine tpi (fun v18 e18 => ?_)
                  refine lv_aload_n hx hb dX1_works_114 rfl (lv_at hl 0 rfl) ?_
                  refine va_get (D := D) (ci := 1) (v := .ref g5) (C := RX1) (T := TX1) (N := 11) hx hb hts (by decide +kernel) hown hK hP 0 rfl rfl 8 (by decide) (hts (.fieldLink RX1 31 "FadeLedgerModel" "puts" "[J") (by decide +kernel)) (fun _ h9 => h9) rfl dX1_works_115 ?_
                  refine lv_iload_n hx hb dX1_works_118 rfl (lv_at hl 1 rfl) ?_
                  refine va_lald hx hb hK hP 5 0 rfl rfl hir dX1_works_119 ?_
                  refine tpl (fun v19 e19 => ?_)
                  refine va_last hx hb hK hP hD hS 1 0 rfl rfl (by clear hP hD hS; subst e1; subst e3; subst e7; subst e9; subst e11; subst e13; subst e15; subst e16; subst t17; subst e18; subst e19; show vp_in (z.2.2.1 (nI i).toNatClampNeg) 80; rw [k2]; exact q4) dX1_works_120 (fun H locs hP hD hS => ?_)
                  obtain ⟨s20, t20⟩ : ∃ y9 : RS, ((((vp_updL s17.1.1 v18.toNatClampNeg v19), s17.1.2.1, s17.1.2.2.1, s17.1.2.2.2.1, s17.1.2.2.2.2.1, s17.1.2.2.2.2.2), s17.2) : RS) = y9 := ⟨_, rfl⟩
                  replace hP : va_P D vwCl (RWd g0 g1 g2 g3 g4 g5 g6 cA cB s20) H := by rw [← t20]; exact hP
                  replace hD : va_D A (RWd g0 g1 g2 g3 g4 g5 g6 cA cB s20) := by rw [← t20]; exact hD
                  refine lv_aload_n hx hb dX1_works_121 rfl (lv_at hl 0 rfl) ?_
                  refine va_get (D := D) (ci := 1) (v := .ref g3) (C := RX1) (T := TX1) (N := 11) hx hb hts (by decide +kernel) hown hK hP 0 rfl rfl 6 (by decide) (hts (.fieldLink RX1 25 "FadeLedgerModel" "kinds" "[I") (by decide +kernel)) (fun _ h9 => h9) rfl dX1_works_122 ?_
                  refine lv_iload_n hx hb dX1_works_125 rfl (lv_at hl 1 rfl) ?_
                  refine va_iald hx hb hK hP 3 1 rfl rfl hir dX1_works_126 ?_
                  refine tpi (fun v21 e21 => ?_)
                  refine lv_if_ne (tgt := 164) hx hb dX1_works_127 (by decide) (fun c22 => ?_) (fun c22 => ?_)
                  · refine lv_iinc (v := (nI (i + 1))) (lv' := [(1, .int (nI (i + 1))), (0, .ref g0)]) hx hb dX1_works_164 hl (k := 1) rfl (by rw [← hi1]; rfl) (by decide) rfl (fun ls hl => ?_)
                    refine lv_goto (tgt := 2) hx hb dX1_works_167 (by decide) ?_
                    exact ih (i + 1) s20 _ _ _ (by omega) (by clear hP hD hS; subst e1; subst e3; subst e7; subst e9; subst e11; subst e13; subst e15; subst e16; subst t17; subst e18; subst e19; subst t20; subst e21; exact hz) (by clear hP hD hS; subst e1; subst e3; subst e7; subst e9; subst e11; subst e13; subst e15; subst e16; subst t17; subst e18; subst e19; subst t20; subst e21; (try simp only [lg_cmp_le, k1, k2, k3] at c4 c8 c10 c12 c14 c22); rw [← hrun]; simp only [r_run, f_take, r_ex1, k1, k2, k3, c4, c8, c10, c12, c14, c22, ↓reduceIte, not_true_eq_false, not_false_eq_true, and_self, and_true, true_and, and_false, false_and, eq_self, i10]) hP hD hS (lv_sub hl [1, 0] rfl)
                  · exact absurd (show _ = _ from by subst e1; subst e3; subst e7; subst e9; subst e11; subst e13; subst e15; subst e16; subst t17; subst e18; subst e19; subst t20; subst e21; exact c22) c14
                · refine lv_aload_n hx hb dX1_works_69 rfl (lv_at hl 0 rfl) ?_
                  refine lv_dup hx hb dX1_works_70 rfl ?_
                  refine va_get (D := D) (ci := 1) (v := .int z.1.2.2.2.2.1) (C := RX1) (T := TX1) (N := 11) hx hb hts (by decide +kernel) hown hK hP 0 rfl rfl 4 (by decide) (hts (.fieldLink RX1 70 "FadeLedgerModel" "reads" "I") (by decide +kernel)) (fun _ h9 => h9) rfl dX1_works_71 ?_
                  refine tpi (fun v23 e23 => ?_)
                  refine lv_iconst (v := 1) hx hb dX1_works_74 (by decide) ?_
                  refine lv_iadd hx hb dX1_works_75 ?_
                  refine tpi (fun v24 e24 => ?_)
                  refine va_put (D := D) (ci := 1) (v := .int v24) (ty := .int) (C := RX1) (T := TX1) (N := 11) hx hb hts (by decide +kernel) tyX1 tyX1_ok nmX1 hown hK hP hD hS 0 rfl rfl 4 (by decide) (hts (.fieldLink RX1 70 "FadeLedgerModel" "reads" "I") (by decide +kernel)) (fun _ h9 => h9) rfl (by decide +kernel) rfl rfl (Nat.le_of_ble_eq_true rfl) dX1_works_76 (fun H locs hP hD hS => ?_)
                  obtain ⟨s25, t25⟩ : ∃ y9 : RS, (((z.1.1, z.1.2.1, z.1.2.2.1, z.1.2.2.2.1, v24, z.1.2.2.2.2.2), z.2) : RS) = y9 := ⟨_, rfl⟩
                  replace hP : va_P D vwCl (RWd g0 g1 g2 g3 g4 g5 g6 cA cB s25) H := by rw [← t25]; exact hP
                  replace hD : va_D A (RWd g0 g1 g2 g3 g4 g5 g6 cA cB s25) := by rw [← t25]; exact hD
                  refine lv_aload_n hx hb dX1_works_79 rfl (lv_at hl 0 rfl) ?_
                  refine va_get (D := D) (ci := 1) (v := .ref g1) (C := RX1) (T := TX1) (N := 11) hx hb hts (by decide +kernel) hown hK hP 0 rfl rfl 0 (by decide) (hts (.fieldLink RX1 7 "FadeLedgerModel" "words" "[J") (by decide +kernel)) (fun _ h9 => h9) rfl dX1_works_80 ?_
                  refine lv_aload_n hx hb dX1_works_83 rfl (lv_at hl 0 rfl) ?_
                  refine va_get (D := D) (ci := 1) (v := .ref g4) (C := RX1) (T := TX1) (N := 11) hx hb hts (by decide +kernel) hown hK hP 0 rfl rfl 7 (by decide) (hts (.fieldLink RX1 28 "FadeLedgerModel" "places" "[I") (by decide +kernel)) (fun _ h9 => h9) rfl dX1_works_84 ?_
                  refine lv_iload_n hx hb dX1_works_87 rfl (lv_at hl 1 rfl) ?_
                  refine va_iald hx hb hK hP 4 1 rfl rfl hir dX1_works_88 ?_
                  refine tpi (fun v26 e26 => ?_)
                  refine lv_lconst (v := 0) hx hb dX1_works_89 (by decide) ?_
                  refine va_last hx hb hK hP hD hS 1 0 rfl rfl (by clear hP hD hS; subst e1; subst e3; subst e7; subst e9; subst e11; subst e13; subst e23; subst e24; subst t25; subst e26; show vp_in (z.2.2.1 (nI i).toNatClampNeg) 80; rw [k2]; exact q4) dX1_works_90 (fun H locs hP hD hS => ?_)
                  obtain ⟨s27, t27⟩ : ∃ y9 : RS, ((((vp_updL s25.1.1 v26.toNatClampNeg 0), s25.1.2.1, s25.1.2.2.1, s25.1.2.2.2.1, s25.1.2.2.2.2.1, s25.1.2.2.2.2.2), s25.2) : RS) = y9 := ⟨_, rfl⟩
                  replace hP : va_P D vwCl (RWd g0 g1 g2 g3 g4 g5 g6 cA cB s27) H := by rw [← t27]; exact hP
                  replace hD : va_D A (RWd g0 g1 g2 g3 g4 g5 g6 cA cB s27) := by rw [← t27]; exact hD
                  refine lv_goto (tgt := 121) hx hb dX1_works_91 (by decide) ?_
                  refine lv_aload_n hx hb dX1_works_121 rfl (lv_at hl 0 rfl) ?_
                  refine va_get (D := D) (ci := 1) (v := .ref g3) (C := RX1) (T := TX1) (N := 11) hx hb hts (by decide +kernel) hown hK hP 0 rfl rfl 6 (by decide) (hts (.fieldLink RX1 25 "FadeLedgerModel" "kinds" "[I") (by decide +kernel)) (fun _ h9 => h9) rfl dX1_works_122 ?_
                  refine lv_iload_n hx hb dX1_works_125 rfl (lv_at hl 1 rfl) ?_
                  refine va_iald hx hb hK hP 3 1 rfl rfl hir dX1_works_126 ?_
                  refine tpi (fun v28 e28 => ?_)
                  refine lv_if_ne (tgt := 164) hx hb dX1_works_127 (by decide) (fun c29 => ?_) (fun c29 => ?_)
                  · exact absurd (show _ = _ from by subst e1; subst e3; subst e7; subst e9; subst e11; subst e13; subst e23; subst e24; subst t25; subst e26; subst t27; subst e28; exact c14) c29
                  · refine lv_aload_n hx hb dX1_works_130 rfl (lv_at hl 0 rfl) ?_
                    refine va_get (D := D) (ci := 1) (v := .ref g5) (C := RX1) (T := TX1) (N := 11) hx hb hts (by decide +kernel) hown hK hP 0 rfl rfl 8 (by decide) (hts (.fieldLink RX1 31 "FadeLedgerModel" "puts" "[J") (by decide +kernel)) (fun _ h9 => h9) rfl dX1_works_131 ?_
                    refine lv_iload_n hx hb dX1_works_134 rfl (lv_at hl 1 rfl) ?_
                    refine va_lald hx hb hK hP 5 0 rfl rfl hir dX1_works_135 ?_
                    refine tpl (fun v30 e30 => ?_)
                    refine lv_lconst (v := 0) hx hb dX1_works_136 (by decide) ?_
                    refine W.lcmp hx hb dX1_works_137 ?_
                    refine tpi (fun v31 e31 => ?_)
                    refine lv_if_le (tgt := 164) hx hb dX1_works_138 (by decide) (fun c32 => ?_) (fun c32 => ?_)
                    · refine lv_iinc (v := (nI (i + 1))) (lv' := [(1, .int (nI (i + 1))), (0, .ref g0)]) hx hb dX1_works_164 hl (k := 1) rfl (by rw [← hi1]; rfl) (by decide) rfl (fun ls hl => ?_)
                      refine lv_goto (tgt := 2) hx hb dX1_works_167 (by decide) ?_
                      exact ih (i + 1) s27 _ _ _ (by omega) (by clear hP hD hS; subst e1; subst e3; subst e7; subst e9; subst e11; subst e13; subst e23; subst e24; subst t25; subst e26; subst t27; subst e28; subst e30; subst e31; exact hz) (by clear hP hD hS; subst e1; subst e3; subst e7; subst e9; subst e11; subst e13; subst e23; subst e24; subst t25; subst e26; subst t27; subst e28; subst e30; subst e31; (try simp only [lg_cmp_le, k1, k2, k3] at c4 c8 c10 c12 c14 c29 c32); rw [← hrun]; simp only [r_run, f_take, r_ex1, k1, k2, k3, c4, c8, c10, c12, c14, c29, c32, ↓reduceIte, not_true_eq_false, not_false_eq_true, and_self, and_true, true_and, and_false, false_and, eq_self, i10]) hP hD hS (lv_sub hl [1, 0] rfl)
                    · refine lv_aload_n hx hb dX1_works_141 rfl (lv_at hl 0 rfl) ?_
                      refine va_get (D := D) (ci := 1) (v := .ref g2) (C := RX1) (T := TX1) (N := 11) hx hb hts (by decide +kernel) hown hK hP 0 rfl rfl 1 (by decide) (hts (.fieldLink RX1 13 "FadeLedgerModel" "losses" "[I") (by decide +kernel)) (fun _ h9 => h9) rfl dX1_works_142 ?_
                      refine lv_aload_n hx hb dX1_works_145 rfl (lv_at hl 0 rfl) ?_
                      refine va_get (D := D) (ci := 1) (v := .ref g4) (C := RX1) (T := TX1) (N := 11) hx hb hts (by decide +kernel) hown hK hP 0 rfl rfl 7 (by decide) (hts (.fieldLink RX1 28 "FadeLedgerModel" "places" "[I") (by decide +kernel)) (fun _ h9 => h9) rfl dX1_works_146 ?_
                      refine lv_iload_n hx hb dX1_works_149 rfl (lv_at hl 1 rfl) ?_
                      refine va_iald hx hb hK hP 4 1 rfl rfl hir dX1_works_150 ?_
                      refine tpi (fun v33 e33 => ?_)
                      refine lv_bipush (v := 20) hx hb dX1_works_151 (by decide) ?_
                      refine lv_irem hx hb dX1_works_153 (by decide) ?_
                      refine tpi (fun v34 e34 => ?_)
                      refine lv_aload_n hx hb dX1_works_154 rfl (lv_at hl 0 rfl) ?_
                      refine va_get (D := D) (ci := 1) (v := .ref g5) (C := RX1) (T := TX1) (N := 11) hx hb hts (by decide +kernel) hown hK hP 0 rfl rfl 8 (by decide) (hts (.fieldLink RX1 31 "FadeLedgerModel" "puts" "[J") (by decide +kernel)) (fun _ h9 => h9) rfl dX1_works_155 ?_
                      refine lv_iload_n hx hb dX1_works_158 rfl (lv_at hl 1 rfl) ?_
                      refine va_lald hx hb hK hP 5 0 rfl rfl hir dX1_works_159 ?_
                      refine tpl (fun v35 e35 => ?_)
                      refine lv_l2i hx hb dX1_works_160 rfl ?_
                      refine tpi (fun v36 e36 => ?_)
                      refine lv_iconst (v := 1) hx hb dX1_works_161 (by decide) ?_
                      refine lv_isub hx hb dX1_works_162 ?_
                      refine tpi (fun v37 e37 => ?_)
                      refine va_iast hx hb hK hP hD hS 2 1 rfl rfl (by clear hP hD hS; subst e1; subst e3; subst e7; subst e9; subst e11; subst e13; subst e23; subst e24; subst t25; subst e26; subst t27; subst e28; subst e30; subst e31; subst e33; subst e34; subst e35; subst e36; subst e37; show vp_in (z.2.2.1 (nI i).toNatClampNeg - z.2.2.1 (nI i).toNatClampNeg / 20 * 20) 20; rw [k2]; exact mod_in q4) dX1_works_163 (fun H locs hP hD hS => ?_)
                      obtain ⟨s38, t38⟩ : ∃ y9 : RS, (((s27.1.1, (upd s27.1.2.1 v34.toNatClampNeg v37), s27.1.2.2.1, s27.1.2.2.2.1, s27.1.2.2.2.2.1, s27.1.2.2.2.2.2), s27.2) : RS) = y9 := ⟨_, rfl⟩
                      replace hP : va_P D vwCl (RWd g0 g1 g2 g3 g4 g5 g6 cA cB s38) H := by rw [← t38]; exact hP
                      replace hD : va_D A (RWd g0 g1 g2 g3 g4 g5 g6 cA cB s38) := by rw [← t38]; exact hD
                      refine lv_iinc (v := (nI (i + 1))) (lv' := [(1, .int (nI (i + 1))), (0, .ref g0)]) hx hb dX1_works_164 hl (k := 1) rfl (by rw [← hi1]; rfl) (by decide) rfl (fun ls hl => ?_)
                      refine lv_goto (tgt := 2) hx hb dX1_works_167 (by decide) ?_
                      exact ih (i + 1) s38 _ _ _ (by omega) (by clear hP hD hS; subst e1; subst e3; subst e7; subst e9; subst e11; subst e13; subst e23; subst e24; subst t25; subst e26; subst t27; subst e28; subst e30; subst e31; subst e33; subst e34; subst e35; subst e36; subst e37; subst t38; exact hz) (by clear hP hD hS; subst e1; subst e3; subst e7; subst e9; subst e11; subst e13; subst e23; subst e24; subst t25; subst e26; subst t27; subst e28; subst e30; subst e31; subst e33; subst e34; subst e35; subst e36; subst e37; subst t38; (try simp only [lg_cmp_le, k1, k2, k3] at c4 c8 c10 c12 c14 c29 c32); rw [← hrun]; simp only [r_run, f_take, r_ex1, k1, k2, k3, c4, c8, c10, c12, c14, c29, c32, ↓reduceIte, not_true_eq_false, not_false_eq_true, and_self, and_true, true_and, and_false, false_and, eq_self, i10]) hP hD hS (lv_sub hl [1, 0] rfl)
              · refine lv_aload_n hx hb dX1_works_50 rfl (lv_at hl 0 rfl) ?_
                refine lv_dup hx hb dX1_works_51 rfl ?_
                refine va_get (D := D) (ci := 1) (v := .int z.1.2.2.2.1) (C := RX1) (T := TX1) (N := 11) hx hb hts (by decide +kernel) hown hK hP 0 rfl rfl 3 (by decide) (hts (.fieldLink RX1 21 "FadeLedgerModel" "left" "I") (by decide +kernel)) (fun _ h9 => h9) rfl dX1_works_52 ?_
                refine tpi (fun v39 e39 => ?_)
                refine lv_iconst (v := 1) hx hb dX1_works_55 (by decide) ?_
                refine lv_isub hx hb dX1_works_56 ?_
                refine tpi (fun v40 e40 => ?_)
                refine va_put (D := D) (ci := 1) (v := .int v40) (ty := .int) (C := RX1) (T := TX1) (N := 11) hx hb hts (by decide +kernel) tyX1 tyX1_ok nmX1 hown hK hP hD hS 0 rfl rfl 3 (by decide) (hts (.fieldLink RX1 21 "FadeLedgerModel" "left" "I") (by decide +kernel)) (fun _ h9 => h9) rfl (by decide +kernel) rfl rfl (Nat.le_of_ble_eq_true rfl) dX1_works_57 (fun H locs hP hD hS => ?_)
                obtain ⟨s41, t41⟩ : ∃ y9 : RS, (((z.1.1, z.1.2.1, z.1.2.2.1, v40, z.1.2.2.2.2.1, z.1.2.2.2.2.2), z.2) : RS) = y9 := ⟨_, rfl⟩
                replace hP : va_P D vwCl (RWd g0 g1 g2 g3 g4 g5 g6 cA cB s41) H := by rw [← t41]; exact hP
                replace hD : va_D A (RWd g0 g1 g2 g3 g4 g5 g6 cA cB s41) := by rw [← t41]; exact hD
                refine lv_aload_n hx hb dX1_works_60 rfl (lv_at hl 0 rfl) ?_
                refine va_get (D := D) (ci := 1) (v := .ref g3) (C := RX1) (T := TX1) (N := 11) hx hb hts (by decide +kernel) hown hK hP 0 rfl rfl 6 (by decide) (hts (.fieldLink RX1 25 "FadeLedgerModel" "kinds" "[I") (by decide +kernel)) (fun _ h9 => h9) rfl dX1_works_61 ?_
                refine lv_iload_n hx hb dX1_works_64 rfl (lv_at hl 1 rfl) ?_
                refine va_iald hx hb hK hP 3 1 rfl rfl hir dX1_works_65 ?_
                refine tpi (fun v42 e42 => ?_)
                refine lv_if_ne (tgt := 94) hx hb dX1_works_66 (by decide) (fun c43 => ?_) (fun c43 => ?_)
                · refine lv_aload_n hx hb dX1_works_94 rfl (lv_at hl 0 rfl) ?_
                  refine lv_dup hx hb dX1_works_95 rfl ?_
                  refine va_get (D := D) (ci := 1) (v := .int s41.1.2.2.2.2.2) (C := RX1) (T := TX1) (N := 11) hx hb hts (by decide +kernel) hown hK hP 0 rfl rfl 5 (by decide) (hts (.fieldLink RX1 73 "FadeLedgerModel" "writes" "I") (by decide +kernel)) (fun _ h9 => h9) rfl dX1_works_96 ?_
                  refine tpi (fun v44 e44 => ?_)
                  refine lv_iconst (v := 1) hx hb dX1_works_99 (by decide) ?_
                  refine lv_iadd hx hb dX1_works_100 ?_
                  refine tpi (fun v45 e45 => ?_)
                  refine va_put (D := D) (ci := 1) (v := .int v45) (ty := .int) (C := RX1) (T := TX1) (N := 11) hx hb hts (by decide +kernel) tyX1 tyX1_ok nmX1 hown hK hP hD hS 0 rfl rfl 5 (by decide) (hts (.fieldLink RX1 73 "FadeLedgerModel" "writes" "I") (by decide +kernel)) (fun _ h9 => h9) rfl (by decide +kernel) rfl rfl (Nat.le_of_ble_eq_true rfl) dX1_works_101 (fun H locs hP hD hS => ?_)
                  obtain ⟨s46, t46⟩ : ∃ y9 : RS, (((s41.1.1, s41.1.2.1, s41.1.2.2.1, s41.1.2.2.2.1, s41.1.2.2.2.2.1, v45), s41.2) : RS) = y9 := ⟨_, rfl⟩
                  replace hP : va_P D vwCl (RWd g0 g1 g2 g3 g4 g5 g6 cA cB s46) H := by rw [← t46]; exact hP
                  replace hD : va_D A (RWd g0 g1 g2 g3 g4 g5 g6 cA cB s46) := by rw [← t46]; exact hD
                  refine lv_aload_n hx hb dX1_works_104 rfl (lv_at hl 0 rfl) ?_
                  refine va_get (D := D) (ci := 1) (v := .ref g1) (C := RX1) (T := TX1) (N := 11) hx hb hts (by decide +kernel) hown hK hP 0 rfl rfl 0 (by decide) (hts (.fieldLink RX1 7 "FadeLedgerModel" "words" "[J") (by decide +kernel)) (fun _ h9 => h9) rfl dX1_works_105 ?_
                  refine lv_aload_n hx hb dX1_works_108 rfl (lv_at hl 0 rfl) ?_
                  refine va_get (D := D) (ci := 1) (v := .ref g4) (C := RX1) (T := TX1) (N := 11) hx hb hts (by decide +kernel) hown hK hP 0 rfl rfl 7 (by decide) (hts (.fieldLink RX1 28 "FadeLedgerModel" "places" "[I") (by decide +kernel)) (fun _ h9 => h9) rfl dX1_works_109 ?_
                  refine lv_iload_n hx hb dX1_works_112 rfl (lv_at hl 1 rfl) ?_
                  refine va_iald hx hb hK hP 4 1 rfl rfl hir dX1_works_113 ?_
                  refine tpi (fun v47 e47 => ?_)
                  refine lv_aload_n hx hb dX1_works_114 rfl (lv_at hl 0 rfl) ?_
                  refine va_get (D := D) (ci := 1) (v := .ref g5) (C := RX1) (T := TX1) (N := 11) hx hb hts (by decide +kernel) hown hK hP 0 rfl rfl 8 (by decide) (hts (.fieldLink RX1 31 "FadeLedgerModel" "puts" "[J") (by decide +kernel)) (fun _ h9 => h9) rfl dX1_works_115 ?_
                  refine lv_iload_n hx hb dX1_works_118 rfl (lv_at hl 1 rfl) ?_
                  refine va_lald hx hb hK hP 5 0 rfl rfl hir dX1_works_119 ?_
                  refine tpl (fun v48 e48 => ?_)
                  refine va_last hx hb hK hP hD hS 1 0 rfl rfl (by clear hP hD hS; subst e1; subst e3; subst e7; subst e9; subst e11; subst e39; subst e40; subst t41; subst e42; subst e44; subst e45; subst t46; subst e47; subst e48; show vp_in (z.2.2.1 (nI i).toNatClampNeg) 80; rw [k2]; exact q4) dX1_works_120 (fun H locs hP hD hS => ?_)
                  obtain ⟨s49, t49⟩ : ∃ y9 : RS, ((((vp_updL s46.1.1 v47.toNatClampNeg v48), s46.1.2.1, s46.1.2.2.1, s46.1.2.2.2.1, s46.1.2.2.2.2.1, s46.1.2.2.2.2.2), s46.2) : RS) = y9 := ⟨_, rfl⟩
                  replace hP : va_P D vwCl (RWd g0 g1 g2 g3 g4 g5 g6 cA cB s49) H := by rw [← t49]; exact hP
                  replace hD : va_D A (RWd g0 g1 g2 g3 g4 g5 g6 cA cB s49) := by rw [← t49]; exact hD
                  refine lv_aload_n hx hb dX1_works_121 rfl (lv_at hl 0 rfl) ?_
                  refine va_get (D := D) (ci := 1) (v := .ref g3) (C := RX1) (T := TX1) (N := 11) hx hb hts (by decide +kernel) hown hK hP 0 rfl rfl 6 (by decide) (hts (.fieldLink RX1 25 "FadeLedgerModel" "kinds" "[I") (by decide +kernel)) (fun _ h9 => h9) rfl dX1_works_122 ?_
                  refine lv_iload_n hx hb dX1_works_125 rfl (lv_at hl 1 rfl) ?_
                  refine va_iald hx hb hK hP 3 1 rfl rfl hir dX1_works_126 ?_
                  refine tpi (fun v50 e50 => ?_)
                  refine lv_if_ne (tgt := 164) hx hb dX1_works_127 (by decide) (fun c51 => ?_) (fun c51 => ?_)
                  · refine lv_iinc (v := (nI (i + 1))) (lv' := [(1, .int (nI (i + 1))), (0, .ref g0)]) hx hb dX1_works_164 hl (k := 1) rfl (by rw [← hi1]; rfl) (by decide) rfl (fun ls hl => ?_)
                    refine lv_goto (tgt := 2) hx hb dX1_works_167 (by decide) ?_
                    exact ih (i + 1) s49 _ _ _ (by omega) (by clear hP hD hS; subst e1; subst e3; subst e7; subst e9; subst e11; subst e39; subst e40; subst t41; subst e42; subst e44; subst e45; subst t46; subst e47; subst e48; subst t49; subst e50; exact hz) (by clear hP hD hS; subst e1; subst e3; subst e7; subst e9; subst e11; subst e39; subst e40; subst t41; subst e42; subst e44; subst e45; subst t46; subst e47; subst e48; subst t49; subst e50; (try simp only [lg_cmp_le, k1, k2, k3] at c4 c8 c10 c12 c43 c51); rw [← hrun]; simp only [r_run, f_take, r_ex1, k1, k2, k3, c4, c8, c10, c12, c43, c51, ↓reduceIte, not_true_eq_false, not_false_eq_true, and_self, and_true, true_and, and_false, false_and, eq_self, i10]) hP hD hS (lv_sub hl [1, 0] rfl)
                  · exact absurd (show _ = _ from by subst e1; subst e3; subst e7; subst e9; subst e11; subst e39; subst e40; subst t41; subst e42; subst e44; subst e45; subst t46; subst e47; subst e48; subst t49; subst e50; exact c51) c43
                · refine lv_aload_n hx hb dX1_works_69 rfl (lv_at hl 0 rfl) ?_
                  refine lv_dup hx hb dX1_works_70 rfl ?_
                  refine va_get (D := D) (ci := 1) (v := .int s41.1.2.2.2.2.1) (C := RX1) (T := TX1) (N := 11) hx hb hts (by decide +kernel) hown hK hP 0 rfl rfl 4 (by decide) (hts (.fieldLink RX1 70 "FadeLedgerModel" "reads" "I") (by decide +kernel)) (fun _ h9 => h9) rfl dX1_works_71 ?_
                  refine tpi (fun v52 e52 => ?_)
                  refine lv_iconst (v := 1) hx hb dX1_works_74 (by decide) ?_
                  refine lv_iadd hx hb dX1_works_75 ?_
                  refine tpi (fun v53 e53 => ?_)
                  refine va_put (D := D) (ci := 1) (v := .int v53) (ty := .int) (C := RX1) (T := TX1) (N := 11) hx hb hts (by decide +kernel) tyX1 tyX1_ok nmX1 hown hK hP hD hS 0 rfl rfl 4 (by decide) (hts (.fieldLink RX1 70 "FadeLedgerModel" "reads" "I") (by decide +kernel)) (fun _ h9 => h9) rfl (by decide +kernel) rfl rfl (Nat.le_of_ble_eq_true rfl) dX1_works_76 (fun H locs hP hD hS => ?_)
                  obtain ⟨s54, t54⟩ : ∃ y9 : RS, (((s41.1.1, s41.1.2.1, s41.1.2.2.1, s41.1.2.2.2.1, v53, s41.1.2.2.2.2.2), s41.2) : RS) = y9 := ⟨_, rfl⟩
                  replace hP : va_P D vwCl (RWd g0 g1 g2 g3 g4 g5 g6 cA cB s54) H := by rw [← t54]; exact hP
                  replace hD : va_D A (RWd g0 g1 g2 g3 g4 g5 g6 cA cB s54) := by rw [← t54]; exact hD
                  refine lv_aload_n hx hb dX1_works_79 rfl (lv_at hl 0 rfl) ?_
                  refine va_get (D := D) (ci := 1) (v := .ref g1) (C := RX1) (T := TX1) (N := 11) hx hb hts (by decide +kernel) hown hK hP 0 rfl rfl 0 (by decide) (hts (.fieldLink RX1 7 "FadeLedgerModel" "words" "[J") (by decide +kernel)) (fun _ h9 => h9) rfl dX1_works_80 ?_
                  refine lv_aload_n hx hb dX1_works_83 rfl (lv_at hl 0 rfl) ?_
                  refine va_get (D := D) (ci := 1) (v := .ref g4) (C := RX1) (T := TX1) (N := 11) hx hb hts (by decide +kernel) hown hK hP 0 rfl rfl 7 (by decide) (hts (.fieldLink RX1 28 "FadeLedgerModel" "places" "[I") (by decide +kernel)) (fun _ h9 => h9) rfl dX1_works_84 ?_
                  refine lv_iload_n hx hb dX1_works_87 rfl (lv_at hl 1 rfl) ?_
                  refine va_iald hx hb hK hP 4 1 rfl rfl hir dX1_works_88 ?_
                  refine tpi (fun v55 e55 => ?_)
                  refine lv_lconst (v := 0) hx hb dX1_works_89 (by decide) ?_
                  refine va_last hx hb hK hP hD hS 1 0 rfl rfl (by clear hP hD hS; subst e1; subst e3; subst e7; subst e9; subst e11; subst e39; subst e40; subst t41; subst e42; subst e52; subst e53; subst t54; subst e55; show vp_in (z.2.2.1 (nI i).toNatClampNeg) 80; rw [k2]; exact q4) dX1_works_90 (fun H locs hP hD hS => ?_)
                  obtain ⟨s56, t56⟩ : ∃ y9 : RS, ((((vp_updL s54.1.1 v55.toNatClampNeg 0), s54.1.2.1, s54.1.2.2.1, s54.1.2.2.2.1, s54.1.2.2.2.2.1, s54.1.2.2.2.2.2), s54.2) : RS) = y9 := ⟨_, rfl⟩
                  replace hP : va_P D vwCl (RWd g0 g1 g2 g3 g4 g5 g6 cA cB s56) H := by rw [← t56]; exact hP
                  replace hD : va_D A (RWd g0 g1 g2 g3 g4 g5 g6 cA cB s56) := by rw [← t56]; exact hD
                  refine lv_goto (tgt := 121) hx hb dX1_works_91 (by decide) ?_
                  refine lv_aload_n hx hb dX1_works_121 rfl (lv_at hl 0 rfl) ?_
                  refine va_get (D := D) (ci := 1) (v := .ref g3) (C := RX1) (T := TX1) (N := 11) hx hb hts (by decide +kernel) hown hK hP 0 rfl rfl 6 (by decide) (hts (.fieldLink RX1 25 "FadeLedgerModel" "kinds" "[I") (by decide +kernel)) (fun _ h9 => h9) rfl dX1_works_122 ?_
                  refine lv_iload_n hx hb dX1_works_125 rfl (lv_at hl 1 rfl) ?_
                  refine va_iald hx hb hK hP 3 1 rfl rfl hir dX1_works_126 ?_
                  refine tpi (fun v57 e57 => ?_)
                  refine lv_if_ne (tgt := 164) hx hb dX1_works_127 (by decide) (fun c58 => ?_) (fun c58 => ?_)
                  · exact absurd (show _ = _ from by subst e1; subst e3; subst e7; subst e9; subst e11; subst e39; subst e40; subst t41; subst e42; subst e52; subst e53; subst t54; subst e55; subst t56; subst e57; exact c43) c58
                  · refine lv_aload_n hx hb dX1_works_130 rfl (lv_at hl 0 rfl) ?_
                    refine va_get (D := D) (ci := 1) (v := .ref g5) (C := RX1) (T := TX1) (N := 11) hx hb hts (by decide +kernel) hown hK hP 0 rfl rfl 8 (by decide) (hts (.fieldLink RX1 31 "FadeLedgerModel" "puts" "[J") (by decide +kernel)) (fun _ h9 => h9) rfl dX1_works_131 ?_
                    refine lv_iload_n hx hb dX1_works_134 rfl (lv_at hl 1 rfl) ?_
                    refine va_lald hx hb hK hP 5 0 rfl rfl hir dX1_works_135 ?_
                    refine tpl (fun v59 e59 => ?_)
                    refine lv_lconst (v := 0) hx hb dX1_works_136 (by decide) ?_
                    refine W.lcmp hx hb dX1_works_137 ?_
                    refine tpi (fun v60 e60 => ?_)
                    refine lv_if_le (tgt := 164) hx hb dX1_works_138 (by decide) (fun c61 => ?_) (fun c61 => ?_)
                    · refine lv_iinc (v := (nI (i + 1))) (lv' := [(1, .int (nI (i + 1))), (0, .ref g0)]) hx hb dX1_works_164 hl (k := 1) rfl (by rw [← hi1]; rfl) (by decide) rfl (fun ls hl => ?_)
                      refine lv_goto (tgt := 2) hx hb dX1_works_167 (by decide) ?_
                      exact ih (i + 1) s56 _ _ _ (by omega) (by clear hP hD hS; subst e1; subst e3; subst e7; subst e9; subst e11; subst e39; subst e40; subst t41; subst e42; subst e52; subst e53; subst t54; subst e55; subst t56; subst e57; subst e59; subst e60; exact hz) (by clear hP hD hS; subst e1; subst e3; subst e7; subst e9; subst e11; subst e39; subst e40; subst t41; subst e42; subst e52; subst e53; subst t54; subst e55; subst t56; subst e57; subst e59; subst e60; (try simp only [lg_cmp_le, k1, k2, k3] at c4 c8 c10 c12 c43 c58 c61); rw [← hrun]; simp only [r_run, f_take, r_ex1, k1, k2, k3, c4, c8, c10, c12, c43, c58, c61, ↓reduceIte, not_true_eq_false, not_false_eq_true, and_self, and_true, true_and, and_false, false_and, eq_self, i10]) hP hD hS (lv_sub hl [1, 0] rfl)
                    · refine lv_aload_n hx hb dX1_works_141 rfl (lv_at hl 0 rfl) ?_
                      refine va_get (D := D) (ci := 1) (v := .ref g2) (C := RX1) (T := TX1) (N := 11) hx hb hts (by decide +kernel) hown hK hP 0 rfl rfl 1 (by decide) (hts (.fieldLink RX1 13 "FadeLedgerModel" "losses" "[I") (by decide +kernel)) (fun _ h9 => h9) rfl dX1_works_142 ?_
                      refine lv_aload_n hx hb dX1_works_145 rfl (lv_at hl 0 rfl) ?_
                      refine va_get (D := D) (ci := 1) (v := .ref g4) (C := RX1) (T := TX1) (N := 11) hx hb hts (by decide +kernel) hown hK hP 0 rfl rfl 7 (by decide) (hts (.fieldLink RX1 28 "FadeLedgerModel" "places" "[I") (by decide +kernel)) (fun _ h9 => h9) rfl dX1_works_146 ?_
                      refine lv_iload_n hx hb dX1_works_149 rfl (lv_at hl 1 rfl) ?_
                      refine va_iald hx hb hK hP 4 1 rfl rfl hir dX1_works_150 ?_
                      refine tpi (fun v62 e62 => ?_)
                      refine lv_bipush (v := 20) hx hb dX1_works_151 (by decide) ?_
                      refine lv_irem hx hb dX1_works_153 (by decide) ?_
                      refine tpi (fun v63 e63 => ?_)
                      refine lv_aload_n hx hb dX1_works_154 rfl (lv_at hl 0 rfl) ?_
                      refine va_get (D := D) (ci := 1) (v := .ref g5) (C := RX1) (T := TX1) (N := 11) hx hb hts (by decide +kernel) hown hK hP 0 rfl rfl 8 (by decide) (hts (.fieldLink RX1 31 "FadeLedgerModel" "puts" "[J") (by decide +kernel)) (fun _ h9 => h9) rfl dX1_works_155 ?_
                      refine lv_iload_n hx hb dX1_works_158 rfl (lv_at hl 1 rfl) ?_
                      refine va_lald hx hb hK hP 5 0 rfl rfl hir dX1_works_159 ?_
                      refine tpl (fun v64 e64 => ?_)
                      refine lv_l2i hx hb dX1_works_160 rfl ?_
                      refine tpi (fun v65 e65 => ?_)
                      refine lv_iconst (v := 1) hx hb dX1_works_161 (by decide) ?_
                      refine lv_isub hx hb dX1_works_162 ?_
                      refine tpi (fun v66 e66 => ?_)
                      refine va_iast hx hb hK hP hD hS 2 1 rfl rfl (by clear hP hD hS; subst e1; subst e3; subst e7; subst e9; subst e11; subst e39; subst e40; subst t41; subst e42; subst e52; subst e53; subst t54; subst e55; subst t56; subst e57; subst e59; subst e60; subst e62; subst e63; subst e64; subst e65; subst e66; show vp_in (z.2.2.1 (nI i).toNatClampNeg - z.2.2.1 (nI i).toNatClampNeg / 20 * 20) 20; rw [k2]; exact mod_in q4) dX1_works_163 (fun H locs hP hD hS => ?_)
                      obtain ⟨s67, t67⟩ : ∃ y9 : RS, (((s56.1.1, (upd s56.1.2.1 v63.toNatClampNeg v66), s56.1.2.2.1, s56.1.2.2.2.1, s56.1.2.2.2.2.1, s56.1.2.2.2.2.2), s56.2) : RS) = y9 := ⟨_, rfl⟩
                      replace hP : va_P D vwCl (RWd g0 g1 g2 g3 g4 g5 g6 cA cB s67) H := by rw [← t67]; exact hP
                      replace hD : va_D A (RWd g0 g1 g2 g3 g4 g5 g6 cA cB s67) := by rw [← t67]; exact hD
                      refine lv_iinc (v := (nI (i + 1))) (lv' := [(1, .int (nI (i + 1))), (0, .ref g0)]) hx hb dX1_works_164 hl (k := 1) rfl (by rw [← hi1]; rfl) (by decide) rfl (fun ls hl => ?_)
                      refine lv_goto (tgt := 2) hx hb dX1_works_167 (by decide) ?_
                      exact ih (i + 1) s67 _ _ _ (by omega) (by clear hP hD hS; subst e1; subst e3; subst e7; subst e9; subst e11; subst e39; subst e40; subst t41; subst e42; subst e52; subst e53; subst t54; subst e55; subst t56; subst e57; subst e59; subst e60; subst e62; subst e63; subst e64; subst e65; subst e66; subst t67; exact hz) (by clear hP hD hS; subst e1; subst e3; subst e7; subst e9; subst e11; subst e39; subst e40; subst t41; subst e42; subst e52; subst e53; subst t54; subst e55; subst t56; subst e57; subst e59; subst e60; subst e62; subst e63; subst e64; subst e65; subst e66; subst t67; (try simp only [lg_cmp_le, k1, k2, k3] at c4 c8 c10 c12 c43 c58 c61); rw [← hrun]; simp only [r_run, f_take, r_ex1, k1, k2, k3, c4, c8, c10, c12, c43, c58, c61, ↓reduceIte, not_true_eq_false, not_false_eq_true, and_self, and_true, true_and, and_false, false_and, eq_self, i10]) hP hD hS (lv_sub hl [1, 0] rfl)
            · exact absurd (show _ = _ from by subst e1; subst e3; subst e7; subst e9; exact c10) c4
          · refine lv_aload_n hx hb dX1_works_24 rfl (lv_at hl 0 rfl) ?_
            refine lv_iconst (v := 0) hx hb dX1_works_25 (by decide) ?_
            refine va_put (D := D) (ci := 1) (v := .int 0) (ty := .boolean) (C := RX1) (T := TX1) (N := 11) hx hb hts (by decide +kernel) tyX1 tyX1_ok nmX1 hown hK hP hD hS 0 rfl rfl 2 (by decide) (hts (.fieldLink RX1 17 "FadeLedgerModel" "power" "Z") (by decide +kernel)) (fun _ h9 => h9) rfl (by decide +kernel) rfl rfl (Nat.le_of_ble_eq_true rfl) dX1_works_26 (fun H locs hP hD hS => ?_)
            obtain ⟨s68, t68⟩ : ∃ y9 : RS, (((z.1.1, z.1.2.1, 0, z.1.2.2.2.1, z.1.2.2.2.2.1, z.1.2.2.2.2.2), z.2) : RS) = y9 := ⟨_, rfl⟩
            replace hP : va_P D vwCl (RWd g0 g1 g2 g3 g4 g5 g6 cA cB s68) H := by rw [← t68]; exact hP
            replace hD : va_D A (RWd g0 g1 g2 g3 g4 g5 g6 cA cB s68) := by rw [← t68]; exact hD
            refine lv_aload_n hx hb dX1_works_29 rfl (lv_at hl 0 rfl) ?_
            refine lv_iconst (v := (-1)) hx hb dX1_works_30 (by decide) ?_
            refine va_put (D := D) (ci := 1) (v := .int (-1)) (ty := .int) (C := RX1) (T := TX1) (N := 11) hx hb hts (by decide +kernel) tyX1 tyX1_ok nmX1 hown hK hP hD hS 0 rfl rfl 3 (by decide) (hts (.fieldLink RX1 21 "FadeLedgerModel" "left" "I") (by decide +kernel)) (fun _ h9 => h9) rfl (by decide +kernel) rfl rfl (Nat.le_of_ble_eq_true rfl) dX1_works_31 (fun H locs hP hD hS => ?_)
            obtain ⟨s69, t69⟩ : ∃ y9 : RS, (((s68.1.1, s68.1.2.1, s68.1.2.2.1, (-1), s68.1.2.2.2.2.1, s68.1.2.2.2.2.2), s68.2) : RS) = y9 := ⟨_, rfl⟩
            replace hP : va_P D vwCl (RWd g0 g1 g2 g3 g4 g5 g6 cA cB s69) H := by rw [← t69]; exact hP
            replace hD : va_D A (RWd g0 g1 g2 g3 g4 g5 g6 cA cB s69) := by rw [← t69]; exact hD
            refine lv_aload_n hx hb dX1_works_34 rfl (lv_at hl 0 rfl) ?_
            refine va_get (D := D) (ci := 1) (v := .int s69.1.2.2.1) (C := RX1) (T := TX1) (N := 11) hx hb hts (by decide +kernel) hown hK hP 0 rfl rfl 2 (by decide) (hts (.fieldLink RX1 17 "FadeLedgerModel" "power" "Z") (by decide +kernel)) (fun _ h9 => h9) rfl dX1_works_35 ?_
            refine tpi (fun v70 e70 => ?_)
            refine lv_if_ne (tgt := 43) hx hb dX1_works_38 (by decide) (fun c71 => ?_) (fun c71 => ?_)
            · exact absurd (by subst e1; subst e3; subst e7; subst t68; subst t69; subst e70; exact rfl) c71
            · refine lv_iconst (v := 0) hx hb dX1_works_41 (by decide) ?_
              have fin : r_wk L st = (0, s69) := by
                clear hP hD hS; subst e1; subst e3; subst e7; subst t68; subst t69; subst e70; simp only [r_wk, ← hrun, r_run, f_take, f_lose, ← hz, c4, c8, c71, ↓reduceIte, not_true_eq_false, not_false_eq_true, and_self, and_true, true_and, and_false, false_and, eq_self, i10]
              exact cM_retz (Wd := RWd g0 g1 g2 g3 g4 g5 g6 cA cB) (st := s69) (st' := (r_wk L st).2) hx hb hr hlocks dX1_works_42 hS hP hD rfl (congrArg Prod.fst fin).symm (congrArg Prod.snd fin).symm
  refine lv_iconst (v := 0) hx hb dX1_works_0 (by decide) ?_
  refine lv_istore_n (lv' := [(1, .int 0), (0, .ref g0)]) hx hb dX1_works_1 rfl hl (by decide) rfl (fun ls hl => ?_)
  exact LOOP L.length 0 st _ _ _ (by omega) rfl rfl hP hD hS (by rw [nI_0]; exact lv_sub hl [1, 0] rfl)
end
section
/-! THE REFERENCE'S PUBLIC METHODS AS FUNCTIONS -/
def g_fresh (w : Int64) : Int32 := bI (¬ g_valid w = 0 ∧ g_num w = 0)
def r_end (ok : Int32) (L : RPl) (s : RS) : Int32 × RS := (if (r_wk L s).1 = 0 then -2 else ok, (r_wk L s).2)
def r_open (a b : Int32) (s : RS) : Int32 × RS := if f_acct a = 0 then (-1, s) else if g_fresh (s.1.1 a.toNatClampNeg) = 0 then r_end (-1) ([] ++ [(0, r_place 0 a, 0)] ++ [(1, r_place 0 a, s.1.1 a.toNatClampNeg)]) (r_turn 1 0 a (s.1.1 a.toNatClampNeg) (r_turn 0 0 a 0 (r_zero s)))
  else r_end 1 ([] ++ [(0, r_place 0 a, 0)] ++ p_put a (g_word b 1)) (r_put a (g_word b 1) (r_turn 0 0 a 0 (r_zero s)))
def r_balance (a : Int32) (s : RS) : Int64 × RS := if f_acct a = 0 then (8796093022208, s) else
  (if (r_wk ([] ++ p_look a (s.1.1 a.toNatClampNeg)) (r_look a (r_zero s))).1 = 0 then 4398046511104 else if g_valid (s.1.1 a.toNatClampNeg) = 0 then 2199023255552 else if g_num (s.1.1 a.toNatClampNeg) = 0 then 1099511627776 else (f_bal (s.1.1 a.toNatClampNeg)).toInt64, (r_wk ([] ++ p_look a (s.1.1 a.toNatClampNeg)) (r_look a (r_zero s))).2)
def r_postAcc (m : Int32) (w : Int64) : Int32 := bI (¬ g_isop w = 0 ∧ ¬ 16777215 ≤ g_num w ∧ ¬ g_isint ((f_bal w).toInt64 + m.toInt64) = 0)
def r_postB (a m : Int32) (w : Int64) (s : RS) : Int32 × RS := if r_postAcc m w = 0 then r_end (-1) ([] ++ [(0, r_place 0 a, 0)] ++ [(1, r_place 0 a, w)]) (r_turn 1 0 a w (r_turn 0 0 a 0 (r_zero s)))
  else r_end 1 ([] ++ [(0, r_place 0 a, 0)] ++ p_put a (g_word ((f_bal w).toInt64 + m.toInt64).toInt32 (g_num w + 1))) (r_put a (g_word ((f_bal w).toInt64 + m.toInt64).toInt32 (g_num w + 1)) (r_turn 0 0 a 0 (r_zero s)))
def r_post (a m : Int32) (s : RS) : Int32 × RS := if f_acct a = 0 then (-1, s) else r_postB a m (s.1.1 a.toNatClampNeg) s
def r_trAcc (m : Int32) (x y z : Int64) : Int32 := bI (¬ g_can x ((f_bal x).toInt64 - m.toInt64) = 0 ∧ ¬ g_can y ((f_bal y).toInt64 + m.toInt64) = 0 ∧ ¬ g_valid z = 0 ∧ ¬ 16777215 ≤ g_num z)
def r_trL (f t : Int32) (x y z : Int64) : RPl := [] ++ p_look f x ++ p_look t y ++ p_look 16 z
def r_trS (f t : Int32) (s : RS) : RS := r_look 16 (r_look t (r_look f (r_zero s)))
def r_doL (f t m : Int32) (x y z : Int64) (L : RPl) : RPl := L ++ p_put 16 (g_word m (g_num z + 1)) ++ p_put 17 (g_word (g_num x + 1) (g_num z + 1)) ++ p_put 18 (g_word (g_num y + 1) (g_num z + 1)) ++ p_put 19 (g_word (256 * f + t + 65536) (g_num z + 1)) ++ p_put f (g_word ((f_bal x).toInt64 - m.toInt64).toInt32 (g_num x + 1)) ++ p_put t (g_word ((f_bal y).toInt64 + m.toInt64).toInt32 (g_num y + 1)) ++ p_put 19 (g_word (256 * f + t + 131072) (g_num z + 1))
def r_doS (f t m : Int32) (x y z : Int64) (s : RS) : RS := r_put 19 (g_word (256 * f + t + 131072) (g_num z + 1)) (r_put t (g_word ((f_bal y).toInt64 + m.toInt64).toInt32 (g_num y + 1)) (r_put f (g_word ((f_bal x).toInt64 - m.toInt64).toInt32 (g_num x + 1)) (r_put 19 (g_word (256 * f + t + 65536) (g_num z + 1)) (r_put 18 (g_word (g_num y + 1) (g_num z + 1)) (r_put 17 (g_word (g_num x + 1) (g_num z + 1)) (r_put 16 (g_word m (g_num z + 1)) s))))))
def r_trB (f t m : Int32) (x y z : Int64) (s : RS) : Int32 × RS := if r_trAcc m x y z = 0 then r_end (-1) (r_trL f t x y z) (r_trS f t s) else r_end 1 (r_doL f t m x y z (r_trL f t x y z)) (r_doS f t m x y z (r_trS f t s))
def r_transfer (f t m : Int32) (s : RS) : Int32 × RS := if f_acct f = 0 then (-1, s) else if f_acct t = 0 then (-1, s) else if f = t then (-1, s) else if 0 ≤ m then r_trB f t m (s.1.1 f.toNatClampNeg) (s.1.1 t.toNatClampNeg) (s.1.1 (16 : Int32).toNatClampNeg) s else (-1, s)
def r_number (a : Int32) (s : RS) : Int32 × RS := if f_acct a = 0 then (-1, s) else
  (if (r_wk ([] ++ p_look a (s.1.1 a.toNatClampNeg)) (r_look a (r_zero s))).1 = 0 then -2 else if g_valid (s.1.1 a.toNatClampNeg) = 0 then -1 else g_num (s.1.1 a.toNatClampNeg), (r_wk ([] ++ p_look a (s.1.1 a.toNatClampNeg)) (r_look a (r_zero s))).2)
def r_failAfter (n : Int32) (s : RS) : Int32 × RS := if 0 ≤ n then (1, ((s.1.1, s.1.2.1, s.1.2.2.1, n, s.1.2.2.2.2.1, s.1.2.2.2.2.2), s.2)) else (0, s)
def r_fail (s : RS) : Int32 × RS := if s.1.2.2.1 = 0 then (0, s) else (1, ((s.1.1, s.1.2.1, 0, -1, s.1.2.2.2.2.1, s.1.2.2.2.2.2), s.2))
def r_on (s : RS) : Int32 := s.1.2.2.1
def r_lost (a : Int32) (s : RS) : Int32 := if a < 0 then 0 else if 20 ≤ a then 0 else s.1.2.1 a.toNatClampNeg
def r_word (p c : Int32) (s : RS) : Int64 := if p < 0 then 0 else if 4 ≤ p then 0 else if c < 0 then 0 else if 20 ≤ c then 0 else s.1.1 (r_place p c).toNatClampNeg
def r_done (w : Int32) (s : RS) : Int32 := if w = 0 then s.1.2.2.2.2.1 else if w = 1 then s.1.2.2.2.2.2 else -1
theorem turn_1 {k p c : Int32} {w : Int64} {s : RS} : (r_turn k p c w s).1 = s.1 := rfl
theorem look_1 {c : Int32} {s : RS} : (r_look c s).1 = s.1 := rfl
theorem put_1 {c : Int32} {w : Int64} {s : RS} : (r_put c w s).1 = s.1 := rfl
end
section
abbrev rmX1_open : Room := { frames := 2, cells := 0, slots := 0, locals := 49 }
-- open
set_option maxHeartbeats 400000 in
set_option maxRecDepth 100000 in
theorem c_X1_open (l : Launch) (D : va_G) (g0 g1 g2 g3 g4 g5 g6 : Nat) (cA cB : ClassId) (st : RS) (a : Int32) (b : Int32)  : cM l D vwCl (FT cA cB) (RWd g0 g1 g2 g3 g4 g5 g6 cA cB) yX1_open wsX1_open rmX1_open [.ref g0, .int a, .int b] st (some (.int (r_open a b st).1)) (r_open a b st).2 := by
  refine cM_in (cc := cX1_open) (maxL := 6) (ret := (some .int)) (by decide) rfl (Nat.le_of_ble_eq_true rfl) ?_
  intro p e s m below meth c ls A hx hb hr hlocks hml hown hts hA hK hP hD hS hl
  have hown : s.vm.findClass RX1 = some m.cls := hown
  have hl : lv_has ls 6 [(0, .ref g0), (1, .int a), (2, .int b)] := hl
  -- walk
  refine lv_iload_n hx hb dX1_open_0 rfl (lv_at hl 1 rfl) ?_
  refine cS_call (n := 1) (as := [.int a]) (rest := []) ⟨hx, hb, hml, hown, hts⟩ (c_X1_isAccount l a) gX1_open_X1_isAccount rfl rfl rfl (by decide +kernel) ⟨Nat.le_of_ble_eq_true rfl, Nat.le_of_ble_eq_true rfl⟩ hl.1 rfl rfl (Nat.le_of_ble_eq_true rfl) dX1_open_1 ⟨Nat.zero_le _, Nat.zero_le _⟩ ?_
  refine tpi (fun v1 e1 => ?_)
  refine lv_if_ne (tgt := 9) hx hb dX1_open_4 (by decide) (fun c2 => ?_) (fun c2 => ?_)
  · have hc : vp_in a 20 := acct_in20 (by rw [e1]; exact c2)
    refine lv_aload_n hx hb dX1_open_9 rfl (lv_at hl 0 rfl) ?_
    refine va_get (D := D) (ci := 1) (v := .ref g1) (C := RX1) (T := TX1) (N := 11) hx hb hts (by decide +kernel) hown hK hP 0 rfl rfl 0 (by decide) (hts (.fieldLink RX1 7 "FadeLedgerModel" "words" "[J") (by decide +kernel)) (fun _ h9 => h9) rfl dX1_open_10 ?_
    refine lv_iload_n hx hb dX1_open_13 rfl (lv_at hl 1 rfl) ?_
    refine va_lald hx hb hK hP 1 0 rfl rfl (in_up hc (by decide)) dX1_open_14 ?_
    refine tpl (fun v3 e3 => ?_)
    refine lv_lstore_n (lv' := [(3, .long v3), (0, .ref g0), (1, .int a), (2, .int b)]) hx hb dX1_open_15 rfl hl (by decide) rfl (fun ls hl => ?_)
    refine lv_lload_n hx hb dX1_open_16 rfl (lv_at hl 0 rfl) ?_
    refine cS_call (n := 1) (as := [.long v3]) (rest := []) ⟨hx, hb, hml, hown, hts⟩ (c_X1_isValid l v3) gX1_open_X1_isValid rfl rfl rfl (by decide +kernel) ⟨Nat.le_of_ble_eq_true rfl, Nat.le_of_ble_eq_true rfl⟩ hl.1 rfl rfl (Nat.le_of_ble_eq_true rfl) dX1_open_17 ⟨Nat.zero_le _, Nat.zero_le _⟩ ?_
    refine tpi (fun v4 e4 => ?_)
    refine lv_if_eq (tgt := 34) hx hb dX1_open_20 (by decide) (fun c5 => ?_) (fun c5 => ?_)
    · refine lv_iconst (v := 0) hx hb dX1_open_34 (by decide) ?_
      refine lv_istore (lv' := [(5, .int 0), (3, .long v3), (0, .ref g0), (1, .int a), (2, .int b)]) hx hb dX1_open_35 hl (by decide) rfl (fun ls hl => ?_)
      refine lv_aload_n hx hb dX1_open_37 rfl (lv_at hl 2 rfl) ?_
      refine lv_iconst (v := 0) hx hb dX1_open_38 (by decide) ?_
      refine va_put (D := D) (ci := 1) (v := .int 0) (ty := .int) (C := RX1) (T := TX1) (N := 11) hx hb hts (by decide +kernel) tyX1 tyX1_ok nmX1 hown hK hP hD hS 0 rfl rfl 9 (by decide) (hts (.fieldLink RX1 63 "FadeLedgerModel" "turns" "I") (by decide +kernel)) (fun _ h9 => h9) rfl (by decide +kernel) rfl rfl (Nat.le_of_ble_eq_true rfl) dX1_open_39 (fun H locs hP hD hS => ?_)
      obtain ⟨s6, t6⟩ : ∃ y9 : RS, ((st.1, st.2.1, st.2.2.1, st.2.2.2.1, 0, st.2.2.2.2.2) : RS) = y9 := ⟨_, rfl⟩
      replace hP : va_P D vwCl (RWd g0 g1 g2 g3 g4 g5 g6 cA cB s6) H := by rw [← t6]; exact hP
      replace hD : va_D A (RWd g0 g1 g2 g3 g4 g5 g6 cA cB s6) := by rw [← t6]; exact hD
      have hL7 : r_plan s6 [] := by rw [← t6]; exact plan_zero _
      refine lv_aload_n hx hb dX1_open_42 rfl (lv_at hl 2 rfl) ?_
      refine lv_iconst (v := 0) hx hb dX1_open_43 (by decide) ?_
      refine lv_iconst (v := 0) hx hb dX1_open_44 (by decide) ?_
      refine lv_iload_n hx hb dX1_open_45 rfl (lv_at hl 3 rfl) ?_
      refine lv_lconst (v := 0) hx hb dX1_open_46 (by decide) ?_
      refine cM_this (Wd := RWd g0 g1 g2 g3 g4 g5 g6 cA cB) (ci := 1) (q0 := 0) (n := 4) (as := [.int 0, .int 0, .int a, .long 0]) (rest := []) ⟨hx, hb, hml, hown, hts⟩ (c_X1_turn l D g0 g1 g2 g3 g4 g5 g6 cA cB s6 0 0 a 0 (t_in hL7.1 (by simp only [List.length_append, List.length_nil, List.length_cons, pl_look, pl_put] <;> decide))) gX1_open_X1_turn rfl rfl rfl (by decide +kernel) ⟨Nat.le_of_ble_eq_true rfl, Nat.le_of_ble_eq_true rfl⟩ hK hP hD hS hA rfl rfl rfl hl.1 rfl rfl (Nat.le_of_ble_eq_true rfl) dX1_open_47 ⟨Nat.zero_le _, Nat.zero_le _⟩ (fun H locs hP hD hS => ?_)
      refine W.eq (g2 := F0 m 50 ls []) rfl ?_
      obtain ⟨s8, t8⟩ : ∃ y9 : RS, r_turn 0 0 a 0 s6 = y9 := ⟨_, rfl⟩
      replace hP : va_P D vwCl (RWd g0 g1 g2 g3 g4 g5 g6 cA cB s8) H := by rw [← t8]; exact hP
      replace hD : va_D A (RWd g0 g1 g2 g3 g4 g5 g6 cA cB s8) := by rw [← t8]; exact hD
      have hL9 : r_plan s8 ([] ++ [(0, r_place 0 a, 0)]) := by clear hP hD hS; subst t6; subst t8; exact plan_turn 0 0 a 0 hL7 (by simp only [List.length_append, List.length_nil, List.length_cons, pl_look, pl_put] <;> decide) in4_0 hc
      refine lv_iload hx hb dX1_open_50 (lv_at hl 0 rfl) ?_
      refine lv_if_eq (tgt := 68) hx hb dX1_open_52 (by decide) (fun _ => ?_) (fun c0 => absurd c0 (by decide))
      refine lv_aload_n hx hb dX1_open_68 rfl (lv_at hl 2 rfl) ?_
      refine lv_iconst (v := 1) hx hb dX1_open_69 (by decide) ?_
      refine lv_iconst (v := 0) hx hb dX1_open_70 (by decide) ?_
      refine lv_iload_n hx hb dX1_open_71 rfl (lv_at hl 3 rfl) ?_
      refine lv_lload_n hx hb dX1_open_72 rfl (lv_at hl 1 rfl) ?_
      refine cM_this (Wd := RWd g0 g1 g2 g3 g4 g5 g6 cA cB) (ci := 1) (q0 := 0) (n := 4) (as := [.int 1, .int 0, .int a, .long v3]) (rest := []) ⟨hx, hb, hml, hown, hts⟩ (c_X1_turn l D g0 g1 g2 g3 g4 g5 g6 cA cB s8 1 0 a v3 (t_in hL9.1 (by simp only [List.length_append, List.length_nil, List.length_cons, pl_look, pl_put] <;> decide))) gX1_open_X1_turn rfl rfl rfl (by decide +kernel) ⟨Nat.le_of_ble_eq_true rfl, Nat.le_of_ble_eq_true rfl⟩ hK hP hD hS hA rfl rfl rfl hl.1 rfl rfl (Nat.le_of_ble_eq_true rfl) dX1_open_73 ⟨Nat.zero_le _, Nat.zero_le _⟩ (fun H locs hP hD hS => ?_)
      refine W.eq (g2 := F0 m 76 ls []) rfl ?_
      obtain ⟨s10, t10⟩ : ∃ y9 : RS, r_turn 1 0 a v3 s8 = y9 := ⟨_, rfl⟩
      replace hP : va_P D vwCl (RWd g0 g1 g2 g3 g4 g5 g6 cA cB s10) H := by rw [← t10]; exact hP
      replace hD : va_D A (RWd g0 g1 g2 g3 g4 g5 g6 cA cB s10) := by rw [← t10]; exact hD
      have hL11 : r_plan s10 ([] ++ [(0, r_place 0 a, 0)] ++ [(1, r_place 0 a, v3)]) := by clear hP hD hS; subst t6; subst t8; subst t10; exact plan_turn 1 0 a v3 hL9 (by simp only [List.length_append, List.length_nil, List.length_cons, pl_look, pl_put] <;> decide) in4_0 hc
      refine lv_aload_n hx hb dX1_open_76 rfl (lv_at hl 2 rfl) ?_
      refine cM_this (Wd := RWd g0 g1 g2 g3 g4 g5 g6 cA cB) (ci := 1) (q0 := 0) (n := 0) (as := []) (rest := []) ⟨hx, hb, hml, hown, hts⟩ (c_X1_works l D g0 g1 g2 g3 g4 g5 g6 cA cB s10 ([] ++ [(0, r_place 0 a, 0)] ++ [(1, r_place 0 a, v3)]) hL11) gX1_open_X1_works rfl rfl rfl (by decide +kernel) ⟨Nat.le_of_ble_eq_true rfl, Nat.le_of_ble_eq_true rfl⟩ hK hP hD hS hA rfl rfl rfl hl.1 rfl rfl (Nat.le_of_ble_eq_true rfl) dX1_open_77 ⟨Nat.zero_le _, Nat.zero_le _⟩ (fun H locs hP hD hS => ?_)
      obtain ⟨s12, t12⟩ : ∃ y9 : RS, (r_wk ([] ++ [(0, r_place 0 a, 0)] ++ [(1, r_place 0 a, v3)]) s10).2 = y9 := ⟨_, rfl⟩
      replace hP : va_P D vwCl (RWd g0 g1 g2 g3 g4 g5 g6 cA cB s12) H := by rw [← t12]; exact hP
      replace hD : va_D A (RWd g0 g1 g2 g3 g4 g5 g6 cA cB s12) := by rw [← t12]; exact hD
      refine tpi (fun v13 e13 => ?_)
      refine lv_if_ne (tgt := 88) hx hb dX1_open_80 (by decide) (fun c14 => ?_) (fun c14 => ?_)
      · refine lv_iload hx hb dX1_open_88 (lv_at hl 0 rfl) ?_
        refine lv_if_eq (tgt := 97) hx hb dX1_open_90 (by decide) (fun _ => ?_) (fun c0 => absurd c0 (by decide))
        refine lv_iconst (v := (-1)) hx hb dX1_open_97 (by decide) ?_
        have fin : r_open a b st = ((-1), s12) := by
          clear hP hD hS; subst e1; subst e3; subst e4; subst t6; subst t8; subst t10; subst t12; subst e13; simp only [r_open, g_fresh, r_end, r_zero, bI, c2, c5, c14, ↓reduceIte, not_true_eq_false, not_false_eq_true, and_self, and_true, true_and, and_false, false_and, eq_self, i10]
        exact cM_reti (Wd := RWd g0 g1 g2 g3 g4 g5 g6 cA cB) (st := s12) (st' := (r_open a b st).2) hx hb hr hlocks dX1_open_98 hS hP hD (congrArg Prod.fst fin).symm (congrArg Prod.snd fin).symm
      · refine lv_bipush (v := (-2)) hx hb dX1_open_83 (by decide) ?_
        refine lv_goto (tgt := 98) hx hb dX1_open_85 (by decide) ?_
        have fin : r_open a b st = ((-2), s12) := by
          clear hP hD hS; subst e1; subst e3; subst e4; subst t6; subst t8; subst t10; subst t12; subst e13; simp only [r_open, g_fresh, r_end, r_zero, bI, c2, c5, c14, ↓reduceIte, not_true_eq_false, not_false_eq_true, and_self, and_true, true_and, and_false, false_and, eq_self, i10]
        exact cM_reti (Wd := RWd g0 g1 g2 g3 g4 g5 g6 cA cB) (st := s12) (st' := (r_open a b st).2) hx hb hr hlocks dX1_open_98 hS hP hD (congrArg Prod.fst fin).symm (congrArg Prod.snd fin).symm
    · refine lv_lload_n hx hb dX1_open_23 rfl (lv_at hl 0 rfl) ?_
      refine cS_call (n := 1) (as := [.long v3]) (rest := []) ⟨hx, hb, hml, hown, hts⟩ (c_X1_numberOf l v3) gX1_open_X1_numberOf rfl rfl rfl (by decide +kernel) ⟨Nat.le_of_ble_eq_true rfl, Nat.le_of_ble_eq_true rfl⟩ hl.1 rfl rfl (Nat.le_of_ble_eq_true rfl) dX1_open_24 ⟨Nat.zero_le _, Nat.zero_le _⟩ ?_
      refine tpi (fun v15 e15 => ?_)
      refine lv_if_ne (tgt := 34) hx hb dX1_open_27 (by decide) (fun c16 => ?_) (fun c16 => ?_)
      · refine lv_iconst (v := 0) hx hb dX1_open_34 (by decide) ?_
        refine lv_istore (lv' := [(5, .int 0), (3, .long v3), (0, .ref g0), (1, .int a), (2, .int b)]) hx hb dX1_open_35 hl (by decide) rfl (fun ls hl => ?_)
        refine lv_aload_n hx hb dX1_open_37 rfl (lv_at hl 2 rfl) ?_
        refine lv_iconst (v := 0) hx hb dX1_open_38 (by decide) ?_
        refine va_put (D := D) (ci := 1) (v := .int 0) (ty := .int) (C := RX1) (T := TX1) (N := 11) hx hb hts (by decide +kernel) tyX1 tyX1_ok nmX1 hown hK hP hD hS 0 rfl rfl 9 (by decide) (hts (.fieldLink RX1 63 "FadeLedgerModel" "turns" "I") (by decide +kernel)) (fun _ h9 => h9) rfl (by decide +kernel) rfl rfl (Nat.le_of_ble_eq_true rfl) dX1_open_39 (fun H locs hP hD hS => ?_)
        obtain ⟨s17, t17⟩ : ∃ y9 : RS, ((st.1, st.2.1, st.2.2.1, st.2.2.2.1, 0, st.2.2.2.2.2) : RS) = y9 := ⟨_, rfl⟩
        replace hP : va_P D vwCl (RWd g0 g1 g2 g3 g4 g5 g6 cA cB s17) H := by rw [← t17]; exact hP
        replace hD : va_D A (RWd g0 g1 g2 g3 g4 g5 g6 cA cB s17) := by rw [← t17]; exact hD
        have hL18 : r_plan s17 [] := by rw [← t17]; exact plan_zero _
        refine lv_aload_n hx hb dX1_open_42 rfl (lv_at hl 2 rfl) ?_
        refine lv_iconst (v := 0) hx hb dX1_open_43 (by decide) ?_
        refine lv_iconst (v := 0) hx hb dX1_open_44 (by decide) ?_
        refine lv_iload_n hx hb dX1_open_45 rfl (lv_at hl 3 rfl) ?_
        refine lv_lconst (v := 0) hx hb dX1_open_46 (by decide) ?_
        refine cM_this (Wd := RWd g0 g1 g2 g3 g4 g5 g6 cA cB) (ci := 1) (q0 := 0) (n := 4) (as := [.int 0, .int 0, .int a, .long 0]) (rest := []) ⟨hx, hb, hml, hown, hts⟩ (c_X1_turn l D g0 g1 g2 g3 g4 g5 g6 cA cB s17 0 0 a 0 (t_in hL18.1 (by simp only [List.length_append, List.length_nil, List.length_cons, pl_look, pl_put] <;> decide))) gX1_open_X1_turn rfl rfl rfl (by decide +kernel) ⟨Nat.le_of_ble_eq_true rfl, Nat.le_of_ble_eq_true rfl⟩ hK hP hD hS hA rfl rfl rfl hl.1 rfl rfl (Nat.le_of_ble_eq_true rfl) dX1_open_47 ⟨Nat.zero_le _, Nat.zero_le _⟩ (fun H locs hP hD hS => ?_)
        refine W.eq (g2 := F0 m 50 ls []) rfl ?_
        obtain ⟨s19, t19⟩ : ∃ y9 : RS, r_turn 0 0 a 0 s17 = y9 := ⟨_, rfl⟩
        replace hP : va_P D vwCl (RWd g0 g1 g2 g3 g4 g5 g6 cA cB s19) H := by rw [← t19]; exact hP
        replace hD : va_D A (RWd g0 g1 g2 g3 g4 g5 g6 cA cB s19) := by rw [← t19]; exact hD
        have hL20 : r_plan s19 ([] ++ [(0, r_place 0 a, 0)]) := by clear hP hD hS; subst t17; subst t19; exact plan_turn 0 0 a 0 hL18 (by simp only [List.length_append, List.length_nil, List.length_cons, pl_look, pl_put] <;> decide) in4_0 hc
        refine lv_iload hx hb dX1_open_50 (lv_at hl 0 rfl) ?_
        refine lv_if_eq (tgt := 68) hx hb dX1_open_52 (by decide) (fun _ => ?_) (fun c0 => absurd c0 (by decide))
        refine lv_aload_n hx hb dX1_open_68 rfl (lv_at hl 2 rfl) ?_
        refine lv_iconst (v := 1) hx hb dX1_open_69 (by decide) ?_
        refine lv_iconst (v := 0) hx hb dX1_open_70 (by decide) ?_
        refine lv_iload_n hx hb dX1_open_71 rfl (lv_at hl 3 rfl) ?_
        refine lv_lload_n hx hb dX1_open_72 rfl (lv_at hl 1 rfl) ?_
        refine cM_this (Wd := RWd g0 g1 g2 g3 g4 g5 g6 cA cB) (ci := 1) (q0 := 0) (n := 4) (as := [.int 1, .int 0, .int a, .long v3]) (rest := []) ⟨hx, hb, hml, hown, hts⟩ (c_X1_turn l D g0 g1 g2 g3 g4 g5 g6 cA cB s19 1 0 a v3 (t_in hL20.1 (by simp only [List.length_append, List.length_nil, List.length_cons, pl_look, pl_put] <;> decide))) gX1_open_X1_turn rfl rfl rfl (by decide +kernel) ⟨Nat.le_of_ble_eq_true rfl, Nat.le_of_ble_eq_true rfl⟩ hK hP hD hS hA rfl rfl rfl hl.1 rfl rfl (Nat.le_of_ble_eq_true rfl) dX1_open_73 ⟨Nat.zero_le _, Nat.zero_le _⟩ (fun H locs hP hD hS => ?_)
        refine W.eq (g2 := F0 m 76 ls []) rfl ?_
        obtain ⟨s21, t21⟩ : ∃ y9 : RS, r_turn 1 0 a v3 s19 = y9 := ⟨_, rfl⟩
        replace hP : va_P D vwCl (RWd g0 g1 g2 g3 g4 g5 g6 cA cB s21) H := by rw [← t21]; exact hP
        replace hD : va_D A (RWd g0 g1 g2 g3 g4 g5 g6 cA cB s21) := by rw [← t21]; exact hD
        have hL22 : r_plan s21 ([] ++ [(0, r_place 0 a, 0)] ++ [(1, r_place 0 a, v3)]) := by clear hP hD hS; subst t17; subst t19; subst t21; exact plan_turn 1 0 a v3 hL20 (by simp only [List.length_append, List.length_nil, List.length_cons, pl_look, pl_put] <;> decide) in4_0 hc
        refine lv_aload_n hx hb dX1_open_76 rfl (lv_at hl 2 rfl) ?_
        refine cM_this (Wd := RWd g0 g1 g2 g3 g4 g5 g6 cA cB) (ci := 1) (q0 := 0) (n := 0) (as := []) (rest := []) ⟨hx, hb, hml, hown, hts⟩ (c_X1_works l D g0 g1 g2 g3 g4 g5 g6 cA cB s21 ([] ++ [(0, r_place 0 a, 0)] ++ [(1, r_place 0 a, v3)]) hL22) gX1_open_X1_works rfl rfl rfl (by decide +kernel) ⟨Nat.le_of_ble_eq_true rfl, Nat.le_of_ble_eq_true rfl⟩ hK hP hD hS hA rfl rfl rfl hl.1 rfl rfl (Nat.le_of_ble_eq_true rfl) dX1_open_77 ⟨Nat.zero_le _, Nat.zero_le _⟩ (fun H locs hP hD hS => ?_)
        obtain ⟨s23, t23⟩ : ∃ y9 : RS, (r_wk ([] ++ [(0, r_place 0 a, 0)] ++ [(1, r_place 0 a, v3)]) s21).2 = y9 := ⟨_, rfl⟩
        replace hP : va_P D vwCl (RWd g0 g1 g2 g3 g4 g5 g6 cA cB s23) H := by rw [← t23]; exact hP
        replace hD : va_D A (RWd g0 g1 g2 g3 g4 g5 g6 cA cB s23) := by rw [← t23]; exact hD
        refine tpi (fun v24 e24 => ?_)
        refine lv_if_ne (tgt := 88) hx hb dX1_open_80 (by decide) (fun c25 => ?_) (fun c25 => ?_)
        · refine lv_iload hx hb dX1_open_88 (lv_at hl 0 rfl) ?_
          refine lv_if_eq (tgt := 97) hx hb dX1_open_90 (by decide) (fun _ => ?_) (fun c0 => absurd c0 (by decide))
          refine lv_iconst (v := (-1)) hx hb dX1_open_97 (by decide) ?_
          have fin : r_open a b st = ((-1), s23) := by
            clear hP hD hS; subst e1; subst e3; subst e4; subst e15; subst t17; subst t19; subst t21; subst t23; subst e24; simp only [r_open, g_fresh, r_end, r_zero, bI, c2, c5, c16, c25, ↓reduceIte, not_true_eq_false, not_false_eq_true, and_self, and_true, true_and, and_false, false_and, eq_self, i10]
          exact cM_reti (Wd := RWd g0 g1 g2 g3 g4 g5 g6 cA cB) (st := s23) (st' := (r_open a b st).2) hx hb hr hlocks dX1_open_98 hS hP hD (congrArg Prod.fst fin).symm (congrArg Prod.snd fin).symm
        · refine lv_bipush (v := (-2)) hx hb dX1_open_83 (by decide) ?_
          refine lv_goto (tgt := 98) hx hb dX1_open_85 (by decide) ?_
          have fin : r_open a b st = ((-2), s23) := by
            clear hP hD hS; subst e1; subst e3; subst e4; subst e15; subst t17; subst t19; subst t21; subst t23; subst e24; simp only [r_open, g_fresh, r_end, r_zero, bI, c2, c5, c16, c25, ↓reduceIte, not_true_eq_false, not_false_eq_true, and_self, and_true, true_and, and_false, false_and, eq_self, i10]
          exact cM_reti (Wd := RWd g0 g1 g2 g3 g4 g5 g6 cA cB) (st := s23) (st' := (r_open a b st).2) hx hb hr hlocks dX1_open_98 hS hP hD (congrArg Prod.fst fin).symm (congrArg Prod.snd fin).symm
      · refine lv_iconst (v := 1) hx hb dX1_open_30 (by decide) ?_
        refine lv_goto (tgt := 35) hx hb dX1_open_31 (by decide) ?_
        refine lv_istore (lv' := [(5, .int 1), (3, .long v3), (0, .ref g0), (1, .int a), (2, .int b)]) hx hb dX1_open_35 hl (by decide) rfl (fun ls hl => ?_)
        refine lv_aload_n hx hb dX1_open_37 rfl (lv_at hl 2 rfl) ?_
        refine lv_iconst (v := 0) hx hb dX1_open_38 (by decide) ?_
        refine va_put (D := D) (ci := 1) (v := .int 0) (ty := .int) (C := RX1) (T := TX1) (N := 11) hx hb hts (by decide +kernel) tyX1 tyX1_ok nmX1 hown hK hP hD hS 0 rfl rfl 9 (by decide) (hts (.fieldLink RX1 63 "FadeLedgerModel" "turns" "I") (by decide +kernel)) (fun _ h9 => h9) rfl (by decide +kernel) rfl rfl (Nat.le_of_ble_eq_true rfl) dX1_open_39 (fun H locs hP hD hS => ?_)
        obtain ⟨s26, t26⟩ : ∃ y9 : RS, ((st.1, st.2.1, st.2.2.1, st.2.2.2.1, 0, st.2.2.2.2.2) : RS) = y9 := ⟨_, rfl⟩
        replace hP : va_P D vwCl (RWd g0 g1 g2 g3 g4 g5 g6 cA cB s26) H := by rw [← t26]; exact hP
        replace hD : va_D A (RWd g0 g1 g2 g3 g4 g5 g6 cA cB s26) := by rw [← t26]; exact hD
        have hL27 : r_plan s26 [] := by rw [← t26]; exact plan_zero _
        refine lv_aload_n hx hb dX1_open_42 rfl (lv_at hl 2 rfl) ?_
        refine lv_iconst (v := 0) hx hb dX1_open_43 (by decide) ?_
        refine lv_iconst (v := 0) hx hb dX1_open_44 (by decide) ?_
        refine lv_iload_n hx hb dX1_open_45 rfl (lv_at hl 3 rfl) ?_
        refine lv_lconst (v := 0) hx hb dX1_open_46 (by decide) ?_
        refine cM_this (Wd := RWd g0 g1 g2 g3 g4 g5 g6 cA cB) (ci := 1) (q0 := 0) (n := 4) (as := [.int 0, .int 0, .int a, .long 0]) (rest := []) ⟨hx, hb, hml, hown, hts⟩ (c_X1_turn l D g0 g1 g2 g3 g4 g5 g6 cA cB s26 0 0 a 0 (t_in hL27.1 (by simp only [List.length_append, List.length_nil, List.length_cons, pl_look, pl_put] <;> decide))) gX1_open_X1_turn rfl rfl rfl (by decide +kernel) ⟨Nat.le_of_ble_eq_true rfl, Nat.le_of_ble_eq_true rfl⟩ hK hP hD hS hA rfl rfl rfl hl.1 rfl rfl (Nat.le_of_ble_eq_true rfl) dX1_open_47 ⟨Nat.zero_le _, Nat.zero_le _⟩ (fun H locs hP hD hS => ?_)
        refine W.eq (g2 := F0 m 50 ls []) rfl ?_
        obtain ⟨s28, t28⟩ : ∃ y9 : RS, r_turn 0 0 a 0 s26 = y9 := ⟨_, rfl⟩
        replace hP : va_P D vwCl (RWd g0 g1 g2 g3 g4 g5 g6 cA cB s28) H := by rw [← t28]; exact hP
        replace hD : va_D A (RWd g0 g1 g2 g3 g4 g5 g6 cA cB s28) := by rw [← t28]; exact hD
        have hL29 : r_plan s28 ([] ++ [(0, r_place 0 a, 0)]) := by clear hP hD hS; subst t26; subst t28; exact plan_turn 0 0 a 0 hL27 (by simp only [List.length_append, List.length_nil, List.length_cons, pl_look, pl_put] <;> decide) in4_0 hc
        refine lv_iload hx hb dX1_open_50 (lv_at hl 0 rfl) ?_
        refine lv_if_eq (tgt := 68) hx hb dX1_open_52 (by decide) (fun c0 => absurd c0 (by decide)) (fun _ => ?_)
        refine lv_aload_n hx hb dX1_open_55 rfl (lv_at hl 2 rfl) ?_
        refine lv_iload_n hx hb dX1_open_56 rfl (lv_at hl 3 rfl) ?_
        refine lv_iload_n hx hb dX1_open_57 rfl (lv_at hl 4 rfl) ?_
        refine lv_iconst (v := 1) hx hb dX1_open_58 (by decide) ?_
        refine cS_call (n := 2) (as := [.int b, .int 1]) (rest := [.int a, .ref g0]) ⟨hx, hb, hml, hown, hts⟩ (c_X1_wordOf l b 1) gX1_open_X1_wordOf rfl rfl rfl (by decide +kernel) ⟨Nat.le_of_ble_eq_true rfl, Nat.le_of_ble_eq_true rfl⟩ hl.1 rfl rfl (Nat.le_of_ble_eq_true rfl) dX1_open_59 ⟨Nat.zero_le _, Nat.zero_le _⟩ ?_
        refine tpl (fun v30 e30 => ?_)
        refine cM_this (Wd := RWd g0 g1 g2 g3 g4 g5 g6 cA cB) (ci := 1) (q0 := 0) (n := 2) (as := [.int a, .long v30]) (rest := []) ⟨hx, hb, hml, hown, hts⟩ (c_X1_putAll l D g0 g1 g2 g3 g4 g5 g6 cA cB s28 a v30 _ hL29.1 (by simp only [List.length_append, List.length_nil, List.length_cons, pl_look, pl_put] <;> decide)) gX1_open_X1_putAll rfl rfl rfl (by decide +kernel) ⟨Nat.le_of_ble_eq_true rfl, Nat.le_of_ble_eq_true rfl⟩ hK hP hD hS hA rfl rfl rfl hl.1 rfl rfl (Nat.le_of_ble_eq_true rfl) dX1_open_62 ⟨Nat.zero_le _, Nat.zero_le _⟩ (fun H locs hP hD hS => ?_)
        refine W.eq (g2 := F0 m 65 ls []) rfl ?_
        obtain ⟨s31, t31⟩ : ∃ y9 : RS, r_put a v30 s28 = y9 := ⟨_, rfl⟩
        replace hP : va_P D vwCl (RWd g0 g1 g2 g3 g4 g5 g6 cA cB s31) H := by rw [← t31]; exact hP
        replace hD : va_D A (RWd g0 g1 g2 g3 g4 g5 g6 cA cB s31) := by rw [← t31]; exact hD
        have hL32 : r_plan s31 ([] ++ [(0, r_place 0 a, 0)] ++ p_put a v30) := by clear hP hD hS; subst t26; subst t28; subst t31; exact plan_put a v30 hL29 (by simp only [List.length_append, List.length_nil, List.length_cons, pl_look, pl_put] <;> decide) hc
        refine lv_goto (tgt := 76) hx hb dX1_open_65 (by decide) ?_
        refine lv_aload_n hx hb dX1_open_76 rfl (lv_at hl 2 rfl) ?_
        refine cM_this (Wd := RWd g0 g1 g2 g3 g4 g5 g6 cA cB) (ci := 1) (q0 := 0) (n := 0) (as := []) (rest := []) ⟨hx, hb, hml, hown, hts⟩ (c_X1_works l D g0 g1 g2 g3 g4 g5 g6 cA cB s31 ([] ++ [(0, r_place 0 a, 0)] ++ p_put a v30) hL32) gX1_open_X1_works rfl rfl rfl (by decide +kernel) ⟨Nat.le_of_ble_eq_true rfl, Nat.le_of_ble_eq_true rfl⟩ hK hP hD hS hA rfl rfl rfl hl.1 rfl rfl (Nat.le_of_ble_eq_true rfl) dX1_open_77 ⟨Nat.zero_le _, Nat.zero_le _⟩ (fun H locs hP hD hS => ?_)
        obtain ⟨s33, t33⟩ : ∃ y9 : RS, (r_wk ([] ++ [(0, r_place 0 a, 0)] ++ p_put a v30) s31).2 = y9 := ⟨_, rfl⟩
        replace hP : va_P D vwCl (RWd g0 g1 g2 g3 g4 g5 g6 cA cB s33) H := by rw [← t33]; exact hP
        replace hD : va_D A (RWd g0 g1 g2 g3 g4 g5 g6 cA cB s33) := by rw [← t33]; exact hD
        refine tpi (fun v34 e34 => ?_)
        refine lv_if_ne (tgt := 88) hx hb dX1_open_80 (by decide) (fun c35 => ?_) (fun c35 => ?_)
        · refine lv_iload hx hb dX1_open_88 (lv_at hl 0 rfl) ?_
          refine lv_if_eq (tgt := 97) hx hb dX1_open_90 (by decide) (fun c0 => absurd c0 (by decide)) (fun _ => ?_)
          refine lv_iconst (v := 1) hx hb dX1_open_93 (by decide) ?_
          refine lv_goto (tgt := 98) hx hb dX1_open_94 (by decide) ?_
          have fin : r_open a b st = (1, s33) := by
            clear hP hD hS; subst e1; subst e3; subst e4; subst e15; subst t26; subst t28; subst e30; subst t31; subst t33; subst e34; simp only [r_open, g_fresh, r_end, r_zero, bI, c2, c5, c16, c35, ↓reduceIte, not_true_eq_false, not_false_eq_true, and_self, and_true, true_and, and_false, false_and, eq_self, i10]
          exact cM_reti (Wd := RWd g0 g1 g2 g3 g4 g5 g6 cA cB) (st := s33) (st' := (r_open a b st).2) hx hb hr hlocks dX1_open_98 hS hP hD (congrArg Prod.fst fin).symm (congrArg Prod.snd fin).symm
        · refine lv_bipush (v := (-2)) hx hb dX1_open_83 (by decide) ?_
          refine lv_goto (tgt := 98) hx hb dX1_open_85 (by decide) ?_
          have fin : r_open a b st = ((-2), s33) := by
            clear hP hD hS; subst e1; subst e3; subst e4; subst e15; subst t26; subst t28; subst e30; subst t31; subst t33; subst e34; simp only [r_open, g_fresh, r_end, r_zero, bI, c2, c5, c16, c35, ↓reduceIte, not_true_eq_false, not_false_eq_true, and_self, and_true, true_and, and_false, false_and, eq_self, i10]
          exact cM_reti (Wd := RWd g0 g1 g2 g3 g4 g5 g6 cA cB) (st := s33) (st' := (r_open a b st).2) hx hb hr hlocks dX1_open_98 hS hP hD (congrArg Prod.fst fin).symm (congrArg Prod.snd fin).symm
  · refine lv_iconst (v := (-1)) hx hb dX1_open_7 (by decide) ?_
    have fin : r_open a b st = ((-1), st) := by
      clear hP hD hS; subst e1; simp only [r_open, g_fresh, r_end, r_zero, bI, c2, ↓reduceIte, not_true_eq_false, not_false_eq_true, and_self, and_true, true_and, and_false, false_and, eq_self, i10]
    exact cM_reti (Wd := RWd g0 g1 g2 g3 g4 g5 g6 cA cB) (st := st) (st' := (r_open a b st).2) hx hb hr hlocks dX1_open_8 hS hP hD (congrArg Prod.fst fin).symm (congrArg Prod.snd fin).symm
abbrev rmX1_balance : Room := { frames := 2, cells := 0, slots := 0, locals := 46 }
-- balance
set_option maxHeartbeats 400000 in
set_option maxRecDepth 100000 in
theorem c_X1_balance (l : Launch) (D : va_G) (g0 g1 g2 g3 g4 g5 g6 : Nat) (cA cB : ClassId) (st : RS) (a : Int32)  : cM l D vwCl (FT cA cB) (RWd g0 g1 g2 g3 g4 g5 g6 cA cB) yX1_balance wsX1_balance rmX1_balance [.ref g0, .int a] st (some (.long (r_balance a st).1)) (r_balance a st).2 := by
  refine cM_in (cc := cX1_balance) (maxL := 4) (ret := (some .long)) (by decide) rfl (Nat.le_of_ble_eq_true rfl) ?_
  intro p e s m below meth c ls A hx hb hr hlocks hml hown hts hA hK hP hD hS hl
  have hown : s.vm.findClass RX1 = some m.cls := hown
  have hl : lv_has ls 4 [(0, .ref g0), (1, .int a)] := hl
  -- walk
  refine lv_iload_n hx hb dX1_balance_0 rfl (lv_at hl 1 rfl) ?_
  refine cS_call (n := 1) (as := [.int a]) (rest := []) ⟨hx, hb, hml, hown, hts⟩ (c_X1_isAccount l a) gX1_balance_X1_isAccount rfl rfl rfl (by decide +kernel) ⟨Nat.le_of_ble_eq_true rfl, Nat.le_of_ble_eq_true rfl⟩ hl.1 rfl rfl (Nat.le_of_ble_eq_true rfl) dX1_balance_1 ⟨Nat.zero_le _, Nat.zero_le _⟩ ?_
  refine tpi (fun v1 e1 => ?_)
  refine lv_if_ne (tgt := 11) hx hb dX1_balance_4 (by decide) (fun c2 => ?_) (fun c2 => ?_)
  · have hc : vp_in a 20 := acct_in20 (by rw [e1]; exact c2)
    refine lv_aload_n hx hb dX1_balance_11 rfl (lv_at hl 0 rfl) ?_
    refine va_get (D := D) (ci := 1) (v := .ref g1) (C := RX1) (T := TX1) (N := 11) hx hb hts (by decide +kernel) hown hK hP 0 rfl rfl 0 (by decide) (hts (.fieldLink RX1 7 "FadeLedgerModel" "words" "[J") (by decide +kernel)) (fun _ h9 => h9) rfl dX1_balance_12 ?_
    refine lv_iload_n hx hb dX1_balance_15 rfl (lv_at hl 1 rfl) ?_
    refine va_lald hx hb hK hP 1 0 rfl rfl (in_up hc (by decide)) dX1_balance_16 ?_
    refine tpl (fun v3 e3 => ?_)
    refine lv_lstore_n (lv' := [(2, .long v3), (0, .ref g0), (1, .int a)]) hx hb dX1_balance_17 rfl hl (by decide) rfl (fun ls hl => ?_)
    refine lv_aload_n hx hb dX1_balance_18 rfl (lv_at hl 1 rfl) ?_
    refine lv_iconst (v := 0) hx hb dX1_balance_19 (by decide) ?_
    refine va_put (D := D) (ci := 1) (v := .int 0) (ty := .int) (C := RX1) (T := TX1) (N := 11) hx hb hts (by decide +kernel) tyX1 tyX1_ok nmX1 hown hK hP hD hS 0 rfl rfl 9 (by decide) (hts (.fieldLink RX1 63 "FadeLedgerModel" "turns" "I") (by decide +kernel)) (fun _ h9 => h9) rfl (by decide +kernel) rfl rfl (Nat.le_of_ble_eq_true rfl) dX1_balance_20 (fun H locs hP hD hS => ?_)
    obtain ⟨s4, t4⟩ : ∃ y9 : RS, ((st.1, st.2.1, st.2.2.1, st.2.2.2.1, 0, st.2.2.2.2.2) : RS) = y9 := ⟨_, rfl⟩
    replace hP : va_P D vwCl (RWd g0 g1 g2 g3 g4 g5 g6 cA cB s4) H := by rw [← t4]; exact hP
    replace hD : va_D A (RWd g0 g1 g2 g3 g4 g5 g6 cA cB s4) := by rw [← t4]; exact hD
    have hL5 : r_plan s4 [] := by rw [← t4]; exact plan_zero _
    refine lv_aload_n hx hb dX1_balance_23 rfl (lv_at hl 1 rfl) ?_
    refine lv_iload_n hx hb dX1_balance_24 rfl (lv_at hl 2 rfl) ?_
    refine cM_this (Wd := RWd g0 g1 g2 g3 g4 g5 g6 cA cB) (ci := 1) (q0 := 0) (n := 1) (as := [.int a]) (rest := []) ⟨hx, hb, hml, hown, hts⟩ (c_X1_look l D g0 g1 g2 g3 g4 g5 g6 cA cB s4 a hc _ hL5.1 (by simp only [List.length_append, List.length_nil, List.length_cons, pl_look, pl_put] <;> decide)) gX1_balance_X1_look rfl rfl rfl (by decide +kernel) ⟨Nat.le_of_ble_eq_true rfl, Nat.le_of_ble_eq_true rfl⟩ hK hP hD hS hA rfl rfl rfl hl.1 rfl rfl (Nat.le_of_ble_eq_true rfl) dX1_balance_25 ⟨Nat.zero_le _, Nat.zero_le _⟩ (fun H locs hP hD hS => ?_)
    refine W.eq (g2 := F0 m 28 ls []) rfl ?_
    obtain ⟨s6, t6⟩ : ∃ y9 : RS, r_look a s4 = y9 := ⟨_, rfl⟩
    replace hP : va_P D vwCl (RWd g0 g1 g2 g3 g4 g5 g6 cA cB s6) H := by rw [← t6]; exact hP
    replace hD : va_D A (RWd g0 g1 g2 g3 g4 g5 g6 cA cB s6) := by rw [← t6]; exact hD
    have hL7 : r_plan s6 ([] ++ p_look a (st.1.1 a.toNatClampNeg)) := by clear hP hD hS; subst t4; subst t6; exact plan_look a hL5 (by simp only [List.length_append, List.length_nil, List.length_cons, pl_look, pl_put] <;> decide) hc
    refine lv_aload_n hx hb dX1_balance_28 rfl (lv_at hl 1 rfl) ?_
    refine cM_this (Wd := RWd g0 g1 g2 g3 g4 g5 g6 cA cB) (ci := 1) (q0 := 0) (n := 0) (as := []) (rest := []) ⟨hx, hb, hml, hown, hts⟩ (c_X1_works l D g0 g1 g2 g3 g4 g5 g6 cA cB s6 ([] ++ p_look a (st.1.1 a.toNatClampNeg)) hL7) gX1_balance_X1_works rfl rfl rfl (by decide +kernel) ⟨Nat.le_of_ble_eq_true rfl, Nat.le_of_ble_eq_true rfl⟩ hK hP hD hS hA rfl rfl rfl hl.1 rfl rfl (Nat.le_of_ble_eq_true rfl) dX1_balance_29 ⟨Nat.zero_le _, Nat.zero_le _⟩ (fun H locs hP hD hS => ?_)
    obtain ⟨s8, t8⟩ : ∃ y9 : RS, (r_wk ([] ++ p_look a (st.1.1 a.toNatClampNeg)) s6).2 = y9 := ⟨_, rfl⟩
    replace hP : va_P D vwCl (RWd g0 g1 g2 g3 g4 g5 g6 cA cB s8) H := by rw [← t8]; exact hP
    replace hD : va_D A (RWd g0 g1 g2 g3 g4 g5 g6 cA cB s8) := by rw [← t8]; exact hD
    refine tpi (fun v9 e9 => ?_)
    refine lv_if_ne (tgt := 39) hx hb dX1_balance_32 (by decide) (fun c10 => ?_) (fun c10 => ?_)
    · refine lv_lload_n hx hb dX1_balance_39 rfl (lv_at hl 0 rfl) ?_
      refine cS_call (n := 1) (as := [.long v3]) (rest := []) ⟨hx, hb, hml, hown, hts⟩ (c_X1_isValid l v3) gX1_balance_X1_isValid rfl rfl rfl (by decide +kernel) ⟨Nat.le_of_ble_eq_true rfl, Nat.le_of_ble_eq_true rfl⟩ hl.1 rfl rfl (Nat.le_of_ble_eq_true rfl) dX1_balance_40 ⟨Nat.zero_le _, Nat.zero_le _⟩ ?_
      refine tpi (fun v11 e11 => ?_)
      refine lv_if_ne (tgt := 52) hx hb dX1_balance_43 (by decide) (fun c12 => ?_) (fun c12 => ?_)
      · refine lv_lload_n hx hb dX1_balance_52 rfl (lv_at hl 0 rfl) ?_
        refine cS_call (n := 1) (as := [.long v3]) (rest := []) ⟨hx, hb, hml, hown, hts⟩ (c_X1_numberOf l v3) gX1_balance_X1_numberOf rfl rfl rfl (by decide +kernel) ⟨Nat.le_of_ble_eq_true rfl, Nat.le_of_ble_eq_true rfl⟩ hl.1 rfl rfl (Nat.le_of_ble_eq_true rfl) dX1_balance_53 ⟨Nat.zero_le _, Nat.zero_le _⟩ ?_
        refine tpi (fun v13 e13 => ?_)
        refine lv_if_ne (tgt := 65) hx hb dX1_balance_56 (by decide) (fun c14 => ?_) (fun c14 => ?_)
        · refine lv_lload_n hx hb dX1_balance_65 rfl (lv_at hl 0 rfl) ?_
          refine cS_call (n := 1) (as := [.long v3]) (rest := []) ⟨hx, hb, hml, hown, hts⟩ (c_X1_balanceOf l v3) gX1_balance_X1_balanceOf rfl rfl rfl (by decide +kernel) ⟨Nat.le_of_ble_eq_true rfl, Nat.le_of_ble_eq_true rfl⟩ hl.1 rfl rfl (Nat.le_of_ble_eq_true rfl) dX1_balance_66 ⟨Nat.zero_le _, Nat.zero_le _⟩ ?_
          refine tpi (fun v15 e15 => ?_)
          refine lv_i2l hx hb dX1_balance_69 rfl ?_
          refine tpl (fun v16 e16 => ?_)
          have fin : r_balance a st = (v16, s8) := by
            clear hP hD hS; subst e1; subst e3; subst t4; subst t6; subst t8; subst e9; subst e11; subst e13; subst e15; subst e16; simp only [r_balance, r_zero, c2, c10, c12, c14, ↓reduceIte, not_true_eq_false, not_false_eq_true, and_self, and_true, true_and, and_false, false_and, eq_self, i10]
          exact cM_retl (Wd := RWd g0 g1 g2 g3 g4 g5 g6 cA cB) (st := s8) (st' := (r_balance a st).2) hx hb hr hlocks dX1_balance_70 hS hP hD (congrArg Prod.fst fin).symm (congrArg Prod.snd fin).symm
        · refine lv_ldc2 (v := 1099511627776) hx hb hown (hts (.constantLong RX1 98 1099511627776) (by decide +kernel)) dX1_balance_59 ?_
          refine lv_goto (tgt := 70) hx hb dX1_balance_62 (by decide) ?_
          have fin : r_balance a st = (1099511627776, s8) := by
            clear hP hD hS; subst e1; subst e3; subst t4; subst t6; subst t8; subst e9; subst e11; subst e13; simp only [r_balance, r_zero, c2, c10, c12, c14, ↓reduceIte, not_true_eq_false, not_false_eq_true, and_self, and_true, true_and, and_false, false_and, eq_self, i10]
          exact cM_retl (Wd := RWd g0 g1 g2 g3 g4 g5 g6 cA cB) (st := s8) (st' := (r_balance a st).2) hx hb hr hlocks dX1_balance_70 hS hP hD (congrArg Prod.fst fin).symm (congrArg Prod.snd fin).symm
      · refine lv_ldc2 (v := 2199023255552) hx hb hown (hts (.constantLong RX1 96 2199023255552) (by decide +kernel)) dX1_balance_46 ?_
        refine lv_goto (tgt := 70) hx hb dX1_balance_49 (by decide) ?_
        have fin : r_balance a st = (2199023255552, s8) := by
          clear hP hD hS; subst e1; subst e3; subst t4; subst t6; subst t8; subst e9; subst e11; simp only [r_balance, r_zero, c2, c10, c12, ↓reduceIte, not_true_eq_false, not_false_eq_true, and_self, and_true, true_and, and_false, false_and, eq_self, i10]
        exact cM_retl (Wd := RWd g0 g1 g2 g3 g4 g5 g6 cA cB) (st := s8) (st' := (r_balance a st).2) hx hb hr hlocks dX1_balance_70 hS hP hD (congrArg Prod.fst fin).symm (congrArg Prod.snd fin).symm
    · refine lv_ldc2 (v := 4398046511104) hx hb hown (hts (.constantLong RX1 94 4398046511104) (by decide +kernel)) dX1_balance_35 ?_
      have fin : r_balance a st = (4398046511104, s8) := by
        clear hP hD hS; subst e1; subst e3; subst t4; subst t6; subst t8; subst e9; simp only [r_balance, r_zero, c2, c10, ↓reduceIte, not_true_eq_false, not_false_eq_true, and_self, and_true, true_and, and_false, false_and, eq_self, i10]
      exact cM_retl (Wd := RWd g0 g1 g2 g3 g4 g5 g6 cA cB) (st := s8) (st' := (r_balance a st).2) hx hb hr hlocks dX1_balance_38 hS hP hD (congrArg Prod.fst fin).symm (congrArg Prod.snd fin).symm
  · refine lv_ldc2 (v := 8796093022208) hx hb hown (hts (.constantLong RX1 88 8796093022208) (by decide +kernel)) dX1_balance_7 ?_
    have fin : r_balance a st = (8796093022208, st) := by
      clear hP hD hS; subst e1; simp only [r_balance, r_zero, c2, ↓reduceIte, not_true_eq_false, not_false_eq_true, and_self, and_true, true_and, and_false, false_and, eq_self, i10]
    exact cM_retl (Wd := RWd g0 g1 g2 g3 g4 g5 g6 cA cB) (st := st) (st' := (r_balance a st).2) hx hb hr hlocks dX1_balance_10 hS hP hD (congrArg Prod.fst fin).symm (congrArg Prod.snd fin).symm
abbrev rmX1_post : Room := { frames := 3, cells := 0, slots := 0, locals := 66 }
-- post
set_option maxHeartbeats 400000 in
set_option maxRecDepth 100000 in
theorem c_X1_post (l : Launch) (D : va_G) (g0 g1 g2 g3 g4 g5 g6 : Nat) (cA cB : ClassId) (st : RS) (a : Int32) (k : Int32)  : cM l D vwCl (FT cA cB) (RWd g0 g1 g2 g3 g4 g5 g6 cA cB) yX1_post wsX1_post rmX1_post [.ref g0, .int a, .int k] st (some (.int (r_post a k st).1)) (r_post a k st).2 := by
  refine cM_in (cc := cX1_post) (maxL := 8) (ret := (some .int)) (by decide) rfl (Nat.le_of_ble_eq_true rfl) ?_
  intro p e s m below meth c ls A hx hb hr hlocks hml hown hts hA hK hP hD hS hl
  have hown : s.vm.findClass RX1 = some m.cls := hown
  have hl : lv_has ls 8 [(0, .ref g0), (1, .int a), (2, .int k)] := hl
  -- walk
  refine lv_iload_n hx hb dX1_post_0 rfl (lv_at hl 1 rfl) ?_
  refine cS_call (n := 1) (as := [.int a]) (rest := []) ⟨hx, hb, hml, hown, hts⟩ (c_X1_isAccount l a) gX1_post_X1_isAccount rfl rfl rfl (by decide +kernel) ⟨Nat.le_of_ble_eq_true rfl, Nat.le_of_ble_eq_true rfl⟩ hl.1 rfl rfl (Nat.le_of_ble_eq_true rfl) dX1_post_1 ⟨Nat.zero_le _, Nat.zero_le _⟩ ?_
  refine tpi (fun v1 e1 => ?_)
  refine lv_if_ne (tgt := 9) hx hb dX1_post_4 (by decide) (fun c2 => ?_) (fun c2 => ?_)
  · have hc : vp_in a 20 := acct_in20 (by rw [e1]; exact c2)
    refine lv_aload_n hx hb dX1_post_9 rfl (lv_at hl 0 rfl) ?_
    refine va_get (D := D) (ci := 1) (v := .ref g1) (C := RX1) (T := TX1) (N := 11) hx hb hts (by decide +kernel) hown hK hP 0 rfl rfl 0 (by decide) (hts (.fieldLink RX1 7 "FadeLedgerModel" "words" "[J") (by decide +kernel)) (fun _ h9 => h9) rfl dX1_post_10 ?_
    refine lv_iload_n hx hb dX1_post_13 rfl (lv_at hl 1 rfl) ?_
    refine va_lald hx hb hK hP 1 0 rfl rfl (in_up hc (by decide)) dX1_post_14 ?_
    refine tpl (fun v3 e3 => ?_)
    refine lv_lstore_n (lv' := [(3, .long v3), (0, .ref g0), (1, .int a), (2, .int k)]) hx hb dX1_post_15 rfl hl (by decide) rfl (fun ls hl => ?_)
    refine lv_lload_n hx hb dX1_post_16 rfl (lv_at hl 0 rfl) ?_
    refine cS_call (n := 1) (as := [.long v3]) (rest := []) ⟨hx, hb, hml, hown, hts⟩ (c_X1_balanceOf l v3) gX1_post_X1_balanceOf rfl rfl rfl (by decide +kernel) ⟨Nat.le_of_ble_eq_true rfl, Nat.le_of_ble_eq_true rfl⟩ hl.1 rfl rfl (Nat.le_of_ble_eq_true rfl) dX1_post_17 ⟨Nat.zero_le _, Nat.zero_le _⟩ ?_
    refine tpi (fun v4 e4 => ?_)
    refine lv_i2l hx hb dX1_post_20 rfl ?_
    refine tpl (fun v5 e5 => ?_)
    refine lv_iload_n hx hb dX1_post_21 rfl (lv_at hl 3 rfl) ?_
    refine lv_i2l hx hb dX1_post_22 rfl ?_
    refine tpl (fun v6 e6 => ?_)
    refine lv_ladd hx hb dX1_post_23 ?_
    refine tpl (fun v7 e7 => ?_)
    refine lv_lstore (lv' := [(5, .long v7), (3, .long v3), (0, .ref g0), (1, .int a), (2, .int k)]) hx hb dX1_post_24 hl (by decide) rfl (fun ls hl => ?_)
    refine lv_lload_n hx hb dX1_post_26 rfl (lv_at hl 1 rfl) ?_
    refine cS_call (n := 1) (as := [.long v3]) (rest := []) ⟨hx, hb, hml, hown, hts⟩ (c_X1_isOpen l v3) gX1_post_X1_isOpen rfl rfl rfl (by decide +kernel) ⟨Nat.le_of_ble_eq_true rfl, Nat.le_of_ble_eq_true rfl⟩ hl.1 rfl rfl (Nat.le_of_ble_eq_true rfl) dX1_post_27 ⟨Nat.zero_le _, Nat.zero_le _⟩ ?_
    refine tpi (fun v8 e8 => ?_)
    refine lv_if_eq (tgt := 54) hx hb dX1_post_30 (by decide) (fun c9 => ?_) (fun c9 => ?_)
    · refine lv_iconst (v := 0) hx hb dX1_post_54 (by decide) ?_
      refine lv_istore (lv' := [(7, .int 0), (5, .long v7), (3, .long v3), (0, .ref g0), (1, .int a), (2, .int k)]) hx hb dX1_post_55 hl (by decide) rfl (fun ls hl => ?_)
      refine lv_aload_n hx hb dX1_post_57 rfl (lv_at hl 3 rfl) ?_
      refine lv_iconst (v := 0) hx hb dX1_post_58 (by decide) ?_
      refine va_put (D := D) (ci := 1) (v := .int 0) (ty := .int) (C := RX1) (T := TX1) (N := 11) hx hb hts (by decide +kernel) tyX1 tyX1_ok nmX1 hown hK hP hD hS 0 rfl rfl 9 (by decide) (hts (.fieldLink RX1 63 "FadeLedgerModel" "turns" "I") (by decide +kernel)) (fun _ h9 => h9) rfl (by decide +kernel) rfl rfl (Nat.le_of_ble_eq_true rfl) dX1_post_59 (fun H locs hP hD hS => ?_)
      obtain ⟨s10, t10⟩ : ∃ y9 : RS, ((st.1, st.2.1, st.2.2.1, st.2.2.2.1, 0, st.2.2.2.2.2) : RS) = y9 := ⟨_, rfl⟩
      replace hP : va_P D vwCl (RWd g0 g1 g2 g3 g4 g5 g6 cA cB s10) H := by rw [← t10]; exact hP
      replace hD : va_D A (RWd g0 g1 g2 g3 g4 g5 g6 cA cB s10) := by rw [← t10]; exact hD
      have hL11 : r_plan s10 [] := by rw [← t10]; exact plan_zero _
      refine lv_aload_n hx hb dX1_post_62 rfl (lv_at hl 3 rfl) ?_
      refine lv_iconst (v := 0) hx hb dX1_post_63 (by decide) ?_
      refine lv_iconst (v := 0) hx hb dX1_post_64 (by decide) ?_
      refine lv_iload_n hx hb dX1_post_65 rfl (lv_at hl 4 rfl) ?_
      refine lv_lconst (v := 0) hx hb dX1_post_66 (by decide) ?_
      refine cM_this (Wd := RWd g0 g1 g2 g3 g4 g5 g6 cA cB) (ci := 1) (q0 := 0) (n := 4) (as := [.int 0, .int 0, .int a, .long 0]) (rest := []) ⟨hx, hb, hml, hown, hts⟩ (c_X1_turn l D g0 g1 g2 g3 g4 g5 g6 cA cB s10 0 0 a 0 (t_in hL11.1 (by simp only [List.length_append, List.length_nil, List.length_cons, pl_look, pl_put] <;> decide))) gX1_post_X1_turn rfl rfl rfl (by decide +kernel) ⟨Nat.le_of_ble_eq_true rfl, Nat.le_of_ble_eq_true rfl⟩ hK hP hD hS hA rfl rfl rfl hl.1 rfl rfl (Nat.le_of_ble_eq_true rfl) dX1_post_67 ⟨Nat.zero_le _, Nat.zero_le _⟩ (fun H locs hP hD hS => ?_)
      refine W.eq (g2 := F0 m 70 ls []) rfl ?_
      obtain ⟨s12, t12⟩ : ∃ y9 : RS, r_turn 0 0 a 0 s10 = y9 := ⟨_, rfl⟩
      replace hP : va_P D vwCl (RWd g0 g1 g2 g3 g4 g5 g6 cA cB s12) H := by rw [← t12]; exact hP
      replace hD : va_D A (RWd g0 g1 g2 g3 g4 g5 g6 cA cB s12) := by rw [← t12]; exact hD
      have hL13 : r_plan s12 ([] ++ [(0, r_place 0 a, 0)]) := by clear hP hD hS; subst t10; subst t12; exact plan_turn 0 0 a 0 hL11 (by simp only [List.length_append, List.length_nil, List.length_cons, pl_look, pl_put] <;> decide) in4_0 hc
      refine lv_iload hx hb dX1_post_70 (lv_at hl 0 rfl) ?_
      refine lv_if_eq (tgt := 95) hx hb dX1_post_72 (by decide) (fun _ => ?_) (fun c0 => absurd c0 (by decide))
      refine lv_aload_n hx hb dX1_post_95 rfl (lv_at hl 3 rfl) ?_
      refine lv_iconst (v := 1) hx hb dX1_post_96 (by decide) ?_
      refine lv_iconst (v := 0) hx hb dX1_post_97 (by decide) ?_
      refine lv_iload_n hx hb dX1_post_98 rfl (lv_at hl 4 rfl) ?_
      refine lv_lload_n hx hb dX1_post_99 rfl (lv_at hl 2 rfl) ?_
      refine cM_this (Wd := RWd g0 g1 g2 g3 g4 g5 g6 cA cB) (ci := 1) (q0 := 0) (n := 4) (as := [.int 1, .int 0, .int a, .long v3]) (rest := []) ⟨hx, hb, hml, hown, hts⟩ (c_X1_turn l D g0 g1 g2 g3 g4 g5 g6 cA cB s12 1 0 a v3 (t_in hL13.1 (by simp only [List.length_append, List.length_nil, List.length_cons, pl_look, pl_put] <;> decide))) gX1_post_X1_turn rfl rfl rfl (by decide +kernel) ⟨Nat.le_of_ble_eq_true rfl, Nat.le_of_ble_eq_true rfl⟩ hK hP hD hS hA rfl rfl rfl hl.1 rfl rfl (Nat.le_of_ble_eq_true rfl) dX1_post_100 ⟨Nat.zero_le _, Nat.zero_le _⟩ (fun H locs hP hD hS => ?_)
      refine W.eq (g2 := F0 m 103 ls []) rfl ?_
      obtain ⟨s14, t14⟩ : ∃ y9 : RS, r_turn 1 0 a v3 s12 = y9 := ⟨_, rfl⟩
      replace hP : va_P D vwCl (RWd g0 g1 g2 g3 g4 g5 g6 cA cB s14) H := by rw [← t14]; exact hP
      replace hD : va_D A (RWd g0 g1 g2 g3 g4 g5 g6 cA cB s14) := by rw [← t14]; exact hD
      have hL15 : r_plan s14 ([] ++ [(0, r_place 0 a, 0)] ++ [(1, r_place 0 a, v3)]) := by clear hP hD hS; subst t10; subst t12; subst t14; exact plan_turn 1 0 a v3 hL13 (by simp only [List.length_append, List.length_nil, List.length_cons, pl_look, pl_put] <;> decide) in4_0 hc
      refine lv_aload_n hx hb dX1_post_103 rfl (lv_at hl 3 rfl) ?_
      refine cM_this (Wd := RWd g0 g1 g2 g3 g4 g5 g6 cA cB) (ci := 1) (q0 := 0) (n := 0) (as := []) (rest := []) ⟨hx, hb, hml, hown, hts⟩ (c_X1_works l D g0 g1 g2 g3 g4 g5 g6 cA cB s14 ([] ++ [(0, r_place 0 a, 0)] ++ [(1, r_place 0 a, v3)]) hL15) gX1_post_X1_works rfl rfl rfl (by decide +kernel) ⟨Nat.le_of_ble_eq_true rfl, Nat.le_of_ble_eq_true rfl⟩ hK hP hD hS hA rfl rfl rfl hl.1 rfl rfl (Nat.le_of_ble_eq_true rfl) dX1_post_104 ⟨Nat.zero_le _, Nat.zero_le _⟩ (fun H locs hP hD hS => ?_)
      obtain ⟨s16, t16⟩ : ∃ y9 : RS, (r_wk ([] ++ [(0, r_place 0 a, 0)] ++ [(1, r_place 0 a, v3)]) s14).2 = y9 := ⟨_, rfl⟩
      replace hP : va_P D vwCl (RWd g0 g1 g2 g3 g4 g5 g6 cA cB s16) H := by rw [← t16]; exact hP
      replace hD : va_D A (RWd g0 g1 g2 g3 g4 g5 g6 cA cB s16) := by rw [← t16]; exact hD
      refine tpi (fun v17 e17 => ?_)
      refine lv_if_ne (tgt := 115) hx hb dX1_post_107 (by decide) (fun c18 => ?_) (fun c18 => ?_)
      · refine lv_iload hx hb dX1_post_115 (lv_at hl 0 rfl) ?_
        refine lv_if_eq (tgt := 124) hx hb dX1_post_117 (by decide) (fun _ => ?_) (fun c0 => absurd c0 (by decide))
        refine lv_iconst (v := (-1)) hx hb dX1_post_124 (by decide) ?_
        have fin : r_post a k st = ((-1), s16) := by
          clear hP hD hS; subst e1; subst e3; subst e4; subst e5; subst e6; subst e7; subst e8; subst t10; subst t12; subst t14; subst t16; subst e17; simp only [r_post, r_postB, r_postAcc, r_end, r_zero, bI, c2, c9, c18, ↓reduceIte, not_true_eq_false, not_false_eq_true, and_self, and_true, true_and, and_false, false_and, eq_self, i10]
        exact cM_reti (Wd := RWd g0 g1 g2 g3 g4 g5 g6 cA cB) (st := s16) (st' := (r_post a k st).2) hx hb hr hlocks dX1_post_125 hS hP hD (congrArg Prod.fst fin).symm (congrArg Prod.snd fin).symm
      · refine lv_bipush (v := (-2)) hx hb dX1_post_110 (by decide) ?_
        refine lv_goto (tgt := 125) hx hb dX1_post_112 (by decide) ?_
        have fin : r_post a k st = ((-2), s16) := by
          clear hP hD hS; subst e1; subst e3; subst e4; subst e5; subst e6; subst e7; subst e8; subst t10; subst t12; subst t14; subst t16; subst e17; simp only [r_post, r_postB, r_postAcc, r_end, r_zero, bI, c2, c9, c18, ↓reduceIte, not_true_eq_false, not_false_eq_true, and_self, and_true, true_and, and_false, false_and, eq_self, i10]
        exact cM_reti (Wd := RWd g0 g1 g2 g3 g4 g5 g6 cA cB) (st := s16) (st' := (r_post a k st).2) hx hb hr hlocks dX1_post_125 hS hP hD (congrArg Prod.fst fin).symm (congrArg Prod.snd fin).symm
    · refine lv_lload_n hx hb dX1_post_33 rfl (lv_at hl 1 rfl) ?_
      refine cS_call (n := 1) (as := [.long v3]) (rest := []) ⟨hx, hb, hml, hown, hts⟩ (c_X1_numberOf l v3) gX1_post_X1_numberOf rfl rfl rfl (by decide +kernel) ⟨Nat.le_of_ble_eq_true rfl, Nat.le_of_ble_eq_true rfl⟩ hl.1 rfl rfl (Nat.le_of_ble_eq_true rfl) dX1_post_34 ⟨Nat.zero_le _, Nat.zero_le _⟩ ?_
      refine tpi (fun v19 e19 => ?_)
      refine lv_ldc (v := 16777215) hx hb hown (hts (.constant RX1 106 16777215) (by decide +kernel)) dX1_post_37 ?_
      refine lv_icmp_ge (tgt := 54) hx hb dX1_post_39 (by decide) (fun c20 => ?_) (fun c20 => ?_)
      · refine lv_iconst (v := 0) hx hb dX1_post_54 (by decide) ?_
        refine lv_istore (lv' := [(7, .int 0), (5, .long v7), (3, .long v3), (0, .ref g0), (1, .int a), (2, .int k)]) hx hb dX1_post_55 hl (by decide) rfl (fun ls hl => ?_)
        refine lv_aload_n hx hb dX1_post_57 rfl (lv_at hl 3 rfl) ?_
        refine lv_iconst (v := 0) hx hb dX1_post_58 (by decide) ?_
        refine va_put (D := D) (ci := 1) (v := .int 0) (ty := .int) (C := RX1) (T := TX1) (N := 11) hx hb hts (by decide +kernel) tyX1 tyX1_ok nmX1 hown hK hP hD hS 0 rfl rfl 9 (by decide) (hts (.fieldLink RX1 63 "FadeLedgerModel" "turns" "I") (by decide +kernel)) (fun _ h9 => h9) rfl (by decide +kernel) rfl rfl (Nat.le_of_ble_eq_true rfl) dX1_post_59 (fun H locs hP hD hS => ?_)
        obtain ⟨s21, t21⟩ : ∃ y9 : RS, ((st.1, st.2.1, st.2.2.1, st.2.2.2.1, 0, st.2.2.2.2.2) : RS) = y9 := ⟨_, rfl⟩
        replace hP : va_P D vwCl (RWd g0 g1 g2 g3 g4 g5 g6 cA cB s21) H := by rw [← t21]; exact hP
        replace hD : va_D A (RWd g0 g1 g2 g3 g4 g5 g6 cA cB s21) := by rw [← t21]; exact hD
        have hL22 : r_plan s21 [] := by rw [← t21]; exact plan_zero _
        refine lv_aload_n hx hb dX1_post_62 rfl (lv_at hl 3 rfl) ?_
        refine lv_iconst (v := 0) hx hb dX1_post_63 (by decide) ?_
        refine lv_iconst (v := 0) hx hb dX1_post_64 (by decide) ?_
        refine lv_iload_n hx hb dX1_post_65 rfl (lv_at hl 4 rfl) ?_
        refine lv_lconst (v := 0) hx hb dX1_post_66 (by decide) ?_
        refine cM_this (Wd := RWd g0 g1 g2 g3 g4 g5 g6 cA cB) (ci := 1) (q0 := 0) (n := 4) (as := [.int 0, .int 0, .int a, .long 0]) (rest := []) ⟨hx, hb, hml, hown, hts⟩ (c_X1_turn l D g0 g1 g2 g3 g4 g5 g6 cA cB s21 0 0 a 0 (t_in hL22.1 (by simp only [List.length_append, List.length_nil, List.length_cons, pl_look, pl_put] <;> decide))) gX1_post_X1_turn rfl rfl rfl (by decide +kernel) ⟨Nat.le_of_ble_eq_true rfl, Nat.le_of_ble_eq_true rfl⟩ hK hP hD hS hA rfl rfl rfl hl.1 rfl rfl (Nat.le_of_ble_eq_true rfl) dX1_post_67 ⟨Nat.zero_le _, Nat.zero_le _⟩ (fun H locs hP hD hS => ?_)
        refine W.eq (g2 := F0 m 70 ls []) rfl ?_
        obtain ⟨s23, t23⟩ : ∃ y9 : RS, r_turn 0 0 a 0 s21 = y9 := ⟨_, rfl⟩
        replace hP : va_P D vwCl (RWd g0 g1 g2 g3 g4 g5 g6 cA cB s23) H := by rw [← t23]; exact hP
        replace hD : va_D A (RWd g0 g1 g2 g3 g4 g5 g6 cA cB s23) := by rw [← t23]; exact hD
        have hL24 : r_plan s23 ([] ++ [(0, r_place 0 a, 0)]) := by clear hP hD hS; subst t21; subst t23; exact plan_turn 0 0 a 0 hL22 (by simp only [List.length_append, List.length_nil, List.length_cons, pl_look, pl_put] <;> decide) in4_0 hc
        refine lv_iload hx hb dX1_post_70 (lv_at hl 0 rfl) ?_
        refine lv_if_eq (tgt := 95) hx hb dX1_post_72 (by decide) (fun _ => ?_) (fun c0 => absurd c0 (by decide))
        refine lv_aload_n hx hb dX1_post_95 rfl (lv_at hl 3 rfl) ?_
        refine lv_iconst (v := 1) hx hb dX1_post_96 (by decide) ?_
        refine lv_iconst (v := 0) hx hb dX1_post_97 (by decide) ?_
        refine lv_iload_n hx hb dX1_post_98 rfl (lv_at hl 4 rfl) ?_
        refine lv_lload_n hx hb dX1_post_99 rfl (lv_at hl 2 rfl) ?_
        refine cM_this (Wd := RWd g0 g1 g2 g3 g4 g5 g6 cA cB) (ci := 1) (q0 := 0) (n := 4) (as := [.int 1, .int 0, .int a, .long v3]) (rest := []) ⟨hx, hb, hml, hown, hts⟩ (c_X1_turn l D g0 g1 g2 g3 g4 g5 g6 cA cB s23 1 0 a v3 (t_in hL24.1 (by simp only [List.length_append, List.length_nil, List.length_cons, pl_look, pl_put] <;> decide))) gX1_post_X1_turn rfl rfl rfl (by decide +kernel) ⟨Nat.le_of_ble_eq_true rfl, Nat.le_of_ble_eq_true rfl⟩ hK hP hD hS hA rfl rfl rfl hl.1 rfl rfl (Nat.le_of_ble_eq_true rfl) dX1_post_100 ⟨Nat.zero_le _, Nat.zero_le _⟩ (fun H locs hP hD hS => ?_)
        refine W.eq (g2 := F0 m 103 ls []) rfl ?_
        obtain ⟨s25, t25⟩ : ∃ y9 : RS, r_turn 1 0 a v3 s23 = y9 := ⟨_, rfl⟩
        replace hP : va_P D vwCl (RWd g0 g1 g2 g3 g4 g5 g6 cA cB s25) H := by rw [← t25]; exact hP
        replace hD : va_D A (RWd g0 g1 g2 g3 g4 g5 g6 cA cB s25) := by rw [← t25]; exact hD
        have hL26 : r_plan s25 ([] ++ [(0, r_place 0 a, 0)] ++ [(1, r_place 0 a, v3)]) := by clear hP hD hS; subst t21; subst t23; subst t25; exact plan_turn 1 0 a v3 hL24 (by simp only [List.length_append, List.length_nil, List.length_cons, pl_look, pl_put] <;> decide) in4_0 hc
        refine lv_aload_n hx hb dX1_post_103 rfl (lv_at hl 3 rfl) ?_
        refine cM_this (Wd := RWd g0 g1 g2 g3 g4 g5 g6 cA cB) (ci := 1) (q0 := 0) (n := 0) (as := []) (rest := []) ⟨hx, hb, hml, hown, hts⟩ (c_X1_works l D g0 g1 g2 g3 g4 g5 g6 cA cB s25 ([] ++ [(0, r_place 0 a, 0)] ++ [(1, r_place 0 a, v3)]) hL26) gX1_post_X1_works rfl rfl rfl (by decide +kernel) ⟨Nat.le_of_ble_eq_true rfl, Nat.le_of_ble_eq_true rfl⟩ hK hP hD hS hA rfl rfl rfl hl.1 rfl rfl (Nat.le_of_ble_eq_true rfl) dX1_post_104 ⟨Nat.zero_le _, Nat.zero_le _⟩ (fun H locs hP hD hS => ?_)
        obtain ⟨s27, t27⟩ : ∃ y9 : RS, (r_wk ([] ++ [(0, r_place 0 a, 0)] ++ [(1, r_place 0 a, v3)]) s25).2 = y9 := ⟨_, rfl⟩
        replace hP : va_P D vwCl (RWd g0 g1 g2 g3 g4 g5 g6 cA cB s27) H := by rw [← t27]; exact hP
        replace hD : va_D A (RWd g0 g1 g2 g3 g4 g5 g6 cA cB s27) := by rw [← t27]; exact hD
        refine tpi (fun v28 e28 => ?_)
        refine lv_if_ne (tgt := 115) hx hb dX1_post_107 (by decide) (fun c29 => ?_) (fun c29 => ?_)
        · refine lv_iload hx hb dX1_post_115 (lv_at hl 0 rfl) ?_
          refine lv_if_eq (tgt := 124) hx hb dX1_post_117 (by decide) (fun _ => ?_) (fun c0 => absurd c0 (by decide))
          refine lv_iconst (v := (-1)) hx hb dX1_post_124 (by decide) ?_
          have fin : r_post a k st = ((-1), s27) := by
            clear hP hD hS; subst e1; subst e3; subst e4; subst e5; subst e6; subst e7; subst e8; subst e19; subst t21; subst t23; subst t25; subst t27; subst e28; simp only [r_post, r_postB, r_postAcc, r_end, r_zero, bI, c2, c9, c20, c29, ↓reduceIte, not_true_eq_false, not_false_eq_true, and_self, and_true, true_and, and_false, false_and, eq_self, i10]
          exact cM_reti (Wd := RWd g0 g1 g2 g3 g4 g5 g6 cA cB) (st := s27) (st' := (r_post a k st).2) hx hb hr hlocks dX1_post_125 hS hP hD (congrArg Prod.fst fin).symm (congrArg Prod.snd fin).symm
        · refine lv_bipush (v := (-2)) hx hb dX1_post_110 (by decide) ?_
          refine lv_goto (tgt := 125) hx hb dX1_post_112 (by decide) ?_
          have fin : r_post a k st = ((-2), s27) := by
            clear hP hD hS; subst e1; subst e3; subst e4; subst e5; subst e6; subst e7; subst e8; subst e19; subst t21; subst t23; subst t25; subst t27; subst e28; simp only [r_post, r_postB, r_postAcc, r_end, r_zero, bI, c2, c9, c20, c29, ↓reduceIte, not_true_eq_false, not_false_eq_true, and_self, and_true, true_and, and_false, false_and, eq_self, i10]
          exact cM_reti (Wd := RWd g0 g1 g2 g3 g4 g5 g6 cA cB) (st := s27) (st' := (r_post a k st).2) hx hb hr hlocks dX1_post_125 hS hP hD (congrArg Prod.fst fin).symm (congrArg Prod.snd fin).symm
      · refine lv_lload hx hb dX1_post_42 (lv_at hl 0 rfl) ?_
        refine cS_call (n := 1) (as := [.long v7]) (rest := []) ⟨hx, hb, hml, hown, hts⟩ (c_X1_isInt l v7) gX1_post_X1_isInt rfl rfl rfl (by decide +kernel) ⟨Nat.le_of_ble_eq_true rfl, Nat.le_of_ble_eq_true rfl⟩ hl.1 rfl rfl (Nat.le_of_ble_eq_true rfl) dX1_post_44 ⟨Nat.zero_le _, Nat.zero_le _⟩ ?_
        refine tpi (fun v30 e30 => ?_)
        refine lv_if_eq (tgt := 54) hx hb dX1_post_47 (by decide) (fun c31 => ?_) (fun c31 => ?_)
        · refine lv_iconst (v := 0) hx hb dX1_post_54 (by decide) ?_
          refine lv_istore (lv' := [(7, .int 0), (5, .long v7), (3, .long v3), (0, .ref g0), (1, .int a), (2, .int k)]) hx hb dX1_post_55 hl (by decide) rfl (fun ls hl => ?_)
          refine lv_aload_n hx hb dX1_post_57 rfl (lv_at hl 3 rfl) ?_
          refine lv_iconst (v := 0) hx hb dX1_post_58 (by decide) ?_
          refine va_put (D := D) (ci := 1) (v := .int 0) (ty := .int) (C := RX1) (T := TX1) (N := 11) hx hb hts (by decide +kernel) tyX1 tyX1_ok nmX1 hown hK hP hD hS 0 rfl rfl 9 (by decide) (hts (.fieldLink RX1 63 "FadeLedgerModel" "turns" "I") (by decide +kernel)) (fun _ h9 => h9) rfl (by decide +kernel) rfl rfl (Nat.le_of_ble_eq_true rfl) dX1_post_59 (fun H locs hP hD hS => ?_)
          obtain ⟨s32, t32⟩ : ∃ y9 : RS, ((st.1, st.2.1, st.2.2.1, st.2.2.2.1, 0, st.2.2.2.2.2) : RS) = y9 := ⟨_, rfl⟩
          replace hP : va_P D vwCl (RWd g0 g1 g2 g3 g4 g5 g6 cA cB s32) H := by rw [← t32]; exact hP
          replace hD : va_D A (RWd g0 g1 g2 g3 g4 g5 g6 cA cB s32) := by rw [← t32]; exact hD
          have hL33 : r_plan s32 [] := by rw [← t32]; exact plan_zero _
          refine lv_aload_n hx hb dX1_post_62 rfl (lv_at hl 3 rfl) ?_
          refine lv_iconst (v := 0) hx hb dX1_post_63 (by decide) ?_
          refine lv_iconst (v := 0) hx hb dX1_post_64 (by decide) ?_
          refine lv_iload_n hx hb dX1_post_65 rfl (lv_at hl 4 rfl) ?_
          refine lv_lconst (v := 0) hx hb dX1_post_66 (by decide) ?_
          refine cM_this (Wd := RWd g0 g1 g2 g3 g4 g5 g6 cA cB) (ci := 1) (q0 := 0) (n := 4) (as := [.int 0, .int 0, .int a, .long 0]) (rest := []) ⟨hx, hb, hml, hown, hts⟩ (c_X1_turn l D g0 g1 g2 g3 g4 g5 g6 cA cB s32 0 0 a 0 (t_in hL33.1 (by simp only [List.length_append, List.length_nil, List.length_cons, pl_look, pl_put] <;> decide))) gX1_post_X1_turn rfl rfl rfl (by decide +kernel) ⟨Nat.le_of_ble_eq_true rfl, Nat.le_of_ble_eq_true rfl⟩ hK hP hD hS hA rfl rfl rfl hl.1 rfl rfl (Nat.le_of_ble_eq_true rfl) dX1_post_67 ⟨Nat.zero_le _, Nat.zero_le _⟩ (fun H locs hP hD hS => ?_)
          refine W.eq (g2 := F0 m 70 ls []) rfl ?_
          obtain ⟨s34, t34⟩ : ∃ y9 : RS, r_turn 0 0 a 0 s32 = y9 := ⟨_, rfl⟩
          replace hP : va_P D vwCl (RWd g0 g1 g2 g3 g4 g5 g6 cA cB s34) H := by rw [← t34]; exact hP
          replace hD : va_D A (RWd g0 g1 g2 g3 g4 g5 g6 cA cB s34) := by rw [← t34]; exact hD
          have hL35 : r_plan s34 ([] ++ [(0, r_place 0 a, 0)]) := by clear hP hD hS; subst t32; subst t34; exact plan_turn 0 0 a 0 hL33 (by simp only [List.length_append, List.length_nil, List.length_cons, pl_look, pl_put] <;> decide) in4_0 hc
          refine lv_iload hx hb dX1_post_70 (lv_at hl 0 rfl) ?_
          refine lv_if_eq (tgt := 95) hx hb dX1_post_72 (by decide) (fun _ => ?_) (fun c0 => absurd c0 (by decide))
          refine lv_aload_n hx hb dX1_post_95 rfl (lv_at hl 3 rfl) ?_
          refine lv_iconst (v := 1) hx hb dX1_post_96 (by decide) ?_
          refine lv_iconst (v := 0) hx hb dX1_post_97 (by decide) ?_
          refine lv_iload_n hx hb dX1_post_98 rfl (lv_at hl 4 rfl) ?_
          refine lv_lload_n hx hb dX1_post_99 rfl (lv_at hl 2 rfl) ?_
          refine cM_this (Wd := RWd g0 g1 g2 g3 g4 g5 g6 cA cB) (ci := 1) (q0 := 0) (n := 4) (as := [.int 1, .int 0, .int a, .long v3]) (rest := []) ⟨hx, hb, hml, hown, hts⟩ (c_X1_turn l D g0 g1 g2 g3 g4 g5 g6 cA cB s34 1 0 a v3 (t_in hL35.1 (by simp only [List.length_append, List.length_nil, List.length_cons, pl_look, pl_put] <;> decide))) gX1_post_X1_turn rfl rfl rfl (by decide +kernel) ⟨Nat.le_of_ble_eq_true rfl, Nat.le_of_ble_eq_true rfl⟩ hK hP hD hS hA rfl rfl rfl hl.1 rfl rfl (Nat.le_of_ble_eq_true rfl) dX1_post_100 ⟨Nat.zero_le _, Nat.zero_le _⟩ (fun H locs hP hD hS => ?_)
          refine W.eq (g2 := F0 m 103 ls []) rfl ?_
          obtain ⟨s36, t36⟩ : ∃ y9 : RS, r_turn 1 0 a v3 s34 = y9 := ⟨_, rfl⟩
          replace hP : va_P D vwCl (RWd g0 g1 g2 g3 g4 g5 g6 cA cB s36) H := by rw [← t36]; exact hP
          replace hD : va_D A (RWd g0 g1 g2 g3 g4 g5 g6 cA cB s36) := by rw [← t36]; exact hD
          have hL37 : r_plan s36 ([] ++ [(0, r_place 0 a, 0)] ++ [(1, r_place 0 a, v3)]) := by clear hP hD hS; subst t32; subst t34; subst t36; exact plan_turn 1 0 a v3 hL35 (by simp only [List.length_append, List.length_nil, List.length_cons, pl_look, pl_put] <;> decide) in4_0 hc
          refine lv_aload_n hx hb dX1_post_103 rfl (lv_at hl 3 rfl) ?_
          refine cM_this (Wd := RWd g0 g1 g2 g3 g4 g5 g6 cA cB) (ci := 1) (q0 := 0) (n := 0) (as := []) (rest := []) ⟨hx, hb, hml, hown, hts⟩ (c_X1_works l D g0 g1 g2 g3 g4 g5 g6 cA cB s36 ([] ++ [(0, r_place 0 a, 0)] ++ [(1, r_place 0 a, v3)]) hL37) gX1_post_X1_works rfl rfl rfl (by decide +kernel) ⟨Nat.le_of_ble_eq_true rfl, Nat.le_of_ble_eq_true rfl⟩ hK hP hD hS hA rfl rfl rfl hl.1 rfl rfl (Nat.le_of_ble_eq_true rfl) dX1_post_104 ⟨Nat.zero_le _, Nat.zero_le _⟩ (fun H locs hP hD hS => ?_)
          obtain ⟨s38, t38⟩ : ∃ y9 : RS, (r_wk ([] ++ [(0, r_place 0 a, 0)] ++ [(1, r_place 0 a, v3)]) s36).2 = y9 := ⟨_, rfl⟩
          replace hP : va_P D vwCl (RWd g0 g1 g2 g3 g4 g5 g6 cA cB s38) H := by rw [← t38]; exact hP
          replace hD : va_D A (RWd g0 g1 g2 g3 g4 g5 g6 cA cB s38) := by rw [← t38]; exact hD
          refine tpi (fun v39 e39 => ?_)
          refine lv_if_ne (tgt := 115) hx hb dX1_post_107 (by decide) (fun c40 => ?_) (fun c40 => ?_)
          · refine lv_iload hx hb dX1_post_115 (lv_at hl 0 rfl) ?_
            refine lv_if_eq (tgt := 124) hx hb dX1_post_117 (by decide) (fun _ => ?_) (fun c0 => absurd c0 (by decide))
            refine lv_iconst (v := (-1)) hx hb dX1_post_124 (by decide) ?_
            have fin : r_post a k st = ((-1), s38) := by
              clear hP hD hS; subst e1; subst e3; subst e4; subst e5; subst e6; subst e7; subst e8; subst e19; subst e30; subst t32; subst t34; subst t36; subst t38; subst e39; simp only [r_post, r_postB, r_postAcc, r_end, r_zero, bI, c2, c9, c20, c31, c40, ↓reduceIte, not_true_eq_false, not_false_eq_true, and_self, and_true, true_and, and_false, false_and, eq_self, i10]
            exact cM_reti (Wd := RWd g0 g1 g2 g3 g4 g5 g6 cA cB) (st := s38) (st' := (r_post a k st).2) hx hb hr hlocks dX1_post_125 hS hP hD (congrArg Prod.fst fin).symm (congrArg Prod.snd fin).symm
          · refine lv_bipush (v := (-2)) hx hb dX1_post_110 (by decide) ?_
            refine lv_goto (tgt := 125) hx hb dX1_post_112 (by decide) ?_
            have fin : r_post a k st = ((-2), s38) := by
              clear hP hD hS; subst e1; subst e3; subst e4; subst e5; subst e6; subst e7; subst e8; subst e19; subst e30; subst t32; subst t34; subst t36; subst t38; subst e39; simp only [r_post, r_postB, r_postAcc, r_end, r_zero, bI, c2, c9, c20, c31, c40, ↓reduceIte, not_true_eq_false, not_false_eq_true, and_self, and_true, true_and, and_false, false_and, eq_self, i10]
            exact cM_reti (Wd := RWd g0 g1 g2 g3 g4 g5 g6 cA cB) (st := s38) (st' := (r_post a k st).2) hx hb hr hlocks dX1_post_125 hS hP hD (congrArg Prod.fst fin).symm (congrArg Prod.snd fin).symm
        · refine lv_iconst (v := 1) hx hb dX1_post_50 (by decide) ?_
          refine lv_goto (tgt := 55) hx hb dX1_post_51 (by decide) ?_
          refine lv_istore (lv' := [(7, .int 1), (5, .long v7), (3, .long v3), (0, .ref g0), (1, .int a), (2, .int k)]) hx hb dX1_post_55 hl (by decide) rfl (fun ls hl => ?_)
          refine lv_aload_n hx hb dX1_post_57 rfl (lv_at hl 3 rfl) ?_
          refine lv_iconst (v := 0) hx hb dX1_post_58 (by decide) ?_
          refine va_put (D := D) (ci := 1) (v := .int 0) (ty := .int) (C := RX1) (T := TX1) (N := 11) hx hb hts (by decide +kernel) tyX1 tyX1_ok nmX1 hown hK hP hD hS 0 rfl rfl 9 (by decide) (hts (.fieldLink RX1 63 "FadeLedgerModel" "turns" "I") (by decide +kernel)) (fun _ h9 => h9) rfl (by decide +kernel) rfl rfl (Nat.le_of_ble_eq_true rfl) dX1_post_59 (fun H locs hP hD hS => ?_)
          obtain ⟨s41, t41⟩ : ∃ y9 : RS, ((st.1, st.2.1, st.2.2.1, st.2.2.2.1, 0, st.2.2.2.2.2) : RS) = y9 := ⟨_, rfl⟩
          replace hP : va_P D vwCl (RWd g0 g1 g2 g3 g4 g5 g6 cA cB s41) H := by rw [← t41]; exact hP
          replace hD : va_D A (RWd g0 g1 g2 g3 g4 g5 g6 cA cB s41) := by rw [← t41]; exact hD
          have hL42 : r_plan s41 [] := by rw [← t41]; exact plan_zero _
          refine lv_aload_n hx hb dX1_post_62 rfl (lv_at hl 3 rfl) ?_
          refine lv_iconst (v := 0) hx hb dX1_post_63 (by decide) ?_
          refine lv_iconst (v := 0) hx hb dX1_post_64 (by decide) ?_
          refine lv_iload_n hx hb dX1_post_65 rfl (lv_at hl 4 rfl) ?_
          refine lv_lconst (v := 0) hx hb dX1_post_66 (by decide) ?_
          refine cM_this (Wd := RWd g0 g1 g2 g3 g4 g5 g6 cA cB) (ci := 1) (q0 := 0) (n := 4) (as := [.int 0, .int 0, .int a, .long 0]) (rest := []) ⟨hx, hb, hml, hown, hts⟩ (c_X1_turn l D g0 g1 g2 g3 g4 g5 g6 cA cB s41 0 0 a 0 (t_in hL42.1 (by simp only [List.length_append, List.length_nil, List.length_cons, pl_look, pl_put] <;> decide))) gX1_post_X1_turn rfl rfl rfl (by decide +kernel) ⟨Nat.le_of_ble_eq_true rfl, Nat.le_of_ble_eq_true rfl⟩ hK hP hD hS hA rfl rfl rfl hl.1 rfl rfl (Nat.le_of_ble_eq_true rfl) dX1_post_67 ⟨Nat.zero_le _, Nat.zero_le _⟩ (fun H locs hP hD hS => ?_)
          refine W.eq (g2 := F0 m 70 ls []) rfl ?_
          obtain ⟨s43, t43⟩ : ∃ y9 : RS, r_turn 0 0 a 0 s41 = y9 := ⟨_, rfl⟩
          replace hP : va_P D vwCl (RWd g0 g1 g2 g3 g4 g5 g6 cA cB s43) H := by rw [← t43]; exact hP
          replace hD : va_D A (RWd g0 g1 g2 g3 g4 g5 g6 cA cB s43) := by rw [← t43]; exact hD
          have hL44 : r_plan s43 ([] ++ [(0, r_place 0 a, 0)]) := by clear hP hD hS; subst t41; subst t43; exact plan_turn 0 0 a 0 hL42 (by simp only [List.length_append, List.length_nil, List.length_cons, pl_look, pl_put] <;> decide) in4_0 hc
          refine lv_iload hx hb dX1_post_70 (lv_at hl 0 rfl) ?_
          refine lv_if_eq (tgt := 95) hx hb dX1_post_72 (by decide) (fun c0 => absurd c0 (by decide)) (fun _ => ?_)
          refine lv_aload_n hx hb dX1_post_75 rfl (lv_at hl 3 rfl) ?_
          refine lv_iload_n hx hb dX1_post_76 rfl (lv_at hl 4 rfl) ?_
          refine lv_lload hx hb dX1_post_77 (lv_at hl 1 rfl) ?_
          refine lv_l2i hx hb dX1_post_79 rfl ?_
          refine tpi (fun v45 e45 => ?_)
          refine lv_lload_n hx hb dX1_post_80 rfl (lv_at hl 2 rfl) ?_
          refine cS_call (n := 1) (as := [.long v3]) (rest := [.int v45, .int a, .ref g0]) ⟨hx, hb, hml, hown, hts⟩ (c_X1_numberOf l v3) gX1_post_X1_numberOf rfl rfl rfl (by decide +kernel) ⟨Nat.le_of_ble_eq_true rfl, Nat.le_of_ble_eq_true rfl⟩ hl.1 rfl rfl (Nat.le_of_ble_eq_true rfl) dX1_post_81 ⟨Nat.zero_le _, Nat.zero_le _⟩ ?_
          refine tpi (fun v46 e46 => ?_)
          refine lv_iconst (v := 1) hx hb dX1_post_84 (by decide) ?_
          refine lv_iadd hx hb dX1_post_85 ?_
          refine tpi (fun v47 e47 => ?_)
          refine cS_call (n := 2) (as := [.int v45, .int v47]) (rest := [.int a, .ref g0]) ⟨hx, hb, hml, hown, hts⟩ (c_X1_wordOf l v45 v47) gX1_post_X1_wordOf rfl rfl rfl (by decide +kernel) ⟨Nat.le_of_ble_eq_true rfl, Nat.le_of_ble_eq_true rfl⟩ hl.1 rfl rfl (Nat.le_of_ble_eq_true rfl) dX1_post_86 ⟨Nat.zero_le _, Nat.zero_le _⟩ ?_
          refine tpl (fun v48 e48 => ?_)
          refine cM_this (Wd := RWd g0 g1 g2 g3 g4 g5 g6 cA cB) (ci := 1) (q0 := 0) (n := 2) (as := [.int a, .long v48]) (rest := []) ⟨hx, hb, hml, hown, hts⟩ (c_X1_putAll l D g0 g1 g2 g3 g4 g5 g6 cA cB s43 a v48 _ hL44.1 (by simp only [List.length_append, List.length_nil, List.length_cons, pl_look, pl_put] <;> decide)) gX1_post_X1_putAll rfl rfl rfl (by decide +kernel) ⟨Nat.le_of_ble_eq_true rfl, Nat.le_of_ble_eq_true rfl⟩ hK hP hD hS hA rfl rfl rfl hl.1 rfl rfl (Nat.le_of_ble_eq_true rfl) dX1_post_89 ⟨Nat.zero_le _, Nat.zero_le _⟩ (fun H locs hP hD hS => ?_)
          refine W.eq (g2 := F0 m 92 ls []) rfl ?_
          obtain ⟨s49, t49⟩ : ∃ y9 : RS, r_put a v48 s43 = y9 := ⟨_, rfl⟩
          replace hP : va_P D vwCl (RWd g0 g1 g2 g3 g4 g5 g6 cA cB s49) H := by rw [← t49]; exact hP
          replace hD : va_D A (RWd g0 g1 g2 g3 g4 g5 g6 cA cB s49) := by rw [← t49]; exact hD
          have hL50 : r_plan s49 ([] ++ [(0, r_place 0 a, 0)] ++ p_put a v48) := by clear hP hD hS; subst t41; subst t43; subst t49; exact plan_put a v48 hL44 (by simp only [List.length_append, List.length_nil, List.length_cons, pl_look, pl_put] <;> decide) hc
          refine lv_goto (tgt := 103) hx hb dX1_post_92 (by decide) ?_
          refine lv_aload_n hx hb dX1_post_103 rfl (lv_at hl 3 rfl) ?_
          refine cM_this (Wd := RWd g0 g1 g2 g3 g4 g5 g6 cA cB) (ci := 1) (q0 := 0) (n := 0) (as := []) (rest := []) ⟨hx, hb, hml, hown, hts⟩ (c_X1_works l D g0 g1 g2 g3 g4 g5 g6 cA cB s49 ([] ++ [(0, r_place 0 a, 0)] ++ p_put a v48) hL50) gX1_post_X1_works rfl rfl rfl (by decide +kernel) ⟨Nat.le_of_ble_eq_true rfl, Nat.le_of_ble_eq_true rfl⟩ hK hP hD hS hA rfl rfl rfl hl.1 rfl rfl (Nat.le_of_ble_eq_true rfl) dX1_post_104 ⟨Nat.zero_le _, Nat.zero_le _⟩ (fun H locs hP hD hS => ?_)
          obtain ⟨s51, t51⟩ : ∃ y9 : RS, (r_wk ([] ++ [(0, r_place 0 a, 0)] ++ p_put a v48) s49).2 = y9 := ⟨_, rfl⟩
          replace hP : va_P D vwCl (RWd g0 g1 g2 g3 g4 g5 g6 cA cB s51) H := by rw [← t51]; exact hP
          replace hD : va_D A (RWd g0 g1 g2 g3 g4 g5 g6 cA cB s51) := by rw [← t51]; exact hD
          refine tpi (fun v52 e52 => ?_)
          refine lv_if_ne (tgt := 115) hx hb dX1_post_107 (by decide) (fun c53 => ?_) (fun c53 => ?_)
          · refine lv_iload hx hb dX1_post_115 (lv_at hl 0 rfl) ?_
            refine lv_if_eq (tgt := 124) hx hb dX1_post_117 (by decide) (fun c0 => absurd c0 (by decide)) (fun _ => ?_)
            refine lv_iconst (v := 1) hx hb dX1_post_120 (by decide) ?_
            refine lv_goto (tgt := 125) hx hb dX1_post_121 (by decide) ?_
            have fin : r_post a k st = (1, s51) := by
              clear hP hD hS; subst e1; subst e3; subst e4; subst e5; subst e6; subst e7; subst e8; subst e19; subst e30; subst t41; subst t43; subst e45; subst e46; subst e47; subst e48; subst t49; subst t51; subst e52; simp only [r_post, r_postB, r_postAcc, r_end, r_zero, bI, c2, c9, c20, c31, c53, ↓reduceIte, not_true_eq_false, not_false_eq_true, and_self, and_true, true_and, and_false, false_and, eq_self, i10]
            exact cM_reti (Wd := RWd g0 g1 g2 g3 g4 g5 g6 cA cB) (st := s51) (st' := (r_post a k st).2) hx hb hr hlocks dX1_post_125 hS hP hD (congrArg Prod.fst fin).symm (congrArg Prod.snd fin).symm
          · refine lv_bipush (v := (-2)) hx hb dX1_post_110 (by decide) ?_
            refine lv_goto (tgt := 125) hx hb dX1_post_112 (by decide) ?_
            have fin : r_post a k st = ((-2), s51) := by
              clear hP hD hS; subst e1; subst e3; subst e4; subst e5; subst e6; subst e7; subst e8; subst e19; subst e30; subst t41; subst t43; subst e45; subst e46; subst e47; subst e48; subst t49; subst t51; subst e52; simp only [r_post, r_postB, r_postAcc, r_end, r_zero, bI, c2, c9, c20, c31, c53, ↓reduceIte, not_true_eq_false, not_false_eq_true, and_self, and_true, true_and, and_false, false_and, eq_self, i10]
            exact cM_reti (Wd := RWd g0 g1 g2 g3 g4 g5 g6 cA cB) (st := s51) (st' := (r_post a k st).2) hx hb hr hlocks dX1_post_125 hS hP hD (congrArg Prod.fst fin).symm (congrArg Prod.snd fin).symm
  · refine lv_iconst (v := (-1)) hx hb dX1_post_7 (by decide) ?_
    have fin : r_post a k st = ((-1), st) := by
      clear hP hD hS; subst e1; simp only [r_post, r_postB, r_postAcc, r_end, r_zero, bI, c2, ↓reduceIte, not_true_eq_false, not_false_eq_true, and_self, and_true, true_and, and_false, false_and, eq_self, i10]
    exact cM_reti (Wd := RWd g0 g1 g2 g3 g4 g5 g6 cA cB) (st := st) (st' := (r_post a k st).2) hx hb hr hlocks dX1_post_8 hS hP hD (congrArg Prod.fst fin).symm (congrArg Prod.snd fin).symm
abbrev rmX1_number : Room := { frames := 2, cells := 0, slots := 0, locals := 46 }
-- number
set_option maxHeartbeats 400000 in
set_option maxRecDepth 100000 in
theorem c_X1_number (l : Launch) (D : va_G) (g0 g1 g2 g3 g4 g5 g6 : Nat) (cA cB : ClassId) (st : RS) (a : Int32)  : cM l D vwCl (FT cA cB) (RWd g0 g1 g2 g3 g4 g5 g6 cA cB) yX1_number wsX1_number rmX1_number [.ref g0, .int a] st (some (.int (r_number a st).1)) (r_number a st).2 := by
  refine cM_in (cc := cX1_number) (maxL := 4) (ret := (some .int)) (by decide) rfl (Nat.le_of_ble_eq_true rfl) ?_
  intro p e s m below meth c ls A hx hb hr hlocks hml hown hts hA hK hP hD hS hl
  have hown : s.vm.findClass RX1 = some m.cls := hown
  have hl : lv_has ls 4 [(0, .ref g0), (1, .int a)] := hl
  -- walk
  refine lv_iload_n hx hb dX1_number_0 rfl (lv_at hl 1 rfl) ?_
  refine cS_call (n := 1) (as := [.int a]) (rest := []) ⟨hx, hb, hml, hown, hts⟩ (c_X1_isAccount l a) gX1_number_X1_isAccount rfl rfl rfl (by decide +kernel) ⟨Nat.le_of_ble_eq_true rfl, Nat.le_of_ble_eq_true rfl⟩ hl.1 rfl rfl (Nat.le_of_ble_eq_true rfl) dX1_number_1 ⟨Nat.zero_le _, Nat.zero_le _⟩ ?_
  refine tpi (fun v1 e1 => ?_)
  refine lv_if_ne (tgt := 9) hx hb dX1_number_4 (by decide) (fun c2 => ?_) (fun c2 => ?_)
  · have hc : vp_in a 20 := acct_in20 (by rw [e1]; exact c2)
    refine lv_aload_n hx hb dX1_number_9 rfl (lv_at hl 0 rfl) ?_
    refine va_get (D := D) (ci := 1) (v := .ref g1) (C := RX1) (T := TX1) (N := 11) hx hb hts (by decide +kernel) hown hK hP 0 rfl rfl 0 (by decide) (hts (.fieldLink RX1 7 "FadeLedgerModel" "words" "[J") (by decide +kernel)) (fun _ h9 => h9) rfl dX1_number_10 ?_
    refine lv_iload_n hx hb dX1_number_13 rfl (lv_at hl 1 rfl) ?_
    refine va_lald hx hb hK hP 1 0 rfl rfl (in_up hc (by decide)) dX1_number_14 ?_
    refine tpl (fun v3 e3 => ?_)
    refine lv_lstore_n (lv' := [(2, .long v3), (0, .ref g0), (1, .int a)]) hx hb dX1_number_15 rfl hl (by decide) rfl (fun ls hl => ?_)
    refine lv_aload_n hx hb dX1_number_16 rfl (lv_at hl 1 rfl) ?_
    refine lv_iconst (v := 0) hx hb dX1_number_17 (by decide) ?_
    refine va_put (D := D) (ci := 1) (v := .int 0) (ty := .int) (C := RX1) (T := TX1) (N := 11) hx hb hts (by decide +kernel) tyX1 tyX1_ok nmX1 hown hK hP hD hS 0 rfl rfl 9 (by decide) (hts (.fieldLink RX1 63 "FadeLedgerModel" "turns" "I") (by decide +kernel)) (fun _ h9 => h9) rfl (by decide +kernel) rfl rfl (Nat.le_of_ble_eq_true rfl) dX1_number_18 (fun H locs hP hD hS => ?_)
    obtain ⟨s4, t4⟩ : ∃ y9 : RS, ((st.1, st.2.1, st.2.2.1, st.2.2.2.1, 0, st.2.2.2.2.2) : RS) = y9 := ⟨_, rfl⟩
    replace hP : va_P D vwCl (RWd g0 g1 g2 g3 g4 g5 g6 cA cB s4) H := by rw [← t4]; exact hP
    replace hD : va_D A (RWd g0 g1 g2 g3 g4 g5 g6 cA cB s4) := by rw [← t4]; exact hD
    have hL5 : r_plan s4 [] := by rw [← t4]; exact plan_zero _
    refine lv_aload_n hx hb dX1_number_21 rfl (lv_at hl 1 rfl) ?_
    refine lv_iload_n hx hb dX1_number_22 rfl (lv_at hl 2 rfl) ?_
    refine cM_this (Wd := RWd g0 g1 g2 g3 g4 g5 g6 cA cB) (ci := 1) (q0 := 0) (n := 1) (as := [.int a]) (rest := []) ⟨hx, hb, hml, hown, hts⟩ (c_X1_look l D g0 g1 g2 g3 g4 g5 g6 cA cB s4 a hc _ hL5.1 (by simp only [List.length_append, List.length_nil, List.length_cons, pl_look, pl_put] <;> decide)) gX1_number_X1_look rfl rfl rfl (by decide +kernel) ⟨Nat.le_of_ble_eq_true rfl, Nat.le_of_ble_eq_true rfl⟩ hK hP hD hS hA rfl rfl rfl hl.1 rfl rfl (Nat.le_of_ble_eq_true rfl) dX1_number_23 ⟨Nat.zero_le _, Nat.zero_le _⟩ (fun H locs hP hD hS => ?_)
    refine W.eq (g2 := F0 m 26 ls []) rfl ?_
    obtain ⟨s6, t6⟩ : ∃ y9 : RS, r_look a s4 = y9 := ⟨_, rfl⟩
    replace hP : va_P D vwCl (RWd g0 g1 g2 g3 g4 g5 g6 cA cB s6) H := by rw [← t6]; exact hP
    replace hD : va_D A (RWd g0 g1 g2 g3 g4 g5 g6 cA cB s6) := by rw [← t6]; exact hD
    have hL7 : r_plan s6 ([] ++ p_look a (st.1.1 a.toNatClampNeg)) := by clear hP hD hS; subst t4; subst t6; exact plan_look a hL5 (by simp only [List.length_append, List.length_nil, List.length_cons, pl_look, pl_put] <;> decide) hc
    refine lv_aload_n hx hb dX1_number_26 rfl (lv_at hl 1 rfl) ?_
    refine cM_this (Wd := RWd g0 g1 g2 g3 g4 g5 g6 cA cB) (ci := 1) (q0 := 0) (n := 0) (as := []) (rest := []) ⟨hx, hb, hml, hown, hts⟩ (c_X1_works l D g0 g1 g2 g3 g4 g5 g6 cA cB s6 ([] ++ p_look a (st.1.1 a.toNatClampNeg)) hL7) gX1_number_X1_works rfl rfl rfl (by decide +kernel) ⟨Nat.le_of_ble_eq_true rfl, Nat.le_of_ble_eq_true rfl⟩ hK hP hD hS hA rfl rfl rfl hl.1 rfl rfl (Nat.le_of_ble_eq_true rfl) dX1_number_27 ⟨Nat.zero_le _, Nat.zero_le _⟩ (fun H locs hP hD hS => ?_)
    obtain ⟨s8, t8⟩ : ∃ y9 : RS, (r_wk ([] ++ p_look a (st.1.1 a.toNatClampNeg)) s6).2 = y9 := ⟨_, rfl⟩
    replace hP : va_P D vwCl (RWd g0 g1 g2 g3 g4 g5 g6 cA cB s8) H := by rw [← t8]; exact hP
    replace hD : va_D A (RWd g0 g1 g2 g3 g4 g5 g6 cA cB s8) := by rw [← t8]; exact hD
    refine tpi (fun v9 e9 => ?_)
    refine lv_if_ne (tgt := 38) hx hb dX1_number_30 (by decide) (fun c10 => ?_) (fun c10 => ?_)
    · refine lv_lload_n hx hb dX1_number_38 rfl (lv_at hl 0 rfl) ?_
      refine cS_call (n := 1) (as := [.long v3]) (rest := []) ⟨hx, hb, hml, hown, hts⟩ (c_X1_isValid l v3) gX1_number_X1_isValid rfl rfl rfl (by decide +kernel) ⟨Nat.le_of_ble_eq_true rfl, Nat.le_of_ble_eq_true rfl⟩ hl.1 rfl rfl (Nat.le_of_ble_eq_true rfl) dX1_number_39 ⟨Nat.zero_le _, Nat.zero_le _⟩ ?_
      refine tpi (fun v11 e11 => ?_)
      refine lv_if_eq (tgt := 52) hx hb dX1_number_42 (by decide) (fun c12 => ?_) (fun c12 => ?_)
      · refine lv_iconst (v := (-1)) hx hb dX1_number_52 (by decide) ?_
        have fin : r_number a st = ((-1), s8) := by
          clear hP hD hS; subst e1; subst e3; subst t4; subst t6; subst t8; subst e9; subst e11; simp only [r_number, r_zero, c2, c10, c12, ↓reduceIte, not_true_eq_false, not_false_eq_true, and_self, and_true, true_and, and_false, false_and, eq_self, i10]
        exact cM_reti (Wd := RWd g0 g1 g2 g3 g4 g5 g6 cA cB) (st := s8) (st' := (r_number a st).2) hx hb hr hlocks dX1_number_53 hS hP hD (congrArg Prod.fst fin).symm (congrArg Prod.snd fin).symm
      · refine lv_lload_n hx hb dX1_number_45 rfl (lv_at hl 0 rfl) ?_
        refine cS_call (n := 1) (as := [.long v3]) (rest := []) ⟨hx, hb, hml, hown, hts⟩ (c_X1_numberOf l v3) gX1_number_X1_numberOf rfl rfl rfl (by decide +kernel) ⟨Nat.le_of_ble_eq_true rfl, Nat.le_of_ble_eq_true rfl⟩ hl.1 rfl rfl (Nat.le_of_ble_eq_true rfl) dX1_number_46 ⟨Nat.zero_le _, Nat.zero_le _⟩ ?_
        refine tpi (fun v13 e13 => ?_)
        refine lv_goto (tgt := 53) hx hb dX1_number_49 (by decide) ?_
        have fin : r_number a st = (v13, s8) := by
          clear hP hD hS; subst e1; subst e3; subst t4; subst t6; subst t8; subst e9; subst e11; subst e13; simp only [r_number, r_zero, c2, c10, c12, ↓reduceIte, not_true_eq_false, not_false_eq_true, and_self, and_true, true_and, and_false, false_and, eq_self, i10]
        exact cM_reti (Wd := RWd g0 g1 g2 g3 g4 g5 g6 cA cB) (st := s8) (st' := (r_number a st).2) hx hb hr hlocks dX1_number_53 hS hP hD (congrArg Prod.fst fin).symm (congrArg Prod.snd fin).symm
    · refine lv_bipush (v := (-2)) hx hb dX1_number_33 (by decide) ?_
      refine lv_goto (tgt := 53) hx hb dX1_number_35 (by decide) ?_
      have fin : r_number a st = ((-2), s8) := by
        clear hP hD hS; subst e1; subst e3; subst t4; subst t6; subst t8; subst e9; simp only [r_number, r_zero, c2, c10, ↓reduceIte, not_true_eq_false, not_false_eq_true, and_self, and_true, true_and, and_false, false_and, eq_self, i10]
      exact cM_reti (Wd := RWd g0 g1 g2 g3 g4 g5 g6 cA cB) (st := s8) (st' := (r_number a st).2) hx hb hr hlocks dX1_number_53 hS hP hD (congrArg Prod.fst fin).symm (congrArg Prod.snd fin).symm
  · refine lv_iconst (v := (-1)) hx hb dX1_number_7 (by decide) ?_
    have fin : r_number a st = ((-1), st) := by
      clear hP hD hS; subst e1; simp only [r_number, r_zero, c2, ↓reduceIte, not_true_eq_false, not_false_eq_true, and_self, and_true, true_and, and_false, false_and, eq_self, i10]
    exact cM_reti (Wd := RWd g0 g1 g2 g3 g4 g5 g6 cA cB) (st := st) (st' := (r_number a st).2) hx hb hr hlocks dX1_number_8 hS hP hD (congrArg Prod.fst fin).symm (congrArg Prod.snd fin).symm
abbrev rmX1_transfer : Room := { frames := 4, cells := 0, slots := 0, locals := 89 }
-- transfer
set_option maxHeartbeats 400000 in
set_option maxRecDepth 100000 in
theorem c_X1_transfer (l : Launch) (D : va_G) (g0 g1 g2 g3 g4 g5 g6 : Nat) (cA cB : ClassId) (st : RS) (f : Int32) (t : Int32) (a : Int32)  : cM l D vwCl (FT cA cB) (RWd g0 g1 g2 g3 g4 g5 g6 cA cB) yX1_transfer wsX1_transfer rmX1_transfer [.ref g0, .int f, .int t, .int a] st (some (.int (r_transfer f t a st).1)) (r_transfer f t a st).2 := by
  refine cM_in (cc := cX1_transfer) (maxL := 17) (ret := (some .int)) (by decide) rfl (Nat.le_of_ble_eq_true rfl) ?_
  intro p e s m below meth c ls A hx hb hr hlocks hml hown hts hA hK hP hD hS hl
  have hown : s.vm.findClass RX1 = some m.cls := hown
  have hl : lv_has ls 17 [(0, .ref g0), (1, .int f), (2, .int t), (3, .int a)] := hl
  -- walk
  refine lv_iload_n hx hb dX1_transfer_0 rfl (lv_at hl 1 rfl) ?_
  refine cS_call (n := 1) (as := [.int f]) (rest := []) ⟨hx, hb, hml, hown, hts⟩ (c_X1_isAccount l f) gX1_transfer_X1_isAccount rfl rfl rfl (by decide +kernel) ⟨Nat.le_of_ble_eq_true rfl, Nat.le_of_ble_eq_true rfl⟩ hl.1 rfl rfl (Nat.le_of_ble_eq_true rfl) dX1_transfer_1 ⟨Nat.zero_le _, Nat.zero_le _⟩ ?_
  refine tpi (fun v1 e1 => ?_)
  refine lv_if_eq (tgt := 23) hx hb dX1_transfer_4 (by decide) (fun c2 => ?_) (fun c2 => ?_)
  · refine lv_iconst (v := (-1)) hx hb dX1_transfer_23 (by decide) ?_
    have fin : r_transfer f t a st = ((-1), st) := by
      clear hP hD hS; subst e1; simp only [r_transfer, r_trB, r_trAcc, r_trL, r_trS, r_doL, r_doS, r_end, r_zero, bI, c2, ↓reduceIte, not_true_eq_false, not_false_eq_true, and_self, and_true, true_and, and_false, false_and, eq_self, i10]
    exact cM_reti (Wd := RWd g0 g1 g2 g3 g4 g5 g6 cA cB) (st := st) (st' := (r_transfer f t a st).2) hx hb hr hlocks dX1_transfer_24 hS hP hD (congrArg Prod.fst fin).symm (congrArg Prod.snd fin).symm
  · refine lv_iload_n hx hb dX1_transfer_7 rfl (lv_at hl 2 rfl) ?_
    refine cS_call (n := 1) (as := [.int t]) (rest := []) ⟨hx, hb, hml, hown, hts⟩ (c_X1_isAccount l t) gX1_transfer_X1_isAccount rfl rfl rfl (by decide +kernel) ⟨Nat.le_of_ble_eq_true rfl, Nat.le_of_ble_eq_true rfl⟩ hl.1 rfl rfl (Nat.le_of_ble_eq_true rfl) dX1_transfer_8 ⟨Nat.zero_le _, Nat.zero_le _⟩ ?_
    refine tpi (fun v3 e3 => ?_)
    refine lv_if_eq (tgt := 23) hx hb dX1_transfer_11 (by decide) (fun c4 => ?_) (fun c4 => ?_)
    · refine lv_iconst (v := (-1)) hx hb dX1_transfer_23 (by decide) ?_
      have fin : r_transfer f t a st = ((-1), st) := by
        clear hP hD hS; subst e1; subst e3; simp only [r_transfer, r_trB, r_trAcc, r_trL, r_trS, r_doL, r_doS, r_end, r_zero, bI, c2, c4, ↓reduceIte, not_true_eq_false, not_false_eq_true, and_self, and_true, true_and, and_false, false_and, eq_self, i10]
      exact cM_reti (Wd := RWd g0 g1 g2 g3 g4 g5 g6 cA cB) (st := st) (st' := (r_transfer f t a st).2) hx hb hr hlocks dX1_transfer_24 hS hP hD (congrArg Prod.fst fin).symm (congrArg Prod.snd fin).symm
    · refine lv_iload_n hx hb dX1_transfer_14 rfl (lv_at hl 1 rfl) ?_
      refine lv_iload_n hx hb dX1_transfer_15 rfl (lv_at hl 2 rfl) ?_
      refine lv_icmp_eq (tgt := 23) hx hb dX1_transfer_16 (by decide) (fun c5 => ?_) (fun c5 => ?_)
      · refine lv_iconst (v := (-1)) hx hb dX1_transfer_23 (by decide) ?_
        have fin : r_transfer f t a st = ((-1), st) := by
          clear hP hD hS; subst e1; subst e3; simp only [r_transfer, r_trB, r_trAcc, r_trL, r_trS, r_doL, r_doS, r_end, r_zero, bI, c2, c4, c5, ↓reduceIte, not_true_eq_false, not_false_eq_true, and_self, and_true, true_and, and_false, false_and, eq_self, i10]
        exact cM_reti (Wd := RWd g0 g1 g2 g3 g4 g5 g6 cA cB) (st := st) (st' := (r_transfer f t a st).2) hx hb hr hlocks dX1_transfer_24 hS hP hD (congrArg Prod.fst fin).symm (congrArg Prod.snd fin).symm
      · refine lv_iload_n hx hb dX1_transfer_19 rfl (lv_at hl 3 rfl) ?_
        refine lv_if_ge (tgt := 25) hx hb dX1_transfer_20 (by decide) (fun c6 => ?_) (fun c6 => ?_)
        · have hf : vp_in f 20 := acct_in20 (by rw [e1]; exact c2)
          have ht : vp_in t 20 := acct_in20 (by rw [e3]; exact c4)
          refine lv_aload_n hx hb dX1_transfer_25 rfl (lv_at hl 0 rfl) ?_
          refine va_get (D := D) (ci := 1) (v := .ref g1) (C := RX1) (T := TX1) (N := 11) hx hb hts (by decide +kernel) hown hK hP 0 rfl rfl 0 (by decide) (hts (.fieldLink RX1 7 "FadeLedgerModel" "words" "[J") (by decide +kernel)) (fun _ h9 => h9) rfl dX1_transfer_26 ?_
          refine lv_iload_n hx hb dX1_transfer_29 rfl (lv_at hl 1 rfl) ?_
          refine va_lald hx hb hK hP 1 0 rfl rfl (in_up hf (by decide)) dX1_transfer_30 ?_
          refine tpl (fun v7 e7 => ?_)
          refine lv_lstore (lv' := [(4, .long v7), (0, .ref g0), (1, .int f), (2, .int t), (3, .int a)]) hx hb dX1_transfer_31 hl (by decide) rfl (fun ls hl => ?_)
          refine lv_aload_n hx hb dX1_transfer_33 rfl (lv_at hl 1 rfl) ?_
          refine va_get (D := D) (ci := 1) (v := .ref g1) (C := RX1) (T := TX1) (N := 11) hx hb hts (by decide +kernel) hown hK hP 0 rfl rfl 0 (by decide) (hts (.fieldLink RX1 7 "FadeLedgerModel" "words" "[J") (by decide +kernel)) (fun _ h9 => h9) rfl dX1_transfer_34 ?_
          refine lv_iload_n hx hb dX1_transfer_37 rfl (lv_at hl 3 rfl) ?_
          refine va_lald hx hb hK hP 1 0 rfl rfl (in_up ht (by decide)) dX1_transfer_38 ?_
          refine tpl (fun v8 e8 => ?_)
          refine lv_lstore (lv' := [(6, .long v8), (4, .long v7), (0, .ref g0), (1, .int f), (2, .int t), (3, .int a)]) hx hb dX1_transfer_39 hl (by decide) rfl (fun ls hl => ?_)
          refine lv_aload_n hx hb dX1_transfer_41 rfl (lv_at hl 2 rfl) ?_
          refine va_get (D := D) (ci := 1) (v := .ref g1) (C := RX1) (T := TX1) (N := 11) hx hb hts (by decide +kernel) hown hK hP 0 rfl rfl 0 (by decide) (hts (.fieldLink RX1 7 "FadeLedgerModel" "words" "[J") (by decide +kernel)) (fun _ h9 => h9) rfl dX1_transfer_42 ?_
          refine lv_bipush (v := 16) hx hb dX1_transfer_45 (by decide) ?_
          refine va_lald hx hb hK hP 1 0 rfl rfl (in_up in20_16 (by decide)) dX1_transfer_47 ?_
          refine tpl (fun v9 e9 => ?_)
          refine lv_lstore (lv' := [(8, .long v9), (6, .long v8), (4, .long v7), (0, .ref g0), (1, .int f), (2, .int t), (3, .int a)]) hx hb dX1_transfer_48 hl (by decide) rfl (fun ls hl => ?_)
          refine lv_lload hx hb dX1_transfer_50 (lv_at hl 2 rfl) ?_
          refine cS_call (n := 1) (as := [.long v7]) (rest := []) ⟨hx, hb, hml, hown, hts⟩ (c_X1_balanceOf l v7) gX1_transfer_X1_balanceOf rfl rfl rfl (by decide +kernel) ⟨Nat.le_of_ble_eq_true rfl, Nat.le_of_ble_eq_true rfl⟩ hl.1 rfl rfl (Nat.le_of_ble_eq_true rfl) dX1_transfer_52 ⟨Nat.zero_le _, Nat.zero_le _⟩ ?_
          refine tpi (fun v10 e10 => ?_)
          refine lv_i2l hx hb dX1_transfer_55 rfl ?_
          refine tpl (fun v11 e11 => ?_)
          refine lv_iload_n hx hb dX1_transfer_56 rfl (lv_at hl 6 rfl) ?_
          refine lv_i2l hx hb dX1_transfer_57 rfl ?_
          refine tpl (fun v12 e12 => ?_)
          refine lv_lsub hx hb dX1_transfer_58 ?_
          refine tpl (fun v13 e13 => ?_)
          refine lv_lstore (lv' := [(10, .long v13), (8, .long v9), (6, .long v8), (4, .long v7), (0, .ref g0), (1, .int f), (2, .int t), (3, .int a)]) hx hb dX1_transfer_59 hl (by decide) rfl (fun ls hl => ?_)
          refine lv_lload hx hb dX1_transfer_61 (lv_at hl 2 rfl) ?_
          refine cS_call (n := 1) (as := [.long v8]) (rest := []) ⟨hx, hb, hml, hown, hts⟩ (c_X1_balanceOf l v8) gX1_transfer_X1_balanceOf rfl rfl rfl (by decide +kernel) ⟨Nat.le_of_ble_eq_true rfl, Nat.le_of_ble_eq_true rfl⟩ hl.1 rfl rfl (Nat.le_of_ble_eq_true rfl) dX1_transfer_63 ⟨Nat.zero_le _, Nat.zero_le _⟩ ?_
          refine tpi (fun v14 e14 => ?_)
          refine lv_i2l hx hb dX1_transfer_66 rfl ?_
          refine tpl (fun v15 e15 => ?_)
          refine lv_iload_n hx hb dX1_transfer_67 rfl (lv_at hl 7 rfl) ?_
          refine lv_i2l hx hb dX1_transfer_68 rfl ?_
          refine tpl (fun v16 e16 => ?_)
          refine lv_ladd hx hb dX1_transfer_69 ?_
          refine tpl (fun v17 e17 => ?_)
          refine lv_lstore (lv' := [(12, .long v17), (10, .long v13), (8, .long v9), (6, .long v8), (4, .long v7), (0, .ref g0), (1, .int f), (2, .int t), (3, .int a)]) hx hb dX1_transfer_70 hl (by decide) rfl (fun ls hl => ?_)
          refine lv_lload hx hb dX1_transfer_72 (lv_at hl 4 rfl) ?_
          refine lv_lload hx hb dX1_transfer_74 (lv_at hl 1 rfl) ?_
          refine cS_call (n := 2) (as := [.long v7, .long v13]) (rest := []) ⟨hx, hb, hml, hown, hts⟩ (c_X1_canBe l v7 v13) gX1_transfer_X1_canBe rfl rfl rfl (by decide +kernel) ⟨Nat.le_of_ble_eq_true rfl, Nat.le_of_ble_eq_true rfl⟩ hl.1 rfl rfl (Nat.le_of_ble_eq_true rfl) dX1_transfer_76 ⟨Nat.zero_le _, Nat.zero_le _⟩ ?_
          refine tpi (fun v18 e18 => ?_)
          refine lv_if_eq (tgt := 114) hx hb dX1_transfer_79 (by decide) (fun c19 => ?_) (fun c19 => ?_)
          · refine lv_iconst (v := 0) hx hb dX1_transfer_114 (by decide) ?_
            refine lv_istore (lv' := [(14, .int 0), (12, .long v17), (10, .long v13), (8, .long v9), (6, .long v8), (4, .long v7), (0, .ref g0), (1, .int f), (2, .int t), (3, .int a)]) hx hb dX1_transfer_115 hl (by decide) rfl (fun ls hl => ?_)
            refine lv_aload_n hx hb dX1_transfer_117 rfl (lv_at hl 6 rfl) ?_
            refine lv_iconst (v := 0) hx hb dX1_transfer_118 (by decide) ?_
            refine va_put (D := D) (ci := 1) (v := .int 0) (ty := .int) (C := RX1) (T := TX1) (N := 11) hx hb hts (by decide +kernel) tyX1 tyX1_ok nmX1 hown hK hP hD hS 0 rfl rfl 9 (by decide) (hts (.fieldLink RX1 63 "FadeLedgerModel" "turns" "I") (by decide +kernel)) (fun _ h9 => h9) rfl (by decide +kernel) rfl rfl (Nat.le_of_ble_eq_true rfl) dX1_transfer_119 (fun H locs hP hD hS => ?_)
            obtain ⟨s20, t20⟩ : ∃ y9 : RS, ((st.1, st.2.1, st.2.2.1, st.2.2.2.1, 0, st.2.2.2.2.2) : RS) = y9 := ⟨_, rfl⟩
            replace hP : va_P D vwCl (RWd g0 g1 g2 g3 g4 g5 g6 cA cB s20) H := by rw [← t20]; exact hP
            replace hD : va_D A (RWd g0 g1 g2 g3 g4 g5 g6 cA cB s20) := by rw [← t20]; exact hD
            have hL21 : r_plan s20 [] := by rw [← t20]; exact plan_zero _
            refine lv_aload_n hx hb dX1_transfer_122 rfl (lv_at hl 6 rfl) ?_
            refine lv_iload_n hx hb dX1_transfer_123 rfl (lv_at hl 7 rfl) ?_
            refine cM_this (Wd := RWd g0 g1 g2 g3 g4 g5 g6 cA cB) (ci := 1) (q0 := 0) (n := 1) (as := [.int f]) (rest := []) ⟨hx, hb, hml, hown, hts⟩ (c_X1_look l D g0 g1 g2 g3 g4 g5 g6 cA cB s20 f hf _ hL21.1 (by simp only [List.length_append, List.length_nil, List.length_cons, pl_look, pl_put] <;> decide)) gX1_transfer_X1_look rfl rfl rfl (by decide +kernel) ⟨Nat.le_of_ble_eq_true rfl, Nat.le_of_ble_eq_true rfl⟩ hK hP hD hS hA rfl rfl rfl hl.1 rfl rfl (Nat.le_of_ble_eq_true rfl) dX1_transfer_124 ⟨Nat.zero_le _, Nat.zero_le _⟩ (fun H locs hP hD hS => ?_)
            refine W.eq (g2 := F0 m 127 ls []) rfl ?_
            obtain ⟨s22, t22⟩ : ∃ y9 : RS, r_look f s20 = y9 := ⟨_, rfl⟩
            replace hP : va_P D vwCl (RWd g0 g1 g2 g3 g4 g5 g6 cA cB s22) H := by rw [← t22]; exact hP
            replace hD : va_D A (RWd g0 g1 g2 g3 g4 g5 g6 cA cB s22) := by rw [← t22]; exact hD
            have hL23 : r_plan s22 ([] ++ p_look f (st.1.1 f.toNatClampNeg)) := by clear hP hD hS; subst t20; subst t22; exact plan_look f hL21 (by simp only [List.length_append, List.length_nil, List.length_cons, pl_look, pl_put] <;> decide) hf
            refine lv_aload_n hx hb dX1_transfer_127 rfl (lv_at hl 6 rfl) ?_
            refine lv_iload_n hx hb dX1_transfer_128 rfl (lv_at hl 8 rfl) ?_
            refine cM_this (Wd := RWd g0 g1 g2 g3 g4 g5 g6 cA cB) (ci := 1) (q0 := 0) (n := 1) (as := [.int t]) (rest := []) ⟨hx, hb, hml, hown, hts⟩ (c_X1_look l D g0 g1 g2 g3 g4 g5 g6 cA cB s22 t ht _ hL23.1 (by simp only [List.length_append, List.length_nil, List.length_cons, pl_look, pl_put] <;> decide)) gX1_transfer_X1_look rfl rfl rfl (by decide +kernel) ⟨Nat.le_of_ble_eq_true rfl, Nat.le_of_ble_eq_true rfl⟩ hK hP hD hS hA rfl rfl rfl hl.1 rfl rfl (Nat.le_of_ble_eq_true rfl) dX1_transfer_129 ⟨Nat.zero_le _, Nat.zero_le _⟩ (fun H locs hP hD hS => ?_)
            refine W.eq (g2 := F0 m 132 ls []) rfl ?_
            obtain ⟨s24, t24⟩ : ∃ y9 : RS, r_look t s22 = y9 := ⟨_, rfl⟩
            replace hP : va_P D vwCl (RWd g0 g1 g2 g3 g4 g5 g6 cA cB s24) H := by rw [← t24]; exact hP
            replace hD : va_D A (RWd g0 g1 g2 g3 g4 g5 g6 cA cB s24) := by rw [← t24]; exact hD
            have hL25 : r_plan s24 ([] ++ p_look f (st.1.1 f.toNatClampNeg) ++ p_look t (st.1.1 t.toNatClampNeg)) := by clear hP hD hS; subst t20; subst t22; subst t24; exact plan_look t hL23 (by simp only [List.length_append, List.length_nil, List.length_cons, pl_look, pl_put] <;> decide) ht
            refine lv_aload_n hx hb dX1_transfer_132 rfl (lv_at hl 6 rfl) ?_
            refine lv_bipush (v := 16) hx hb dX1_transfer_133 (by decide) ?_
            refine cM_this (Wd := RWd g0 g1 g2 g3 g4 g5 g6 cA cB) (ci := 1) (q0 := 0) (n := 1) (as := [.int 16]) (rest := []) ⟨hx, hb, hml, hown, hts⟩ (c_X1_look l D g0 g1 g2 g3 g4 g5 g6 cA cB s24 16 in20_16 _ hL25.1 (by simp only [List.length_append, List.length_nil, List.length_cons, pl_look, pl_put] <;> decide)) gX1_transfer_X1_look rfl rfl rfl (by decide +kernel) ⟨Nat.le_of_ble_eq_true rfl, Nat.le_of_ble_eq_true rfl⟩ hK hP hD hS hA rfl rfl rfl hl.1 rfl rfl (Nat.le_of_ble_eq_true rfl) dX1_transfer_135 ⟨Nat.zero_le _, Nat.zero_le _⟩ (fun H locs hP hD hS => ?_)
            refine W.eq (g2 := F0 m 138 ls []) rfl ?_
            obtain ⟨s26, t26⟩ : ∃ y9 : RS, r_look 16 s24 = y9 := ⟨_, rfl⟩
            replace hP : va_P D vwCl (RWd g0 g1 g2 g3 g4 g5 g6 cA cB s26) H := by rw [← t26]; exact hP
            replace hD : va_D A (RWd g0 g1 g2 g3 g4 g5 g6 cA cB s26) := by rw [← t26]; exact hD
            have hL27 : r_plan s26 ([] ++ p_look f (st.1.1 f.toNatClampNeg) ++ p_look t (st.1.1 t.toNatClampNeg) ++ p_look 16 (st.1.1 (16 : Int32).toNatClampNeg)) := by clear hP hD hS; subst t20; subst t22; subst t24; subst t26; exact plan_look 16 hL25 (by simp only [List.length_append, List.length_nil, List.length_cons, pl_look, pl_put] <;> decide) in20_16
            refine lv_iload hx hb dX1_transfer_138 (lv_at hl 0 rfl) ?_
            refine lv_if_eq (tgt := 277) hx hb dX1_transfer_140 (by decide) (fun _ => ?_) (fun c0 => absurd c0 (by decide))
            refine lv_aload_n hx hb dX1_transfer_277 rfl (lv_at hl 6 rfl) ?_
            refine cM_this (Wd := RWd g0 g1 g2 g3 g4 g5 g6 cA cB) (ci := 1) (q0 := 0) (n := 0) (as := []) (rest := []) ⟨hx, hb, hml, hown, hts⟩ (c_X1_works l D g0 g1 g2 g3 g4 g5 g6 cA cB s26 ([] ++ p_look f (st.1.1 f.toNatClampNeg) ++ p_look t (st.1.1 t.toNatClampNeg) ++ p_look 16 (st.1.1 (16 : Int32).toNatClampNeg)) hL27) gX1_transfer_X1_works rfl rfl rfl (by decide +kernel) ⟨Nat.le_of_ble_eq_true rfl, Nat.le_of_ble_eq_true rfl⟩ hK hP hD hS hA rfl rfl rfl hl.1 rfl rfl (Nat.le_of_ble_eq_true rfl) dX1_transfer_278 ⟨Nat.zero_le _, Nat.zero_le _⟩ (fun H locs hP hD hS => ?_)
            obtain ⟨s28, t28⟩ : ∃ y9 : RS, (r_wk ([] ++ p_look f (st.1.1 f.toNatClampNeg) ++ p_look t (st.1.1 t.toNatClampNeg) ++ p_look 16 (st.1.1 (16 : Int32).toNatClampNeg)) s26).2 = y9 := ⟨_, rfl⟩
            replace hP : va_P D vwCl (RWd g0 g1 g2 g3 g4 g5 g6 cA cB s28) H := by rw [← t28]; exact hP
            replace hD : va_D A (RWd g0 g1 g2 g3 g4 g5 g6 cA cB s28) := by rw [← t28]; exact hD
            refine tpi (fun v29 e29 => ?_)
            refine lv_if_ne (tgt := 289) hx hb dX1_transfer_281 (by decide) (fun c30 => ?_) (fun c30 => ?_)
            · refine lv_iload hx hb dX1_transfer_289 (lv_at hl 0 rfl) ?_
              refine lv_if_eq (tgt := 298) hx hb dX1_transfer_291 (by decide) (fun _ => ?_) (fun c0 => absurd c0 (by decide))
              refine lv_iconst (v := (-1)) hx hb dX1_transfer_298 (by decide) ?_
              have fin : r_transfer f t a st = ((-1), s28) := by
                clear hP hD hS; subst e1; subst e3; subst e7; subst e8; subst e9; subst e10; subst e11; subst e12; subst e13; subst e14; subst e15; subst e16; subst e17; subst e18; subst t20; subst t22; subst t24; subst t26; subst t28; subst e29; simp only [r_transfer, r_trB, r_trAcc, r_trL, r_trS, r_doL, r_doS, r_end, r_zero, bI, c2, c4, c5, c6, c19, c30, ↓reduceIte, not_true_eq_false, not_false_eq_true, and_self, and_true, true_and, and_false, false_and, eq_self, i10]
              exact cM_reti (Wd := RWd g0 g1 g2 g3 g4 g5 g6 cA cB) (st := s28) (st' := (r_transfer f t a st).2) hx hb hr hlocks dX1_transfer_299 hS hP hD (congrArg Prod.fst fin).symm (congrArg Prod.snd fin).symm
            · refine lv_bipush (v := (-2)) hx hb dX1_transfer_284 (by decide) ?_
              refine lv_goto (tgt := 299) hx hb dX1_transfer_286 (by decide) ?_
              have fin : r_transfer f t a st = ((-2), s28) := by
                clear hP hD hS; subst e1; subst e3; subst e7; subst e8; subst e9; subst e10; subst e11; subst e12; subst e13; subst e14; subst e15; subst e16; subst e17; subst e18; subst t20; subst t22; subst t24; subst t26; subst t28; subst e29; simp only [r_transfer, r_trB, r_trAcc, r_trL, r_trS, r_doL, r_doS, r_end, r_zero, bI, c2, c4, c5, c6, c19, c30, ↓reduceIte, not_true_eq_false, not_false_eq_true, and_self, and_true, true_and, and_false, false_and, eq_self, i10]
              exact cM_reti (Wd := RWd g0 g1 g2 g3 g4 g5 g6 cA cB) (st := s28) (st' := (r_transfer f t a st).2) hx hb hr hlocks dX1_transfer_299 hS hP hD (congrArg Prod.fst fin).symm (congrArg Prod.snd fin).symm
          · refine lv_lload hx hb dX1_transfer_82 (lv_at hl 3 rfl) ?_
            refine lv_lload hx hb dX1_transfer_84 (lv_at hl 0 rfl) ?_
            refine cS_call (n := 2) (as := [.long v8, .long v17]) (rest := []) ⟨hx, hb, hml, hown, hts⟩ (c_X1_canBe l v8 v17) gX1_transfer_X1_canBe rfl rfl rfl (by decide +kernel) ⟨Nat.le_of_ble_eq_true rfl, Nat.le_of_ble_eq_true rfl⟩ hl.1 rfl rfl (Nat.le_of_ble_eq_true rfl) dX1_transfer_86 ⟨Nat.zero_le _, Nat.zero_le _⟩ ?_
            refine tpi (fun v31 e31 => ?_)
            refine lv_if_eq (tgt := 114) hx hb dX1_transfer_89 (by decide) (fun c32 => ?_) (fun c32 => ?_)
            · refine lv_iconst (v := 0) hx hb dX1_transfer_114 (by decide) ?_
              refine lv_istore (lv' := [(14, .int 0), (12, .long v17), (10, .long v13), (8, .long v9), (6, .long v8), (4, .long v7), (0, .ref g0), (1, .int f), (2, .int t), (3, .int a)]) hx hb dX1_transfer_115 hl (by decide) rfl (fun ls hl => ?_)
              refine lv_aload_n hx hb dX1_transfer_117 rfl (lv_at hl 6 rfl) ?_
              refine lv_iconst (v := 0) hx hb dX1_transfer_118 (by decide) ?_
              refine va_put (D := D) (ci := 1) (v := .int 0) (ty := .int) (C := RX1) (T := TX1) (N := 11) hx hb hts (by decide +kernel) tyX1 tyX1_ok nmX1 hown hK hP hD hS 0 rfl rfl 9 (by decide) (hts (.fieldLink RX1 63 "FadeLedgerModel" "turns" "I") (by decide +kernel)) (fun _ h9 => h9) rfl (by decide +kernel) rfl rfl (Nat.le_of_ble_eq_true rfl) dX1_transfer_119 (fun H locs hP hD hS => ?_)
              obtain ⟨s33, t33⟩ : ∃ y9 : RS, ((st.1, st.2.1, st.2.2.1, st.2.2.2.1, 0, st.2.2.2.2.2) : RS) = y9 := ⟨_, rfl⟩
              replace hP : va_P D vwCl (RWd g0 g1 g2 g3 g4 g5 g6 cA cB s33) H := by rw [← t33]; exact hP
              replace hD : va_D A (RWd g0 g1 g2 g3 g4 g5 g6 cA cB s33) := by rw [← t33]; exact hD
              have hL34 : r_plan s33 [] := by rw [← t33]; exact plan_zero _
              refine lv_aload_n hx hb dX1_transfer_122 rfl (lv_at hl 6 rfl) ?_
              refine lv_iload_n hx hb dX1_transfer_123 rfl (lv_at hl 7 rfl) ?_
              refine cM_this (Wd := RWd g0 g1 g2 g3 g4 g5 g6 cA cB) (ci := 1) (q0 := 0) (n := 1) (as := [.int f]) (rest := []) ⟨hx, hb, hml, hown, hts⟩ (c_X1_look l D g0 g1 g2 g3 g4 g5 g6 cA cB s33 f hf _ hL34.1 (by simp only [List.length_append, List.length_nil, List.length_cons, pl_look, pl_put] <;> decide)) gX1_transfer_X1_look rfl rfl rfl (by decide +kernel) ⟨Nat.le_of_ble_eq_true rfl, Nat.le_of_ble_eq_true rfl⟩ hK hP hD hS hA rfl rfl rfl hl.1 rfl rfl (Nat.le_of_ble_eq_true rfl) dX1_transfer_124 ⟨Nat.zero_le _, Nat.zero_le _⟩ (fun H locs hP hD hS => ?_)
              refine W.eq (g2 := F0 m 127 ls []) rfl ?_
              obtain ⟨s35, t35⟩ : ∃ y9 : RS, r_look f s33 = y9 := ⟨_, rfl⟩
              replace hP : va_P D vwCl (RWd g0 g1 g2 g3 g4 g5 g6 cA cB s35) H := by rw [← t35]; exact hP
              replace hD : va_D A (RWd g0 g1 g2 g3 g4 g5 g6 cA cB s35) := by rw [← t35]; exact hD
              have hL36 : r_plan s35 ([] ++ p_look f (st.1.1 f.toNatClampNeg)) := by clear hP hD hS; subst t33; subst t35; exact plan_look f hL34 (by simp only [List.length_append, List.length_nil, List.length_cons, pl_look, pl_put] <;> decide) hf
              refine lv_aload_n hx hb dX1_transfer_127 rfl (lv_at hl 6 rfl) ?_
              refine lv_iload_n hx hb dX1_transfer_128 rfl (lv_at hl 8 rfl) ?_
              refine cM_this (Wd := RWd g0 g1 g2 g3 g4 g5 g6 cA cB) (ci := 1) (q0 := 0) (n := 1) (as := [.int t]) (rest := []) ⟨hx, hb, hml, hown, hts⟩ (c_X1_look l D g0 g1 g2 g3 g4 g5 g6 cA cB s35 t ht _ hL36.1 (by simp only [List.length_append, List.length_nil, List.length_cons, pl_look, pl_put] <;> decide)) gX1_transfer_X1_look rfl rfl rfl (by decide +kernel) ⟨Nat.le_of_ble_eq_true rfl, Nat.le_of_ble_eq_true rfl⟩ hK hP hD hS hA rfl rfl rfl hl.1 rfl rfl (Nat.le_of_ble_eq_true rfl) dX1_transfer_129 ⟨Nat.zero_le _, Nat.zero_le _⟩ (fun H locs hP hD hS => ?_)
              refine W.eq (g2 := F0 m 132 ls []) rfl ?_
              obtain ⟨s37, t37⟩ : ∃ y9 : RS, r_look t s35 = y9 := ⟨_, rfl⟩
              replace hP : va_P D vwCl (RWd g0 g1 g2 g3 g4 g5 g6 cA cB s37) H := by rw [← t37]; exact hP
              replace hD : va_D A (RWd g0 g1 g2 g3 g4 g5 g6 cA cB s37) := by rw [← t37]; exact hD
              have hL38 : r_plan s37 ([] ++ p_look f (st.1.1 f.toNatClampNeg) ++ p_look t (st.1.1 t.toNatClampNeg)) := by clear hP hD hS; subst t33; subst t35; subst t37; exact plan_look t hL36 (by simp only [List.length_append, List.length_nil, List.length_cons, pl_look, pl_put] <;> decide) ht
              refine lv_aload_n hx hb dX1_transfer_132 rfl (lv_at hl 6 rfl) ?_
              refine lv_bipush (v := 16) hx hb dX1_transfer_133 (by decide) ?_
              refine cM_this (Wd := RWd g0 g1 g2 g3 g4 g5 g6 cA cB) (ci := 1) (q0 := 0) (n := 1) (as := [.int 16]) (rest := []) ⟨hx, hb, hml, hown, hts⟩ (c_X1_look l D g0 g1 g2 g3 g4 g5 g6 cA cB s37 16 in20_16 _ hL38.1 (by simp only [List.length_append, List.length_nil, List.length_cons, pl_look, pl_put] <;> decide)) gX1_transfer_X1_look rfl rfl rfl (by decide +kernel) ⟨Nat.le_of_ble_eq_true rfl, Nat.le_of_ble_eq_true rfl⟩ hK hP hD hS hA rfl rfl rfl hl.1 rfl rfl (Nat.le_of_ble_eq_true rfl) dX1_transfer_135 ⟨Nat.zero_le _, Nat.zero_le _⟩ (fun H locs hP hD hS => ?_)
              refine W.eq (g2 := F0 m 138 ls []) rfl ?_
              obtain ⟨s39, t39⟩ : ∃ y9 : RS, r_look 16 s37 = y9 := ⟨_, rfl⟩
              replace hP : va_P D vwCl (RWd g0 g1 g2 g3 g4 g5 g6 cA cB s39) H := by rw [← t39]; exact hP
              replace hD : va_D A (RWd g0 g1 g2 g3 g4 g5 g6 cA cB s39) := by rw [← t39]; exact hD
              have hL40 : r_plan s39 ([] ++ p_look f (st.1.1 f.toNatClampNeg) ++ p_look t (st.1.1 t.toNatClampNeg) ++ p_look 16 (st.1.1 (16 : Int32).toNatClampNeg)) := by clear hP hD hS; subst t33; subst t35; subst t37; subst t39; exact plan_look 16 hL38 (by simp only [List.length_append, List.length_nil, List.length_cons, pl_look, pl_put] <;> decide) in20_16
              refine lv_iload hx hb dX1_transfer_138 (lv_at hl 0 rfl) ?_
              refine lv_if_eq (tgt := 277) hx hb dX1_transfer_140 (by decide) (fun _ => ?_) (fun c0 => absurd c0 (by decide))
              refine lv_aload_n hx hb dX1_transfer_277 rfl (lv_at hl 6 rfl) ?_
              refine cM_this (Wd := RWd g0 g1 g2 g3 g4 g5 g6 cA cB) (ci := 1) (q0 := 0) (n := 0) (as := []) (rest := []) ⟨hx, hb, hml, hown, hts⟩ (c_X1_works l D g0 g1 g2 g3 g4 g5 g6 cA cB s39 ([] ++ p_look f (st.1.1 f.toNatClampNeg) ++ p_look t (st.1.1 t.toNatClampNeg) ++ p_look 16 (st.1.1 (16 : Int32).toNatClampNeg)) hL40) gX1_transfer_X1_works rfl rfl rfl (by decide +kernel) ⟨Nat.le_of_ble_eq_true rfl, Nat.le_of_ble_eq_true rfl⟩ hK hP hD hS hA rfl rfl rfl hl.1 rfl rfl (Nat.le_of_ble_eq_true rfl) dX1_transfer_278 ⟨Nat.zero_le _, Nat.zero_le _⟩ (fun H locs hP hD hS => ?_)
              obtain ⟨s41, t41⟩ : ∃ y9 : RS, (r_wk ([] ++ p_look f (st.1.1 f.toNatClampNeg) ++ p_look t (st.1.1 t.toNatClampNeg) ++ p_look 16 (st.1.1 (16 : Int32).toNatClampNeg)) s39).2 = y9 := ⟨_, rfl⟩
              replace hP : va_P D vwCl (RWd g0 g1 g2 g3 g4 g5 g6 cA cB s41) H := by rw [← t41]; exact hP
              replace hD : va_D A (RWd g0 g1 g2 g3 g4 g5 g6 cA cB s41) := by rw [← t41]; exact hD
              refine tpi (fun v42 e42 => ?_)
              refine lv_if_ne (tgt := 289) hx hb dX1_transfer_281 (by decide) (fun c43 => ?_) (fun c43 => ?_)
              · refine lv_iload hx hb dX1_transfer_289 (lv_at hl 0 rfl) ?_
                refine lv_if_eq (tgt := 298) hx hb dX1_transfer_291 (by decide) (fun _ => ?_) (fun c0 => absurd c0 (by decide))
                refine lv_iconst (v := (-1)) hx hb dX1_transfer_298 (by decide) ?_
                have fin : r_transfer f t a st = ((-1), s41) := by
                  clear hP hD hS; subst e1; subst e3; subst e7; subst e8; subst e9; subst e10; subst e11; subst e12; subst e13; subst e14; subst e15; subst e16; subst e17; subst e18; subst e31; subst t33; subst t35; subst t37; subst t39; subst t41; subst e42; simp only [r_transfer, r_trB, r_trAcc, r_trL, r_trS, r_doL, r_doS, r_end, r_zero, bI, c2, c4, c5, c6, c19, c32, c43, ↓reduceIte, not_true_eq_false, not_false_eq_true, and_self, and_true, true_and, and_false, false_and, eq_self, i10]
                exact cM_reti (Wd := RWd g0 g1 g2 g3 g4 g5 g6 cA cB) (st := s41) (st' := (r_transfer f t a st).2) hx hb hr hlocks dX1_transfer_299 hS hP hD (congrArg Prod.fst fin).symm (congrArg Prod.snd fin).symm
              · refine lv_bipush (v := (-2)) hx hb dX1_transfer_284 (by decide) ?_
                refine lv_goto (tgt := 299) hx hb dX1_transfer_286 (by decide) ?_
                have fin : r_transfer f t a st = ((-2), s41) := by
                  clear hP hD hS; subst e1; subst e3; subst e7; subst e8; subst e9; subst e10; subst e11; subst e12; subst e13; subst e14; subst e15; subst e16; subst e17; subst e18; subst e31; subst t33; subst t35; subst t37; subst t39; subst t41; subst e42; simp only [r_transfer, r_trB, r_trAcc, r_trL, r_trS, r_doL, r_doS, r_end, r_zero, bI, c2, c4, c5, c6, c19, c32, c43, ↓reduceIte, not_true_eq_false, not_false_eq_true, and_self, and_true, true_and, and_false, false_and, eq_self, i10]
                exact cM_reti (Wd := RWd g0 g1 g2 g3 g4 g5 g6 cA cB) (st := s41) (st' := (r_transfer f t a st).2) hx hb hr hlocks dX1_transfer_299 hS hP hD (congrArg Prod.fst fin).symm (congrArg Prod.snd fin).symm
            · refine lv_lload hx hb dX1_transfer_92 (lv_at hl 2 rfl) ?_
              refine cS_call (n := 1) (as := [.long v9]) (rest := []) ⟨hx, hb, hml, hown, hts⟩ (c_X1_isValid l v9) gX1_transfer_X1_isValid rfl rfl rfl (by decide +kernel) ⟨Nat.le_of_ble_eq_true rfl, Nat.le_of_ble_eq_true rfl⟩ hl.1 rfl rfl (Nat.le_of_ble_eq_true rfl) dX1_transfer_94 ⟨Nat.zero_le _, Nat.zero_le _⟩ ?_
              refine tpi (fun v44 e44 => ?_)
              refine lv_if_eq (tgt := 114) hx hb dX1_transfer_97 (by decide) (fun c45 => ?_) (fun c45 => ?_)
              · refine lv_iconst (v := 0) hx hb dX1_transfer_114 (by decide) ?_
                refine lv_istore (lv' := [(14, .int 0), (12, .long v17), (10, .long v13), (8, .long v9), (6, .long v8), (4, .long v7), (0, .ref g0), (1, .int f), (2, .int t), (3, .int a)]) hx hb dX1_transfer_115 hl (by decide) rfl (fun ls hl => ?_)
                refine lv_aload_n hx hb dX1_transfer_117 rfl (lv_at hl 6 rfl) ?_
                refine lv_iconst (v := 0) hx hb dX1_transfer_118 (by decide) ?_
                refine va_put (D := D) (ci := 1) (v := .int 0) (ty := .int) (C := RX1) (T := TX1) (N := 11) hx hb hts (by decide +kernel) tyX1 tyX1_ok nmX1 hown hK hP hD hS 0 rfl rfl 9 (by decide) (hts (.fieldLink RX1 63 "FadeLedgerModel" "turns" "I") (by decide +kernel)) (fun _ h9 => h9) rfl (by decide +kernel) rfl rfl (Nat.le_of_ble_eq_true rfl) dX1_transfer_119 (fun H locs hP hD hS => ?_)
                obtain ⟨s46, t46⟩ : ∃ y9 : RS, ((st.1, st.2.1, st.2.2.1, st.2.2.2.1, 0, st.2.2.2.2.2) : RS) = y9 := ⟨_, rfl⟩
                replace hP : va_P D vwCl (RWd g0 g1 g2 g3 g4 g5 g6 cA cB s46) H := by rw [← t46]; exact hP
                replace hD : va_D A (RWd g0 g1 g2 g3 g4 g5 g6 cA cB s46) := by rw [← t46]; exact hD
                have hL47 : r_plan s46 [] := by rw [← t46]; exact plan_zero _
                refine lv_aload_n hx hb dX1_transfer_122 rfl (lv_at hl 6 rfl) ?_
                refine lv_iload_n hx hb dX1_transfer_123 rfl (lv_at hl 7 rfl) ?_
                refine cM_this (Wd := RWd g0 g1 g2 g3 g4 g5 g6 cA cB) (ci := 1) (q0 := 0) (n := 1) (as := [.int f]) (rest := []) ⟨hx, hb, hml, hown, hts⟩ (c_X1_look l D g0 g1 g2 g3 g4 g5 g6 cA cB s46 f hf _ hL47.1 (by simp only [List.length_append, List.length_nil, List.length_cons, pl_look, pl_put] <;> decide)) gX1_transfer_X1_look rfl rfl rfl (by decide +kernel) ⟨Nat.le_of_ble_eq_true rfl, Nat.le_of_ble_eq_true rfl⟩ hK hP hD hS hA rfl rfl rfl hl.1 rfl rfl (Nat.le_of_ble_eq_true rfl) dX1_transfer_124 ⟨Nat.zero_le _, Nat.zero_le _⟩ (fun H locs hP hD hS => ?_)
                refine W.eq (g2 := F0 m 127 ls []) rfl ?_
                obtain ⟨s48, t48⟩ : ∃ y9 : RS, r_look f s46 = y9 := ⟨_, rfl⟩
                replace hP : va_P D vwCl (RWd g0 g1 g2 g3 g4 g5 g6 cA cB s48) H := by rw [← t48]; exact hP
                replace hD : va_D A (RWd g0 g1 g2 g3 g4 g5 g6 cA cB s48) := by rw [← t48]; exact hD
                have hL49 : r_plan s48 ([] ++ p_look f (st.1.1 f.toNatClampNeg)) := by clear hP hD hS; subst t46; subst t48; exact plan_look f hL47 (by simp only [List.length_append, List.length_nil, List.length_cons, pl_look, pl_put] <;> decide) hf
                refine lv_aload_n hx hb dX1_transfer_127 rfl (lv_at hl 6 rfl) ?_
                refine lv_iload_n hx hb dX1_transfer_128 rfl (lv_at hl 8 rfl) ?_
                refine cM_this (Wd := RWd g0 g1 g2 g3 g4 g5 g6 cA cB) (ci := 1) (q0 := 0) (n := 1) (as := [.int t]) (rest := []) ⟨hx, hb, hml, hown, hts⟩ (c_X1_look l D g0 g1 g2 g3 g4 g5 g6 cA cB s48 t ht _ hL49.1 (by simp only [List.length_append, List.length_nil, List.length_cons, pl_look, pl_put] <;> decide)) gX1_transfer_X1_look rfl rfl rfl (by decide +kernel) ⟨Nat.le_of_ble_eq_true rfl, Nat.le_of_ble_eq_true rfl⟩ hK hP hD hS hA rfl rfl rfl hl.1 rfl rfl (Nat.le_of_ble_eq_true rfl) dX1_transfer_129 ⟨Nat.zero_le _, Nat.zero_le _⟩ (fun H locs hP hD hS => ?_)
                refine W.eq (g2 := F0 m 132 ls []) rfl ?_
                obtain ⟨s50, t50⟩ : ∃ y9 : RS, r_look t s48 = y9 := ⟨_, rfl⟩
                replace hP : va_P D vwCl (RWd g0 g1 g2 g3 g4 g5 g6 cA cB s50) H := by rw [← t50]; exact hP
                replace hD : va_D A (RWd g0 g1 g2 g3 g4 g5 g6 cA cB s50) := by rw [← t50]; exact hD
                have hL51 : r_plan s50 ([] ++ p_look f (st.1.1 f.toNatClampNeg) ++ p_look t (st.1.1 t.toNatClampNeg)) := by clear hP hD hS; subst t46; subst t48; subst t50; exact plan_look t hL49 (by simp only [List.length_append, List.length_nil, List.length_cons, pl_look, pl_put] <;> decide) ht
                refine lv_aload_n hx hb dX1_transfer_132 rfl (lv_at hl 6 rfl) ?_
                refine lv_bipush (v := 16) hx hb dX1_transfer_133 (by decide) ?_
                refine cM_this (Wd := RWd g0 g1 g2 g3 g4 g5 g6 cA cB) (ci := 1) (q0 := 0) (n := 1) (as := [.int 16]) (rest := []) ⟨hx, hb, hml, hown, hts⟩ (c_X1_look l D g0 g1 g2 g3 g4 g5 g6 cA cB s50 16 in20_16 _ hL51.1 (by simp only [List.length_append, List.length_nil, List.length_cons, pl_look, pl_put] <;> decide)) gX1_transfer_X1_look rfl rfl rfl (by decide +kernel) ⟨Nat.le_of_ble_eq_true rfl, Nat.le_of_ble_eq_true rfl⟩ hK hP hD hS hA rfl rfl rfl hl.1 rfl rfl (Nat.le_of_ble_eq_true rfl) dX1_transfer_135 ⟨Nat.zero_le _, Nat.zero_le _⟩ (fun H locs hP hD hS => ?_)
                refine W.eq (g2 := F0 m 138 ls []) rfl ?_
                obtain ⟨s52, t52⟩ : ∃ y9 : RS, r_look 16 s50 = y9 := ⟨_, rfl⟩
                replace hP : va_P D vwCl (RWd g0 g1 g2 g3 g4 g5 g6 cA cB s52) H := by rw [← t52]; exact hP
                replace hD : va_D A (RWd g0 g1 g2 g3 g4 g5 g6 cA cB s52) := by rw [← t52]; exact hD
                have hL53 : r_plan s52 ([] ++ p_look f (st.1.1 f.toNatClampNeg) ++ p_look t (st.1.1 t.toNatClampNeg) ++ p_look 16 (st.1.1 (16 : Int32).toNatClampNeg)) := by clear hP hD hS; subst t46; subst t48; subst t50; subst t52; exact plan_look 16 hL51 (by simp only [List.length_append, List.length_nil, List.length_cons, pl_look, pl_put] <;> decide) in20_16
                refine lv_iload hx hb dX1_transfer_138 (lv_at hl 0 rfl) ?_
                refine lv_if_eq (tgt := 277) hx hb dX1_transfer_140 (by decide) (fun _ => ?_) (fun c0 => absurd c0 (by decide))
                refine lv_aload_n hx hb dX1_transfer_277 rfl (lv_at hl 6 rfl) ?_
                refine cM_this (Wd := RWd g0 g1 g2 g3 g4 g5 g6 cA cB) (ci := 1) (q0 := 0) (n := 0) (as := []) (rest := []) ⟨hx, hb, hml, hown, hts⟩ (c_X1_works l D g0 g1 g2 g3 g4 g5 g6 cA cB s52 ([] ++ p_look f (st.1.1 f.toNatClampNeg) ++ p_look t (st.1.1 t.toNatClampNeg) ++ p_look 16 (st.1.1 (16 : Int32).toNatClampNeg)) hL53) gX1_transfer_X1_works rfl rfl rfl (by decide +kernel) ⟨Nat.le_of_ble_eq_true rfl, Nat.le_of_ble_eq_true rfl⟩ hK hP hD hS hA rfl rfl rfl hl.1 rfl rfl (Nat.le_of_ble_eq_true rfl) dX1_transfer_278 ⟨Nat.zero_le _, Nat.zero_le _⟩ (fun H locs hP hD hS => ?_)
                obtain ⟨s54, t54⟩ : ∃ y9 : RS, (r_wk ([] ++ p_look f (st.1.1 f.toNatClampNeg) ++ p_look t (st.1.1 t.toNatClampNeg) ++ p_look 16 (st.1.1 (16 : Int32).toNatClampNeg)) s52).2 = y9 := ⟨_, rfl⟩
                replace hP : va_P D vwCl (RWd g0 g1 g2 g3 g4 g5 g6 cA cB s54) H := by rw [← t54]; exact hP
                replace hD : va_D A (RWd g0 g1 g2 g3 g4 g5 g6 cA cB s54) := by rw [← t54]; exact hD
                refine tpi (fun v55 e55 => ?_)
                refine lv_if_ne (tgt := 289) hx hb dX1_transfer_281 (by decide) (fun c56 => ?_) (fun c56 => ?_)
                · refine lv_iload hx hb dX1_transfer_289 (lv_at hl 0 rfl) ?_
                  refine lv_if_eq (tgt := 298) hx hb dX1_transfer_291 (by decide) (fun _ => ?_) (fun c0 => absurd c0 (by decide))
                  refine lv_iconst (v := (-1)) hx hb dX1_transfer_298 (by decide) ?_
                  have fin : r_transfer f t a st = ((-1), s54) := by
                    clear hP hD hS; subst e1; subst e3; subst e7; subst e8; subst e9; subst e10; subst e11; subst e12; subst e13; subst e14; subst e15; subst e16; subst e17; subst e18; subst e31; subst e44; subst t46; subst t48; subst t50; subst t52; subst t54; subst e55; simp only [r_transfer, r_trB, r_trAcc, r_trL, r_trS, r_doL, r_doS, r_end, r_zero, bI, c2, c4, c5, c6, c19, c32, c45, c56, ↓reduceIte, not_true_eq_false, not_false_eq_true, and_self, and_true, true_and, and_false, false_and, eq_self, i10]
                  exact cM_reti (Wd := RWd g0 g1 g2 g3 g4 g5 g6 cA cB) (st := s54) (st' := (r_transfer f t a st).2) hx hb hr hlocks dX1_transfer_299 hS hP hD (congrArg Prod.fst fin).symm (congrArg Prod.snd fin).symm
                · refine lv_bipush (v := (-2)) hx hb dX1_transfer_284 (by decide) ?_
                  refine lv_goto (tgt := 299) hx hb dX1_transfer_286 (by decide) ?_
                  have fin : r_transfer f t a st = ((-2), s54) := by
                    clear hP hD hS; subst e1; subst e3; subst e7; subst e8; subst e9; subst e10; subst e11; subst e12; subst e13; subst e14; subst e15; subst e16; subst e17; subst e18; subst e31; subst e44; subst t46; subst t48; subst t50; subst t52; subst t54; subst e55; simp only [r_transfer, r_trB, r_trAcc, r_trL, r_trS, r_doL, r_doS, r_end, r_zero, bI, c2, c4, c5, c6, c19, c32, c45, c56, ↓reduceIte, not_true_eq_false, not_false_eq_true, and_self, and_true, true_and, and_false, false_and, eq_self, i10]
                  exact cM_reti (Wd := RWd g0 g1 g2 g3 g4 g5 g6 cA cB) (st := s54) (st' := (r_transfer f t a st).2) hx hb hr hlocks dX1_transfer_299 hS hP hD (congrArg Prod.fst fin).symm (congrArg Prod.snd fin).symm
              · refine lv_lload hx hb dX1_transfer_100 (lv_at hl 2 rfl) ?_
                refine cS_call (n := 1) (as := [.long v9]) (rest := []) ⟨hx, hb, hml, hown, hts⟩ (c_X1_numberOf l v9) gX1_transfer_X1_numberOf rfl rfl rfl (by decide +kernel) ⟨Nat.le_of_ble_eq_true rfl, Nat.le_of_ble_eq_true rfl⟩ hl.1 rfl rfl (Nat.le_of_ble_eq_true rfl) dX1_transfer_102 ⟨Nat.zero_le _, Nat.zero_le _⟩ ?_
                refine tpi (fun v57 e57 => ?_)
                refine lv_ldc (v := 16777215) hx hb hown (hts (.constant RX1 106 16777215) (by decide +kernel)) dX1_transfer_105 ?_
                refine lv_icmp_ge (tgt := 114) hx hb dX1_transfer_107 (by decide) (fun c58 => ?_) (fun c58 => ?_)
                · refine lv_iconst (v := 0) hx hb dX1_transfer_114 (by decide) ?_
                  refine lv_istore (lv' := [(14, .int 0), (12, .long v17), (10, .long v13), (8, .long v9), (6, .long v8), (4, .long v7), (0, .ref g0), (1, .int f), (2, .int t), (3, .int a)]) hx hb dX1_transfer_115 hl (by decide) rfl (fun ls hl => ?_)
                  refine lv_aload_n hx hb dX1_transfer_117 rfl (lv_at hl 6 rfl) ?_
                  refine lv_iconst (v := 0) hx hb dX1_transfer_118 (by decide) ?_
                  refine va_put (D := D) (ci := 1) (v := .int 0) (ty := .int) (C := RX1) (T := TX1) (N := 11) hx hb hts (by decide +kernel) tyX1 tyX1_ok nmX1 hown hK hP hD hS 0 rfl rfl 9 (by decide) (hts (.fieldLink RX1 63 "FadeLedgerModel" "turns" "I") (by decide +kernel)) (fun _ h9 => h9) rfl (by decide +kernel) rfl rfl (Nat.le_of_ble_eq_true rfl) dX1_transfer_119 (fun H locs hP hD hS => ?_)
                  obtain ⟨s59, t59⟩ : ∃ y9 : RS, ((st.1, st.2.1, st.2.2.1, st.2.2.2.1, 0, st.2.2.2.2.2) : RS) = y9 := ⟨_, rfl⟩
                  replace hP : va_P D vwCl (RWd g0 g1 g2 g3 g4 g5 g6 cA cB s59) H := by rw [← t59]; exact hP
                  replace hD : va_D A (RWd g0 g1 g2 g3 g4 g5 g6 cA cB s59) := by rw [← t59]; exact hD
                  have hL60 : r_plan s59 [] := by rw [← t59]; exact plan_zero _
                  refine lv_aload_n hx hb dX1_transfer_122 rfl (lv_at hl 6 rfl) ?_
                  refine lv_iload_n hx hb dX1_transfer_123 rfl (lv_at hl 7 rfl) ?_
                  refine cM_this (Wd := RWd g0 g1 g2 g3 g4 g5 g6 cA cB) (ci := 1) (q0 := 0) (n := 1) (as := [.int f]) (rest := []) ⟨hx, hb, hml, hown, hts⟩ (c_X1_look l D g0 g1 g2 g3 g4 g5 g6 cA cB s59 f hf _ hL60.1 (by simp only [List.length_append, List.length_nil, List.length_cons, pl_look, pl_put] <;> decide)) gX1_transfer_X1_look rfl rfl rfl (by decide +kernel) ⟨Nat.le_of_ble_eq_true rfl, Nat.le_of_ble_eq_true rfl⟩ hK hP hD hS hA rfl rfl rfl hl.1 rfl rfl (Nat.le_of_ble_eq_true rfl) dX1_transfer_124 ⟨Nat.zero_le _, Nat.zero_le _⟩ (fun H locs hP hD hS => ?_)
                  refine W.eq (g2 := F0 m 127 ls []) rfl ?_
                  obtain ⟨s61, t61⟩ : ∃ y9 : RS, r_look f s59 = y9 := ⟨_, rfl⟩
                  replace hP : va_P D vwCl (RWd g0 g1 g2 g3 g4 g5 g6 cA cB s61) H := by rw [← t61]; exact hP
                  replace hD : va_D A (RWd g0 g1 g2 g3 g4 g5 g6 cA cB s61) := by rw [← t61]; exact hD
                  have hL62 : r_plan s61 ([] ++ p_look f (st.1.1 f.toNatClampNeg)) := by clear hP hD hS; subst t59; subst t61; exact plan_look f hL60 (by simp only [List.length_append, List.length_nil, List.length_cons, pl_look, pl_put] <;> decide) hf
                  refine lv_aload_n hx hb dX1_transfer_127 rfl (lv_at hl 6 rfl) ?_
                  refine lv_iload_n hx hb dX1_transfer_128 rfl (lv_at hl 8 rfl) ?_
                  refine cM_this (Wd := RWd g0 g1 g2 g3 g4 g5 g6 cA cB) (ci := 1) (q0 := 0) (n := 1) (as := [.int t]) (rest := []) ⟨hx, hb, hml, hown, hts⟩ (c_X1_look l D g0 g1 g2 g3 g4 g5 g6 cA cB s61 t ht _ hL62.1 (by simp only [List.length_append, List.length_nil, List.length_cons, pl_look, pl_put] <;> decide)) gX1_transfer_X1_look rfl rfl rfl (by decide +kernel) ⟨Nat.le_of_ble_eq_true rfl, Nat.le_of_ble_eq_true rfl⟩ hK hP hD hS hA rfl rfl rfl hl.1 rfl rfl (Nat.le_of_ble_eq_true rfl) dX1_transfer_129 ⟨Nat.zero_le _, Nat.zero_le _⟩ (fun H locs hP hD hS => ?_)
                  refine W.eq (g2 := F0 m 132 ls []) rfl ?_
                  obtain ⟨s63, t63⟩ : ∃ y9 : RS, r_look t s61 = y9 := ⟨_, rfl⟩
                  replace hP : va_P D vwCl (RWd g0 g1 g2 g3 g4 g5 g6 cA cB s63) H := by rw [← t63]; exact hP
                  replace hD : va_D A (RWd g0 g1 g2 g3 g4 g5 g6 cA cB s63) := by rw [← t63]; exact hD
                  have hL64 : r_plan s63 ([] ++ p_look f (st.1.1 f.toNatClampNeg) ++ p_look t (st.1.1 t.toNatClampNeg)) := by clear hP hD hS; subst t59; subst t61; subst t63; exact plan_look t hL62 (by simp only [List.length_append, List.length_nil, List.length_cons, pl_look, pl_put] <;> decide) ht
                  refine lv_aload_n hx hb dX1_transfer_132 rfl (lv_at hl 6 rfl) ?_
                  refine lv_bipush (v := 16) hx hb dX1_transfer_133 (by decide) ?_
                  refine cM_this (Wd := RWd g0 g1 g2 g3 g4 g5 g6 cA cB) (ci := 1) (q0 := 0) (n := 1) (as := [.int 16]) (rest := []) ⟨hx, hb, hml, hown, hts⟩ (c_X1_look l D g0 g1 g2 g3 g4 g5 g6 cA cB s63 16 in20_16 _ hL64.1 (by simp only [List.length_append, List.length_nil, List.length_cons, pl_look, pl_put] <;> decide)) gX1_transfer_X1_look rfl rfl rfl (by decide +kernel) ⟨Nat.le_of_ble_eq_true rfl, Nat.le_of_ble_eq_true rfl⟩ hK hP hD hS hA rfl rfl rfl hl.1 rfl rfl (Nat.le_of_ble_eq_true rfl) dX1_transfer_135 ⟨Nat.zero_le _, Nat.zero_le _⟩ (fun H locs hP hD hS => ?_)
                  refine W.eq (g2 := F0 m 138 ls []) rfl ?_
                  obtain ⟨s65, t65⟩ : ∃ y9 : RS, r_look 16 s63 = y9 := ⟨_, rfl⟩
                  replace hP : va_P D vwCl (RWd g0 g1 g2 g3 g4 g5 g6 cA cB s65) H := by rw [← t65]; exact hP
                  replace hD : va_D A (RWd g0 g1 g2 g3 g4 g5 g6 cA cB s65) := by rw [← t65]; exact hD
                  have hL66 : r_plan s65 ([] ++ p_look f (st.1.1 f.toNatClampNeg) ++ p_look t (st.1.1 t.toNatClampNeg) ++ p_look 16 (st.1.1 (16 : Int32).toNatClampNeg)) := by clear hP hD hS; subst t59; subst t61; subst t63; subst t65; exact plan_look 16 hL64 (by simp only [List.length_append, List.length_nil, List.length_cons, pl_look, pl_put] <;> decide) in20_16
                  refine lv_iload hx hb dX1_transfer_138 (lv_at hl 0 rfl) ?_
                  refine lv_if_eq (tgt := 277) hx hb dX1_transfer_140 (by decide) (fun _ => ?_) (fun c0 => absurd c0 (by decide))
                  refine lv_aload_n hx hb dX1_transfer_277 rfl (lv_at hl 6 rfl) ?_
                  refine cM_this (Wd := RWd g0 g1 g2 g3 g4 g5 g6 cA cB) (ci := 1) (q0 := 0) (n := 0) (as := []) (rest := []) ⟨hx, hb, hml, hown, hts⟩ (c_X1_works l D g0 g1 g2 g3 g4 g5 g6 cA cB s65 ([] ++ p_look f (st.1.1 f.toNatClampNeg) ++ p_look t (st.1.1 t.toNatClampNeg) ++ p_look 16 (st.1.1 (16 : Int32).toNatClampNeg)) hL66) gX1_transfer_X1_works rfl rfl rfl (by decide +kernel) ⟨Nat.le_of_ble_eq_true rfl, Nat.le_of_ble_eq_true rfl⟩ hK hP hD hS hA rfl rfl rfl hl.1 rfl rfl (Nat.le_of_ble_eq_true rfl) dX1_transfer_278 ⟨Nat.zero_le _, Nat.zero_le _⟩ (fun H locs hP hD hS => ?_)
                  obtain ⟨s67, t67⟩ : ∃ y9 : RS, (r_wk ([] ++ p_look f (st.1.1 f.toNatClampNeg) ++ p_look t (st.1.1 t.toNatClampNeg) ++ p_look 16 (st.1.1 (16 : Int32).toNatClampNeg)) s65).2 = y9 := ⟨_, rfl⟩
                  replace hP : va_P D vwCl (RWd g0 g1 g2 g3 g4 g5 g6 cA cB s67) H := by rw [← t67]; exact hP
                  replace hD : va_D A (RWd g0 g1 g2 g3 g4 g5 g6 cA cB s67) := by rw [← t67]; exact hD
                  refine tpi (fun v68 e68 => ?_)
                  refine lv_if_ne (tgt := 289) hx hb dX1_transfer_281 (by decide) (fun c69 => ?_) (fun c69 => ?_)
                  · refine lv_iload hx hb dX1_transfer_289 (lv_at hl 0 rfl) ?_
                    refine lv_if_eq (tgt := 298) hx hb dX1_transfer_291 (by decide) (fun _ => ?_) (fun c0 => absurd c0 (by decide))
                    refine lv_iconst (v := (-1)) hx hb dX1_transfer_298 (by decide) ?_
                    have fin : r_transfer f t a st = ((-1), s67) := by
                      clear hP hD hS; subst e1; subst e3; subst e7; subst e8; subst e9; subst e10; subst e11; subst e12; subst e13; subst e14; subst e15; subst e16; subst e17; subst e18; subst e31; subst e44; subst e57; subst t59; subst t61; subst t63; subst t65; subst t67; subst e68; simp only [r_transfer, r_trB, r_trAcc, r_trL, r_trS, r_doL, r_doS, r_end, r_zero, bI, c2, c4, c5, c6, c19, c32, c45, c58, c69, ↓reduceIte, not_true_eq_false, not_false_eq_true, and_self, and_true, true_and, and_false, false_and, eq_self, i10]
                    exact cM_reti (Wd := RWd g0 g1 g2 g3 g4 g5 g6 cA cB) (st := s67) (st' := (r_transfer f t a st).2) hx hb hr hlocks dX1_transfer_299 hS hP hD (congrArg Prod.fst fin).symm (congrArg Prod.snd fin).symm
                  · refine lv_bipush (v := (-2)) hx hb dX1_transfer_284 (by decide) ?_
                    refine lv_goto (tgt := 299) hx hb dX1_transfer_286 (by decide) ?_
                    have fin : r_transfer f t a st = ((-2), s67) := by
                      clear hP hD hS; subst e1; subst e3; subst e7; subst e8; subst e9; subst e10; subst e11; subst e12; subst e13; subst e14; subst e15; subst e16; subst e17; subst e18; subst e31; subst e44; subst e57; subst t59; subst t61; subst t63; subst t65; subst t67; subst e68; simp only [r_transfer, r_trB, r_trAcc, r_trL, r_trS, r_doL, r_doS, r_end, r_zero, bI, c2, c4, c5, c6, c19, c32, c45, c58, c69, ↓reduceIte, not_true_eq_false, not_false_eq_true, and_self, and_true, true_and, and_false, false_and, eq_self, i10]
                    exact cM_reti (Wd := RWd g0 g1 g2 g3 g4 g5 g6 cA cB) (st := s67) (st' := (r_transfer f t a st).2) hx hb hr hlocks dX1_transfer_299 hS hP hD (congrArg Prod.fst fin).symm (congrArg Prod.snd fin).symm
                · refine lv_iconst (v := 1) hx hb dX1_transfer_110 (by decide) ?_
                  refine lv_goto (tgt := 115) hx hb dX1_transfer_111 (by decide) ?_
                  refine lv_istore (lv' := [(14, .int 1), (12, .long v17), (10, .long v13), (8, .long v9), (6, .long v8), (4, .long v7), (0, .ref g0), (1, .int f), (2, .int t), (3, .int a)]) hx hb dX1_transfer_115 hl (by decide) rfl (fun ls hl => ?_)
                  refine lv_aload_n hx hb dX1_transfer_117 rfl (lv_at hl 6 rfl) ?_
                  refine lv_iconst (v := 0) hx hb dX1_transfer_118 (by decide) ?_
                  refine va_put (D := D) (ci := 1) (v := .int 0) (ty := .int) (C := RX1) (T := TX1) (N := 11) hx hb hts (by decide +kernel) tyX1 tyX1_ok nmX1 hown hK hP hD hS 0 rfl rfl 9 (by decide) (hts (.fieldLink RX1 63 "FadeLedgerModel" "turns" "I") (by decide +kernel)) (fun _ h9 => h9) rfl (by decide +kernel) rfl rfl (Nat.le_of_ble_eq_true rfl) dX1_transfer_119 (fun H locs hP hD hS => ?_)
                  obtain ⟨s70, t70⟩ : ∃ y9 : RS, ((st.1, st.2.1, st.2.2.1, st.2.2.2.1, 0, st.2.2.2.2.2) : RS) = y9 := ⟨_, rfl⟩
                  replace hP : va_P D vwCl (RWd g0 g1 g2 g3 g4 g5 g6 cA cB s70) H := by rw [← t70]; exact hP
                  replace hD : va_D A (RWd g0 g1 g2 g3 g4 g5 g6 cA cB s70) := by rw [← t70]; exact hD
                  have hL71 : r_plan s70 [] := by rw [← t70]; exact plan_zero _
                  refine lv_aload_n hx hb dX1_transfer_122 rfl (lv_at hl 6 rfl) ?_
                  refine lv_iload_n hx hb dX1_transfer_123 rfl (lv_at hl 7 rfl) ?_
                  refine cM_this (Wd := RWd g0 g1 g2 g3 g4 g5 g6 cA cB) (ci := 1) (q0 := 0) (n := 1) (as := [.int f]) (rest := []) ⟨hx, hb, hml, hown, hts⟩ (c_X1_look l D g0 g1 g2 g3 g4 g5 g6 cA cB s70 f hf _ hL71.1 (by simp only [List.length_append, List.length_nil, List.length_cons, pl_look, pl_put] <;> decide)) gX1_transfer_X1_look rfl rfl rfl (by decide +kernel) ⟨Nat.le_of_ble_eq_true rfl, Nat.le_of_ble_eq_true rfl⟩ hK hP hD hS hA rfl rfl rfl hl.1 rfl rfl (Nat.le_of_ble_eq_true rfl) dX1_transfer_124 ⟨Nat.zero_le _, Nat.zero_le _⟩ (fun H locs hP hD hS => ?_)
                  refine W.eq (g2 := F0 m 127 ls []) rfl ?_
                  obtain ⟨s72, t72⟩ : ∃ y9 : RS, r_look f s70 = y9 := ⟨_, rfl⟩
                  replace hP : va_P D vwCl (RWd g0 g1 g2 g3 g4 g5 g6 cA cB s72) H := by rw [← t72]; exact hP
                  replace hD : va_D A (RWd g0 g1 g2 g3 g4 g5 g6 cA cB s72) := by rw [← t72]; exact hD
                  have hL73 : r_plan s72 ([] ++ p_look f (st.1.1 f.toNatClampNeg)) := by clear hP hD hS; subst t70; subst t72; exact plan_look f hL71 (by simp only [List.length_append, List.length_nil, List.length_cons, pl_look, pl_put] <;> decide) hf
                  refine lv_aload_n hx hb dX1_transfer_127 rfl (lv_at hl 6 rfl) ?_
                  refine lv_iload_n hx hb dX1_transfer_128 rfl (lv_at hl 8 rfl) ?_
                  refine cM_this (Wd := RWd g0 g1 g2 g3 g4 g5 g6 cA cB) (ci := 1) (q0 := 0) (n := 1) (as := [.int t]) (rest := []) ⟨hx, hb, hml, hown, hts⟩ (c_X1_look l D g0 g1 g2 g3 g4 g5 g6 cA cB s72 t ht _ hL73.1 (by simp only [List.length_append, List.length_nil, List.length_cons, pl_look, pl_put] <;> decide)) gX1_transfer_X1_look rfl rfl rfl (by decide +kernel) ⟨Nat.le_of_ble_eq_true rfl, Nat.le_of_ble_eq_true rfl⟩ hK hP hD hS hA rfl rfl rfl hl.1 rfl rfl (Nat.le_of_ble_eq_true rfl) dX1_transfer_129 ⟨Nat.zero_le _, Nat.zero_le _⟩ (fun H locs hP hD hS => ?_)
                  refine W.eq (g2 := F0 m 132 ls []) rfl ?_
                  obtain ⟨s74, t74⟩ : ∃ y9 : RS, r_look t s72 = y9 := ⟨_, rfl⟩
                  replace hP : va_P D vwCl (RWd g0 g1 g2 g3 g4 g5 g6 cA cB s74) H := by rw [← t74]; exact hP
                  replace hD : va_D A (RWd g0 g1 g2 g3 g4 g5 g6 cA cB s74) := by rw [← t74]; exact hD
                  have hL75 : r_plan s74 ([] ++ p_look f (st.1.1 f.toNatClampNeg) ++ p_look t (st.1.1 t.toNatClampNeg)) := by clear hP hD hS; subst t70; subst t72; subst t74; exact plan_look t hL73 (by simp only [List.length_append, List.length_nil, List.length_cons, pl_look, pl_put] <;> decide) ht
                  refine lv_aload_n hx hb dX1_transfer_132 rfl (lv_at hl 6 rfl) ?_
                  refine lv_bipush (v := 16) hx hb dX1_transfer_133 (by decide) ?_
                  refine cM_this (Wd := RWd g0 g1 g2 g3 g4 g5 g6 cA cB) (ci := 1) (q0 := 0) (n := 1) (as := [.int 16]) (rest := []) ⟨hx, hb, hml, hown, hts⟩ (c_X1_look l D g0 g1 g2 g3 g4 g5 g6 cA cB s74 16 in20_16 _ hL75.1 (by simp only [List.length_append, List.length_nil, List.length_cons, pl_look, pl_put] <;> decide)) gX1_transfer_X1_look rfl rfl rfl (by decide +kernel) ⟨Nat.le_of_ble_eq_true rfl, Nat.le_of_ble_eq_true rfl⟩ hK hP hD hS hA rfl rfl rfl hl.1 rfl rfl (Nat.le_of_ble_eq_true rfl) dX1_transfer_135 ⟨Nat.zero_le _, Nat.zero_le _⟩ (fun H locs hP hD hS => ?_)
                  refine W.eq (g2 := F0 m 138 ls []) rfl ?_
                  obtain ⟨s76, t76⟩ : ∃ y9 : RS, r_look 16 s74 = y9 := ⟨_, rfl⟩
                  replace hP : va_P D vwCl (RWd g0 g1 g2 g3 g4 g5 g6 cA cB s76) H := by rw [← t76]; exact hP
                  replace hD : va_D A (RWd g0 g1 g2 g3 g4 g5 g6 cA cB s76) := by rw [← t76]; exact hD
                  have hL77 : r_plan s76 ([] ++ p_look f (st.1.1 f.toNatClampNeg) ++ p_look t (st.1.1 t.toNatClampNeg) ++ p_look 16 (st.1.1 (16 : Int32).toNatClampNeg)) := by clear hP hD hS; subst t70; subst t72; subst t74; subst t76; exact plan_look 16 hL75 (by simp only [List.length_append, List.length_nil, List.length_cons, pl_look, pl_put] <;> decide) in20_16
                  refine lv_iload hx hb dX1_transfer_138 (lv_at hl 0 rfl) ?_
                  refine lv_if_eq (tgt := 277) hx hb dX1_transfer_140 (by decide) (fun c0 => absurd c0 (by decide)) (fun _ => ?_)
                  refine lv_lload hx hb dX1_transfer_143 (lv_at hl 3 rfl) ?_
                  refine cS_call (n := 1) (as := [.long v9]) (rest := []) ⟨hx, hb, hml, hown, hts⟩ (c_X1_numberOf l v9) gX1_transfer_X1_numberOf rfl rfl rfl (by decide +kernel) ⟨Nat.le_of_ble_eq_true rfl, Nat.le_of_ble_eq_true rfl⟩ hl.1 rfl rfl (Nat.le_of_ble_eq_true rfl) dX1_transfer_145 ⟨Nat.zero_le _, Nat.zero_le _⟩ ?_
                  refine tpi (fun v78 e78 => ?_)
                  refine lv_iconst (v := 1) hx hb dX1_transfer_148 (by decide) ?_
                  refine lv_iadd hx hb dX1_transfer_149 ?_
                  refine tpi (fun v79 e79 => ?_)
                  refine lv_istore (lv' := [(15, .int v79), (14, .int 1), (12, .long v17), (10, .long v13), (8, .long v9), (6, .long v8), (4, .long v7), (0, .ref g0), (1, .int f), (2, .int t), (3, .int a)]) hx hb dX1_transfer_150 hl (by decide) rfl (fun ls hl => ?_)
                  refine lv_sipush (v := 256) hx hb dX1_transfer_152 (by decide) ?_
                  refine lv_iload_n hx hb dX1_transfer_155 rfl (lv_at hl 8 rfl) ?_
                  refine lv_imul hx hb dX1_transfer_156 ?_
                  refine tpi (fun v80 e80 => ?_)
                  refine lv_iload_n hx hb dX1_transfer_157 rfl (lv_at hl 9 rfl) ?_
                  refine lv_iadd hx hb dX1_transfer_158 ?_
                  refine tpi (fun v81 e81 => ?_)
                  refine lv_istore (lv' := [(16, .int v81), (15, .int v79), (14, .int 1), (12, .long v17), (10, .long v13), (8, .long v9), (6, .long v8), (4, .long v7), (0, .ref g0), (1, .int f), (2, .int t), (3, .int a)]) hx hb dX1_transfer_159 hl (by decide) rfl (fun ls hl => ?_)
                  refine lv_aload_n hx hb dX1_transfer_161 rfl (lv_at hl 8 rfl) ?_
                  refine lv_bipush (v := 16) hx hb dX1_transfer_162 (by decide) ?_
                  refine lv_iload_n hx hb dX1_transfer_164 rfl (lv_at hl 11 rfl) ?_
                  refine lv_iload hx hb dX1_transfer_165 (lv_at hl 1 rfl) ?_
                  refine cS_call (n := 2) (as := [.int a, .int v79]) (rest := [.int 16, .ref g0]) ⟨hx, hb, hml, hown, hts⟩ (c_X1_wordOf l a v79) gX1_transfer_X1_wordOf rfl rfl rfl (by decide +kernel) ⟨Nat.le_of_ble_eq_true rfl, Nat.le_of_ble_eq_true rfl⟩ hl.1 rfl rfl (Nat.le_of_ble_eq_true rfl) dX1_transfer_167 ⟨Nat.zero_le _, Nat.zero_le _⟩ ?_
                  refine tpl (fun v82 e82 => ?_)
                  refine cM_this (Wd := RWd g0 g1 g2 g3 g4 g5 g6 cA cB) (ci := 1) (q0 := 0) (n := 2) (as := [.int 16, .long v82]) (rest := []) ⟨hx, hb, hml, hown, hts⟩ (c_X1_putAll l D g0 g1 g2 g3 g4 g5 g6 cA cB s76 16 v82 _ hL77.1 (by simp only [List.length_append, List.length_nil, List.length_cons, pl_look, pl_put] <;> decide)) gX1_transfer_X1_putAll rfl rfl rfl (by decide +kernel) ⟨Nat.le_of_ble_eq_true rfl, Nat.le_of_ble_eq_true rfl⟩ hK hP hD hS hA rfl rfl rfl hl.1 rfl rfl (Nat.le_of_ble_eq_true rfl) dX1_transfer_170 ⟨Nat.zero_le _, Nat.zero_le _⟩ (fun H locs hP hD hS => ?_)
                  refine W.eq (g2 := F0 m 173 ls []) rfl ?_
                  obtain ⟨s83, t83⟩ : ∃ y9 : RS, r_put 16 v82 s76 = y9 := ⟨_, rfl⟩
                  replace hP : va_P D vwCl (RWd g0 g1 g2 g3 g4 g5 g6 cA cB s83) H := by rw [← t83]; exact hP
                  replace hD : va_D A (RWd g0 g1 g2 g3 g4 g5 g6 cA cB s83) := by rw [← t83]; exact hD
                  have hL84 : r_plan s83 ([] ++ p_look f (st.1.1 f.toNatClampNeg) ++ p_look t (st.1.1 t.toNatClampNeg) ++ p_look 16 (st.1.1 (16 : Int32).toNatClampNeg) ++ p_put 16 v82) := by clear hP hD hS; subst t70; subst t72; subst t74; subst t76; subst t83; exact plan_put 16 v82 hL77 (by simp only [List.length_append, List.length_nil, List.length_cons, pl_look, pl_put] <;> decide) in20_16
                  refine lv_aload_n hx hb dX1_transfer_173 rfl (lv_at hl 8 rfl) ?_
                  refine lv_bipush (v := 17) hx hb dX1_transfer_174 (by decide) ?_
                  refine lv_lload hx hb dX1_transfer_176 (lv_at hl 7 rfl) ?_
                  refine cS_call (n := 1) (as := [.long v7]) (rest := [.int 17, .ref g0]) ⟨hx, hb, hml, hown, hts⟩ (c_X1_numberOf l v7) gX1_transfer_X1_numberOf rfl rfl rfl (by decide +kernel) ⟨Nat.le_of_ble_eq_true rfl, Nat.le_of_ble_eq_true rfl⟩ hl.1 rfl rfl (Nat.le_of_ble_eq_true rfl) dX1_transfer_178 ⟨Nat.zero_le _, Nat.zero_le _⟩ ?_
                  refine tpi (fun v85 e85 => ?_)
                  refine lv_iconst (v := 1) hx hb dX1_transfer_181 (by decide) ?_
                  refine lv_iadd hx hb dX1_transfer_182 ?_
                  refine tpi (fun v86 e86 => ?_)
                  refine lv_iload hx hb dX1_transfer_183 (lv_at hl 1 rfl) ?_
                  refine cS_call (n := 2) (as := [.int v86, .int v79]) (rest := [.int 17, .ref g0]) ⟨hx, hb, hml, hown, hts⟩ (c_X1_wordOf l v86 v79) gX1_transfer_X1_wordOf rfl rfl rfl (by decide +kernel) ⟨Nat.le_of_ble_eq_true rfl, Nat.le_of_ble_eq_true rfl⟩ hl.1 rfl rfl (Nat.le_of_ble_eq_true rfl) dX1_transfer_185 ⟨Nat.zero_le _, Nat.zero_le _⟩ ?_
                  refine tpl (fun v87 e87 => ?_)
                  refine cM_this (Wd := RWd g0 g1 g2 g3 g4 g5 g6 cA cB) (ci := 1) (q0 := 0) (n := 2) (as := [.int 17, .long v87]) (rest := []) ⟨hx, hb, hml, hown, hts⟩ (c_X1_putAll l D g0 g1 g2 g3 g4 g5 g6 cA cB s83 17 v87 _ hL84.1 (by simp only [List.length_append, List.length_nil, List.length_cons, pl_look, pl_put] <;> decide)) gX1_transfer_X1_putAll rfl rfl rfl (by decide +kernel) ⟨Nat.le_of_ble_eq_true rfl, Nat.le_of_ble_eq_true rfl⟩ hK hP hD hS hA rfl rfl rfl hl.1 rfl rfl (Nat.le_of_ble_eq_true rfl) dX1_transfer_188 ⟨Nat.zero_le _, Nat.zero_le _⟩ (fun H locs hP hD hS => ?_)
                  refine W.eq (g2 := F0 m 191 ls []) rfl ?_
                  obtain ⟨s88, t88⟩ : ∃ y9 : RS, r_put 17 v87 s83 = y9 := ⟨_, rfl⟩
                  replace hP : va_P D vwCl (RWd g0 g1 g2 g3 g4 g5 g6 cA cB s88) H := by rw [← t88]; exact hP
                  replace hD : va_D A (RWd g0 g1 g2 g3 g4 g5 g6 cA cB s88) := by rw [← t88]; exact hD
                  have hL89 : r_plan s88 ([] ++ p_look f (st.1.1 f.toNatClampNeg) ++ p_look t (st.1.1 t.toNatClampNeg) ++ p_look 16 (st.1.1 (16 : Int32).toNatClampNeg) ++ p_put 16 v82 ++ p_put 17 v87) := by clear hP hD hS; subst t70; subst t72; subst t74; subst t76; subst t83; subst t88; exact plan_put 17 v87 hL84 (by simp only [List.length_append, List.length_nil, List.length_cons, pl_look, pl_put] <;> decide) in20_17
                  refine lv_aload_n hx hb dX1_transfer_191 rfl (lv_at hl 8 rfl) ?_
                  refine lv_bipush (v := 18) hx hb dX1_transfer_192 (by decide) ?_
                  refine lv_lload hx hb dX1_transfer_194 (lv_at hl 6 rfl) ?_
                  refine cS_call (n := 1) (as := [.long v8]) (rest := [.int 18, .ref g0]) ⟨hx, hb, hml, hown, hts⟩ (c_X1_numberOf l v8) gX1_transfer_X1_numberOf rfl rfl rfl (by decide +kernel) ⟨Nat.le_of_ble_eq_true rfl, Nat.le_of_ble_eq_true rfl⟩ hl.1 rfl rfl (Nat.le_of_ble_eq_true rfl) dX1_transfer_196 ⟨Nat.zero_le _, Nat.zero_le _⟩ ?_
                  refine tpi (fun v90 e90 => ?_)
                  refine lv_iconst (v := 1) hx hb dX1_transfer_199 (by decide) ?_
                  refine lv_iadd hx hb dX1_transfer_200 ?_
                  refine tpi (fun v91 e91 => ?_)
                  refine lv_iload hx hb dX1_transfer_201 (lv_at hl 1 rfl) ?_
                  refine cS_call (n := 2) (as := [.int v91, .int v79]) (rest := [.int 18, .ref g0]) ⟨hx, hb, hml, hown, hts⟩ (c_X1_wordOf l v91 v79) gX1_transfer_X1_wordOf rfl rfl rfl (by decide +kernel) ⟨Nat.le_of_ble_eq_true rfl, Nat.le_of_ble_eq_true rfl⟩ hl.1 rfl rfl (Nat.le_of_ble_eq_true rfl) dX1_transfer_203 ⟨Nat.zero_le _, Nat.zero_le _⟩ ?_
                  refine tpl (fun v92 e92 => ?_)
                  refine cM_this (Wd := RWd g0 g1 g2 g3 g4 g5 g6 cA cB) (ci := 1) (q0 := 0) (n := 2) (as := [.int 18, .long v92]) (rest := []) ⟨hx, hb, hml, hown, hts⟩ (c_X1_putAll l D g0 g1 g2 g3 g4 g5 g6 cA cB s88 18 v92 _ hL89.1 (by simp only [List.length_append, List.length_nil, List.length_cons, pl_look, pl_put] <;> decide)) gX1_transfer_X1_putAll rfl rfl rfl (by decide +kernel) ⟨Nat.le_of_ble_eq_true rfl, Nat.le_of_ble_eq_true rfl⟩ hK hP hD hS hA rfl rfl rfl hl.1 rfl rfl (Nat.le_of_ble_eq_true rfl) dX1_transfer_206 ⟨Nat.zero_le _, Nat.zero_le _⟩ (fun H locs hP hD hS => ?_)
                  refine W.eq (g2 := F0 m 209 ls []) rfl ?_
                  obtain ⟨s93, t93⟩ : ∃ y9 : RS, r_put 18 v92 s88 = y9 := ⟨_, rfl⟩
                  replace hP : va_P D vwCl (RWd g0 g1 g2 g3 g4 g5 g6 cA cB s93) H := by rw [← t93]; exact hP
                  replace hD : va_D A (RWd g0 g1 g2 g3 g4 g5 g6 cA cB s93) := by rw [← t93]; exact hD
                  have hL94 : r_plan s93 ([] ++ p_look f (st.1.1 f.toNatClampNeg) ++ p_look t (st.1.1 t.toNatClampNeg) ++ p_look 16 (st.1.1 (16 : Int32).toNatClampNeg) ++ p_put 16 v82 ++ p_put 17 v87 ++ p_put 18 v92) := by clear hP hD hS; subst t70; subst t72; subst t74; subst t76; subst t83; subst t88; subst t93; exact plan_put 18 v92 hL89 (by simp only [List.length_append, List.length_nil, List.length_cons, pl_look, pl_put] <;> decide) in20_18
                  refine lv_aload_n hx hb dX1_transfer_209 rfl (lv_at hl 8 rfl) ?_
                  refine lv_bipush (v := 19) hx hb dX1_transfer_210 (by decide) ?_
                  refine lv_iload hx hb dX1_transfer_212 (lv_at hl 0 rfl) ?_
                  refine lv_ldc (v := 65536) hx hb hown (hts (.constant RX1 114 65536) (by decide +kernel)) dX1_transfer_214 ?_
                  refine lv_iadd hx hb dX1_transfer_216 ?_
                  refine tpi (fun v95 e95 => ?_)
                  refine lv_iload hx hb dX1_transfer_217 (lv_at hl 1 rfl) ?_
                  refine cS_call (n := 2) (as := [.int v95, .int v79]) (rest := [.int 19, .ref g0]) ⟨hx, hb, hml, hown, hts⟩ (c_X1_wordOf l v95 v79) gX1_transfer_X1_wordOf rfl rfl rfl (by decide +kernel) ⟨Nat.le_of_ble_eq_true rfl, Nat.le_of_ble_eq_true rfl⟩ hl.1 rfl rfl (Nat.le_of_ble_eq_true rfl) dX1_transfer_219 ⟨Nat.zero_le _, Nat.zero_le _⟩ ?_
                  refine tpl (fun v96 e96 => ?_)
                  refine cM_this (Wd := RWd g0 g1 g2 g3 g4 g5 g6 cA cB) (ci := 1) (q0 := 0) (n := 2) (as := [.int 19, .long v96]) (rest := []) ⟨hx, hb, hml, hown, hts⟩ (c_X1_putAll l D g0 g1 g2 g3 g4 g5 g6 cA cB s93 19 v96 _ hL94.1 (by simp only [List.length_append, List.length_nil, List.length_cons, pl_look, pl_put] <;> decide)) gX1_transfer_X1_putAll rfl rfl rfl (by decide +kernel) ⟨Nat.le_of_ble_eq_true rfl, Nat.le_of_ble_eq_true rfl⟩ hK hP hD hS hA rfl rfl rfl hl.1 rfl rfl (Nat.le_of_ble_eq_true rfl) dX1_transfer_222 ⟨Nat.zero_le _, Nat.zero_le _⟩ (fun H locs hP hD hS => ?_)
                  refine W.eq (g2 := F0 m 225 ls []) rfl ?_
                  obtain ⟨s97, t97⟩ : ∃ y9 : RS, r_put 19 v96 s93 = y9 := ⟨_, rfl⟩
                  replace hP : va_P D vwCl (RWd g0 g1 g2 g3 g4 g5 g6 cA cB s97) H := by rw [← t97]; exact hP
                  replace hD : va_D A (RWd g0 g1 g2 g3 g4 g5 g6 cA cB s97) := by rw [← t97]; exact hD
                  have hL98 : r_plan s97 ([] ++ p_look f (st.1.1 f.toNatClampNeg) ++ p_look t (st.1.1 t.toNatClampNeg) ++ p_look 16 (st.1.1 (16 : Int32).toNatClampNeg) ++ p_put 16 v82 ++ p_put 17 v87 ++ p_put 18 v92 ++ p_put 19 v96) := by clear hP hD hS; subst t70; subst t72; subst t74; subst t76; subst t83; subst t88; subst t93; subst t97; exact plan_put 19 v96 hL94 (by simp only [List.length_append, List.length_nil, List.length_cons, pl_look, pl_put] <;> decide) in20_19
                  refine lv_aload_n hx hb dX1_transfer_225 rfl (lv_at hl 8 rfl) ?_
                  refine lv_iload_n hx hb dX1_transfer_226 rfl (lv_at hl 9 rfl) ?_
                  refine lv_lload hx hb dX1_transfer_227 (lv_at hl 4 rfl) ?_
                  refine lv_l2i hx hb dX1_transfer_229 rfl ?_
                  refine tpi (fun v99 e99 => ?_)
                  refine lv_lload hx hb dX1_transfer_230 (lv_at hl 7 rfl) ?_
                  refine cS_call (n := 1) (as := [.long v7]) (rest := [.int v99, .int f, .ref g0]) ⟨hx, hb, hml, hown, hts⟩ (c_X1_numberOf l v7) gX1_transfer_X1_numberOf rfl rfl rfl (by decide +kernel) ⟨Nat.le_of_ble_eq_true rfl, Nat.le_of_ble_eq_true rfl⟩ hl.1 rfl rfl (Nat.le_of_ble_eq_true rfl) dX1_transfer_232 ⟨Nat.zero_le _, Nat.zero_le _⟩ ?_
                  refine tpi (fun v100 e100 => ?_)
                  refine lv_iconst (v := 1) hx hb dX1_transfer_235 (by decide) ?_
                  refine lv_iadd hx hb dX1_transfer_236 ?_
                  refine tpi (fun v101 e101 => ?_)
                  refine cS_call (n := 2) (as := [.int v99, .int v101]) (rest := [.int f, .ref g0]) ⟨hx, hb, hml, hown, hts⟩ (c_X1_wordOf l v99 v101) gX1_transfer_X1_wordOf rfl rfl rfl (by decide +kernel) ⟨Nat.le_of_ble_eq_true rfl, Nat.le_of_ble_eq_true rfl⟩ hl.1 rfl rfl (Nat.le_of_ble_eq_true rfl) dX1_transfer_237 ⟨Nat.zero_le _, Nat.zero_le _⟩ ?_
                  refine tpl (fun v102 e102 => ?_)
                  refine cM_this (Wd := RWd g0 g1 g2 g3 g4 g5 g6 cA cB) (ci := 1) (q0 := 0) (n := 2) (as := [.int f, .long v102]) (rest := []) ⟨hx, hb, hml, hown, hts⟩ (c_X1_putAll l D g0 g1 g2 g3 g4 g5 g6 cA cB s97 f v102 _ hL98.1 (by simp only [List.length_append, List.length_nil, List.length_cons, pl_look, pl_put] <;> decide)) gX1_transfer_X1_putAll rfl rfl rfl (by decide +kernel) ⟨Nat.le_of_ble_eq_true rfl, Nat.le_of_ble_eq_true rfl⟩ hK hP hD hS hA rfl rfl rfl hl.1 rfl rfl (Nat.le_of_ble_eq_true rfl) dX1_transfer_240 ⟨Nat.zero_le _, Nat.zero_le _⟩ (fun H locs hP hD hS => ?_)
                  refine W.eq (g2 := F0 m 243 ls []) rfl ?_
                  obtain ⟨s103, t103⟩ : ∃ y9 : RS, r_put f v102 s97 = y9 := ⟨_, rfl⟩
                  replace hP : va_P D vwCl (RWd g0 g1 g2 g3 g4 g5 g6 cA cB s103) H := by rw [← t103]; exact hP
                  replace hD : va_D A (RWd g0 g1 g2 g3 g4 g5 g6 cA cB s103) := by rw [← t103]; exact hD
                  have hL104 : r_plan s103 ([] ++ p_look f (st.1.1 f.toNatClampNeg) ++ p_look t (st.1.1 t.toNatClampNeg) ++ p_look 16 (st.1.1 (16 : Int32).toNatClampNeg) ++ p_put 16 v82 ++ p_put 17 v87 ++ p_put 18 v92 ++ p_put 19 v96 ++ p_put f v102) := by clear hP hD hS; subst t70; subst t72; subst t74; subst t76; subst t83; subst t88; subst t93; subst t97; subst t103; exact plan_put f v102 hL98 (by simp only [List.length_append, List.length_nil, List.length_cons, pl_look, pl_put] <;> decide) hf
                  refine lv_aload_n hx hb dX1_transfer_243 rfl (lv_at hl 8 rfl) ?_
                  refine lv_iload_n hx hb dX1_transfer_244 rfl (lv_at hl 10 rfl) ?_
                  refine lv_lload hx hb dX1_transfer_245 (lv_at hl 3 rfl) ?_
                  refine lv_l2i hx hb dX1_transfer_247 rfl ?_
                  refine tpi (fun v105 e105 => ?_)
                  refine lv_lload hx hb dX1_transfer_248 (lv_at hl 6 rfl) ?_
                  refine cS_call (n := 1) (as := [.long v8]) (rest := [.int v105, .int t, .ref g0]) ⟨hx, hb, hml, hown, hts⟩ (c_X1_numberOf l v8) gX1_transfer_X1_numberOf rfl rfl rfl (by decide +kernel) ⟨Nat.le_of_ble_eq_true rfl, Nat.le_of_ble_eq_true rfl⟩ hl.1 rfl rfl (Nat.le_of_ble_eq_true rfl) dX1_transfer_250 ⟨Nat.zero_le _, Nat.zero_le _⟩ ?_
                  refine tpi (fun v106 e106 => ?_)
                  refine lv_iconst (v := 1) hx hb dX1_transfer_253 (by decide) ?_
                  refine lv_iadd hx hb dX1_transfer_254 ?_
                  refine tpi (fun v107 e107 => ?_)
                  refine cS_call (n := 2) (as := [.int v105, .int v107]) (rest := [.int t, .ref g0]) ⟨hx, hb, hml, hown, hts⟩ (c_X1_wordOf l v105 v107) gX1_transfer_X1_wordOf rfl rfl rfl (by decide +kernel) ⟨Nat.le_of_ble_eq_true rfl, Nat.le_of_ble_eq_true rfl⟩ hl.1 rfl rfl (Nat.le_of_ble_eq_true rfl) dX1_transfer_255 ⟨Nat.zero_le _, Nat.zero_le _⟩ ?_
                  refine tpl (fun v108 e108 => ?_)
                  refine cM_this (Wd := RWd g0 g1 g2 g3 g4 g5 g6 cA cB) (ci := 1) (q0 := 0) (n := 2) (as := [.int t, .long v108]) (rest := []) ⟨hx, hb, hml, hown, hts⟩ (c_X1_putAll l D g0 g1 g2 g3 g4 g5 g6 cA cB s103 t v108 _ hL104.1 (by simp only [List.length_append, List.length_nil, List.length_cons, pl_look, pl_put] <;> decide)) gX1_transfer_X1_putAll rfl rfl rfl (by decide +kernel) ⟨Nat.le_of_ble_eq_true rfl, Nat.le_of_ble_eq_true rfl⟩ hK hP hD hS hA rfl rfl rfl hl.1 rfl rfl (Nat.le_of_ble_eq_true rfl) dX1_transfer_258 ⟨Nat.zero_le _, Nat.zero_le _⟩ (fun H locs hP hD hS => ?_)
                  refine W.eq (g2 := F0 m 261 ls []) rfl ?_
                  obtain ⟨s109, t109⟩ : ∃ y9 : RS, r_put t v108 s103 = y9 := ⟨_, rfl⟩
                  replace hP : va_P D vwCl (RWd g0 g1 g2 g3 g4 g5 g6 cA cB s109) H := by rw [← t109]; exact hP
                  replace hD : va_D A (RWd g0 g1 g2 g3 g4 g5 g6 cA cB s109) := by rw [← t109]; exact hD
                  have hL110 : r_plan s109 ([] ++ p_look f (st.1.1 f.toNatClampNeg) ++ p_look t (st.1.1 t.toNatClampNeg) ++ p_look 16 (st.1.1 (16 : Int32).toNatClampNeg) ++ p_put 16 v82 ++ p_put 17 v87 ++ p_put 18 v92 ++ p_put 19 v96 ++ p_put f v102 ++ p_put t v108) := by clear hP hD hS; subst t70; subst t72; subst t74; subst t76; subst t83; subst t88; subst t93; subst t97; subst t103; subst t109; exact plan_put t v108 hL104 (by simp only [List.length_append, List.length_nil, List.length_cons, pl_look, pl_put] <;> decide) ht
                  refine lv_aload_n hx hb dX1_transfer_261 rfl (lv_at hl 8 rfl) ?_
                  refine lv_bipush (v := 19) hx hb dX1_transfer_262 (by decide) ?_
                  refine lv_iload hx hb dX1_transfer_264 (lv_at hl 0 rfl) ?_
                  refine lv_ldc (v := 131072) hx hb hown (hts (.constant RX1 115 131072) (by decide +kernel)) dX1_transfer_266 ?_
                  refine lv_iadd hx hb dX1_transfer_268 ?_
                  refine tpi (fun v111 e111 => ?_)
                  refine lv_iload hx hb dX1_transfer_269 (lv_at hl 1 rfl) ?_
                  refine cS_call (n := 2) (as := [.int v111, .int v79]) (rest := [.int 19, .ref g0]) ⟨hx, hb, hml, hown, hts⟩ (c_X1_wordOf l v111 v79) gX1_transfer_X1_wordOf rfl rfl rfl (by decide +kernel) ⟨Nat.le_of_ble_eq_true rfl, Nat.le_of_ble_eq_true rfl⟩ hl.1 rfl rfl (Nat.le_of_ble_eq_true rfl) dX1_transfer_271 ⟨Nat.zero_le _, Nat.zero_le _⟩ ?_
                  refine tpl (fun v112 e112 => ?_)
                  refine cM_this (Wd := RWd g0 g1 g2 g3 g4 g5 g6 cA cB) (ci := 1) (q0 := 0) (n := 2) (as := [.int 19, .long v112]) (rest := []) ⟨hx, hb, hml, hown, hts⟩ (c_X1_putAll l D g0 g1 g2 g3 g4 g5 g6 cA cB s109 19 v112 _ hL110.1 (by simp only [List.length_append, List.length_nil, List.length_cons, pl_look, pl_put] <;> decide)) gX1_transfer_X1_putAll rfl rfl rfl (by decide +kernel) ⟨Nat.le_of_ble_eq_true rfl, Nat.le_of_ble_eq_true rfl⟩ hK hP hD hS hA rfl rfl rfl hl.1 rfl rfl (Nat.le_of_ble_eq_true rfl) dX1_transfer_274 ⟨Nat.zero_le _, Nat.zero_le _⟩ (fun H locs hP hD hS => ?_)
                  refine W.eq (g2 := F0 m 277 ls []) rfl ?_
                  obtain ⟨s113, t113⟩ : ∃ y9 : RS, r_put 19 v112 s109 = y9 := ⟨_, rfl⟩
                  replace hP : va_P D vwCl (RWd g0 g1 g2 g3 g4 g5 g6 cA cB s113) H := by rw [← t113]; exact hP
                  replace hD : va_D A (RWd g0 g1 g2 g3 g4 g5 g6 cA cB s113) := by rw [← t113]; exact hD
                  have hL114 : r_plan s113 ([] ++ p_look f (st.1.1 f.toNatClampNeg) ++ p_look t (st.1.1 t.toNatClampNeg) ++ p_look 16 (st.1.1 (16 : Int32).toNatClampNeg) ++ p_put 16 v82 ++ p_put 17 v87 ++ p_put 18 v92 ++ p_put 19 v96 ++ p_put f v102 ++ p_put t v108 ++ p_put 19 v112) := by clear hP hD hS; subst t70; subst t72; subst t74; subst t76; subst t83; subst t88; subst t93; subst t97; subst t103; subst t109; subst t113; exact plan_put 19 v112 hL110 (by simp only [List.length_append, List.length_nil, List.length_cons, pl_look, pl_put] <;> decide) in20_19
                  refine lv_aload_n hx hb dX1_transfer_277 rfl (lv_at hl 8 rfl) ?_
                  refine cM_this (Wd := RWd g0 g1 g2 g3 g4 g5 g6 cA cB) (ci := 1) (q0 := 0) (n := 0) (as := []) (rest := []) ⟨hx, hb, hml, hown, hts⟩ (c_X1_works l D g0 g1 g2 g3 g4 g5 g6 cA cB s113 ([] ++ p_look f (st.1.1 f.toNatClampNeg) ++ p_look t (st.1.1 t.toNatClampNeg) ++ p_look 16 (st.1.1 (16 : Int32).toNatClampNeg) ++ p_put 16 v82 ++ p_put 17 v87 ++ p_put 18 v92 ++ p_put 19 v96 ++ p_put f v102 ++ p_put t v108 ++ p_put 19 v112) hL114) gX1_transfer_X1_works rfl rfl rfl (by decide +kernel) ⟨Nat.le_of_ble_eq_true rfl, Nat.le_of_ble_eq_true rfl⟩ hK hP hD hS hA rfl rfl rfl hl.1 rfl rfl (Nat.le_of_ble_eq_true rfl) dX1_transfer_278 ⟨Nat.zero_le _, Nat.zero_le _⟩ (fun H locs hP hD hS => ?_)
                  obtain ⟨s115, t115⟩ : ∃ y9 : RS, (r_wk ([] ++ p_look f (st.1.1 f.toNatClampNeg) ++ p_look t (st.1.1 t.toNatClampNeg) ++ p_look 16 (st.1.1 (16 : Int32).toNatClampNeg) ++ p_put 16 v82 ++ p_put 17 v87 ++ p_put 18 v92 ++ p_put 19 v96 ++ p_put f v102 ++ p_put t v108 ++ p_put 19 v112) s113).2 = y9 := ⟨_, rfl⟩
                  replace hP : va_P D vwCl (RWd g0 g1 g2 g3 g4 g5 g6 cA cB s115) H := by rw [← t115]; exact hP
                  replace hD : va_D A (RWd g0 g1 g2 g3 g4 g5 g6 cA cB s115) := by rw [← t115]; exact hD
                  refine tpi (fun v116 e116 => ?_)
                  refine lv_if_ne (tgt := 289) hx hb dX1_transfer_281 (by decide) (fun c117 => ?_) (fun c117 => ?_)
                  · refine lv_iload hx hb dX1_transfer_289 (lv_at hl 2 rfl) ?_
                    refine lv_if_eq (tgt := 298) hx hb dX1_transfer_291 (by decide) (fun c0 => absurd c0 (by decide)) (fun _ => ?_)
                    refine lv_iconst (v := 1) hx hb dX1_transfer_294 (by decide) ?_
                    refine lv_goto (tgt := 299) hx hb dX1_transfer_295 (by decide) ?_
                    have fin : r_transfer f t a st = (1, s115) := by
                      clear hP hD hS; subst e1; subst e3; subst e7; subst e8; subst e9; subst e10; subst e11; subst e12; subst e13; subst e14; subst e15; subst e16; subst e17; subst e18; subst e31; subst e44; subst e57; subst t70; subst t72; subst t74; subst t76; subst e78; subst e79; subst e80; subst e81; subst e82; subst t83; subst e85; subst e86; subst e87; subst t88; subst e90; subst e91; subst e92; subst t93; subst e95; subst e96; subst t97; subst e99; subst e100; subst e101; subst e102; subst t103; subst e105; subst e106; subst e107; subst e108; subst t109; subst e111; subst e112; subst t113; subst t115; subst e116; simp only [r_transfer, r_trB, r_trAcc, r_trL, r_trS, r_doL, r_doS, r_end, r_zero, bI, c2, c4, c5, c6, c19, c32, c45, c58, c117, ↓reduceIte, not_true_eq_false, not_false_eq_true, and_self, and_true, true_and, and_false, false_and, eq_self, i10]
                    exact cM_reti (Wd := RWd g0 g1 g2 g3 g4 g5 g6 cA cB) (st := s115) (st' := (r_transfer f t a st).2) hx hb hr hlocks dX1_transfer_299 hS hP hD (congrArg Prod.fst fin).symm (congrArg Prod.snd fin).symm
                  · refine lv_bipush (v := (-2)) hx hb dX1_transfer_284 (by decide) ?_
                    refine lv_goto (tgt := 299) hx hb dX1_transfer_286 (by decide) ?_
                    have fin : r_transfer f t a st = ((-2), s115) := by
                      clear hP hD hS; subst e1; subst e3; subst e7; subst e8; subst e9; subst e10; subst e11; subst e12; subst e13; subst e14; subst e15; subst e16; subst e17; subst e18; subst e31; subst e44; subst e57; subst t70; subst t72; subst t74; subst t76; subst e78; subst e79; subst e80; subst e81; subst e82; subst t83; subst e85; subst e86; subst e87; subst t88; subst e90; subst e91; subst e92; subst t93; subst e95; subst e96; subst t97; subst e99; subst e100; subst e101; subst e102; subst t103; subst e105; subst e106; subst e107; subst e108; subst t109; subst e111; subst e112; subst t113; subst t115; subst e116; simp only [r_transfer, r_trB, r_trAcc, r_trL, r_trS, r_doL, r_doS, r_end, r_zero, bI, c2, c4, c5, c6, c19, c32, c45, c58, c117, ↓reduceIte, not_true_eq_false, not_false_eq_true, and_self, and_true, true_and, and_false, false_and, eq_self, i10]
                    exact cM_reti (Wd := RWd g0 g1 g2 g3 g4 g5 g6 cA cB) (st := s115) (st' := (r_transfer f t a st).2) hx hb hr hlocks dX1_transfer_299 hS hP hD (congrArg Prod.fst fin).symm (congrArg Prod.snd fin).symm
        · refine lv_iconst (v := (-1)) hx hb dX1_transfer_23 (by decide) ?_
          have fin : r_transfer f t a st = ((-1), st) := by
            clear hP hD hS; subst e1; subst e3; simp only [r_transfer, r_trB, r_trAcc, r_trL, r_trS, r_doL, r_doS, r_end, r_zero, bI, c2, c4, c5, c6, ↓reduceIte, not_true_eq_false, not_false_eq_true, and_self, and_true, true_and, and_false, false_and, eq_self, i10]
          exact cM_reti (Wd := RWd g0 g1 g2 g3 g4 g5 g6 cA cB) (st := st) (st' := (r_transfer f t a st).2) hx hb hr hlocks dX1_transfer_24 hS hP hD (congrArg Prod.fst fin).symm (congrArg Prod.snd fin).symm
abbrev rmX1_failAfter : Room := { frames := 0, cells := 0, slots := 0, locals := 0 }
-- failAfter
set_option maxHeartbeats 400000 in
set_option maxRecDepth 100000 in
theorem c_X1_failAfter (l : Launch) (D : va_G) (g0 g1 g2 g3 g4 g5 g6 : Nat) (cA cB : ClassId) (st : RS) (n : Int32)  : cM l D vwCl (FT cA cB) (RWd g0 g1 g2 g3 g4 g5 g6 cA cB) yX1_failAfter wsX1_failAfter rmX1_failAfter [.ref g0, .int n] st (some (.int (r_failAfter n st).1)) (r_failAfter n st).2 := by
  refine cM_in (cc := cX1_failAfter) (maxL := 2) (ret := (some .boolean)) (by decide) rfl (Nat.le_of_ble_eq_true rfl) ?_
  intro p e s m below meth c ls A hx hb hr hlocks hml hown hts hA hK hP hD hS hl
  have hown : s.vm.findClass RX1 = some m.cls := hown
  have hl : lv_has ls 2 [(0, .ref g0), (1, .int n)] := hl
  -- walk
  refine lv_iload_n hx hb dX1_failAfter_0 rfl (lv_at hl 1 rfl) ?_
  refine lv_if_ge (tgt := 6) hx hb dX1_failAfter_1 (by decide) (fun c1 => ?_) (fun c1 => ?_)
  · refine lv_aload_n hx hb dX1_failAfter_6 rfl (lv_at hl 0 rfl) ?_
    refine lv_iload_n hx hb dX1_failAfter_7 rfl (lv_at hl 1 rfl) ?_
    refine va_put (D := D) (ci := 1) (v := .int n) (ty := .int) (C := RX1) (T := TX1) (N := 11) hx hb hts (by decide +kernel) tyX1 tyX1_ok nmX1 hown hK hP hD hS 0 rfl rfl 3 (by decide) (hts (.fieldLink RX1 21 "FadeLedgerModel" "left" "I") (by decide +kernel)) (fun _ h9 => h9) rfl (by decide +kernel) rfl rfl (Nat.le_of_ble_eq_true rfl) dX1_failAfter_8 (fun H locs hP hD hS => ?_)
    obtain ⟨s2, t2⟩ : ∃ y9 : RS, (((st.1.1, st.1.2.1, st.1.2.2.1, n, st.1.2.2.2.2.1, st.1.2.2.2.2.2), st.2) : RS) = y9 := ⟨_, rfl⟩
    replace hP : va_P D vwCl (RWd g0 g1 g2 g3 g4 g5 g6 cA cB s2) H := by rw [← t2]; exact hP
    replace hD : va_D A (RWd g0 g1 g2 g3 g4 g5 g6 cA cB s2) := by rw [← t2]; exact hD
    refine lv_iconst (v := 1) hx hb dX1_failAfter_11 (by decide) ?_
    have fin : r_failAfter n st = (1, s2) := by
      clear hP hD hS; subst t2; simp only [r_failAfter, c1, ↓reduceIte, not_true_eq_false, not_false_eq_true, and_self, and_true, true_and, and_false, false_and, eq_self, i10]
    exact cM_retz (Wd := RWd g0 g1 g2 g3 g4 g5 g6 cA cB) (st := s2) (st' := (r_failAfter n st).2) hx hb hr hlocks dX1_failAfter_12 hS hP hD rfl (congrArg Prod.fst fin).symm (congrArg Prod.snd fin).symm
  · refine lv_iconst (v := 0) hx hb dX1_failAfter_4 (by decide) ?_
    have fin : r_failAfter n st = (0, st) := by
      clear hP hD hS; simp only [r_failAfter, c1, ↓reduceIte, not_true_eq_false, not_false_eq_true, and_self, and_true, true_and, and_false, false_and, eq_self, i10]
    exact cM_retz (Wd := RWd g0 g1 g2 g3 g4 g5 g6 cA cB) (st := st) (st' := (r_failAfter n st).2) hx hb hr hlocks dX1_failAfter_5 hS hP hD rfl (congrArg Prod.fst fin).symm (congrArg Prod.snd fin).symm
abbrev rmX1_fail : Room := { frames := 0, cells := 0, slots := 0, locals := 0 }
-- fail
set_option maxHeartbeats 400000 in
set_option maxRecDepth 100000 in
theorem c_X1_fail (l : Launch) (D : va_G) (g0 g1 g2 g3 g4 g5 g6 : Nat) (cA cB : ClassId) (st : RS)   : cM l D vwCl (FT cA cB) (RWd g0 g1 g2 g3 g4 g5 g6 cA cB) yX1_fail wsX1_fail rmX1_fail [.ref g0] st (some (.int (r_fail st).1)) (r_fail st).2 := by
  refine cM_in (cc := cX1_fail) (maxL := 1) (ret := (some .boolean)) (by decide) rfl (Nat.le_of_ble_eq_true rfl) ?_
  intro p e s m below meth c ls A hx hb hr hlocks hml hown hts hA hK hP hD hS hl
  have hown : s.vm.findClass RX1 = some m.cls := hown
  have hl : lv_has ls 1 [(0, .ref g0)] := hl
  -- walk
  refine lv_aload_n hx hb dX1_fail_0 rfl (lv_at hl 0 rfl) ?_
  refine va_get (D := D) (ci := 1) (v := .int st.1.2.2.1) (C := RX1) (T := TX1) (N := 11) hx hb hts (by decide +kernel) hown hK hP 0 rfl rfl 2 (by decide) (hts (.fieldLink RX1 17 "FadeLedgerModel" "power" "Z") (by decide +kernel)) (fun _ h9 => h9) rfl dX1_fail_1 ?_
  refine tpi (fun v1 e1 => ?_)
  refine lv_if_ne (tgt := 9) hx hb dX1_fail_4 (by decide) (fun c2 => ?_) (fun c2 => ?_)
  · refine lv_aload_n hx hb dX1_fail_9 rfl (lv_at hl 0 rfl) ?_
    refine lv_iconst (v := 0) hx hb dX1_fail_10 (by decide) ?_
    refine va_put (D := D) (ci := 1) (v := .int 0) (ty := .boolean) (C := RX1) (T := TX1) (N := 11) hx hb hts (by decide +kernel) tyX1 tyX1_ok nmX1 hown hK hP hD hS 0 rfl rfl 2 (by decide) (hts (.fieldLink RX1 17 "FadeLedgerModel" "power" "Z") (by decide +kernel)) (fun _ h9 => h9) rfl (by decide +kernel) rfl rfl (Nat.le_of_ble_eq_true rfl) dX1_fail_11 (fun H locs hP hD hS => ?_)
    obtain ⟨s3, t3⟩ : ∃ y9 : RS, (((st.1.1, st.1.2.1, 0, st.1.2.2.2.1, st.1.2.2.2.2.1, st.1.2.2.2.2.2), st.2) : RS) = y9 := ⟨_, rfl⟩
    replace hP : va_P D vwCl (RWd g0 g1 g2 g3 g4 g5 g6 cA cB s3) H := by rw [← t3]; exact hP
    replace hD : va_D A (RWd g0 g1 g2 g3 g4 g5 g6 cA cB s3) := by rw [← t3]; exact hD
    refine lv_aload_n hx hb dX1_fail_14 rfl (lv_at hl 0 rfl) ?_
    refine lv_iconst (v := (-1)) hx hb dX1_fail_15 (by decide) ?_
    refine va_put (D := D) (ci := 1) (v := .int (-1)) (ty := .int) (C := RX1) (T := TX1) (N := 11) hx hb hts (by decide +kernel) tyX1 tyX1_ok nmX1 hown hK hP hD hS 0 rfl rfl 3 (by decide) (hts (.fieldLink RX1 21 "FadeLedgerModel" "left" "I") (by decide +kernel)) (fun _ h9 => h9) rfl (by decide +kernel) rfl rfl (Nat.le_of_ble_eq_true rfl) dX1_fail_16 (fun H locs hP hD hS => ?_)
    obtain ⟨s4, t4⟩ : ∃ y9 : RS, (((s3.1.1, s3.1.2.1, s3.1.2.2.1, (-1), s3.1.2.2.2.2.1, s3.1.2.2.2.2.2), s3.2) : RS) = y9 := ⟨_, rfl⟩
    replace hP : va_P D vwCl (RWd g0 g1 g2 g3 g4 g5 g6 cA cB s4) H := by rw [← t4]; exact hP
    replace hD : va_D A (RWd g0 g1 g2 g3 g4 g5 g6 cA cB s4) := by rw [← t4]; exact hD
    refine lv_iconst (v := 1) hx hb dX1_fail_19 (by decide) ?_
    have fin : r_fail st = (1, s4) := by
      clear hP hD hS; subst e1; subst t3; subst t4; simp only [r_fail, c2, ↓reduceIte, not_true_eq_false, not_false_eq_true, and_self, and_true, true_and, and_false, false_and, eq_self, i10]
    exact cM_retz (Wd := RWd g0 g1 g2 g3 g4 g5 g6 cA cB) (st := s4) (st' := (r_fail st).2) hx hb hr hlocks dX1_fail_20 hS hP hD rfl (congrArg Prod.fst fin).symm (congrArg Prod.snd fin).symm
  · refine lv_iconst (v := 0) hx hb dX1_fail_7 (by decide) ?_
    have fin : r_fail st = (0, st) := by
      clear hP hD hS; subst e1; simp only [r_fail, c2, ↓reduceIte, not_true_eq_false, not_false_eq_true, and_self, and_true, true_and, and_false, false_and, eq_self, i10]
    exact cM_retz (Wd := RWd g0 g1 g2 g3 g4 g5 g6 cA cB) (st := st) (st' := (r_fail st).2) hx hb hr hlocks dX1_fail_8 hS hP hD rfl (congrArg Prod.fst fin).symm (congrArg Prod.snd fin).symm
abbrev rmX1_on : Room := { frames := 0, cells := 0, slots := 0, locals := 0 }
-- on
set_option maxHeartbeats 400000 in
set_option maxRecDepth 100000 in
theorem c_X1_on (l : Launch) (D : va_G) (g0 g1 g2 g3 g4 g5 g6 : Nat) (cA cB : ClassId) (st : RS)  (ho : st.1.2.2.1 = 0 ∨ st.1.2.2.1 = 1) : cM l D vwCl (FT cA cB) (RWd g0 g1 g2 g3 g4 g5 g6 cA cB) yX1_on wsX1_on rmX1_on [.ref g0] st (some (.int (r_on st))) st := by
  refine cM_in (cc := cX1_on) (maxL := 1) (ret := (some .boolean)) (by decide) rfl (Nat.le_of_ble_eq_true rfl) ?_
  intro p e s m below meth c ls A hx hb hr hlocks hml hown hts hA hK hP hD hS hl
  have hown : s.vm.findClass RX1 = some m.cls := hown
  have hl : lv_has ls 1 [(0, .ref g0)] := hl
  -- walk
  refine lv_aload_n hx hb dX1_on_0 rfl (lv_at hl 0 rfl) ?_
  refine va_get (D := D) (ci := 1) (v := .int st.1.2.2.1) (C := RX1) (T := TX1) (N := 11) hx hb hts (by decide +kernel) hown hK hP 0 rfl rfl 2 (by decide) (hts (.fieldLink RX1 17 "FadeLedgerModel" "power" "Z") (by decide +kernel)) (fun _ h9 => h9) rfl dX1_on_1 ?_
  refine tpi (fun v1 e1 => ?_)
  have fin : (r_on st, st) = (v1, st) := by
    clear hP hD hS; subst e1; simp only [r_on]
  exact cM_retz (Wd := RWd g0 g1 g2 g3 g4 g5 g6 cA cB) (st := st) (st' := st) hx hb hr hlocks dX1_on_4 hS hP hD (by subst e1; exact on_nar ho) (congrArg Prod.fst fin).symm (congrArg Prod.snd fin).symm
abbrev rmX1_lost : Room := { frames := 0, cells := 0, slots := 0, locals := 0 }
-- lost
set_option maxHeartbeats 400000 in
set_option maxRecDepth 100000 in
theorem c_X1_lost (l : Launch) (D : va_G) (g0 g1 g2 g3 g4 g5 g6 : Nat) (cA cB : ClassId) (st : RS) (a : Int32)  : cM l D vwCl (FT cA cB) (RWd g0 g1 g2 g3 g4 g5 g6 cA cB) yX1_lost wsX1_lost rmX1_lost [.ref g0, .int a] st (some (.int (r_lost a st))) st := by
  refine cM_in (cc := cX1_lost) (maxL := 2) (ret := (some .int)) (by decide) rfl (Nat.le_of_ble_eq_true rfl) ?_
  intro p e s m below meth c ls A hx hb hr hlocks hml hown hts hA hK hP hD hS hl
  have hown : s.vm.findClass RX1 = some m.cls := hown
  have hl : lv_has ls 2 [(0, .ref g0), (1, .int a)] := hl
  -- walk
  refine lv_iload_n hx hb dX1_lost_0 rfl (lv_at hl 1 rfl) ?_
  refine lv_if_lt (tgt := 19) hx hb dX1_lost_1 (by decide) (fun c1 => ?_) (fun c1 => ?_)
  · refine lv_iconst (v := 0) hx hb dX1_lost_19 (by decide) ?_
    have fin : (r_lost a st, st) = (0, st) := by
      clear hP hD hS; simp only [r_lost, c1, ↓reduceIte, not_true_eq_false, not_false_eq_true, and_self, and_true, true_and, and_false, false_and, eq_self, i10]
    exact cM_reti (Wd := RWd g0 g1 g2 g3 g4 g5 g6 cA cB) (st := st) (st' := st) hx hb hr hlocks dX1_lost_20 hS hP hD (congrArg Prod.fst fin).symm (congrArg Prod.snd fin).symm
  · refine lv_iload_n hx hb dX1_lost_4 rfl (lv_at hl 1 rfl) ?_
    refine lv_bipush (v := 20) hx hb dX1_lost_5 (by decide) ?_
    refine lv_icmp_ge (tgt := 19) hx hb dX1_lost_7 (by decide) (fun c2 => ?_) (fun c2 => ?_)
    · refine lv_iconst (v := 0) hx hb dX1_lost_19 (by decide) ?_
      have fin : (r_lost a st, st) = (0, st) := by
        clear hP hD hS; simp only [r_lost, c1, c2, ↓reduceIte, not_true_eq_false, not_false_eq_true, and_self, and_true, true_and, and_false, false_and, eq_self, i10]
      exact cM_reti (Wd := RWd g0 g1 g2 g3 g4 g5 g6 cA cB) (st := st) (st' := st) hx hb hr hlocks dX1_lost_20 hS hP hD (congrArg Prod.fst fin).symm (congrArg Prod.snd fin).symm
    · refine lv_aload_n hx hb dX1_lost_10 rfl (lv_at hl 0 rfl) ?_
      refine va_get (D := D) (ci := 1) (v := .ref g2) (C := RX1) (T := TX1) (N := 11) hx hb hts (by decide +kernel) hown hK hP 0 rfl rfl 1 (by decide) (hts (.fieldLink RX1 13 "FadeLedgerModel" "losses" "[I") (by decide +kernel)) (fun _ h9 => h9) rfl dX1_lost_11 ?_
      refine lv_iload_n hx hb dX1_lost_14 rfl (lv_at hl 1 rfl) ?_
      refine va_iald hx hb hK hP 2 1 rfl rfl (in_of (n := 20) rfl c1 c2) dX1_lost_15 ?_
      refine tpi (fun v3 e3 => ?_)
      refine lv_goto (tgt := 20) hx hb dX1_lost_16 (by decide) ?_
      have fin : (r_lost a st, st) = (v3, st) := by
        clear hP hD hS; subst e3; simp only [r_lost, c1, c2, ↓reduceIte, not_true_eq_false, not_false_eq_true, and_self, and_true, true_and, and_false, false_and, eq_self, i10]
      exact cM_reti (Wd := RWd g0 g1 g2 g3 g4 g5 g6 cA cB) (st := st) (st' := st) hx hb hr hlocks dX1_lost_20 hS hP hD (congrArg Prod.fst fin).symm (congrArg Prod.snd fin).symm
abbrev rmX1_word : Room := { frames := 0, cells := 0, slots := 0, locals := 0 }
-- word
set_option maxHeartbeats 400000 in
set_option maxRecDepth 100000 in
theorem c_X1_word (l : Launch) (D : va_G) (g0 g1 g2 g3 g4 g5 g6 : Nat) (cA cB : ClassId) (st : RS) (i : Int32) (j : Int32)  : cM l D vwCl (FT cA cB) (RWd g0 g1 g2 g3 g4 g5 g6 cA cB) yX1_word wsX1_word rmX1_word [.ref g0, .int i, .int j] st (some (.long (r_word i j st))) st := by
  refine cM_in (cc := cX1_word) (maxL := 3) (ret := (some .long)) (by decide) rfl (Nat.le_of_ble_eq_true rfl) ?_
  intro p e s m below meth c ls A hx hb hr hlocks hml hown hts hA hK hP hD hS hl
  have hown : s.vm.findClass RX1 = some m.cls := hown
  have hl : lv_has ls 3 [(0, .ref g0), (1, .int i), (2, .int j)] := hl
  -- walk
  refine lv_iload_n hx hb dX1_word_0 rfl (lv_at hl 1 rfl) ?_
  refine lv_if_lt (tgt := 33) hx hb dX1_word_1 (by decide) (fun c1 => ?_) (fun c1 => ?_)
  · refine lv_lconst (v := 0) hx hb dX1_word_33 (by decide) ?_
    have fin : (r_word i j st, st) = (0, st) := by
      clear hP hD hS; simp only [r_word, r_place, c1, ↓reduceIte, not_true_eq_false, not_false_eq_true, and_self, and_true, true_and, and_false, false_and, eq_self, i10]
    exact cM_retl (Wd := RWd g0 g1 g2 g3 g4 g5 g6 cA cB) (st := st) (st' := st) hx hb hr hlocks dX1_word_34 hS hP hD (congrArg Prod.fst fin).symm (congrArg Prod.snd fin).symm
  · refine lv_iload_n hx hb dX1_word_4 rfl (lv_at hl 1 rfl) ?_
    refine lv_iconst (v := 4) hx hb dX1_word_5 (by decide) ?_
    refine lv_icmp_ge (tgt := 33) hx hb dX1_word_6 (by decide) (fun c2 => ?_) (fun c2 => ?_)
    · refine lv_lconst (v := 0) hx hb dX1_word_33 (by decide) ?_
      have fin : (r_word i j st, st) = (0, st) := by
        clear hP hD hS; simp only [r_word, r_place, c1, c2, ↓reduceIte, not_true_eq_false, not_false_eq_true, and_self, and_true, true_and, and_false, false_and, eq_self, i10]
      exact cM_retl (Wd := RWd g0 g1 g2 g3 g4 g5 g6 cA cB) (st := st) (st' := st) hx hb hr hlocks dX1_word_34 hS hP hD (congrArg Prod.fst fin).symm (congrArg Prod.snd fin).symm
    · refine lv_iload_n hx hb dX1_word_9 rfl (lv_at hl 2 rfl) ?_
      refine lv_if_lt (tgt := 33) hx hb dX1_word_10 (by decide) (fun c3 => ?_) (fun c3 => ?_)
      · refine lv_lconst (v := 0) hx hb dX1_word_33 (by decide) ?_
        have fin : (r_word i j st, st) = (0, st) := by
          clear hP hD hS; simp only [r_word, r_place, c1, c2, c3, ↓reduceIte, not_true_eq_false, not_false_eq_true, and_self, and_true, true_and, and_false, false_and, eq_self, i10]
        exact cM_retl (Wd := RWd g0 g1 g2 g3 g4 g5 g6 cA cB) (st := st) (st' := st) hx hb hr hlocks dX1_word_34 hS hP hD (congrArg Prod.fst fin).symm (congrArg Prod.snd fin).symm
      · refine lv_iload_n hx hb dX1_word_13 rfl (lv_at hl 2 rfl) ?_
        refine lv_bipush (v := 20) hx hb dX1_word_14 (by decide) ?_
        refine lv_icmp_ge (tgt := 33) hx hb dX1_word_16 (by decide) (fun c4 => ?_) (fun c4 => ?_)
        · refine lv_lconst (v := 0) hx hb dX1_word_33 (by decide) ?_
          have fin : (r_word i j st, st) = (0, st) := by
            clear hP hD hS; simp only [r_word, r_place, c1, c2, c3, c4, ↓reduceIte, not_true_eq_false, not_false_eq_true, and_self, and_true, true_and, and_false, false_and, eq_self, i10]
          exact cM_retl (Wd := RWd g0 g1 g2 g3 g4 g5 g6 cA cB) (st := st) (st' := st) hx hb hr hlocks dX1_word_34 hS hP hD (congrArg Prod.fst fin).symm (congrArg Prod.snd fin).symm
        · refine lv_aload_n hx hb dX1_word_19 rfl (lv_at hl 0 rfl) ?_
          refine va_get (D := D) (ci := 1) (v := .ref g1) (C := RX1) (T := TX1) (N := 11) hx hb hts (by decide +kernel) hown hK hP 0 rfl rfl 0 (by decide) (hts (.fieldLink RX1 7 "FadeLedgerModel" "words" "[J") (by decide +kernel)) (fun _ h9 => h9) rfl dX1_word_20 ?_
          refine lv_bipush (v := 20) hx hb dX1_word_23 (by decide) ?_
          refine lv_iload_n hx hb dX1_word_25 rfl (lv_at hl 1 rfl) ?_
          refine lv_imul hx hb dX1_word_26 ?_
          refine tpi (fun v5 e5 => ?_)
          refine lv_iload_n hx hb dX1_word_27 rfl (lv_at hl 2 rfl) ?_
          refine lv_iadd hx hb dX1_word_28 ?_
          refine tpi (fun v6 e6 => ?_)
          refine va_lald hx hb hK hP 1 0 rfl rfl (by subst e5; subst e6; exact place_in (in_of (n := 4) rfl c1 c2) (in_of (n := 20) rfl c3 c4)) dX1_word_29 ?_
          refine tpl (fun v7 e7 => ?_)
          refine lv_goto (tgt := 34) hx hb dX1_word_30 (by decide) ?_
          have fin : (r_word i j st, st) = (v7, st) := by
            clear hP hD hS; subst e5; subst e6; subst e7; simp only [r_word, r_place, c1, c2, c3, c4, ↓reduceIte, not_true_eq_false, not_false_eq_true, and_self, and_true, true_and, and_false, false_and, eq_self, i10]
          exact cM_retl (Wd := RWd g0 g1 g2 g3 g4 g5 g6 cA cB) (st := st) (st' := st) hx hb hr hlocks dX1_word_34 hS hP hD (congrArg Prod.fst fin).symm (congrArg Prod.snd fin).symm
abbrev rmX1_done : Room := { frames := 0, cells := 0, slots := 0, locals := 0 }
-- done
set_option maxHeartbeats 400000 in
set_option maxRecDepth 100000 in
theorem c_X1_done (l : Launch) (D : va_G) (g0 g1 g2 g3 g4 g5 g6 : Nat) (cA cB : ClassId) (st : RS) (a : Int32)  : cM l D vwCl (FT cA cB) (RWd g0 g1 g2 g3 g4 g5 g6 cA cB) yX1_done wsX1_done rmX1_done [.ref g0, .int a] st (some (.int (r_done a st))) st := by
  refine cM_in (cc := cX1_done) (maxL := 2) (ret := (some .int)) (by decide) rfl (Nat.le_of_ble_eq_true rfl) ?_
  intro p e s m below meth c ls A hx hb hr hlocks hml hown hts hA hK hP hD hS hl
  have hown : s.vm.findClass RX1 = some m.cls := hown
  have hl : lv_has ls 2 [(0, .ref g0), (1, .int a)] := hl
  -- walk
  refine lv_iload_n hx hb dX1_done_0 rfl (lv_at hl 1 rfl) ?_
  refine lv_if_ne (tgt := 11) hx hb dX1_done_1 (by decide) (fun c1 => ?_) (fun c1 => ?_)
  · refine lv_iload_n hx hb dX1_done_11 rfl (lv_at hl 1 rfl) ?_
    refine lv_iconst (v := 1) hx hb dX1_done_12 (by decide) ?_
    refine lv_icmp_ne (tgt := 23) hx hb dX1_done_13 (by decide) (fun c2 => ?_) (fun c2 => ?_)
    · refine lv_iconst (v := (-1)) hx hb dX1_done_23 (by decide) ?_
      have fin : (r_done a st, st) = ((-1), st) := by
        clear hP hD hS; simp only [r_done, c1, c2, ↓reduceIte, not_true_eq_false, not_false_eq_true, and_self, and_true, true_and, and_false, false_and, eq_self, i10]
      exact cM_reti (Wd := RWd g0 g1 g2 g3 g4 g5 g6 cA cB) (st := st) (st' := st) hx hb hr hlocks dX1_done_24 hS hP hD (congrArg Prod.fst fin).symm (congrArg Prod.snd fin).symm
    · refine lv_aload_n hx hb dX1_done_16 rfl (lv_at hl 0 rfl) ?_
      refine va_get (D := D) (ci := 1) (v := .int st.1.2.2.2.2.2) (C := RX1) (T := TX1) (N := 11) hx hb hts (by decide +kernel) hown hK hP 0 rfl rfl 5 (by decide) (hts (.fieldLink RX1 73 "FadeLedgerModel" "writes" "I") (by decide +kernel)) (fun _ h9 => h9) rfl dX1_done_17 ?_
      refine tpi (fun v3 e3 => ?_)
      refine lv_goto (tgt := 24) hx hb dX1_done_20 (by decide) ?_
      have fin : (r_done a st, st) = (v3, st) := by
        clear hP hD hS; subst e3; simp only [r_done, c1, c2, ↓reduceIte, not_true_eq_false, not_false_eq_true, and_self, and_true, true_and, and_false, false_and, eq_self, i10]
      exact cM_reti (Wd := RWd g0 g1 g2 g3 g4 g5 g6 cA cB) (st := st) (st' := st) hx hb hr hlocks dX1_done_24 hS hP hD (congrArg Prod.fst fin).symm (congrArg Prod.snd fin).symm
  · refine lv_aload_n hx hb dX1_done_4 rfl (lv_at hl 0 rfl) ?_
    refine va_get (D := D) (ci := 1) (v := .int st.1.2.2.2.2.1) (C := RX1) (T := TX1) (N := 11) hx hb hts (by decide +kernel) hown hK hP 0 rfl rfl 4 (by decide) (hts (.fieldLink RX1 70 "FadeLedgerModel" "reads" "I") (by decide +kernel)) (fun _ h9 => h9) rfl dX1_done_5 ?_
    refine tpi (fun v4 e4 => ?_)
    refine lv_goto (tgt := 24) hx hb dX1_done_8 (by decide) ?_
    have fin : (r_done a st, st) = (v4, st) := by
      clear hP hD hS; subst e4; simp only [r_done, c1, ↓reduceIte, not_true_eq_false, not_false_eq_true, and_self, and_true, true_and, and_false, false_and, eq_self, i10]
    exact cM_reti (Wd := RWd g0 g1 g2 g3 g4 g5 g6 cA cB) (st := st) (st' := st) hx hb hr hlocks dX1_done_24 hS hP hD (congrArg Prod.fst fin).symm (congrArg Prod.snd fin).symm
end
