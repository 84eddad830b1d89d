/-! WORDS AS NUMBERS: the class's and the reference's ways of reading a word agree -/
def wN (x : Int64) : Nat := x.toBitVec.toNat
theorem wN_lt (x : Int64) : wN x < 2 ^ 64 := x.toBitVec.isLt
theorem wN_inj {x y : Int64} (h : wN x = wN y) : x = y := Int64.toBitVec_inj.mp (BitVec.eq_of_toNat_eq h)
theorem wN_lN {n : Nat} (h : n < 2 ^ 64) : wN (lN n) = n := Nat.mod_eq_of_lt h
theorem wN_and (x : Int64) {m : Int64} (k : Nat) (hm : m.toBitVec.toNat = 2 ^ k - 1) : wN (x &&& m) = wN x % 2 ^ k := by
  show (x.toBitVec &&& m.toBitVec).toNat = _
  rw [BitVec.toNat_and, hm, Nat.and_two_pow_sub_one_eq_mod]
  rfl
theorem wN_shr (x y : Int64) {s : Nat} (k : Nat) (hs : (y.toBitVec.smod 64).toNat = s) (hk : s + k ≤ 64) : wN (x >>> y) % 2 ^ k = wN x / 2 ^ s % 2 ^ k := by
  have e : (x >>> y).toBitVec = x.toBitVec.sshiftRight s := by
    rw [← hs]
    rfl
  unfold wN
  rw [e]
  apply Nat.eq_of_testBit_eq
  intro i
  rw [Nat.testBit_mod_two_pow, Nat.testBit_mod_two_pow, Nat.testBit_div_two_pow]
  by_cases hi : i < k
  · rw [BitVec.testBit_toNat, BitVec.testBit_toNat, BitVec.getLsbD_sshiftRight]
    have h1 : s + i < 64 := by omega
    have h2 : ¬ 64 ≤ i := by omega
    rw [if_pos h1, Nat.add_comm i s]
    simp [h2]
  · simp [hi]
theorem wN_ushr (x : Int64) (c : UInt64) {s : Nat} (hs : c.toNat % 64 = s) : wN (x.toUInt64 >>> c).toInt64 = wN x / 2 ^ s := by
  show (x.toUInt64 >>> c).toNat = _
  rw [UInt64.toNat_shiftRight, hs, Nat.shiftRight_eq_div_pow]
  rfl
theorem wN_i (x : Int64) : x.toInt32.toBitVec.toNat = wN x % 2 ^ 32 := by
  show (x.toBitVec.signExtend 32).toNat = _
  rw [BitVec.signExtend_eq_setWidth_of_le _ (by decide), BitVec.toNat_setWidth]
  rfl
theorem byte_f (v : Int64) (sh : Int32) {s : Nat} (hs : (sh.toInt64.toUInt64 &&& Int64.toUInt64 63).toNat % 64 = s) : f_byte v sh = nI (wN v / 2 ^ s % 256) := by
  unfold f_byte
  rw [pk_and _ 8 (by decide), wN_i, wN_ushr v _ hs]
  congr 1
  exact Nat.mod_mod_of_dvd _ (by decide)
theorem byte_g (v : Int64) (k : Int32) {s : Nat} (hs : (((8 * k).toInt64 &&& 63).toBitVec.smod 64).toNat = s) (h : s + 8 ≤ 64) : g_b v k = lN (wN v / 2 ^ s % 256) := by
  apply wN_inj
  unfold g_b
  rw [wN_and _ 8 (by decide), wN_shr v _ 8 hs h, wN_lN (Nat.lt_of_lt_of_le (Nat.mod_lt _ (by decide)) (by decide))]
def sN (x : Nat) : Nat := x / 2 ^ 8 % 256 + x / 2 ^ 16 % 256 + x / 2 ^ 24 % 256 + x / 2 ^ 32 % 256 + x / 2 ^ 40 % 256 + x / 2 ^ 48 % 256 + x / 2 ^ 56 % 256
theorem sN_lt (x : Nat) : sN x < 1792 := by
  unfold sN
  omega
theorem sum_f (v : Int64) : f_sum7 v = nI (sN (wN v)) := by
  unfold f_sum7
  rw [byte_f v 8 (s := 8) (by decide), byte_f v 16 (s := 16) (by decide), byte_f v 24 (s := 24) (by decide), byte_f v 32 (s := 32) (by decide), byte_f v 40 (s := 40) (by decide), byte_f v 48 (s := 48) (by decide), byte_f v 56 (s := 56) (by decide), show (0 : Int32) = nI 0 from nI_0.symm]
  simp only [nI_add, Nat.zero_add]
  rfl
theorem sum_g (v : Int64) : g_sum v = lN (sN (wN v)) := by
  unfold g_sum
  rw [byte_g v 1 (s := 8) (by decide) (by decide), byte_g v 2 (s := 16) (by decide) (by decide), byte_g v 3 (s := 24) (by decide) (by decide), byte_g v 4 (s := 32) (by decide) (by decide), byte_g v 5 (s := 40) (by decide) (by decide), byte_g v 6 (s := 48) (by decide) (by decide), byte_g v 7 (s := 56) (by decide) (by decide), show (0 : Int64) = lN 0 from rfl]
  simp only [lN_add, Nat.zero_add]
  rfl
theorem check_f (v : Int64) : f_check v = nI (sN (wN v) % 251 + 1) := by
  have h := sN_lt (wN v)
  unfold f_check
  rw [sum_f, show (251 : Int32) = nI 251 from rfl, pk_rem (by omega) (by decide) (by decide), nI_1]
theorem seal_g (v : Int64) : g_seal v = lN (sN (wN v) % 251 + 1) := by
  have h := sN_lt (wN v)
  unfold g_seal
  rw [sum_g, show (251 : Int64) = lN 251 from rfl, pk_lRem (by omega) (by decide) (by decide), lN_1]
theorem seal_eq (v : Int64) : (f_check v).toInt64 = g_seal v := by
  rw [check_f, seal_g, nI_l (by omega)]
theorem word_eq (b n : Int32) : g_word b n = f_make b n := by
  unfold g_word f_make
  rw [seal_eq]
theorem low_eq (v : Int64) : v &&& 255 = lN (wN v % 256) := by
  apply wN_inj
  rw [wN_and _ 8 (by decide), wN_lN (Nat.lt_of_lt_of_le (Nat.mod_lt _ (by decide)) (by decide))]
theorem bI_congr {a b : Prop} [Decidable a] [Decidable b] (h : a ↔ b) : bI a = bI b := by
  by_cases ha : a
  · rw [bI_t ha, bI_t (h.mp ha)]
  · rw [bI_f ha, bI_f (fun q => ha (h.mpr q))]
theorem valid_eq (v : Int64) : g_valid v = f_valid v := by
  unfold g_valid f_valid
  apply bI_congr
  rw [low_eq, lN_i, check_f, seal_g]
  have h1 : wN v % 256 < 256 := Nat.mod_lt _ (by decide)
  rw [nI_eq (by omega) (by omega), lN_eq (by omega) (by omega)]
theorem num_f (v : Int64) : f_num v = nI (wN v / 2 ^ 8 % 2 ^ 24) := by
  unfold f_num
  rw [pk_and _ 24 (by decide), wN_i, wN_ushr v _ (s := 8) (by decide)]
  congr 1
  exact Nat.mod_mod_of_dvd _ (by decide)
theorem num_eq (v : Int64) : g_num v = f_num v := by
  rw [num_f]
  unfold g_num
  have e : (v >>> ((8 : Int32).toInt64 &&& 63)) &&& 16777215 = lN (wN v / 2 ^ 8 % 2 ^ 24) := by
    apply wN_inj
    rw [wN_and _ 24 (by decide), wN_shr v _ (s := 8) 24 (by decide) (by decide), wN_lN (Nat.lt_of_lt_of_le (Nat.mod_lt _ (by decide)) (by decide))]
  rw [e, lN_i]
theorem num_nI (v : Int64) : ∃ k, k < 2 ^ 24 ∧ f_num v = nI k := ⟨_, Nat.mod_lt _ (by decide), num_f v⟩
theorem fresh_eq (v : Int64) : g_fresh v = f_unop v := by
  unfold g_fresh f_unop
  rw [valid_eq, num_eq]
theorem isop_eq (v : Int64) : g_isop v = f_isop v := by
  unfold g_isop f_isop
  rw [valid_eq, num_eq]
  apply bI_congr
  obtain ⟨k, hk, e⟩ := num_nI v
  rw [e]
  refine and_congr_right fun _ => not_congr ?_
  rw [show (0 : Int32) = nI 0 from nI_0.symm, nI_leI (by omega) (by decide), nI_eq (by omega) (by decide)]
  omega
theorem isint_eq (v : Int64) : g_isint v = f_isint v := by
  unfold g_isint f_isint
  apply bI_congr
  have hb := wN_lt v
  rw [Int64.not_lt, Int64.not_lt, Int64.le_iff_toInt_le, Int64.le_iff_toInt_le, ← Int64.toInt_inj, Int32.toInt_toInt64]
  have e1 : ((-2147483648 : Int64)).toInt = -2147483648 := by decide
  have e2 : ((2147483647 : Int64)).toInt = 2147483647 := by decide
  rw [e1, e2, Int64.toInt_toInt32]
  simp only [Int.bmod]
  have h1 := Int64.le_toInt v
  have h2 := Int64.toInt_lt v
  split <;> omega
theorem hasn_eq (v : Int64) : f_hasn v = bI (¬ 16777215 ≤ f_num v) := rfl
