/-! WHAT A MADE WORD HOLDS -/
theorem shl_w (x y : Int64) {s : Nat} (hs : (y.toBitVec.smod 64).toNat = s) : wN (x <<< y) = wN x * 2 ^ s % 2 ^ 64 := by
  show (x.toBitVec <<< (y.toBitVec.smod 64).toNat).toNat = _
  rw [hs, BitVec.toNat_shiftLeft, Nat.shiftLeft_eq]
  rfl
theorem or_w (x y : Int64) : wN (x ||| y) = wN x ||| wN y := by
  show (x.toBitVec ||| y.toBitVec).toNat = _
  rw [BitVec.toNat_or]
  rfl
theorem i2l_w (b : Int32) : wN b.toInt64 % 2 ^ 32 = b.toBitVec.toNat := by
  rw [← wN_i, Int32.toInt32_toInt64]
theorem upper_w (b : Int32) {k : Nat} (hk : k < 2 ^ 24) : wN (f_upper b (nI k)) = b.toBitVec.toNat * 2 ^ 32 + k * 2 ^ 8 := by
  unfold f_upper
  have hb := i2l_w b
  have hb2 : b.toBitVec.toNat < 2 ^ 32 := b.toBitVec.isLt
  rw [or_w, shl_w _ _ (s := 32) (by decide), shl_w _ _ (s := 8) (by decide), nI_l (by omega), wN_lN (by omega)]
  have e1 : wN b.toInt64 * 2 ^ 32 % 2 ^ 64 = 2 ^ 32 * b.toBitVec.toNat := by omega
  have e2 : k * 2 ^ 8 % 2 ^ 64 = k * 2 ^ 8 := Nat.mod_eq_of_lt (by omega)
  rw [e1, e2, ← Nat.two_pow_add_eq_or_of_lt (by omega)]
  omega
theorem make_w (b : Int32) {k : Nat} (hk : k < 2 ^ 24) : ∃ c, c < 256 ∧ wN (f_make b (nI k)) = b.toBitVec.toNat * 2 ^ 32 + k * 2 ^ 8 + c := by
  have hb2 : b.toBitVec.toNat < 2 ^ 32 := b.toBitVec.isLt
  refine ⟨sN (wN (f_upper b (nI k))) % 251 + 1, by omega, ?_⟩
  unfold f_make
  rw [or_w, check_f, nI_l (by omega), wN_lN (by omega), upper_w b hk]
  have e : b.toBitVec.toNat * 2 ^ 32 + k * 2 ^ 8 = 2 ^ 8 * (b.toBitVec.toNat * 2 ^ 24 + k) := by omega
  rw [e, ← Nat.two_pow_add_eq_or_of_lt (by omega)]
theorem num_make (b : Int32) {k : Nat} (hk : k < 2 ^ 24) : f_num (f_make b (nI k)) = nI k := by
  obtain ⟨c, hc, e⟩ := make_w b hk
  rw [num_f, e]
  congr 1
  omega
theorem bal_make (b : Int32) {k : Nat} (hk : k < 2 ^ 24) : f_bal (f_make b (nI k)) = b := by
  obtain ⟨c, hc, e⟩ := make_w b hk
  have hb2 : b.toBitVec.toNat < 2 ^ 32 := b.toBitVec.isLt
  apply Int32.toBitVec_inj.mp
  apply BitVec.eq_of_toNat_eq
  unfold f_bal
  rw [wN_i, wN_shr _ _ (s := 32) 32 (by decide) (by decide), e]
  omega
theorem num_next {x : Int64} (h : ¬ f_hasn x = 0) (b : Int32) : f_num (f_make b (f_num x + 1)) = f_num x + 1 := by
  obtain ⟨k, hk, e⟩ := num_nI x
  have h2 := bI_ne.mp h
  rw [e, show (16777215 : Int32) = nI 16777215 from rfl, nI_leI (by omega) (by omega)] at h2
  rw [e, nI_1]
  exact num_make b (by omega)
theorem bal_num (b : Int32) (x : Int64) : f_bal (f_make b (f_num x)) = b := by
  obtain ⟨k, hk, e⟩ := num_nI x
  rw [e]
  exact bal_make b hk
theorem bal_next {x : Int64} (h : ¬ f_hasn x = 0) (b : Int32) : f_bal (f_make b (f_num x + 1)) = b := by
  obtain ⟨k, hk, e⟩ := num_nI x
  have h2 := bI_ne.mp h
  rw [e, show (16777215 : Int32) = nI 16777215 from rfl, nI_leI (by omega) (by omega)] at h2
  rw [e, nI_1]
  exact bal_make b (by omega)
theorem can_eq (v ch t : Int64) (h : (f_bal v).toInt64 + ch = t) : g_can v t = f_can v ch := by
  subst h
  unfold g_can f_can
  rw [isop_eq, num_eq, isint_eq, hasn_eq]
  apply bI_congr
  rw [bI_ne]
  constructor
  · intro ⟨a, b, c, d⟩
    exact ⟨a, b, d, c⟩
  · intro ⟨a, b, c, d⟩
    exact ⟨a, b, d, c⟩
