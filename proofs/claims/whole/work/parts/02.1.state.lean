/-! THE CLASS'S STATE AND ITS METHODS AS FUNCTIONS (a mirror of the code). FS: memory, invalidPlanes, powered, turnsLeft, reads, writes -/
abbrev FS : Type := (Nat → Int64) × (Nat → Int32) × Int32 × Int32 × Int32 × Int32
abbrev FT (cA cB : ClassId) : List (ClassId × FieldType) := [(cA, .long), (cB, .int)]
abbrev FWd (h0 h1 h2 : Nat) (cA cB : ClassId) (s : FS) : va_W := [(h0, .inr (0, [.ref h1, .ref h2, .int s.2.2.1, .int s.2.2.2.1, .int s.2.2.2.2.1, .int s.2.2.2.2.2])), (h1, .inl (cA, 80, .inr (.inl s.1))), (h2, .inl (cB, 20, .inl s.2.1))]
/-- a truth as an int -/
def bI (b : Prop) [Decidable b] : Int32 := if b then 1 else 0
theorem bI_t {b : Prop} [Decidable b] (h : b) : bI b = 1 := if_pos h
theorem bI_f {b : Prop} [Decidable b] (h : ¬ b) : bI b = 0 := if_neg h
theorem bI_ne {b : Prop} [Decidable b] : (¬ bI b = 0) ↔ b := by
  by_cases h : b
  · rw [bI_t h]; exact ⟨fun _ => h, fun _ => by decide⟩
  · rw [bI_f h]; exact ⟨fun q => absurd rfl q, fun q => absurd q h⟩
theorem bI_0 {b : Prop} [Decidable b] : bI b = 0 ↔ ¬ b := by
  by_cases h : b
  · rw [bI_t h]; exact ⟨fun q => absurd q (by decide), fun q => absurd h q⟩
  · rw [bI_f h]; exact ⟨fun _ => h, fun _ => rfl⟩
theorem bI_nar {b : Prop} [Decidable b] : narrow .boolean (.int (bI b)) = .int (bI b) := by
  by_cases h : b
  · rw [bI_t h]; rfl
  · rw [bI_f h]; rfl
def f_byte (v : Int64) (sh : Int32) : Int32 := (v.toUInt64 >>> (sh.toInt64.toUInt64 &&& Int64.toUInt64 63)).toInt64.toInt32 &&& 255
def f_sum7 (v : Int64) : Int32 := 0 + f_byte v 8 + f_byte v 16 + f_byte v 24 + f_byte v 32 + f_byte v 40 + f_byte v 48 + f_byte v 56
def f_check (v : Int64) : Int32 := (f_sum7 v - f_sum7 v / 251 * 251) + 1
def f_upper (b n : Int32) : Int64 := (b.toInt64 <<< ((32 : Int32).toInt64 &&& 63)) ||| (n.toInt64 <<< ((8 : Int32).toInt64 &&& 63))
def f_make (b n : Int32) : Int64 := f_upper b n ||| (f_check (f_upper b n)).toInt64
def f_valid (v : Int64) : Int32 := bI ((v &&& 255).toInt32 = f_check v)
def f_bal (v : Int64) : Int32 := (v >>> ((32 : Int32).toInt64 &&& 63)).toInt32
def f_num (v : Int64) : Int32 := (v.toUInt64 >>> ((8 : Int32).toInt64.toUInt64 &&& Int64.toUInt64 63)).toInt64.toInt32 &&& 16777215
def f_unop (v : Int64) : Int32 := bI (¬ f_valid v = 0 ∧ f_num v = 0)
def f_isop (v : Int64) : Int32 := bI (¬ f_valid v = 0 ∧ ¬ f_num v = 0)
def f_hasn (v : Int64) : Int32 := bI (¬ 16777215 ≤ f_num v)
def f_isint (v : Int64) : Int32 := bI (v = v.toInt32.toInt64)
def f_can (v ch : Int64) : Int32 := bI (¬ f_isop v = 0 ∧ ¬ f_hasn v = 0 ∧ ¬ f_isint ((f_bal v).toInt64 + ch) = 0 ∧ ¬ (f_bal v).toInt64 + ch < 0)
def f_next (v : Int64) (ch : Int32) : Int64 := f_make (f_bal v + ch) (f_num v + 1)
def f_better (b v : Int64) : Int64 := if f_valid v = 0 then b else if f_valid b = 0 then v else if f_num v = f_num b then (if f_bal v ≤ f_bal b then b else v) else (if f_num v ≤ f_num b then b else v)
def f_acct (a : Int32) : Int32 := bI (¬ a < 0 ∧ ¬ 16 ≤ a)
def f_cell (a : Int32) : Int32 := bI (¬ a < 0 ∧ ¬ 20 ≤ a)
def f_slot (p c : Int32) : Int32 := p * 20 + c
def f_from (r : Int32) : Int32 := (r >>> ((8 : Int32) &&& 31)) &&& 255
def f_to (r : Int32) : Int32 := r &&& 255
def f_lose (s : FS) : FS := (s.1, s.2.1, 0, -1, s.2.2.2.2.1, s.2.2.2.2.2)
def f_take (s : FS) : Int32 × FS := if s.2.2.1 = 0 then (0, s) else if s.2.2.2.1 = 0 then (0, f_lose s) else if s.2.2.2.1 ≤ 0 then (1, s) else (1, (s.1, s.2.1, s.2.2.1, s.2.2.2.1 - 1, s.2.2.2.2.1, s.2.2.2.2.2))
def f_readT (p c : Int32) (s : FS) : Int64 × FS := (s.1 (f_slot p c).toNatClampNeg, (vp_updL s.1 (f_slot p c).toNatClampNeg 0, s.2.1, s.2.2.1, s.2.2.2.1, s.2.2.2.2.1 + 1, s.2.2.2.2.2))
def f_read (p c : Int32) (s : FS) : Int64 × FS := if (f_take s).1 = 0 then (0, (f_take s).2) else f_readT p c (f_take s).2
def f_writeT (p c : Int32) (v : Int64) (s : FS) : FS := (vp_updL s.1 (f_slot p c).toNatClampNeg v, s.2.1, s.2.2.1, s.2.2.2.1, s.2.2.2.2.1, s.2.2.2.2.2 + 1)
def f_write (p c : Int32) (v : Int64) (s : FS) : FS := if (f_take s).1 = 0 then (f_take s).2 else f_writeT p c v (f_take s).2
def f_put (c : Int32) (v : Int64) (s : FS) : FS := f_write 3 c v (f_write 2 c v (f_write 1 c v (f_write 0 c v s)))
def f_look (c : Int32) (s : FS) : Int64 × FS := ((f_read 0 c s).1, f_write 0 c (f_read 0 c s).1 (f_read 0 c s).2)
def f_ans (a : Int32) (s : FS) : Int32 := if s.2.2.1 = 0 then -2 else if a = 0 then -1 else 1
def f_found (c : Int32) (s : FS) : Int64 := s.1 (f_slot 0 c).toNatClampNeg
theorem in_of {a n : Int32} {N : Nat} (hn : n.toInt = N) (h1 : ¬ a < 0) (h2 : ¬ n ≤ a) : vp_in a N := by
  refine vp_in_iff.mpr ⟨?_, ?_⟩
  · have h := Int32.le_iff_toInt_le.mp (Int32.not_lt.mp h1)
    exact h
  · have h := Int32.lt_iff_toInt_lt.mp (Int32.not_le.mp h2)
    rw [hn] at h
    exact h
theorem acct_in {a : Int32} (h : ¬ f_acct a = 0) : vp_in a 16 := by
  obtain ⟨h1, h2⟩ := bI_ne.mp h
  exact in_of (n := 16) rfl h1 h2
theorem cell_in {a : Int32} (h : ¬ f_cell a = 0) : vp_in a 20 := by
  obtain ⟨h1, h2⟩ := bI_ne.mp h
  exact in_of (n := 20) rfl h1 h2
theorem in_up {a : Int32} {N M : Nat} (h : vp_in a N) (hNM : N ≤ M) : vp_in a M := by
  obtain ⟨h1, h2⟩ := vp_in_iff.mp h
  exact vp_in_iff.mpr ⟨h1, by omega⟩
theorem acct_in20 {a : Int32} (h : ¬ f_acct a = 0) : vp_in a 20 := in_up (acct_in h) (by decide)
theorem slot_in {p c : Int32} (hp : vp_in p 4) (hc : vp_in c 20) : vp_in (f_slot p c) 80 := by
  obtain ⟨i, hi, rfl⟩ := vp_in_of hp (by decide)
  obtain ⟨j, hj, rfl⟩ := vp_in_of hc (by decide)
  have h : f_slot (nI i) (nI j) = nI (i * 20 + j) := by
    unfold f_slot
    rw [show (20 : Int32) = nI 20 from rfl, pk_mul, nI_add]
  rw [h]
  exact vp_in_nI (by omega) (by decide)
theorem in4_0 : vp_in 0 4 := by unfold vp_in; decide
theorem in4_1 : vp_in 1 4 := by unfold vp_in; decide
theorem in4_2 : vp_in 2 4 := by unfold vp_in; decide
theorem in4_3 : vp_in 3 4 := by unfold vp_in; decide
theorem in20_16 : vp_in 16 20 := by unfold vp_in; decide
theorem in20_17 : vp_in 17 20 := by unfold vp_in; decide
theorem in20_18 : vp_in 18 20 := by unfold vp_in; decide
theorem in20_19 : vp_in 19 20 := by unfold vp_in; decide
theorem i10 : ¬ (1 : Int32) = 0 := by decide
