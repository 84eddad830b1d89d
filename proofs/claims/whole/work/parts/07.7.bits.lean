/-! BIT 16, FRAMES, THE INVARIANT -/
theorem lsb16 (x : Int32) : x.toBitVec.getLsbD 16 = decide (x.toBitVec.toNat / 65536 % 2 = 1) := by
  rw [← BitVec.testBit_toNat, Nat.testBit_eq_decide_div_mod_eq]
theorem bit_and (x : Int32) : (¬ (x &&& 65536) = 0) ↔ x.toBitVec.toNat / 65536 % 2 = 1 := by
  have e : (x &&& 65536).toBitVec = if x.toBitVec.getLsbD 16 then BitVec.twoPow 32 16 else 0#32 := by
    rw [Int32.toBitVec_and, show (65536 : Int32).toBitVec = BitVec.twoPow 32 16 from by decide, BitVec.and_twoPow]
  rw [lsb16] at e
  by_cases h : x.toBitVec.toNat / 65536 % 2 = 1
  · rw [decide_eq_true h, if_pos rfl] at e
    refine ⟨fun _ => h, fun _ z => ?_⟩
    rw [z] at e
    exact absurd e (by decide)
  · rw [decide_eq_false h, if_neg (by decide)] at e
    exact ⟨fun z => absurd (Int32.toBitVec_inj.mp e) z, fun z => absurd z h⟩
theorem bit_shr (x : Int32) : ((x >>> ((16 : Int32) &&& 31)) &&& 1 = 1) ↔ x.toBitVec.toNat / 65536 % 2 = 1 := by
  have e : (x >>> ((16 : Int32) &&& 31)).toBitVec = x.toBitVec.sshiftRight 16 := rfl
  have h2 : (x >>> ((16 : Int32) &&& 31)).toBitVec.toNat % 2 ^ 1 = x.toBitVec.toNat / 65536 % 2 := by
    rw [e]
    have h3 : (x.toBitVec.sshiftRight 16).getLsbD 0 = x.toBitVec.getLsbD 16 := by
      rw [BitVec.getLsbD_sshiftRight]
      simp
    rw [lsb16, ← BitVec.testBit_toNat, Nat.testBit_eq_decide_div_mod_eq] at h3
    have h4 := decide_eq_decide.mp h3
    simp only [Nat.pow_zero, Nat.div_one] at h4
    omega
  rw [pk_and _ 1 (by decide), h2, show (1 : Int32) = nI 1 from rfl, nI_eq (by omega) (by decide)]
theorem bit_next {x : Int32} (h : x.toBitVec.toNat / 65536 % 2 = 1) : (x + 65536) &&& 65536 = 0 := by
  by_cases z : (x + 65536) &&& 65536 = 0
  · exact z
  · exfalso
    have h1 := (bit_and _).mp z
    rw [Int32.toBitVec_add, BitVec.toNat_add, show (65536 : Int32).toBitVec.toNat = 65536 from by decide] at h1
    omega
theorem x1_frame {q : Int32 × Int32 × Int64} {s : FS} {j : Nat} (h : ¬ (x1 q s).2.2.1 = 0) (hj : q.2.1.toNatClampNeg ≠ j) : (x1 q s).1 j = s.1 j := by
  rw [(x1_on h).1]
  unfold r_ex1
  split
  · show vp_updL (f_take s).2.1 _ _ j = _
    rw [pk_uLn (Ne.symm hj), take_mem]
  · show vp_updL (f_take s).2.1 _ _ j = _
    rw [pk_uLn (Ne.symm hj), take_mem]
theorem xs_frame {j : Nat} : ∀ (L : RPl) (s : FS), ¬ (xs L s).2.2.1 = 0 → (∀ q ∈ L, q.2.1.toNatClampNeg ≠ j) → (xs L s).1 j = s.1 j := by
  intro L
  induction L with
  | nil => exact fun s _ _ => rfl
  | cons q L ih =>
    intro s h hj
    rw [xs_cons] at h ⊢
    rw [ih (x1 q s) h (fun q' hq => hj q' (List.mem_cons_of_mem _ hq))]
    exact x1_frame (xs_down h) (hj q List.mem_cons_self)
def okw (w : Int64) : Prop := ¬ f_valid w = 0 → ¬ (f_bal w &&& 65536) = 0 → ¬ f_from (f_bal w) = f_to (f_bal w)
def Inv (s : FS) : Prop := (s.2.2.1 = 0 ∨ s.2.2.1 = 1) ∧ ∀ p : Int32, vp_in p 4 → okw (s.1 (r_place p 19).toNatClampNeg)
def okq (q : Int32 × Int32 × Int64) : Prop := q.1 = 0 ∨ okw q.2.2 ∨ ∀ p : Int32, vp_in p 4 → q.2.1.toNatClampNeg ≠ (r_place p 19).toNatClampNeg
theorem okw_0 : okw 0 := fun h => absurd valid_0 h
theorem inv_take {s : FS} (h : Inv s) : Inv (f_take s).2 := by
  refine ⟨?_, fun p hp => by rw [take_mem]; exact h.2 p hp⟩
  rcases take_cases s with ⟨_, h2⟩ | ⟨_, h2, _⟩
  · exact Or.inl h2
  · rw [h2]
    exact h.1
theorem inv_x1 {q : Int32 × Int32 × Int64} {s : FS} (h : Inv s) (hq : okq q) : Inv (x1 q s) := by
  have ht := inv_take h
  unfold x1
  split
  · exact ht
  · refine ⟨by rw [ex1_on]; exact ht.1, fun p hp => ?_⟩
    unfold r_ex1
    split
    · show okw (vp_updL (f_take s).2.1 _ _ _)
      by_cases hj : (r_place p 19).toNatClampNeg = q.2.1.toNatClampNeg
      · rw [hj, pk_uLs]
        exact okw_0
      · rw [pk_uLn hj]
        exact ht.2 p hp
    · rename_i hk
      show okw (vp_updL (f_take s).2.1 _ _ _)
      by_cases hj : (r_place p 19).toNatClampNeg = q.2.1.toNatClampNeg
      · rw [hj, pk_uLs]
        rcases hq with h1 | h1 | h1
        · exact absurd h1 hk
        · exact h1
        · exact absurd hj.symm (h1 p hp)
      · rw [pk_uLn hj]
        exact ht.2 p hp
theorem inv_xs : ∀ (L : RPl) (s : FS), Inv s → (∀ q ∈ L, okq q) → Inv (xs L s) := by
  intro L
  induction L with
  | nil => exact fun s h _ => h
  | cons q L ih =>
    intro s h hq
    exact ih (x1 q s) (inv_x1 h (hq q List.mem_cons_self)) (fun q' h' => hq q' (List.mem_cons_of_mem _ h'))
theorem okq_cell {k p c : Int32} {w : Int64} (hp : vp_in p 4) (hc : vp_in c 20) (h : ¬ c = 19) : okq (k, r_place p c, w) := Or.inr (Or.inr fun _ hp' z => h (place_inj hp hc hp' in20_19 z).2)
theorem okq_word {k pl : Int32} {w : Int64} (h : okw w) : okq (k, pl, w) := Or.inr (Or.inl h)
def okl (L : RPl) : Prop := ∀ q ∈ L, okq q
theorem okl_nil : okl [] := fun _ h => by cases h
theorem okl_app {L M : RPl} (h1 : okl L) (h2 : okl M) : okl (L ++ M) := fun q h => (List.mem_append.mp h).elim (h1 q) (h2 q)
theorem okl_cons {q : Int32 × Int32 × Int64} {L : RPl} (h1 : okq q) (h2 : okl L) : okl (q :: L) := fun q' h => (List.mem_cons.mp h).elim (fun e => e ▸ h1) (h2 q')
theorem okl_look {c : Int32} (w : Int64) (hc : vp_in c 20) (h : ¬ c = 19) : okl (p_look c w) := okl_cons (okq_cell in4_0 hc h) (okl_cons (okq_cell in4_0 hc h) okl_nil)
theorem okl_put {c : Int32} (w : Int64) (hc : vp_in c 20) (h : ¬ c = 19) : okl (p_put c w) := okl_cons (okq_cell in4_0 hc h) (okl_cons (okq_cell in4_1 hc h) (okl_cons (okq_cell in4_2 hc h) (okl_cons (okq_cell in4_3 hc h) okl_nil)))
theorem okl_putw {c : Int32} {w : Int64} (h : okw w) : okl (p_put c w) := okl_cons (okq_word h) (okl_cons (okq_word h) (okl_cons (okq_word h) (okl_cons (okq_word h) okl_nil)))
theorem acct_19 {a : Int32} (h : ¬ f_acct a = 0) : ¬ a = 19 := by
  intro z
  rw [z] at h
  exact h (by decide +kernel)
theorem okw_bit {b : Int32} {k : Int32} (hb : f_bal (f_make b k) = b) (h : b &&& 65536 = 0) : okw (f_make b k) := fun _ h2 => absurd (by rw [hb]; exact h) h2
theorem okw_ft {b k : Int32} (hb : f_bal (f_make b k) = b) (h : ¬ f_from b = f_to b) : okw (f_make b k) := fun _ _ => by rw [hb]; exact h
theorem route_ft {f t : Int32} (hf : vp_in f 16) (ht : vp_in t 16) (h : ¬ f = t) : (¬ f_from (256 * f + t + 65536) = f_to (256 * f + t + 65536)) ∧ (256 * f + t + 131072) &&& 65536 = 0 := by
  obtain ⟨i, hi, rfl⟩ := vp_in_of hf (by decide)
  obtain ⟨j, hj, rfl⟩ := vp_in_of ht (by decide)
  rw [show (256 : Int32) = nI 256 from rfl, show (65536 : Int32) = nI 65536 from rfl, show (131072 : Int32) = nI 131072 from rfl, pk_mul, nI_add, nI_add, nI_add]
  constructor
  · unfold f_from f_to
    rw [pk_shrN (by omega) _ 8 (by decide), pk_andN (by omega) 8 (by decide), pk_andN (by omega) 8 (by decide), nI_eq (by omega) (by omega)]
    intro z
    apply h
    rw [show (2 : Nat) ^ 8 = 256 from rfl] at z
    have e1 : (256 * i + j + 65536) / 256 = 256 + i := by omega
    rw [e1] at z
    have : i = j := by omega
    rw [this]
  · by_cases z : nI (256 * i + j + 131072) &&& nI 65536 = 0
    · exact z
    · exfalso
      have h1 := (bit_and _).mp z
      rw [pk_tn (by omega)] at h1
      omega
