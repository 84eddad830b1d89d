/-! THE CLASS AND THE REFERENCE ANSWER ALIKE, AND COME TO THE SAME STATE: all but total, mount -/
theorem zero_1 {s : RS} : (r_zero s).1 = s.1 := rfl
theorem trS_1 {f t : Int32} {s : RS} : (r_trS f t s).1 = s.1 := by
  unfold r_trS
  rw [look_1, look_1, look_1, zero_1]
theorem doS_1 {f t m : Int32} {x y z : Int64} {s : RS} : (r_doS f t m x y z s).1 = s.1 := by
  unfold r_doS
  rw [put_1, put_1, put_1, put_1, put_1, put_1, put_1]
theorem end_eq2 {L : RPl} (hL : L ≠ []) (ok : Int32) (s : RS) (s0 : FS) (h : s.1 = s0) : ((r_end ok L s).1, (r_end ok L s).2.1) = (if (xs L s0).2.2.1 = 0 then -2 else ok, xs L s0) := by
  subst h
  rw [end_eq hL]
set_option maxHeartbeats 200000 in
theorem rd_gen (a : Int32) (s : FS) (acc : Int64 → Int32) (V : Int64 → Int64) :
    f_an2 (acc (f_read 0 a s).1) (if acc (f_read 0 a s).1 = 0 then f_write 0 a (f_read 0 a s).1 (f_read 0 a s).2 else f_put a (V (f_read 0 a s).1) (f_read 0 a s).2) =
    (if acc (s.1 a.toNatClampNeg) = 0 then (if (xs ([] ++ [(0, r_place 0 a, 0)] ++ [(1, r_place 0 a, s.1 a.toNatClampNeg)]) s).2.2.1 = 0 then -2 else -1, xs ([] ++ [(0, r_place 0 a, 0)] ++ [(1, r_place 0 a, s.1 a.toNatClampNeg)]) s)
      else (if (xs ([] ++ [(0, r_place 0 a, 0)] ++ p_put a (V (s.1 a.toNatClampNeg))) s).2.2.1 = 0 then -2 else 1, xs ([] ++ [(0, r_place 0 a, 0)] ++ p_put a (V (s.1 a.toNatClampNeg))) s)) := by
  have hx := read_x 0 a s
  simp only [List.nil_append, xs_app, xs_cons, xs_nil, ← hx, ← put_x]
  by_cases h : (f_read 0 a s).2.2.2.1 = 0
  · have e1 : ∀ v, f_write 0 a v (f_read 0 a s).2 = (f_read 0 a s).2 := fun v => by rw [write_x, x1_off h]
    have e2 : ∀ v, f_put a v (f_read 0 a s).2 = (f_read 0 a s).2 := fun v => by rw [put_x, xs_off h]
    rw [x1_off h, e1, e2, e2]
    unfold f_an2 f_ans
    simp only [h, ↓reduceIte, ite_self]
  · have hv : (f_read 0 a s).1 = s.1 a.toNatClampNeg := by rw [read_v h, place_0]
    rw [hv, ← write_x]
    by_cases h2 : acc (s.1 a.toNatClampNeg) = 0
    · rw [if_pos h2, if_pos h2]
      unfold f_an2 f_ans
      rw [if_pos h2]
    · rw [if_neg h2, if_neg h2]
      unfold f_an2 f_ans
      rw [if_neg h2]
set_option maxHeartbeats 200000 in
theorem q_open (a b : Int32) (s : RS) : f_open a b s.1 = ((r_open a b s).1, (r_open a b s).2.1) := by
  unfold f_open r_open
  by_cases h : f_acct a = 0
  · rw [if_pos h, if_pos h]
  · rw [if_neg h, if_neg h, rd_gen a s.1 f_unop (fun _ => f_make b 1), fresh_eq, word_eq]
    by_cases h2 : f_unop (s.1.1 a.toNatClampNeg) = 0
    · rw [if_pos h2, if_pos h2, end_eq2 (by simp) _ _ s.1 (by rw [turn_1, turn_1, zero_1])]
    · rw [if_neg h2, if_neg h2, end_eq2 (by simp) _ _ s.1 (by rw [put_1, turn_1, zero_1])]
theorem post_acc (m : Int32) (w : Int64) : r_postAcc m w = f_postAcc m w := by
  unfold r_postAcc f_postAcc
  rw [isop_eq, num_eq, isint_eq, hasn_eq]
  apply bI_congr
  rw [bI_ne]
set_option maxHeartbeats 200000 in
theorem q_post (a m : Int32) (s : RS) : f_post a m s.1 = ((r_post a m s).1, (r_post a m s).2.1) := by
  unfold f_post r_post
  by_cases h : f_acct a = 0
  · rw [if_pos h, if_pos h]
  · rw [if_neg h, if_neg h]
    unfold f_postB r_postB
    rw [rd_gen a s.1 (f_postAcc m) (fun w => f_make ((f_bal w).toInt64 + m.toInt64).toInt32 (f_num w + 1)), post_acc, word_eq, num_eq]
    by_cases h2 : f_postAcc m (s.1.1 a.toNatClampNeg) = 0
    · rw [if_pos h2, if_pos h2, end_eq2 (by simp) _ _ s.1 (by rw [turn_1, turn_1, zero_1])]
    · rw [if_neg h2, if_neg h2, end_eq2 (by simp) _ _ s.1 (by rw [put_1, turn_1, zero_1])]
theorem unop_0 {w : Int64} (h : ¬ f_valid w = 0) : f_unop w = 0 ↔ ¬ f_num w = 0 := by
  unfold f_unop
  rw [bI_0]
  constructor
  · exact fun q z => q ⟨h, z⟩
  · exact fun q z => q z.2
theorem look_ne (a : Int32) (w : Int64) : ([] ++ p_look a w : RPl) ≠ [] := by simp [p_look]
theorem q_balance (a : Int32) (s : RS) : f_balance a s.1 = ((r_balance a s).1, (r_balance a s).2.1) := by
  unfold f_balance r_balance
  by_cases h : f_acct a = 0
  · rw [if_pos h, if_pos h]
  · rw [if_neg h, if_neg h, wk_2]
    have e := look_x a s.1
    have i := wk0_iff (look_ne a (s.1.1 a.toNatClampNeg)) (r_look a (r_zero s))
    have e2 : (r_look a (r_zero s)).1 = s.1 := by rw [look_1, zero_1]
    rw [e2, List.nil_append, ← e] at i
    rw [List.nil_append, e2, ← e]
    by_cases h1 : (f_look a s.1).2.2.2.1 = 0
    · rw [if_pos h1, if_pos (i.mpr h1)]
    · rw [if_neg h1, if_neg (fun z => h1 (i.mp z)), (look_v h1).1, valid_eq, num_eq]
      by_cases h2 : f_valid (s.1.1 a.toNatClampNeg) = 0
      · rw [if_pos h2, if_pos h2]
      · rw [if_neg h2, if_neg h2]
        by_cases h3 : f_num (s.1.1 a.toNatClampNeg) = 0
        · rw [if_pos h3, if_neg (fun z => (unop_0 h2).mp z h3)]
        · rw [if_neg h3, if_pos ((unop_0 h2).mpr h3)]
theorem q_number (a : Int32) (s : RS) : f_number a s.1 = ((r_number a s).1, (r_number a s).2.1) := by
  unfold f_number r_number
  by_cases h : f_acct a = 0
  · rw [if_pos h, if_pos h]
  · rw [if_neg h, if_neg h, wk_2]
    have e := look_x a s.1
    have i := wk0_iff (look_ne a (s.1.1 a.toNatClampNeg)) (r_look a (r_zero s))
    have e2 : (r_look a (r_zero s)).1 = s.1 := by rw [look_1, zero_1]
    rw [e2, List.nil_append, ← e] at i
    rw [List.nil_append, e2, ← e]
    by_cases h1 : (f_look a s.1).2.2.2.1 = 0
    · rw [if_pos h1, if_pos (i.mpr h1)]
    · rw [if_neg h1, if_neg (fun z => h1 (i.mp z)), (look_v h1).1, valid_eq, num_eq]
theorem q_failAfter (n : Int32) (s : RS) : f_failAfter n s.1 = ((r_failAfter n s).1, (r_failAfter n s).2.1) := by
  unfold f_failAfter r_failAfter
  split <;> rfl
theorem q_fail (s : RS) : f_fail s.1 = ((r_fail s).1, (r_fail s).2.1) := by
  unfold f_fail r_fail
  split <;> rfl
theorem q_on (s : RS) : f_on s.1 = r_on s := rfl
theorem q_lost (a : Int32) (s : RS) : f_lost a s.1 = r_lost a s := by
  unfold f_lost r_lost
  by_cases h1 : a < 0
  · rw [if_pos h1, if_pos (show f_cell a = 0 from bI_f (fun z => z.1 h1))]
  · by_cases h2 : 20 ≤ a
    · rw [if_neg h1, if_pos h2, if_pos (show f_cell a = 0 from bI_f (fun z => z.2 h2))]
    · rw [if_neg h1, if_neg h2, if_neg (show ¬ f_cell a = 0 from bI_ne.mpr ⟨h1, h2⟩)]
theorem q_word (p c : Int32) (s : RS) : f_word p c s.1 = r_word p c s := by
  unfold f_word r_word
  split
  · rfl
  · split
    · rfl
    · by_cases h1 : c < 0
      · rw [if_pos h1, if_pos (show f_cell c = 0 from bI_f (fun z => z.1 h1))]
      · by_cases h2 : 20 ≤ c
        · rw [if_neg h1, if_pos h2, if_pos (show f_cell c = 0 from bI_f (fun z => z.2 h2))]
        · rw [if_neg h1, if_neg h2, if_neg (show ¬ f_cell c = 0 from bI_ne.mpr ⟨h1, h2⟩), slot_place]
theorem q_done (w : Int32) (s : RS) : f_done w s.1 = r_done w s := rfl
/-! transfer -/
theorem look_go (c : Int32) (s : FS) (m0 : Nat → Int64) (hm : ¬ s.2.2.1 = 0 → s.1 = m0) : (f_look c s).2 = xs (p_look c (m0 c.toNatClampNeg)) s ∧ (¬ (f_look c s).2.2.2.1 = 0 → (f_look c s).1 = m0 c.toNatClampNeg ∧ (f_look c s).2.1 = m0) := by
  have e := look_x c s
  by_cases h : s.2.2.1 = 0
  · rw [xs_off h] at e
    rw [e, xs_off h]
    exact ⟨rfl, fun z => absurd h z⟩
  · have e2 := hm h
    subst e2
    exact ⟨e, look_v⟩
theorem tr_3 (f t : Int32) (s : FS) : (f_look 16 (f_look t (f_look f s).2).2).2 = xs (r_trL f t (s.1 f.toNatClampNeg) (s.1 t.toNatClampNeg) (s.1 (16 : Int32).toNatClampNeg)) s ∧
    (¬ (f_look 16 (f_look t (f_look f s).2).2).2.2.2.1 = 0 → (f_look f s).1 = s.1 f.toNatClampNeg ∧ (f_look t (f_look f s).2).1 = s.1 t.toNatClampNeg ∧ (f_look 16 (f_look t (f_look f s).2).2).1 = s.1 (16 : Int32).toNatClampNeg) := by
  obtain ⟨a1, a2⟩ := look_go f s s.1 (fun _ => rfl)
  obtain ⟨b1, b2⟩ := look_go t (f_look f s).2 s.1 (fun h => (a2 h).2)
  obtain ⟨d1, d2⟩ := look_go 16 (f_look t (f_look f s).2).2 s.1 (fun h => (b2 h).2)
  refine ⟨?_, fun h => ?_⟩
  · unfold r_trL
    rw [xs_app, xs_app, List.nil_append, ← a1, ← b1, ← d1]
  · have h2 : ¬ (f_look t (f_look f s).2).2.2.2.1 = 0 := by
      rw [d1] at h
      exact xs_down h
    have h1 : ¬ (f_look f s).2.2.2.1 = 0 := by
      rw [b1] at h2
      exact xs_down h2
    exact ⟨(a2 h1).1, (b2 h2).1, (d2 h).1⟩
theorem tr_acc (m : Int32) (x y z : Int64) : r_trAcc m x y z = f_trAcc m x y z := by
  unfold r_trAcc f_trAcc
  rw [can_eq x (-m.toInt64) _ (Int64.sub_eq_add_neg _ _).symm, can_eq y m.toInt64 _ rfl, valid_eq, num_eq, hasn_eq]
  apply bI_congr
  rw [bI_ne]
theorem sub_i (x m : Int32) : (x.toInt64 - m.toInt64).toInt32 = x + -m := by
  rw [Int64.toInt32_sub, Int32.toInt32_toInt64, Int32.toInt32_toInt64, Int32.sub_eq_add_neg]
theorem add_i (x m : Int32) : (x.toInt64 + m.toInt64).toInt32 = x + m := by
  rw [Int64.toInt32_add, Int32.toInt32_toInt64, Int32.toInt32_toInt64]
theorem can_hasn {v ch : Int64} (h : ¬ f_can v ch = 0) : ¬ f_hasn v = 0 := (bI_ne.mp h).2.1
set_option maxHeartbeats 200000 in
theorem doTr_x {f t m : Int32} {x y z : Int64} (L : RPl) (s : FS) (h : ¬ f_trAcc m x y z = 0) : xs (r_doL f t m x y z L) s = f_doTr f t m x y z (xs L s) := by
  obtain ⟨h1, h2, -, -⟩ := bI_ne.mp h
  unfold r_doL f_doTr
  simp only [xs_app, ← put_x, word_eq, num_eq, sub_i, add_i]
  unfold f_next
  rw [num_next (can_hasn h1), num_next (can_hasn h2), Int32.mul_comm 256 f]
theorem doTr_off {f t m : Int32} {x y z : Int64} {s : FS} (h : s.2.2.1 = 0) : f_doTr f t m x y z s = s := by
  unfold f_doTr
  simp only [put_x, xs_off h]
theorem trL_ne (f t : Int32) (x y z : Int64) : r_trL f t x y z ≠ [] := by simp [r_trL, p_look]
theorem doL_ne (f t m : Int32) (x y z : Int64) (L : RPl) : r_doL f t m x y z L ≠ [] := by simp [r_doL, p_put]
set_option maxHeartbeats 300000 in
theorem q_transfer (f t m : Int32) (s : RS) : f_transfer f t m s.1 = ((r_transfer f t m s).1, (r_transfer f t m s).2.1) := by
  unfold f_transfer r_transfer
  by_cases h1 : f_acct f = 0
  · rw [if_pos h1, if_pos h1]
  rw [if_neg h1, if_neg h1]
  by_cases h2 : f_acct t = 0
  · rw [if_pos h2, if_pos h2]
  rw [if_neg h2, if_neg h2]
  by_cases h3 : f = t
  · rw [if_pos h3, if_pos h3]
  rw [if_neg h3, if_neg h3]
  by_cases h4 : 0 ≤ m
  · rw [if_pos h4, if_pos h4]
    obtain ⟨e, hv⟩ := tr_3 f t s.1
    unfold f_trB r_trB
    rw [tr_acc, end_eq (trL_ne _ _ _ _ _), end_eq (doL_ne _ _ _ _ _ _ _)]
    simp only [doS_1, trS_1]
    generalize hS : f_look 16 (f_look t (f_look f s.1).2).2 = S at e hv ⊢
    by_cases h5 : S.2.2.2.1 = 0
    · have h6 := h5
      rw [e] at h6
      have e3 : xs (r_doL f t m (s.1.1 f.toNatClampNeg) (s.1.1 t.toNatClampNeg) (s.1.1 (16 : Int32).toNatClampNeg) (r_trL f t (s.1.1 f.toNatClampNeg) (s.1.1 t.toNatClampNeg) (s.1.1 (16 : Int32).toNatClampNeg))) s.1 = S.2 := by
        unfold r_doL
        simp only [xs_app, xs_off h6]
        exact e.symm
      rw [e3, ← e, doTr_off h5]
      simp only [ite_self, if_pos h5]
      unfold f_an2 f_ans
      rw [if_pos h5]
      split <;> rfl
    · obtain ⟨v1, v2, v3⟩ := hv h5
      rw [v1, v2, v3]
      unfold f_an2 f_ans
      by_cases h7 : f_trAcc m (s.1.1 f.toNatClampNeg) (s.1.1 t.toNatClampNeg) (s.1.1 (16 : Int32).toNatClampNeg) = 0
      · rw [if_pos h7, if_pos h7, if_pos h7, ← e]
      · rw [if_neg h7, if_neg h7, if_neg h7, doTr_x _ _ h7, ← e]
  · rw [if_neg h4, if_neg h4]
