/-! THE INVARIANT STAYS -/
theorem i_open (a b : Int32) (s : RS) (h : Inv s.1) : Inv (r_open a b s).2.1 := by
  unfold r_open
  by_cases h1 : f_acct a = 0
  · rw [if_pos h1]
    exact h
  · rw [if_neg h1]
    have hc := acct_in20 h1
    have h9 := acct_19 h1
    split
    · rw [end_2 (by simp) _ _ s.1 (by rw [turn_1, turn_1, zero_1])]
      exact inv_xs _ _ h (okl_app (okl_app okl_nil (okl_cons (okq_cell in4_0 hc h9) okl_nil)) (okl_cons (okq_cell in4_0 hc h9) okl_nil))
    · rw [end_2 (by simp) _ _ s.1 (by rw [put_1, turn_1, zero_1])]
      exact inv_xs _ _ h (okl_app (okl_app okl_nil (okl_cons (okq_cell in4_0 hc h9) okl_nil)) (okl_put _ hc h9))
theorem i_post (a m : Int32) (s : RS) (h : Inv s.1) : Inv (r_post a m s).2.1 := by
  unfold r_post
  by_cases h1 : f_acct a = 0
  · rw [if_pos h1]
    exact h
  · rw [if_neg h1]
    have hc := acct_in20 h1
    have h9 := acct_19 h1
    unfold r_postB
    split
    · rw [end_2 (by simp) _ _ s.1 (by rw [turn_1, turn_1, zero_1])]
      exact inv_xs _ _ h (okl_app (okl_app okl_nil (okl_cons (okq_cell in4_0 hc h9) okl_nil)) (okl_cons (okq_cell in4_0 hc h9) okl_nil))
    · rw [end_2 (by simp) _ _ s.1 (by rw [put_1, turn_1, zero_1])]
      exact inv_xs _ _ h (okl_app (okl_app okl_nil (okl_cons (okq_cell in4_0 hc h9) okl_nil)) (okl_put _ hc h9))
theorem i_balance (a : Int32) (s : RS) (h : Inv s.1) : Inv (r_balance a s).2.1 := by
  unfold r_balance
  by_cases h1 : f_acct a = 0
  · rw [if_pos h1]
    exact h
  · rw [if_neg h1, wk_2]
    have e2 : (r_look a (r_zero s)).1 = s.1 := by rw [look_1, zero_1]
    show Inv (xs _ (r_look a (r_zero s)).1)
    rw [e2]
    exact inv_xs _ _ h (okl_app okl_nil (okl_look _ (acct_in20 h1) (acct_19 h1)))
theorem i_number (a : Int32) (s : RS) (h : Inv s.1) : Inv (r_number a s).2.1 := by
  unfold r_number
  by_cases h1 : f_acct a = 0
  · rw [if_pos h1]
    exact h
  · rw [if_neg h1, wk_2]
    have e2 : (r_look a (r_zero s)).1 = s.1 := by rw [look_1, zero_1]
    show Inv (xs _ (r_look a (r_zero s)).1)
    rw [e2]
    exact inv_xs _ _ h (okl_app okl_nil (okl_look _ (acct_in20 h1) (acct_19 h1)))
theorem accts_in : ∀ c ∈ f_accts, ¬ f_acct c = 0 := by decide +kernel
theorem i_total (s : RS) (h : Inv s.1) : Inv (r_total s).2.1 := by
  obtain ⟨-, b2⟩ := rtot_gen f_accts 0 (r_zero s)
  rw [zero_1, r_tot_def] at b2
  have e : (r_total s).2.1 = xs (r_totL s.1.1) (r_tot s).2.1 := by
    unfold r_total
    rw [wk_2]
  rw [e, b2]
  refine inv_xs _ _ h ?_
  rw [totL_eq]
  intro q hq
  obtain ⟨c, hc, hq⟩ := List.mem_flatMap.mp hq
  exact okl_look _ (acct_in20 (accts_in c hc)) (acct_19 (accts_in c hc)) q hq
theorem i_failAfter (n : Int32) (s : RS) (h : Inv s.1) : Inv (r_failAfter n s).2.1 := by
  unfold r_failAfter
  split
  · exact ⟨h.1, h.2⟩
  · exact h
theorem i_fail (s : RS) (h : Inv s.1) : Inv (r_fail s).2.1 := by
  unfold r_fail
  split
  · exact h
  · exact ⟨Or.inl rfl, h.2⟩
theorem i_transfer (f t m : Int32) (s : RS) (h : Inv s.1) : Inv (r_transfer f t m s).2.1 := by
  unfold r_transfer
  by_cases h1 : f_acct f = 0
  · rw [if_pos h1]
    exact h
  rw [if_neg h1]
  by_cases h2 : f_acct t = 0
  · rw [if_pos h2]
    exact h
  rw [if_neg h2]
  by_cases h3 : f = t
  · rw [if_pos h3]
    exact h
  rw [if_neg h3]
  by_cases h4 : 0 ≤ m
  · rw [if_pos h4]
    have hf := acct_in20 h1
    have ht := acct_in20 h2
    have f9 := acct_19 h1
    have t9 := acct_19 h2
    have hL : ∀ x y z, okl (r_trL f t x y z) := fun x y z => okl_app (okl_app (okl_app okl_nil (okl_look _ hf f9)) (okl_look _ ht t9)) (okl_look _ in20_16 (by decide))
    obtain ⟨ft1, ft2⟩ := route_ft (acct_in h1) (acct_in h2) h3
    unfold r_trB
    by_cases h5 : r_trAcc m (s.1.1 f.toNatClampNeg) (s.1.1 t.toNatClampNeg) (s.1.1 (16 : Int32).toNatClampNeg) = 0
    · rw [if_pos h5, end_2 (trL_ne _ _ _ _ _) _ _ s.1 trS_1]
      exact inv_xs _ _ h (hL _ _ _)
    · rw [if_neg h5, end_2 (doL_ne _ _ _ _ _ _ _) _ _ s.1 (by rw [doS_1, trS_1])]
      rw [tr_acc] at h5
      have hn := (bI_ne.mp h5).2.2.2
      refine inv_xs _ _ h ?_
      unfold r_doL
      refine okl_app (okl_app (okl_app (okl_app (okl_app (okl_app (okl_app (hL _ _ _) (okl_put _ in20_16 (by decide))) (okl_put _ in20_17 (by decide))) (okl_put _ in20_18 (by decide))) (okl_putw ?_)) (okl_put _ hf f9)) (okl_put _ ht t9)) (okl_putw ?_)
      · rw [word_eq, num_eq]
        exact okw_ft (bal_next hn _) ft1
      · rw [word_eq, num_eq]
        exact okw_bit (bal_next hn _) ft2
  · rw [if_neg h4]
    exact h
