/-! MOUNT: class and reference agree -/
theorem f_rests_def (s : FS) : f_cells.foldl (fun s c => f_rest c s) s = f_rests s := by unfold f_rests; with_reducible rfl
theorem r_mends_def (s : RS) : f_cells.foldl (fun s c => r_mend c s) s = r_mends s := by unfold r_mends; with_reducible rfl
theorem end_2 {L : RPl} (hL : L ≠ []) (ok : Int32) (s : RS) (s0 : FS) (h : s.1 = s0) : (r_end ok L s).2.1 = xs L s0 := by
  subst h
  rw [end_eq hL]
theorem okl_rw {c p : Int32} {x : Int64} {m0 : Nat → Int64} (hc : vp_in c 20) (hp : vp_in p 4) (h : c = 19 → okw (m0 (r_place p c).toNatClampNeg)) : okl (p_rw p c x m0) := by
  refine okl_cons (Or.inl rfl) (okl_cons ?_ okl_nil)
  by_cases hz : c = 19
  · exact okq_word (h hz)
  · exact okq_cell hp hc hz
theorem okl_mw1 {c p : Int32} {b : Int64} {m0 : Nat → Int64} (hc : vp_in c 20) (hp : vp_in p 4) (h : c = 19 → okw b) : okl (p_mw1 c p b m0) := by
  unfold p_mw1
  split
  · exact okl_nil
  · refine okl_cons ?_ okl_nil
    by_cases hz : c = 19
    · exact okq_word (h hz)
    · exact okq_cell hp hc hz
theorem okl_mend {c : Int32} {m0 : Nat → Int64} (hc : vp_in c 20) (h : c = 19 → ∀ p : Int32, vp_in p 4 → okw (m0 (r_place p c).toNatClampNeg)) : okl (p_mend c m0) := by
  unfold p_mend p_m8 p_mw
  refine okl_app (okl_app (okl_rw hc in4_0 (fun z => h z 0 in4_0)) (okl_app (okl_rw hc in4_1 (fun z => h z 1 in4_1)) (okl_app (okl_rw hc in4_2 (fun z => h z 2 in4_2)) (okl_rw hc in4_3 (fun z => h z 3 in4_3))))) ?_
  split
  · exact okl_nil
  · have hb : c = 19 → okw (gm_best c m0) := fun z => best_okw (h z)
    exact okl_app (okl_mw1 hc in4_0 hb) (okl_app (okl_mw1 hc in4_1 hb) (okl_app (okl_mw1 hc in4_2 hb) (okl_mw1 hc in4_3 hb)))
theorem okl_mends {m0 : Nat → Int64} (h : ∀ p : Int32, vp_in p 4 → okw (m0 (r_place p 19).toNatClampNeg)) : okl (p_mends m0) := by
  rw [mendsL_eq]
  intro q hq
  obtain ⟨c, hc, hq⟩ := List.mem_flatMap.mp hq
  exact okl_mend (cells_in c hc) (fun z => by rw [z]; exact h) q hq
theorem okl_settle {bs : Nat → Int64} {a b m : Int32} (ha : ¬ f_acct a = 0) : okl (p_settle bs a b m) := by
  unfold p_settle
  split
  · exact okl_nil
  · split
    · exact okl_put _ (acct_in20 ha) (acct_19 ha)
    · exact okl_nil
theorem ans1 (S : FS) : f_an2 1 S = (if S.2.2.1 = 0 then -2 else 1, S) := by
  unfold f_an2 f_ans
  rw [if_neg i10]
theorem told_eq (x : Int32) : x - 65536 + 131072 = x + 65536 := by
  rw [Int32.sub_eq_add_neg, Int32.add_assoc, show (-65536 : Int32) + 131072 = 65536 from by decide]
theorem finL_ne (z : RS) {L : RPl} (h : L ≠ []) : r_finL z L ≠ [] := by
  unfold r_finL
  intro q
  simp only [List.append_eq_nil_iff] at q
  exact h q.1.1.1
theorem fin3_1 (z : RS) : (r_fin3 z).1 = z.1 := by
  unfold r_fin3 r_fin2 r_fin1
  rw [put_1, settle_1, settle_1]
/-- what a found word is beside the reference's best -/
def fb (S : FS) (bs : Nat → Int64) (c : Int32) : Prop := (f_valid (f_found c S) = 0 ↔ bs c.toNatClampNeg = 0) ∧ (¬ bs c.toNatClampNeg = 0 → f_found c S = bs c.toNatClampNeg)
theorem pend_slip {S : FS} {bs : Nat → Int64} (h6 : fb S bs 16) (h7 : fb S bs 17) (h8 : fb S bs 18) (h9 : fb S bs 19) : (¬ f_pend S = 0) ↔ (¬ r_slip bs = 0 ∧ ¬ (f_bal (bs (19 : Int32).toNatClampNeg) &&& 65536) = 0 ∧ ¬ f_acct (f_from (f_bal (bs (19 : Int32).toNatClampNeg))) = 0 ∧ ¬ f_acct (f_to (f_bal (bs (19 : Int32).toNatClampNeg))) = 0) := by
  rw [pend_iff, slip_iff]
  constructor
  · intro ⟨⟨⟨a1, a2⟩, ⟨b1, b2⟩, ⟨c1, c2⟩, d1⟩, e⟩
    have n6 := fun z => a1 (h6.1.mpr z)
    have n7 := fun z => b1 (h7.1.mpr z)
    have n8 := fun z => c1 (h8.1.mpr z)
    have n9 := fun z => d1 (h9.1.mpr z)
    rw [h6.2 n6, h9.2 n9] at a2
    rw [h7.2 n7, h9.2 n9] at b2
    rw [h8.2 n8, h9.2 n9] at c2
    rw [h9.2 n9] at e
    exact ⟨⟨⟨n6, a2⟩, ⟨n7, b2⟩, ⟨n8, c2⟩, n9⟩, e⟩
  · intro ⟨⟨⟨n6, a2⟩, ⟨n7, b2⟩, ⟨n8, c2⟩, n9⟩, e⟩
    rw [h6.2 n6, h7.2 n7, h8.2 n8, h9.2 n9]
    refine ⟨⟨⟨fun z => n6 (h6.1.mp (by rw [h6.2 n6]; exact z)), a2⟩, ⟨fun z => n7 (h7.1.mp (by rw [h7.2 n7]; exact z)), b2⟩, ⟨fun z => n8 (h8.1.mp (by rw [h8.2 n8]; exact z)), c2⟩, fun z => n9 (h9.1.mp (by rw [h9.2 n9]; exact z))⟩, e⟩
theorem fin_x {S : FS} {z : RS} (L : RPl) (s1 : FS) (hS : S = xs L s1) (hb : ¬ S.2.2.1 = 0 → ∀ c : Int32, vp_in c 20 → fb S z.2.2.2.2.2 c) (hon : ¬ S.2.2.1 = 0) (hs : ¬ r_slip z.2.2.2.2.2 = 0) (hf : ¬ f_acct (f_from (r_told z)) = 0) (ht : ¬ f_acct (f_to (r_told z)) = 0) (hne : ¬ f_from (r_told z) = f_to (r_told z)) : f_fin S = xs (r_finL z L) s1 := by
  obtain ⟨⟨n6, -⟩, ⟨n7, -⟩, ⟨n8, -⟩, n9⟩ := (slip_iff _).mp hs
  have e6 := (hb hon 16 in20_16).2 n6
  have e7 := (hb hon 17 in20_17).2 n7
  have e8 := (hb hon 18 in20_18).2 n8
  have e9 := (hb hon 19 in20_19).2 n9
  have hF := acct_in20 hf
  have hT := acct_in20 ht
  have eT : f_bal (f_found 19 S) = r_told z := by rw [e9]; rfl
  have eA : f_bal (f_found 16 S) = r_amt z := by rw [e6]; rfl
  unfold f_fin r_finL
  rw [xs_app, xs_app, xs_app, ← hS]
  have k1 : f_fin1 S = xs (p_settle z.2.2.2.2.2 (f_from (r_told z)) 17 (-(r_amt z))) S := by
    unfold f_fin1
    rw [eT, eA]
    exact finA_x (fun h => ⟨(hb h _ hF).1, (hb h _ hF).2, by rw [e7]⟩)
  rw [eT, eA, k1]
  have k2 : f_fin2 (r_told z) (r_amt z) (xs (p_settle z.2.2.2.2.2 (f_from (r_told z)) 17 (-(r_amt z))) S) = xs (p_settle (r_fin1 z).2.2.2.2.2 (f_to (r_told z)) 18 (r_amt z)) (xs (p_settle z.2.2.2.2.2 (f_from (r_told z)) 17 (-(r_amt z))) S) := by
    unfold f_fin2
    have eb : (r_fin1 z).2.2.2.2.2 = z.2.2.2.2.2 := by unfold r_fin1; rw [settle_b]
    rw [eb]
    refine finA_x (fun h => ?_)
    have f1 := settle_frame (c := f_to (r_told z)) hF hT (fun q => hne q.symm) h
    have f2 := settle_frame (c := 18) hF in20_18 (fun q => by rw [← q] at hf; exact hf (by decide +kernel)) h
    rw [f1, f2, e8]
    exact ⟨(hb hon _ hT).1, (hb hon _ hT).2, rfl⟩
  rw [k2, put_x, told_eq, word_eq, num_eq]
  have eb2 : (r_fin2 z).2.2.2.2.2 = z.2.2.2.2.2 := by unfold r_fin2 r_fin1; rw [settle_b, settle_b]
  rw [eb2, e9]
set_option maxHeartbeats 400000 in
theorem q_mount (s : RS) (hI : Inv s.1) : f_mount s.1 = ((r_mount s).1, (r_mount s).2.1) ∧ Inv (r_mount s).2.1 := by
  obtain ⟨R1, R2⟩ := rests_x s.1.1 f_cells (s.1.1, s.1.2.1, 1, s.1.2.2.2.1, s.1.2.2.2.2.1, s.1.2.2.2.2.2) cells_nd cells_in (fun _ _ _ _ _ => rfl)
  rw [f_rests_def, ← mendsL_eq] at R1
  rw [f_rests_def] at R2
  obtain ⟨M1, M2, -⟩ := mends_gen f_cells (r_zero (r_on1 s)) cells_nd cells_in
  rw [r_mends_def] at M1 M2
  unfold f_mount r_mount
  have hI1 : Inv (s.1.1, s.1.2.1, 1, s.1.2.2.2.1, s.1.2.2.2.2.1, s.1.2.2.2.2.2) := ⟨Or.inr rfl, hI.2⟩
  have hz : (r_zero (r_on1 s)).1 = (s.1.1, s.1.2.1, 1, s.1.2.2.2.1, s.1.2.2.2.2.1, s.1.2.2.2.2.2) := rfl
  rw [hz] at M1 M2
  have hL := mendsL_ne s.1.1
  have hok := okl_mends hI.2
  generalize hs1 : ((s.1.1, s.1.2.1, 1, s.1.2.2.2.1, s.1.2.2.2.2.1, s.1.2.2.2.2.2) : FS) = s1 at R1 R2 M1 M2 hI1 ⊢
  have hm1 : s1.1 = s.1.1 := by rw [← hs1]
  rw [hm1] at M2
  generalize r_mends (r_zero (r_on1 s)) = z at M1 M2 ⊢
  generalize f_rests s1 = S at R1 R2 ⊢
  have hb : ¬ S.2.2.1 = 0 → ∀ c : Int32, vp_in c 20 → fb S z.2.2.2.2.2 c := by
    intro h c hc
    have hcm := cells_mem hc
    have e1 : f_found c S = fnd c s.1.1 := by
      unfold f_found
      rw [slot_place]
      exact (R2 h).1 c hcm
    unfold fb
    rw [e1, M2 c hcm]
    exact fnd_v c s.1.1
  have plain : (f_fp S = S) → (f_an2 1 (f_fp S) = ((r_end 1 (p_mends s.1.1) z).1, (r_end 1 (p_mends s.1.1) z).2.1) ∧ Inv (r_end 1 (p_mends s.1.1) z).2.1) := by
    intro e
    have e2 := end_eq2 hL 1 z s1 M1
    rw [e, ans1, e2, ← R1]
    refine ⟨rfl, ?_⟩
    rw [end_2 hL 1 z s1 M1]
    exact inv_xs _ _ hI1 hok
  have np : (¬ S.2.2.1 = 0 → f_pend S = 0) → f_fp S = S := by
    intro h
    unfold f_fp
    by_cases h1 : S.2.2.1 = 0
    · rw [if_pos h1]
    · rw [if_neg h1, if_pos (h h1)]
  have pp : ¬ S.2.2.1 = 0 → ((¬ f_pend S = 0) ↔ (¬ r_slip z.2.2.2.2.2 = 0 ∧ ¬ (r_told z &&& 65536) = 0 ∧ ¬ f_acct (f_from (r_told z)) = 0 ∧ ¬ f_acct (f_to (r_told z)) = 0)) := fun h => pend_slip (hb h 16 in20_16) (hb h 17 in20_17) (hb h 18 in20_18) (hb h 19 in20_19)
  have no : ∀ P : Prop, (¬ S.2.2.1 = 0 → ¬ f_pend S = 0 → P) → ¬ P → f_fp S = S := fun P h1 h2 => np (fun h => Classical.byContradiction fun q => h2 (h1 h q))
  unfold r_mountB
  by_cases c1 : r_slip z.2.2.2.2.2 = 0
  · rw [if_pos c1]
    exact plain (no _ (fun h q => ((pp h).mp q).1) (fun q => q c1))
  rw [if_neg c1]
  by_cases c2 : (r_told z >>> ((16 : Int32) &&& 31)) &&& 1 = 1
  · rw [if_pos c2]
    by_cases c3 : f_acct (f_from (r_told z)) = 0
    · rw [if_pos c3]
      exact plain (no _ (fun h q => ((pp h).mp q).2.2.1) (fun q => q c3))
    rw [if_neg c3]
    by_cases c4 : f_acct (f_to (r_told z)) = 0
    · rw [if_pos c4]
      exact plain (no _ (fun h q => ((pp h).mp q).2.2.2) (fun q => q c4))
    rw [if_neg c4]
    have hbit := (bit_shr _).mp c2
    have hL2 := finL_ne z hL
    have e2 := end_eq2 hL2 1 (r_fin3 z) s1 (by rw [fin3_1]; exact M1)
    have n9 := ((slip_iff _).mp c1).2.2.2
    have hokw : okw (z.2.2.2.2.2 (19 : Int32).toNatClampNeg) := by
      rw [M2 19 cells_19]
      exact best_okw hI.2
    have hv9 : ¬ f_valid (z.2.2.2.2.2 (19 : Int32).toNatClampNeg) = 0 := by
      rw [M2 19 cells_19] at n9 ⊢
      exact fun q => n9 ((okb_0 (best_ok 19 s.1.1).2).mp q)
    have hne : ¬ f_from (r_told z) = f_to (r_told z) := hokw hv9 ((bit_and _).mpr hbit)
    have e3 : f_fp S = xs (r_finL z (p_mends s.1.1)) s1 := by
      unfold f_fp
      by_cases h1 : S.2.2.1 = 0
      · rw [if_pos h1]
        unfold r_finL
        rw [xs_app, xs_app, xs_app, ← R1, xs_off h1, xs_off h1, xs_off h1]
      · rw [if_neg h1, if_neg ((pp h1).mpr ⟨c1, (bit_and _).mpr hbit, c3, c4⟩)]
        exact fin_x _ _ R1 hb h1 c1 c3 c4 hne
    rw [ans1, e2, ← e3]
    refine ⟨rfl, ?_⟩
    rw [end_2 hL2 1 (r_fin3 z) s1 (by rw [fin3_1]; exact M1)]
    refine inv_xs _ _ hI1 ?_
    unfold r_finL
    refine okl_app (okl_app (okl_app hok (okl_settle c3)) (okl_settle c4)) (okl_putw ?_)
    rw [word_eq, num_eq]
    exact okw_bit (bal_num _ _) (bit_next hbit)
  · rw [if_neg c2]
    exact plain (no _ (fun h q => (bit_and _).mp ((pp h).mp q).2.1) (fun q => c2 ((bit_shr _).mpr q)))
