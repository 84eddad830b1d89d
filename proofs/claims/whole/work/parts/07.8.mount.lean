/-! MOUNT -/
theorem best1_ne {b w : Int64} (h : ¬ b = 0) : ¬ g_best1 b w = 0 := by
  unfold g_best1
  split
  · exact h
  · rename_i hv
    have hw : ¬ w = 0 := fun z => hv (by rw [z, valid_eq]; exact valid_0)
    split
    · exact hw
    · split
      · split
        · exact h
        · exact hw
      · exact h
theorem best_0 {c : Int32} {m0 : Nat → Int64} (h : gm_best c m0 = 0) : f_valid (m0 (r_place 0 c).toNatClampNeg) = 0 := by
  by_cases hv : f_valid (m0 (r_place 0 c).toNatClampNeg) = 0
  · exact hv
  · exfalso
    have e : g_best1 0 (m0 (r_place 0 c).toNatClampNeg) = m0 (r_place 0 c).toNatClampNeg := by
      unfold g_best1
      rw [valid_eq, if_neg hv, if_pos rfl]
    have hne : ¬ g_best1 0 (m0 (r_place 0 c).toNatClampNeg) = 0 := by
      rw [e]
      exact fun z => hv (by rw [z]; exact valid_0)
    exact best1_ne (best1_ne (best1_ne hne)) h
theorem fnd_v (c : Int32) (m0 : Nat → Int64) : (f_valid (fnd c m0) = 0 ↔ gm_best c m0 = 0) ∧ (¬ gm_best c m0 = 0 → fnd c m0 = gm_best c m0) := by
  unfold fnd
  by_cases h : gm_best c m0 = 0
  · rw [if_pos h]
    exact ⟨⟨fun _ => h, fun _ => best_0 h⟩, fun z => absurd h z⟩
  · rw [if_neg h]
    exact ⟨okb_0 (best_ok c m0).2, fun _ => rfl⟩
theorem best1_okw {b w : Int64} (hb : okw b) (hw : okw w) : okw (g_best1 b w) := by
  unfold g_best1
  split
  · exact hb
  · split
    · exact hw
    · split
      · exact hw
      · split
        · split
          · exact hb
          · exact hw
        · exact hb
theorem best_okw {c : Int32} {m0 : Nat → Int64} (h : ∀ p : Int32, vp_in p 4 → okw (m0 (r_place p c).toNatClampNeg)) : okw (gm_best c m0) :=
  best1_okw (best1_okw (best1_okw (best1_okw okw_0 (h 0 in4_0)) (h 1 in4_1)) (h 2 in4_2)) (h 3 in4_3)
theorem cells_in : ∀ c ∈ f_cells, vp_in c 20 := by
  unfold f_cells
  exact List.forall_mem_cons.mpr ⟨in20_0, List.forall_mem_cons.mpr ⟨in20_1, List.forall_mem_cons.mpr ⟨in20_2, List.forall_mem_cons.mpr ⟨in20_3, List.forall_mem_cons.mpr ⟨in20_4, List.forall_mem_cons.mpr ⟨in20_5, List.forall_mem_cons.mpr ⟨in20_6, List.forall_mem_cons.mpr ⟨in20_7, List.forall_mem_cons.mpr ⟨in20_8, List.forall_mem_cons.mpr ⟨in20_9, List.forall_mem_cons.mpr ⟨in20_10, List.forall_mem_cons.mpr ⟨in20_11, List.forall_mem_cons.mpr ⟨in20_12, List.forall_mem_cons.mpr ⟨in20_13, List.forall_mem_cons.mpr ⟨in20_14, List.forall_mem_cons.mpr ⟨in20_15, List.forall_mem_cons.mpr ⟨in20_16, List.forall_mem_cons.mpr ⟨in20_17, List.forall_mem_cons.mpr ⟨in20_18, List.forall_mem_cons.mpr ⟨in20_19, fun _ h => by cases h⟩⟩⟩⟩⟩⟩⟩⟩⟩⟩⟩⟩⟩⟩⟩⟩⟩⟩⟩⟩
theorem cells_nd : f_cells.Nodup := by decide +kernel
theorem cells_16 : (16 : Int32) ∈ f_cells := by decide +kernel
theorem cells_17 : (17 : Int32) ∈ f_cells := by decide +kernel
theorem cells_18 : (18 : Int32) ∈ f_cells := by decide +kernel
theorem cells_19 : (19 : Int32) ∈ f_cells := by decide +kernel
theorem cells_mem {c : Int32} (h : vp_in c 20) : c ∈ f_cells := by
  obtain ⟨j, hj, rfl⟩ := vp_in_of h (by decide)
  have : ∀ k : Fin 20, nI k.val ∈ f_cells := by decide +kernel
  exact this ⟨j, hj⟩
theorem clamp_ne {a b : Int32} (ha : vp_in a 20) (hb : vp_in b 20) (h : ¬ a = b) : a.toNatClampNeg ≠ b.toNatClampNeg := by
  obtain ⟨i, hi, rfl⟩ := vp_in_of ha (by decide)
  obtain ⟨j, hj, rfl⟩ := vp_in_of hb (by decide)
  rw [nI_clamp (by omega), nI_clamp (by omega)]
  intro z
  exact h (by rw [z])
theorem mends_gen : ∀ (cs : List Int32) (z : RS), cs.Nodup → (∀ c ∈ cs, vp_in c 20) →
    (cs.foldl (fun s c => r_mend c s) z).1 = z.1 ∧ (∀ c ∈ cs, (cs.foldl (fun s c => r_mend c s) z).2.2.2.2.2 c.toNatClampNeg = gm_best c z.1.1) ∧ ∀ j, (∀ c ∈ cs, j ≠ c.toNatClampNeg) → (cs.foldl (fun s c => r_mend c s) z).2.2.2.2.2 j = z.2.2.2.2.2 j := by
  intro cs
  induction cs with
  | nil => exact fun z _ _ => ⟨rfl, fun c h => (by cases h), fun _ _ => rfl⟩
  | cons c cs ih =>
    intro z hnd hin
    obtain ⟨hnc, hnd2⟩ := List.nodup_cons.mp hnd
    have hc := hin c List.mem_cons_self
    rw [List.foldl_cons]
    obtain ⟨i1, i2, i3⟩ := ih (r_mend c z) hnd2 (fun c' h => hin c' (List.mem_cons_of_mem _ h))
    refine ⟨i1.trans mend_1, fun c' hc' => ?_, fun j hj => ?_⟩
    · rcases List.mem_cons.mp hc' with e | e
      · subst e
        rw [i3 _ (fun c2 h2 => clamp_ne hc (hin c2 (List.mem_cons_of_mem _ h2)) (fun z => hnc (z ▸ h2))), mend_b, pk_uLs]
      · rw [i2 c' e, mend_1]
    · rw [i3 j (fun c2 h2 => hj c2 (List.mem_cons_of_mem _ h2)), mend_b, pk_uLn (hj c List.mem_cons_self)]
theorem mendsL_eq (mem : Nat → Int64) : p_mends mem = f_cells.flatMap (fun c => p_mend c mem) := by
  unfold p_mends
  rw [fold_app (fun c => p_mend c mem), List.nil_append]
theorem mendsL_ne (mem : Nat → Int64) : p_mends mem ≠ [] := by
  rw [mendsL_eq]
  unfold f_cells
  rw [List.flatMap_cons]
  unfold p_mend p_m8 p_rw
  simp
theorem finA_x {a b m nn : Int32} {S : FS} {bs : Nat → Int64} (hv : ¬ S.2.2.1 = 0 → (f_valid (f_found a S) = 0 ↔ bs a.toNatClampNeg = 0) ∧ (¬ bs a.toNatClampNeg = 0 → f_found a S = bs a.toNatClampNeg) ∧ nn = f_bal (bs b.toNatClampNeg)) : f_finA a m nn S = xs (p_settle bs a b m) S := by
  by_cases h : S.2.2.1 = 0
  · rw [xs_off h]
    unfold f_finA
    split
    · rw [put_x, xs_off h]
    · rfl
  · obtain ⟨h1, h2, h3⟩ := hv h
    subst h3
    unfold f_finA p_settle
    by_cases h4 : bs a.toNatClampNeg = 0
    · rw [if_pos h4, if_neg (fun z => z.1 (h1.mpr h4)), xs_nil]
    · rw [if_neg h4, h2 h4, num_eq]
      by_cases h5 : f_num (bs a.toNatClampNeg) < f_bal (bs b.toNatClampNeg)
      · rw [if_pos h5, if_pos ⟨fun z => h4 (h1.mp (by rw [h2 h4]; exact z)), Int32.not_le.mpr h5⟩, put_x, word_eq]
      · rw [if_neg h5, if_neg (fun z => z.2 (Int32.not_lt.mp h5)), xs_nil]
theorem settle_frame {bs : Nat → Int64} {a b m c : Int32} {S : FS} (ha : vp_in a 20) (hc : vp_in c 20) (hne : ¬ c = a) (h : ¬ (xs (p_settle bs a b m) S).2.2.1 = 0) : f_found c (xs (p_settle bs a b m) S) = f_found c S := by
  unfold f_found
  rw [slot_place]
  refine xs_frame _ _ h (fun q hq => ?_)
  unfold p_settle at hq
  split at hq
  · cases hq
  · split at hq
    · unfold p_put at hq
      simp only [List.mem_cons, List.not_mem_nil, or_false] at hq
      rcases hq with e | e | e | e <;> rw [e]
      · exact fun z => hne (place_inj in4_0 ha in4_0 hc z).2.symm
      · exact fun z => hne (place_inj in4_1 ha in4_0 hc z).2.symm
      · exact fun z => hne (place_inj in4_2 ha in4_0 hc z).2.symm
      · exact fun z => hne (place_inj in4_3 ha in4_0 hc z).2.symm
    · cases hq
theorem slip_iff (bs : Nat → Int64) : (¬ r_slip bs = 0) ↔ ((¬ bs (16 : Int32).toNatClampNeg = 0 ∧ f_num (bs (16 : Int32).toNatClampNeg) = f_num (bs (19 : Int32).toNatClampNeg)) ∧ (¬ bs (17 : Int32).toNatClampNeg = 0 ∧ f_num (bs (17 : Int32).toNatClampNeg) = f_num (bs (19 : Int32).toNatClampNeg)) ∧ (¬ bs (18 : Int32).toNatClampNeg = 0 ∧ f_num (bs (18 : Int32).toNatClampNeg) = f_num (bs (19 : Int32).toNatClampNeg)) ∧ ¬ bs (19 : Int32).toNatClampNeg = 0) := by
  unfold r_slip g_slip1
  simp only [bI_ne, num_eq]
  constructor
  · intro ⟨⟨⟨⟨_, a1, a2⟩, b1, b2⟩, c1, c2⟩, d1, d2⟩
    exact ⟨⟨a1, a2⟩, ⟨b1, b2⟩, ⟨c1, c2⟩, d1⟩
  · intro ⟨⟨a1, a2⟩, ⟨b1, b2⟩, ⟨c1, c2⟩, d1⟩
    exact ⟨⟨⟨⟨i10, a1, a2⟩, b1, b2⟩, c1, c2⟩, d1, trivial⟩
theorem pend_iff (S : FS) : (¬ f_pend S = 0) ↔ (((¬ f_valid (f_found 16 S) = 0 ∧ f_num (f_found 16 S) = f_num (f_found 19 S)) ∧ (¬ f_valid (f_found 17 S) = 0 ∧ f_num (f_found 17 S) = f_num (f_found 19 S)) ∧ (¬ f_valid (f_found 18 S) = 0 ∧ f_num (f_found 18 S) = f_num (f_found 19 S)) ∧ ¬ f_valid (f_found 19 S) = 0) ∧ ¬ (f_bal (f_found 19 S) &&& 65536) = 0 ∧ ¬ f_acct (f_from (f_bal (f_found 19 S))) = 0 ∧ ¬ f_acct (f_to (f_bal (f_found 19 S))) = 0) := by
  unfold f_pend
  rw [bI_ne]
  unfold f_okc
  constructor
  · intro ⟨⟨a1, _⟩, ⟨b1, b2⟩, ⟨c1, c2⟩, ⟨d1, d2⟩, e⟩
    exact ⟨⟨⟨a1, d2.symm⟩, ⟨b1, b2.trans d2.symm⟩, ⟨c1, c2.trans d2.symm⟩, d1⟩, e⟩
  · intro ⟨⟨⟨a1, a2⟩, ⟨b1, b2⟩, ⟨c1, c2⟩, d1⟩, e⟩
    exact ⟨⟨a1, rfl⟩, ⟨b1, b2.trans a2.symm⟩, ⟨c1, c2.trans a2.symm⟩, ⟨d1, a2.symm⟩, e⟩
