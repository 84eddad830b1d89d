/-! A CELL'S RESTORING, WHOLE -/
theorem valid_0 : f_valid 0 = 0 := by decide +kernel
def okb (b : Int64) : Prop := b = 0 ∨ ¬ f_valid b = 0
theorem okb_0 {b : Int64} (h : okb b) : f_valid b = 0 ↔ b = 0 := by
  constructor
  · intro z
    rcases h with h | h
    · exact h
    · exact absurd z h
  · intro z
    rw [z]
    exact valid_0
theorem better_eq {b : Int64} (w : Int64) (h : okb b) : f_better b w = g_best1 b w ∧ okb (g_best1 b w) := by
  unfold f_better g_best1
  rw [valid_eq, num_eq, num_eq]
  by_cases h1 : f_valid w = 0
  · rw [if_pos h1, if_pos h1]
    exact ⟨rfl, h⟩
  · rw [if_neg h1, if_neg h1]
    by_cases h2 : b = 0
    · rw [if_pos ((okb_0 h).mpr h2), if_pos h2]
      exact ⟨rfl, Or.inr h1⟩
    · rw [if_neg (fun z => h2 ((okb_0 h).mp z)), if_neg h2]
      by_cases h3 : f_num w = f_num b
      · have h5 : ¬ f_num b < f_num w := by
          rw [h3]
          exact Int32.lt_irrefl
        rw [if_pos h3, if_neg h5, if_pos h3]
        refine ⟨rfl, ?_⟩
        split
        · exact h
        · exact Or.inr h1
      · rw [if_neg h3, if_neg h3]
        by_cases h4 : f_num b < f_num w
        · rw [if_pos h4, if_neg (Int32.not_le.mpr h4)]
          exact ⟨rfl, Or.inr h1⟩
        · rw [if_neg h4, if_pos (Int32.not_lt.mp h4)]
          exact ⟨rfl, h⟩
theorem bad1_eq (i : Int32) (w : Int64) : g_bad1 i w = if f_valid w = 0 then i + 1 else i := by
  unfold g_bad1
  rw [valid_eq]
  split
  · rfl
  · rw [Int32.add_zero]
theorem bad1_nI {k : Nat} (w : Int64) : ∃ k', k' ≤ k + 1 ∧ g_bad1 (nI k) w = nI k' := by
  rw [bad1_eq]
  split
  · exact ⟨k + 1, Nat.le_refl _, nI_1 k⟩
  · exact ⟨k, by omega, rfl⟩
theorem bad_nI (c : Int32) (m0 : Nat → Int64) : ∃ n, n < 100 ∧ gm_bad c m0 = nI n := by
  unfold gm_bad
  rw [show (0 : Int32) = nI 0 from nI_0.symm]
  obtain ⟨k1, h1, e1⟩ := bad1_nI (k := 0) (m0 (r_place (nI 0) c).toNatClampNeg)
  rw [e1]
  obtain ⟨k2, h2, e2⟩ := bad1_nI (k := k1) (m0 (r_place 1 c).toNatClampNeg)
  rw [e2]
  obtain ⟨k3, h3, e3⟩ := bad1_nI (k := k2) (m0 (r_place 2 c).toNatClampNeg)
  rw [e3]
  obtain ⟨k4, h4, e4⟩ := bad1_nI (k := k3) (m0 (r_place 3 c).toNatClampNeg)
  rw [e4]
  exact ⟨k4, by omega, rfl⟩
theorem best_ok (c : Int32) (m0 : Nat → Int64) : f_better (f_better (f_better (f_better 0 (m0 (r_place 0 c).toNatClampNeg)) (m0 (r_place 1 c).toNatClampNeg)) (m0 (r_place 2 c).toNatClampNeg)) (m0 (r_place 3 c).toNatClampNeg) = gm_best c m0 ∧ okb (gm_best c m0) := by
  unfold gm_best
  have h0 : okb 0 := Or.inl rfl
  obtain ⟨e1, h1⟩ := better_eq (m0 (r_place 0 c).toNatClampNeg) h0
  rw [e1]
  obtain ⟨e2, h2⟩ := better_eq (m0 (r_place 1 c).toNatClampNeg) h1
  rw [e2]
  obtain ⟨e3, h3⟩ := better_eq (m0 (r_place 2 c).toNatClampNeg) h2
  rw [e3]
  exact better_eq (m0 (r_place 3 c).toNatClampNeg) h3
set_option maxHeartbeats 400000 in
theorem restS_x {c : Int32} {s : FS} {m0 : Nat → Int64} (hc : vp_in c 20) (hm : ¬ s.2.2.1 = 0 → ∀ p : Int32, vp_in p 4 → s.1 (r_place p c).toNatClampNeg = m0 (r_place p c).toNatClampNeg) :
    (f_restS c s).2.2 = xs (p_m8 c m0) s ∧ (¬ (f_restS c s).2.2.2.2.1 = 0 → (f_restS c s).2.1 = gm_best c m0 ∧ (f_restS c s).2.2.1 = s.1) := by
  unfold f_restS
  obtain ⟨n, hn, en⟩ := bad_nI c m0
  obtain ⟨A1, B1⟩ := rest1_x (c := c) (p := 0) (i := 0) (b := 0) (s := s) (m0 := m0) (by decide) (fun h => hm h 0 in4_0)
  rcases hT1 : f_rest1 c 0 (0, 0, s) with ⟨i1, b1, s1⟩
  rw [hT1] at A1 B1
  dsimp only at A1 B1
  have d1 : ¬ s1.2.2.1 = 0 → ¬ s.2.2.1 = 0 := fun h => xs_down (by rw [← A1]; exact h)
  obtain ⟨A2, B2⟩ := rest1_x (c := c) (p := 1) (i := i1) (b := b1) (s := s1) (m0 := m0) (by decide) (fun h => by rw [(B1 h).2.2]; exact hm (d1 h) 1 in4_1)
  rcases hT2 : f_rest1 c 1 (i1, b1, s1) with ⟨i2, b2, s2⟩
  rw [hT2] at A2 B2
  dsimp only at A2 B2
  have d2 : ¬ s2.2.2.1 = 0 → ¬ s1.2.2.1 = 0 := fun h => xs_down (by rw [← A2]; exact h)
  obtain ⟨A3, B3⟩ := rest1_x (c := c) (p := 2) (i := i2) (b := b2) (s := s2) (m0 := m0) (by decide) (fun h => by rw [(B2 h).2.2, (B1 (d2 h)).2.2]; exact hm (d1 (d2 h)) 2 in4_2)
  rcases hT3 : f_rest1 c 2 (i2, b2, s2) with ⟨i3, b3, s3⟩
  rw [hT3] at A3 B3
  dsimp only at A3 B3
  have d3 : ¬ s3.2.2.1 = 0 → ¬ s2.2.2.1 = 0 := fun h => xs_down (by rw [← A3]; exact h)
  obtain ⟨A4, B4⟩ := rest3_x (c := c) (i := i3) (b := b3) (s := s3) (m0 := m0) (n := n) hc (fun h => by rw [(B3 h).2.2, (B2 (d3 h)).2.2, (B1 (d2 (d3 h))).2.2]; exact hm (d1 (d2 (d3 h))) 3 in4_3) hn
    (fun h => by rw [← bad1_eq, (B3 h).1, ← bad1_eq, (B2 (d3 h)).1, ← bad1_eq, (B1 (d2 (d3 h))).1, ← bad1_eq]; exact en)
  rcases hT4 : f_rest1 c 3 (i3, b3, s3) with ⟨i4, b4, s4⟩
  rw [hT4] at A4 B4
  dsimp only at A4 B4 ⊢
  refine ⟨?_, fun h => ?_⟩
  · unfold p_m8
    rw [xs_app, xs_app, xs_app, en, ← A1, ← A2, ← A3, A4]
  · have h3 : ¬ s3.2.2.1 = 0 := xs_down (by rw [← A4]; exact h)
    obtain ⟨q1, q2⟩ := B4 h
    obtain ⟨-, r1, r2⟩ := B3 h3
    obtain ⟨-, t1, t2⟩ := B2 (d3 h3)
    obtain ⟨-, u1, u2⟩ := B1 (d2 (d3 h3))
    refine ⟨?_, by rw [q2, r2, t2, u2]⟩
    rw [q1, r1, t1, u1]
    exact (best_ok c m0).1
theorem wo1_x {c p : Int32} {b : Int64} {s : FS} {m0 : Nat → Int64} (hm : ¬ s.2.2.1 = 0 → s.1 (r_place p c).toNatClampNeg = m0 (r_place p c).toNatClampNeg) :
    f_wo1 c b p s = xs (p_mw1 c p b m0) s ∧ (¬ (f_wo1 c b p s).2.2.1 = 0 → (f_wo1 c b p s).1 (r_place p c).toNatClampNeg = b ∧ ∀ j, j ≠ (r_place p c).toNatClampNeg → (f_wo1 c b p s).1 j = s.1 j) := by
  by_cases h : s.2.2.1 = 0
  · have e : f_wo1 c b p s = s := by
      unfold f_wo1
      split
      · rfl
      · rw [write_x, x1_off h]
    rw [e, xs_off h]
    exact ⟨rfl, fun z => absurd h z⟩
  · have e := hm h
    unfold f_wo1 p_mw1
    rw [slot_place, e]
    by_cases hb : m0 (r_place p c).toNatClampNeg = b
    · rw [if_pos hb, if_pos hb]
      exact ⟨rfl, fun _ => ⟨e.trans hb, fun _ _ => rfl⟩⟩
    · rw [if_neg hb, if_neg hb, write_x, xs_cons, xs_nil]
      refine ⟨rfl, fun z => ?_⟩
      rw [(x1_on z).1]
      unfold r_ex1
      rw [if_neg i10, take_mem]
      exact ⟨pk_uLs, fun j hj => pk_uLn hj⟩
theorem pl_ne {p q c : Int32} (hc : vp_in c 20) (hp : vp_in p 4) (hq : vp_in q 4) (h : ¬ p = q) : (r_place p c).toNatClampNeg ≠ (r_place q c).toNatClampNeg := fun z => h (place_inj hp hc hq hc z).1
theorem wo_x {c : Int32} {b : Int64} {s : FS} {m0 : Nat → Int64} (hc : vp_in c 20) (hb : ¬ b = 0) (hm : ¬ s.2.2.1 = 0 → ∀ p : Int32, vp_in p 4 → s.1 (r_place p c).toNatClampNeg = m0 (r_place p c).toNatClampNeg) :
    f_wo c b s = xs (p_mw c b m0) s ∧ (¬ (f_wo c b s).2.2.1 = 0 → (f_wo c b s).1 (r_place 0 c).toNatClampNeg = b ∧ ∀ j, (∀ p : Int32, vp_in p 4 → j ≠ (r_place p c).toNatClampNeg) → (f_wo c b s).1 j = s.1 j) := by
  unfold f_wo p_mw
  rw [if_neg hb]
  obtain ⟨A1, B1⟩ := wo1_x (c := c) (p := 0) (b := b) (s := s) (m0 := m0) (fun h => hm h 0 in4_0)
  generalize f_wo1 c b 0 s = s1 at A1 B1 ⊢
  have d1 : ¬ s1.2.2.1 = 0 → ¬ s.2.2.1 = 0 := fun h => xs_down (by rw [← A1]; exact h)
  obtain ⟨A2, B2⟩ := wo1_x (c := c) (p := 1) (b := b) (s := s1) (m0 := m0) (fun h => by rw [(B1 h).2 _ (pl_ne hc in4_1 in4_0 (by decide))]; exact hm (d1 h) 1 in4_1)
  generalize f_wo1 c b 1 s1 = s2 at A2 B2 ⊢
  have d2 : ¬ s2.2.2.1 = 0 → ¬ s1.2.2.1 = 0 := fun h => xs_down (by rw [← A2]; exact h)
  obtain ⟨A3, B3⟩ := wo1_x (c := c) (p := 2) (b := b) (s := s2) (m0 := m0) (fun h => by rw [(B2 h).2 _ (pl_ne hc in4_2 in4_1 (by decide)), (B1 (d2 h)).2 _ (pl_ne hc in4_2 in4_0 (by decide))]; exact hm (d1 (d2 h)) 2 in4_2)
  generalize f_wo1 c b 2 s2 = s3 at A3 B3 ⊢
  have d3 : ¬ s3.2.2.1 = 0 → ¬ s2.2.2.1 = 0 := fun h => xs_down (by rw [← A3]; exact h)
  obtain ⟨A4, B4⟩ := wo1_x (c := c) (p := 3) (b := b) (s := s3) (m0 := m0) (fun h => by rw [(B3 h).2 _ (pl_ne hc in4_3 in4_2 (by decide)), (B2 (d3 h)).2 _ (pl_ne hc in4_3 in4_1 (by decide)), (B1 (d2 (d3 h))).2 _ (pl_ne hc in4_3 in4_0 (by decide))]; exact hm (d1 (d2 (d3 h))) 3 in4_3)
  generalize f_wo1 c b 3 s3 = s4 at A4 B4 ⊢
  refine ⟨by rw [xs_app, xs_app, xs_app, ← A1, ← A2, ← A3, A4], fun h => ?_⟩
  have h3 : ¬ s3.2.2.1 = 0 := xs_down (by rw [← A4]; exact h)
  obtain ⟨-, q4⟩ := B4 h
  obtain ⟨-, q3⟩ := B3 h3
  obtain ⟨-, q2⟩ := B2 (d3 h3)
  obtain ⟨q0, q1⟩ := B1 (d2 (d3 h3))
  refine ⟨?_, fun j hj => ?_⟩
  · rw [q4 _ (pl_ne hc in4_0 in4_3 (by decide)), q3 _ (pl_ne hc in4_0 in4_2 (by decide)), q2 _ (pl_ne hc in4_0 in4_1 (by decide))]
    exact q0
  · rw [q4 j (hj 3 in4_3), q3 j (hj 2 in4_2), q2 j (hj 1 in4_1), q1 j (hj 0 in4_0)]
def fnd (c : Int32) (m0 : Nat → Int64) : Int64 := if gm_best c m0 = 0 then m0 (r_place 0 c).toNatClampNeg else gm_best c m0
theorem rest_x {c : Int32} {s : FS} {m0 : Nat → Int64} (hc : vp_in c 20) (hm : ¬ s.2.2.1 = 0 → ∀ p : Int32, vp_in p 4 → s.1 (r_place p c).toNatClampNeg = m0 (r_place p c).toNatClampNeg) :
    f_rest c s = xs (p_mend c m0) s ∧ (¬ (f_rest c s).2.2.1 = 0 → (f_rest c s).1 (r_place 0 c).toNatClampNeg = fnd c m0 ∧ ∀ j, (∀ p : Int32, vp_in p 4 → j ≠ (r_place p c).toNatClampNeg) → (f_rest c s).1 j = s.1 j) := by
  obtain ⟨A, B⟩ := restS_x hc hm
  have hok := (best_ok c m0).2
  unfold f_rest p_mend fnd
  rw [xs_app, ← A]
  rcases hT : f_restS c s with ⟨i, b, s4⟩
  rw [hT] at A B
  dsimp only at A B ⊢
  have d : ¬ s4.2.2.1 = 0 → ¬ s.2.2.1 = 0 := fun h => xs_down (by rw [← A]; exact h)
  by_cases h : s4.2.2.1 = 0
  · have e : (if f_valid b = 0 then s4 else f_wo c b s4) = s4 := by
      split
      · rfl
      · unfold f_wo
        have e1 : ∀ p, f_wo1 c b p s4 = s4 := by
          intro p
          unfold f_wo1
          split
          · rfl
          · rw [write_x, x1_off h]
        rw [e1, e1, e1, e1]
    rw [e, xs_off h]
    exact ⟨rfl, fun z => absurd h z⟩
  · obtain ⟨eb, em⟩ := B h
    subst eb
    by_cases h2 : gm_best c m0 = 0
    · rw [if_pos ((okb_0 hok).mpr h2), if_pos h2]
      have e : xs (p_mw c (gm_best c m0) m0) s4 = s4 := by
        unfold p_mw
        rw [if_pos h2, xs_nil]
      rw [e]
      exact ⟨rfl, fun _ => ⟨by rw [em]; exact hm (d h) 0 in4_0, fun j _ => by rw [em]⟩⟩
    · rw [if_neg (fun z => h2 ((okb_0 hok).mp z)), if_neg h2]
      obtain ⟨w1, w2⟩ := wo_x (c := c) (b := gm_best c m0) (s := s4) (m0 := m0) hc h2 (fun z p hp => by rw [em]; exact hm (d z) p hp)
      refine ⟨w1, fun z => ⟨(w2 z).1, fun j hj => ?_⟩⟩
      rw [(w2 z).2 j hj, em]
theorem rests_x (m0 : Nat → Int64) : ∀ (cs : List Int32) (s : FS), cs.Nodup → (∀ c ∈ cs, vp_in c 20) → (¬ s.2.2.1 = 0 → ∀ c ∈ cs, ∀ p : Int32, vp_in p 4 → s.1 (r_place p c).toNatClampNeg = m0 (r_place p c).toNatClampNeg) →
    cs.foldl (fun s c => f_rest c s) s = xs (cs.flatMap (fun c => p_mend c m0)) s ∧ (¬ (cs.foldl (fun s c => f_rest c s) s).2.2.1 = 0 → (∀ c ∈ cs, (cs.foldl (fun s c => f_rest c s) s).1 (r_place 0 c).toNatClampNeg = fnd c m0) ∧ ∀ j, (∀ c ∈ cs, ∀ p : Int32, vp_in p 4 → j ≠ (r_place p c).toNatClampNeg) → (cs.foldl (fun s c => f_rest c s) s).1 j = s.1 j) := by
  intro cs
  induction cs with
  | nil => exact fun s _ _ _ => ⟨rfl, fun _ => ⟨fun c h => (by cases h), fun _ _ => rfl⟩⟩
  | cons c cs ih =>
    intro s hnd hin hm
    obtain ⟨hnc, hnd2⟩ := List.nodup_cons.mp hnd
    have hc := hin c List.mem_cons_self
    obtain ⟨A, B⟩ := rest_x (c := c) (s := s) (m0 := m0) hc (fun h p hp => hm h c List.mem_cons_self p hp)
    have d : ¬ (f_rest c s).2.2.1 = 0 → ¬ s.2.2.1 = 0 := fun h => xs_down (by rw [← A]; exact h)
    rw [List.foldl_cons, List.flatMap_cons, xs_app, ← A]
    obtain ⟨i1, i2⟩ := ih (f_rest c s) hnd2 (fun c' h => hin c' (List.mem_cons_of_mem _ h)) (fun h c' hc' p hp => by
      have hne : c' ≠ c := fun z => hnc (z ▸ hc')
      rw [(B h).2 _ (fun q hq z => hne (place_inj hp (hin c' (List.mem_cons_of_mem _ hc')) hq hc z).2)]
      exact hm (d h) c' (List.mem_cons_of_mem _ hc') p hp)
    refine ⟨i1, fun h => ?_⟩
    obtain ⟨j1, j2⟩ := i2 h
    have h2 : ¬ (f_rest c s).2.2.1 = 0 := by
      rw [i1] at h
      exact xs_down h
    refine ⟨fun c' hc' => ?_, fun j hj => ?_⟩
    · rcases List.mem_cons.mp hc' with e | e
      · subst e
        rw [j2 _ (fun c2 h2 p hp z => hnc ((place_inj in4_0 hc hp (hin c2 (List.mem_cons_of_mem _ h2)) z).2 ▸ h2))]
        exact (B h2).1
      · exact j1 c' e
    · rw [j2 j (fun c2 h2 p hp => hj c2 (List.mem_cons_of_mem _ h2) p hp)]
      exact (B h2).2 j (fun p hp => hj c List.mem_cons_self p hp)
