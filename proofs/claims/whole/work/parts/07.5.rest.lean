/-! A CELL'S RESTORING IS THE RUN OF ITS PLAN -/
theorem place_nat {p c : Int32} (hp : vp_in p 4) (hc : vp_in c 20) : ∃ i j : Nat, i < 4 ∧ j < 20 ∧ p = nI i ∧ c = nI j ∧ r_place p c = nI (20 * i + j) := by
  obtain ⟨i, hi, e1⟩ := vp_in_of hp (by decide)
  obtain ⟨j, hj, e2⟩ := vp_in_of hc (by decide)
  refine ⟨i, j, hi, hj, e1, e2, ?_⟩
  rw [e1, e2]
  unfold r_place
  rw [show (20 : Int32) = nI 20 from rfl, pk_mul, nI_add]
theorem place_inj {p c p' c' : Int32} (hp : vp_in p 4) (hc : vp_in c 20) (hp' : vp_in p' 4) (hc' : vp_in c' 20) (h : (r_place p c).toNatClampNeg = (r_place p' c').toNatClampNeg) : p = p' ∧ c = c' := by
  obtain ⟨i, j, hi, hj, e1, e2, e3⟩ := place_nat hp hc
  obtain ⟨i', j', hi', hj', e1', e2', e3'⟩ := place_nat hp' hc'
  rw [e3, e3', nI_clamp (by omega), nI_clamp (by omega)] at h
  have h1 : i = i' := by omega
  have h2 : j = j' := by omega
  subst h1
  subst h2
  exact ⟨e1.trans e1'.symm, e2.trans e2'.symm⟩
theorem place_mod {p c : Int32} (hp : vp_in p 4) (hc : vp_in c 20) : r_place p c - r_place p c / 20 * 20 = c := by
  obtain ⟨i, j, hi, hj, e1, e2, e3⟩ := place_nat hp hc
  rw [e3, show (20 : Int32) = nI 20 from rfl, pk_rem (by omega) (by decide) (by decide), e2]
  congr 1
  omega
theorem rest1_s (c p i : Int32) (b : Int64) (s : FS) : (f_rest1 c p (i, b, s)).2.2 = f_write p c (f_read p c s).1 (if p = 3 ∧ ¬ (f_read p c s).2.2.2.1 = 0 then ((f_read p c s).2.1, upd (f_read p c s).2.2.1 c.toNatClampNeg (if f_valid (f_read p c s).1 = 0 then i + 1 else i), (f_read p c s).2.2.2) else (f_read p c s).2) := by dsimp only [f_rest1]
theorem rest1_i (c p i : Int32) (b : Int64) (s : FS) : (f_rest1 c p (i, b, s)).1 = if f_valid (f_read p c s).1 = 0 then i + 1 else i := by dsimp only [f_rest1]
theorem rest1_b (c p i : Int32) (b : Int64) (s : FS) : (f_rest1 c p (i, b, s)).2.1 = f_better b (f_read p c s).1 := by dsimp only [f_rest1]
theorem rest1_off {c p i : Int32} {b : Int64} {s : FS} (h : s.2.2.1 = 0) : (f_rest1 c p (i, b, s)).2.2 = s := by
  have hr : (f_read p c s).2 = s := by rw [read_x, x1_off h]
  rw [rest1_s, hr, if_neg (fun z => z.2 h), write_x, x1_off h]
theorem rw_run (p c : Int32) (x : Int64) (m0 : Nat → Int64) (s : FS) : xs (p_rw p c x m0) s = x1 (1, r_place p c, m0 (r_place p c).toNatClampNeg) (x1 (0, r_place p c, x) s) := rfl
set_option maxHeartbeats 200000 in
theorem rest1_x {c p i : Int32} {b : Int64} {s : FS} {m0 : Nat → Int64} (hp : ¬ p = 3) (hm : ¬ s.2.2.1 = 0 → s.1 (r_place p c).toNatClampNeg = m0 (r_place p c).toNatClampNeg) :
    (f_rest1 c p (i, b, s)).2.2 = xs (p_rw p c 0 m0) s ∧ (¬ (f_rest1 c p (i, b, s)).2.2.2.2.1 = 0 → (f_rest1 c p (i, b, s)).1 = (if f_valid (m0 (r_place p c).toNatClampNeg) = 0 then i + 1 else i) ∧ (f_rest1 c p (i, b, s)).2.1 = f_better b (m0 (r_place p c).toNatClampNeg) ∧ (f_rest1 c p (i, b, s)).2.2.1 = s.1) := by
  have hx := read_x p c s
  have e0 : (f_rest1 c p (i, b, s)).2.2 = f_write p c (f_read p c s).1 (f_read p c s).2 := by
    rw [rest1_s, if_neg (fun z => hp z.1)]
  have e1 := rest1_i c p i b s
  have e2 := rest1_b c p i b s
  by_cases h : (f_read p c s).2.2.2.1 = 0
  · have e3 : (f_rest1 c p (i, b, s)).2.2 = (f_read p c s).2 := by rw [e0, write_x, x1_off h]
    rw [e3]
    refine ⟨?_, fun z => absurd h z⟩
    rw [rw_run, ← hx, x1_off h]
  · have hs : ¬ s.2.2.1 = 0 := by
      rw [hx] at h
      exact x1_down h
    have hv : (f_read p c s).1 = m0 (r_place p c).toNatClampNeg := by rw [read_v h, hm hs]
    have e4 : (f_rest1 c p (i, b, s)).2.2 = xs (p_rw p c 0 m0) s := by rw [e0, hv, write_x, rw_run, hx]
    refine ⟨e4, fun z => ⟨by rw [e1, hv], by rw [e2, hv], ?_⟩⟩
    rw [e4] at z ⊢
    unfold p_rw at z ⊢
    rw [← hm hs] at z ⊢
    exact rw_mem z
theorem small_x {i : Nat} (h : i < 100) : ¬ ((nI i).toInt64 + 1 ≤ 0) ∧ ((nI i).toInt64 + 1).toInt32 - 1 = nI i := by
  rw [nI_l (by omega), lN_1, lN_i, show (1 : Int32) = nI 1 from rfl, pk_sub (by omega), show (0 : Int64) = lN 0 from rfl, lN_le (by omega) (by decide)]
  exact ⟨by omega, rfl⟩
set_option maxHeartbeats 200000 in
theorem rest3_x {c i : Int32} {b : Int64} {s : FS} {m0 : Nat → Int64} {n : Nat} (hc : vp_in c 20) (hm : ¬ s.2.2.1 = 0 → s.1 (r_place 3 c).toNatClampNeg = m0 (r_place 3 c).toNatClampNeg) (hn : n < 100)
    (hi : ¬ s.2.2.1 = 0 → (if f_valid (m0 (r_place 3 c).toNatClampNeg) = 0 then i + 1 else i) = nI n) :
    (f_rest1 c 3 (i, b, s)).2.2 = xs (p_rw 3 c ((nI n).toInt64 + 1) m0) s ∧ (¬ (f_rest1 c 3 (i, b, s)).2.2.2.2.1 = 0 → (f_rest1 c 3 (i, b, s)).2.1 = f_better b (m0 (r_place 3 c).toNatClampNeg) ∧ (f_rest1 c 3 (i, b, s)).2.2.1 = s.1) := by
  have hx := read_x 3 c s
  have e2 := rest1_b c 3 i b s
  by_cases h : (f_read 3 c s).2.2.2.1 = 0
  · have e3 : (f_rest1 c 3 (i, b, s)).2.2 = (f_read 3 c s).2 := by
      rw [rest1_s, if_neg (fun z => z.2 h), write_x, x1_off h]
    rw [e3]
    refine ⟨?_, fun z => absurd h z⟩
    rw [rw_run]
    have e5 : x1 (0, r_place 3 c, (nI n).toInt64 + 1) s = (f_read 3 c s).2 := by
      rw [hx]
      rw [hx] at h
      rcases take_cases s with ⟨h1, h2⟩ | ⟨h1, h2, h3⟩
      · unfold x1
        rw [if_pos h1, if_pos h1]
      · exfalso
        unfold x1 at h
        rw [if_neg (by rw [h1]; exact i10), ex1_on, h2] at h
        exact h3 h
    rw [e5, x1_off h]
  · have hs : ¬ s.2.2.1 = 0 := by
      rw [hx] at h
      exact x1_down h
    have hv : (f_read 3 c s).1 = m0 (r_place 3 c).toNatClampNeg := by rw [read_v h, hm hs]
    have e4 : (f_rest1 c 3 (i, b, s)).2.2 = xs (p_rw 3 c ((nI n).toInt64 + 1) m0) s := by
      have h9 := h
      rw [hx] at h9
      obtain ⟨k1, k2⟩ := x1_on h9
      rw [rest1_s, if_pos ⟨rfl, h⟩, hv, hi hs, write_x, rw_run, hx, k1]
      have e6 : x1 (0, r_place 3 c, (nI n).toInt64 + 1) s = r_ex1 (0, r_place 3 c, (nI n).toInt64 + 1) (f_take s).2 := by
        unfold x1
        rw [if_neg (by rw [k2]; exact i10)]
      rw [e6]
      congr 1
      unfold r_ex1
      obtain ⟨y1, y2⟩ := small_x hn
      simp only [↓reduceIte, y1, y2, place_mod in4_3 hc, Int64.le_refl]
    refine ⟨e4, fun z => ⟨by rw [e2, hv], ?_⟩⟩
    rw [e4] at z ⊢
    unfold p_rw at z ⊢
    rw [← hm hs] at z ⊢
    exact rw_mem z
