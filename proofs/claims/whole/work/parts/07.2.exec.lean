/-! A PLAN'S RUN, turn by turn; the class's turns are such -/
def x1 (q : Int32 × Int32 × Int64) (s : FS) : FS := if (f_take s).1 = 0 then (f_take s).2 else r_ex1 q (f_take s).2
def xs (L : RPl) (s : FS) : FS := L.foldl (fun s q => x1 q s) s
theorem xs_nil (s : FS) : xs [] s = s := rfl
theorem xs_cons (q : Int32 × Int32 × Int64) (L : RPl) (s : FS) : xs (q :: L) s = xs L (x1 q s) := rfl
theorem xs_app (L M : RPl) (s : FS) : xs (L ++ M) s = xs M (xs L s) := List.foldl_append
theorem take_off {s : FS} (h : s.2.2.1 = 0) : f_take s = (0, s) := by
  unfold f_take
  rw [if_pos h]
theorem x1_off {s : FS} (h : s.2.2.1 = 0) (q : Int32 × Int32 × Int64) : x1 q s = s := by
  unfold x1
  rw [take_off h]
  exact if_pos rfl
theorem xs_off {s : FS} (h : s.2.2.1 = 0) (L : RPl) : xs L s = s := by
  induction L with
  | nil => rfl
  | cons q L ih => rw [xs_cons, x1_off h]; exact ih
/-- a turn is taken: power stays, or it isn't: power is off -/
theorem take_cases (s : FS) : ((f_take s).1 = 0 ∧ (f_take s).2.2.2.1 = 0) ∨ ((f_take s).1 = 1 ∧ (f_take s).2.2.2.1 = s.2.2.1 ∧ ¬ s.2.2.1 = 0) := by
  unfold f_take
  split
  · exact Or.inl ⟨rfl, by assumption⟩
  · split
    · exact Or.inl ⟨rfl, rfl⟩
    · split
      · exact Or.inr ⟨rfl, rfl, by assumption⟩
      · exact Or.inr ⟨rfl, rfl, by assumption⟩
theorem take_mem (s : FS) : (f_take s).2.1 = s.1 := by
  unfold f_take
  split
  · rfl
  · split
    · rfl
    · split <;> rfl
theorem take_inv (s : FS) : (f_take s).2.2.1 = s.2.1 := by
  unfold f_take
  split
  · rfl
  · split
    · rfl
    · split <;> rfl
theorem ex1_on (q : Int32 × Int32 × Int64) (s : FS) : (r_ex1 q s).2.2.1 = s.2.2.1 := by
  unfold r_ex1
  split <;> rfl
theorem x1_on {q : Int32 × Int32 × Int64} {s : FS} (h : ¬ (x1 q s).2.2.1 = 0) : x1 q s = r_ex1 q (f_take s).2 ∧ (f_take s).1 = 1 := by
  unfold x1 at h ⊢
  rcases take_cases s with ⟨h1, h2⟩ | ⟨h1, h2, h3⟩
  · rw [if_pos h1] at h
    exact absurd h2 h
  · rw [if_neg (by rw [h1]; exact i10)]
    exact ⟨rfl, h1⟩
theorem x1_down {q : Int32 × Int32 × Int64} {s : FS} (h : ¬ (x1 q s).2.2.1 = 0) : ¬ s.2.2.1 = 0 := fun z => h (by rw [x1_off z]; exact z)
theorem xs_down {L : RPl} {s : FS} (h : ¬ (xs L s).2.2.1 = 0) : ¬ s.2.2.1 = 0 := fun z => h (by rw [xs_off z]; exact z)
theorem run_xs (L : RPl) : ∀ s : FS, (r_run L s).2 = xs L s ∧ ((r_run L s).1 = 0 ↔ ((xs L s).2.2.1 = 0 ∧ L ≠ [])) := by
  induction L with
  | nil => exact fun s => ⟨rfl, fun h => absurd h i10, fun h => absurd rfl h.2⟩
  | cons q L ih =>
    intro s
    rw [xs_cons]
    rcases take_cases s with ⟨h1, h2⟩ | ⟨h1, h2, h3⟩
    · have e1 : r_run (q :: L) s = (0, (f_take s).2) := by
        unfold r_run
        exact if_pos h1
      have e2 : x1 q s = (f_take s).2 := by
        unfold x1
        exact if_pos h1
      rw [e1, e2, xs_off h2]
      exact ⟨rfl, fun _ => ⟨h2, List.cons_ne_nil _ _⟩, fun _ => rfl⟩
    · have h0 : ¬ (f_take s).1 = 0 := by rw [h1]; exact i10
      have e1 : r_run (q :: L) s = r_run L (r_ex1 q (f_take s).2) := by
        show (if (f_take s).1 = 0 then _ else _) = _
        exact if_neg h0
      have e2 : x1 q s = r_ex1 q (f_take s).2 := by
        unfold x1
        exact if_neg h0
      rw [e1, e2]
      obtain ⟨i1, i2⟩ := ih (r_ex1 q (f_take s).2)
      refine ⟨i1, ?_⟩
      rw [i2]
      constructor
      · exact fun h => ⟨h.1, List.cons_ne_nil _ _⟩
      · intro h
        refine ⟨h.1, fun z => ?_⟩
        subst z
        have h5 := h.1
        rw [xs_nil, ex1_on, h2] at h5
        exact h3 h5
theorem end_eq {L : RPl} (hL : L ≠ []) (ok : Int32) (s : RS) : r_end ok L s = (if (xs L s.1).2.2.1 = 0 then -2 else ok, (xs L s.1, s.2)) := by
  obtain ⟨h1, h2⟩ := run_xs L s.1
  unfold r_end r_wk
  rw [h1]
  by_cases h : (xs L s.1).2.2.1 = 0
  · rw [if_pos h, if_pos (h2.mpr ⟨h, hL⟩)]
  · rw [if_neg h, if_neg (fun z => h (h2.mp z).1)]
theorem wk0_iff {L : RPl} (hL : L ≠ []) (s : RS) : (r_wk L s).1 = 0 ↔ (xs L s.1).2.2.1 = 0 := ⟨fun h => ((run_xs L s.1).2.mp h).1, fun h => (run_xs L s.1).2.mpr ⟨h, hL⟩⟩
theorem wk_2 (L : RPl) (s : RS) : (r_wk L s).2 = (xs L s.1, s.2) := by
  unfold r_wk
  rw [(run_xs L s.1).1]
/-! the class's turns -/
theorem slot_place (p c : Int32) : f_slot p c = r_place p c := by
  unfold f_slot r_place
  rw [Int32.mul_comm]
theorem place_0 (c : Int32) : r_place 0 c = c := by
  unfold r_place
  rw [show (20 : Int32) * 0 = 0 from by decide, Int32.zero_add]
theorem write_x (p c : Int32) (v : Int64) (s : FS) : f_write p c v s = x1 (1, r_place p c, v) s := by
  unfold f_write x1 f_writeT r_ex1
  rw [slot_place]
  simp only [i10, ↓reduceIte]
theorem read_x (p c : Int32) (s : FS) : (f_read p c s).2 = x1 (0, r_place p c, 0) s := by
  unfold f_read x1 f_readT r_ex1
  rw [slot_place]
  split
  · rfl
  · simp only [↓reduceIte, Int64.le_refl]
theorem read_v {p c : Int32} {s : FS} (h : ¬ (f_read p c s).2.2.2.1 = 0) : (f_read p c s).1 = s.1 (r_place p c).toNatClampNeg := by
  unfold f_read at h ⊢
  rcases take_cases s with ⟨h1, h2⟩ | ⟨h1, h2, h3⟩
  · rw [if_pos h1] at h
    exact absurd h2 h
  · rw [if_neg (by rw [h1]; exact i10)]
    unfold f_readT
    rw [slot_place, take_mem]
theorem put_x (c : Int32) (v : Int64) (s : FS) : f_put c v s = xs (p_put c v) s := by
  unfold f_put p_put
  rw [write_x, write_x, write_x, write_x, xs_cons, xs_cons, xs_cons, xs_cons, xs_nil]
theorem upd_back (f : Nat → Int64) (k : Nat) (x : Int64) : vp_updL (vp_updL f k x) k (f k) = f := by
  funext j
  unfold vp_updL
  by_cases h : j = k
  · simp [h]
  · simp [h]
/-- a read of a plane's cell and the write of what was there: nothing changes but the counts -/
theorem rw_mem {p c : Int32} {x : Int64} {s : FS} (h : ¬ (xs [(0, r_place p c, x), (1, r_place p c, s.1 (r_place p c).toNatClampNeg)] s).2.2.1 = 0) : (xs [(0, r_place p c, x), (1, r_place p c, s.1 (r_place p c).toNatClampNeg)] s).1 = s.1 := by
  rw [xs_cons, xs_cons, xs_nil] at h ⊢
  have h1 := x1_on h
  have h2 := x1_on (x1_down h)
  rw [h1.1]
  unfold r_ex1
  simp only [i10, ↓reduceIte]
  rw [take_mem, h2.1]
  unfold r_ex1
  simp only [↓reduceIte]
  rw [take_mem]
  exact upd_back _ _ _
theorem look_x (c : Int32) (s : FS) : (f_look c s).2 = xs (p_look c (s.1 c.toNatClampNeg)) s := by
  unfold f_look p_look
  rw [write_x, xs_cons, xs_cons, xs_nil, read_x]
  by_cases h : (f_read 0 c s).2.2.2.1 = 0
  · have h2 := h
    rw [read_x] at h2
    rw [x1_off h2, x1_off h2]
  · rw [read_v h, place_0]
theorem look_v {c : Int32} {s : FS} (h : ¬ (f_look c s).2.2.2.1 = 0) : (f_look c s).1 = s.1 c.toNatClampNeg ∧ (f_look c s).2.1 = s.1 := by
  have hx := look_x c s
  have h0 : ¬ (f_read 0 c s).2.2.2.1 = 0 := by
    intro z
    apply h
    rw [hx]
    unfold p_look
    rw [xs_cons]
    rw [read_x] at z
    rw [xs_off z]
    exact z
  refine ⟨?_, ?_⟩
  · show (f_read 0 c s).1 = _
    rw [read_v h0, place_0]
  · rw [hx] at h ⊢
    unfold p_look at h ⊢
    have e : s.1 c.toNatClampNeg = s.1 (r_place 0 c).toNatClampNeg := by rw [place_0]
    rw [e] at h ⊢
    exact rw_mem h
