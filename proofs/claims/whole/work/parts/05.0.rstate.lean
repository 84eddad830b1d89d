/-! THE REFERENCE'S STATE: the class's (words, losses, power, left, reads, writes), then kinds, places, puts, turns, bests -/
abbrev RS : Type := FS × (Nat → Int32) × (Nat → Int32) × (Nat → Int64) × Int32 × (Nat → Int64)
abbrev RWd (g0 g1 g2 g3 g4 g5 g6 : Nat) (cA cB : ClassId) (s : RS) : va_W := [(g0, .inr (1, [.ref g1, .ref g2, .int s.1.2.2.1, .int s.1.2.2.2.1, .int s.1.2.2.2.2.1, .int s.1.2.2.2.2.2, .ref g3, .ref g4, .ref g5, .int s.2.2.2.2.1, .ref g6])), (g1, .inl (cA, 80, .inr (.inl s.1.1))), (g2, .inl (cB, 20, .inl s.1.2.1)), (g3, .inl (cB, 256, .inl s.2.1)), (g4, .inl (cB, 256, .inl s.2.2.1)), (g5, .inl (cA, 256, .inr (.inl s.2.2.2.1))), (g6, .inl (cA, 20, .inr (.inl s.2.2.2.2.2)))]
def g_b (v : Int64) (k : Int32) : Int64 := (v >>> ((8 * k).toInt64 &&& 63)) &&& 255
def g_sum (v : Int64) : Int64 := 0 + g_b v 1 + g_b v 2 + g_b v 3 + g_b v 4 + g_b v 5 + g_b v 6 + g_b v 7
def g_seal (v : Int64) : Int64 := (g_sum v - g_sum v / 251 * 251) + 1
def g_valid (v : Int64) : Int32 := bI (v &&& 255 = g_seal v)
def g_num (v : Int64) : Int32 := ((v >>> ((8 : Int32).toInt64 &&& 63)) &&& 16777215).toInt32
def g_word (b n : Int32) : Int64 := f_upper b n ||| g_seal (f_upper b n)
def g_isop (v : Int64) : Int32 := bI (¬ g_valid v = 0 ∧ ¬ g_num v ≤ 0)
def g_isint (v : Int64) : Int32 := bI (¬ v < -2147483648 ∧ ¬ 2147483647 < v)
def g_can (v t : Int64) : Int32 := bI (¬ g_isop v = 0 ∧ ¬ 16777215 ≤ g_num v ∧ ¬ t < 0 ∧ ¬ g_isint t = 0)
def r_place (p c : Int32) : Int32 := 20 * p + c
def r_turn (k p c : Int32) (w : Int64) (s : RS) : RS := (s.1, upd s.2.1 s.2.2.2.2.1.toNatClampNeg k, upd s.2.2.1 s.2.2.2.2.1.toNatClampNeg (r_place p c), vp_updL s.2.2.2.1 s.2.2.2.2.1.toNatClampNeg w, s.2.2.2.2.1 + 1, s.2.2.2.2.2)
def r_look (c : Int32) (s : RS) : RS := r_turn 1 0 c (s.1.1 c.toNatClampNeg) (r_turn 0 0 c 0 s)
def r_put (c : Int32) (w : Int64) (s : RS) : RS := r_turn 1 3 c w (r_turn 1 2 c w (r_turn 1 1 c w (r_turn 1 0 c w s)))
def r_zero (s : RS) : RS := (s.1, s.2.1, s.2.2.1, s.2.2.2.1, 0, s.2.2.2.2.2)
/-- a plan: kind, place, word -/
abbrev RPl : Type := List (Int32 × Int32 × Int64)
def r_ex1 (q : Int32 × Int32 × Int64) (s : FS) : FS :=
  if q.1 = 0 then (vp_updL s.1 q.2.1.toNatClampNeg 0, if q.2.2 ≤ 0 then s.2.1 else upd s.2.1 (q.2.1 - q.2.1 / 20 * 20).toNatClampNeg (q.2.2.toInt32 - 1), s.2.2.1, s.2.2.2.1, s.2.2.2.2.1 + 1, s.2.2.2.2.2)
  else (vp_updL s.1 q.2.1.toNatClampNeg q.2.2, s.2.1, s.2.2.1, s.2.2.2.1, s.2.2.2.2.1, s.2.2.2.2.2 + 1)
def r_run : RPl → FS → Int32 × FS
  | [], s => (1, s)
  | q :: qs, s => if (f_take s).1 = 0 then (0, (f_take s).2) else r_run qs (r_ex1 q (f_take s).2)
def r_wk (L : RPl) (s : RS) : Int32 × RS := ((r_run L s.1).1, ((r_run L s.1).2, s.2))
def r_plan (s : RS) (L : RPl) : Prop := s.2.2.2.2.1 = nI L.length ∧ L.length ≤ 256 ∧ ∀ (i : Nat) (q : Int32 × Int32 × Int64), L[i]? = some q → s.2.1 i = q.1 ∧ s.2.2.1 i = q.2.1 ∧ s.2.2.2.1 i = q.2.2 ∧ vp_in q.2.1 80
theorem place_in {p c : Int32} (hp : vp_in p 4) (hc : vp_in c 20) : vp_in (r_place p c) 80 := by
  obtain ⟨i, hi, rfl⟩ := vp_in_of hp (by decide)
  obtain ⟨j, hj, rfl⟩ := vp_in_of hc (by decide)
  have h : r_place (nI i) (nI j) = nI (20 * i + j) := by
    unfold r_place
    rw [show (20 : Int32) = nI 20 from rfl, pk_mul, nI_add]
  rw [h]
  exact vp_in_nI (by omega) (by decide)
theorem turn_t {k p c : Int32} {w : Int64} {s : RS} {n : Nat} (h : s.2.2.2.2.1 = nI n) : (r_turn k p c w s).2.2.2.2.1 = nI (n + 1) := by
  show s.2.2.2.2.1 + 1 = nI (n + 1)
  rw [h, nI_1]
theorem look_t {c : Int32} {s : RS} {n : Nat} (h : s.2.2.2.2.1 = nI n) : (r_look c s).2.2.2.2.1 = nI (n + 2) := turn_t (turn_t h)
theorem put_t {c : Int32} {w : Int64} {s : RS} {n : Nat} (h : s.2.2.2.2.1 = nI n) : (r_put c w s).2.2.2.2.1 = nI (n + 4) := turn_t (turn_t (turn_t (turn_t h)))
theorem t_in {s : RS} {n : Nat} (h : s.2.2.2.2.1 = nI n) (hn : n < 256) : vp_in s.2.2.2.2.1 256 := by
  rw [h]
  exact vp_in_nI hn (by decide)
theorem plan_zero (s : RS) : r_plan (r_zero s) [] := ⟨nI_0.symm, by decide, fun i q h => by simp at h⟩
theorem plan_turn {s : RS} {L : RPl} (k p c : Int32) (w : Int64) (h : r_plan s L) (hn : L.length + 1 ≤ 256) (hp : vp_in p 4) (hc : vp_in c 20) : r_plan (r_turn k p c w s) (L ++ [(k, r_place p c, w)]) := by
  obtain ⟨h1, h2, h3⟩ := h
  have hcl : s.2.2.2.2.1.toNatClampNeg = L.length := by
    rw [h1]
    exact nI_clamp (by omega)
  refine ⟨by rw [turn_t h1]; simp, by simp; omega, fun i q hq => ?_⟩
  by_cases hi : i < L.length
  · rw [List.getElem?_append_left hi] at hq
    obtain ⟨a1, a2, a3, a4⟩ := h3 i q hq
    refine ⟨?_, ?_, ?_, a4⟩
    · show upd s.2.1 _ _ i = _
      rw [hcl, pk_un (by omega)]
      exact a1
    · show upd s.2.2.1 _ _ i = _
      rw [hcl, pk_un (by omega)]
      exact a2
    · show vp_updL s.2.2.2.1 _ _ i = _
      rw [hcl, pk_uLn (by omega)]
      exact a3
  · rw [List.getElem?_append_right (by omega)] at hq
    have hz : i - L.length < 1 := (List.getElem?_eq_some_iff.mp hq).1
    have hi2 : i = L.length := by omega
    subst hi2
    rw [Nat.sub_self] at hq
    cases hq
    refine ⟨?_, ?_, ?_, place_in hp hc⟩
    · show upd s.2.1 _ _ L.length = _
      rw [hcl, pk_us]
    · show upd s.2.2.1 _ _ L.length = _
      rw [hcl, pk_us]
    · show vp_updL s.2.2.2.1 _ _ L.length = _
      rw [hcl, pk_uLs]
def p_look (c : Int32) (w : Int64) : RPl := [(0, r_place 0 c, 0), (1, r_place 0 c, w)]
def p_put (c : Int32) (w : Int64) : RPl := [(1, r_place 0 c, w), (1, r_place 1 c, w), (1, r_place 2 c, w), (1, r_place 3 c, w)]
theorem pl_look {c : Int32} {w : Int64} : (p_look c w).length = 2 := rfl
theorem pl_put {c : Int32} {w : Int64} : (p_put c w).length = 4 := rfl
theorem plan_look {s : RS} {L : RPl} (c : Int32) (h : r_plan s L) (hn : L.length + 2 ≤ 256) (hc : vp_in c 20) : r_plan (r_look c s) (L ++ p_look c (s.1.1 c.toNatClampNeg)) := by
  have h1 := plan_turn 0 0 c 0 h (by omega) in4_0 hc
  have h2 := plan_turn 1 0 c (s.1.1 c.toNatClampNeg) h1 (by simp; omega) in4_0 hc
  rw [List.append_assoc] at h2
  exact h2
theorem plan_put {s : RS} {L : RPl} (c : Int32) (w : Int64) (h : r_plan s L) (hn : L.length + 4 ≤ 256) (hc : vp_in c 20) : r_plan (r_put c w s) (L ++ p_put c w) := by
  have h1 := plan_turn 1 0 c w h (by omega) in4_0 hc
  have h2 := plan_turn 1 1 c w h1 (by simp; omega) in4_1 hc
  have h3 := plan_turn 1 2 c w h2 (by simp; omega) in4_2 hc
  have h4 := plan_turn 1 3 c w h3 (by simp; omega) in4_3 hc
  rw [List.append_assoc, List.append_assoc, List.append_assoc] at h4
  exact h4
