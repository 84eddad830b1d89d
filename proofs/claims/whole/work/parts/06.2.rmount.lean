/-! THE REFERENCE'S TOTAL AND MOUNT AS FUNCTIONS -/
def r_tot1 (c : Int32) (x : Int64 × RS) : Int64 × RS := (x.1 + (if g_isop (x.2.1.1 c.toNatClampNeg) = 0 then 0 else (f_bal (x.2.1.1 c.toNatClampNeg)).toInt64), r_look c x.2)
def r_totL (mem : Nat → Int64) : RPl := f_accts.foldl (fun L c => L ++ p_look c (mem c.toNatClampNeg)) []
def r_tot (s : RS) : Int64 × RS := f_accts.foldl (fun x c => r_tot1 c x) (0, r_zero s)
def r_total (s : RS) : Int64 × RS := (if (r_wk (r_totL s.1.1) (r_tot s).2).1 = 0 then 4398046511104 else (r_tot s).1, (r_wk (r_totL s.1.1) (r_tot s).2).2)
theorem tot_plan {c : Int32} {u u' : Int64} {s s' : RS} {L : RPl} (h : r_tot1 c (u, s) = (u', s')) (hL : r_plan s L) (hn : L.length + 2 ≤ 256) (hc : vp_in c 20) : r_plan s' (L ++ p_look c (s.1.1 c.toNatClampNeg)) ∧ s'.1 = s.1 := by
  have h2 : r_look c s = s' := congrArg Prod.snd h
  subst h2
  exact ⟨plan_look c hL hn hc, rfl⟩
def g_best1 (b w : Int64) : Int64 := if g_valid w = 0 then b else if b = 0 then w else if g_num b < g_num w then w else if g_num w = g_num b then (if f_bal w ≤ f_bal b then b else w) else b
def g_best (c : Int32) (s : RS) : Int64 := g_best1 (g_best1 (g_best1 (g_best1 0 (s.1.1 (r_place 0 c).toNatClampNeg)) (s.1.1 (r_place 1 c).toNatClampNeg)) (s.1.1 (r_place 2 c).toNatClampNeg)) (s.1.1 (r_place 3 c).toNatClampNeg)
def g_bad1 (i : Int32) (w : Int64) : Int32 := i + (if g_valid w = 0 then 1 else 0)
def g_bad (c : Int32) (s : RS) : Int32 := g_bad1 (g_bad1 (g_bad1 (g_bad1 0 (s.1.1 (r_place 0 c).toNatClampNeg)) (s.1.1 (r_place 1 c).toNatClampNeg)) (s.1.1 (r_place 2 c).toNatClampNeg)) (s.1.1 (r_place 3 c).toNatClampNeg)
def r_rw (p c : Int32) (x : Int64) (s : RS) : RS := r_turn 1 p c (s.1.1 (r_place p c).toNatClampNeg) (r_turn 0 p c x s)
def r_m8 (c i : Int32) (s : RS) : RS := r_rw 3 c (i.toInt64 + 1) (r_rw 2 c 0 (r_rw 1 c 0 (r_rw 0 c 0 s)))
def r_bst (c : Int32) (b : Int64) (s : RS) : RS := (s.1, s.2.1, s.2.2.1, s.2.2.2.1, s.2.2.2.2.1, vp_updL s.2.2.2.2.2 c.toNatClampNeg b)
def r_mw1 (c p : Int32) (s : RS) : RS := if s.1.1 (r_place p c).toNatClampNeg = s.2.2.2.2.2 c.toNatClampNeg then s else r_turn 1 p c (s.2.2.2.2.2 c.toNatClampNeg) s
def r_m2 (c : Int32) (s : RS) : RS := r_bst c (g_best c s) (r_m8 c (g_bad c s) s)
def r_mend (c : Int32) (s : RS) : RS := if g_best c s = 0 then r_m2 c s else r_mw1 c 3 (r_mw1 c 2 (r_mw1 c 1 (r_mw1 c 0 (r_m2 c s))))
def r_tb (s : RS) (M : Nat) : Prop := ∃ n, n ≤ M ∧ s.2.2.2.2.1 = nI n
theorem tb_in {s : RS} {M : Nat} (h : r_tb s M) (hM : M < 256) : vp_in s.2.2.2.2.1 256 := by
  obtain ⟨n, hn, ht⟩ := h
  exact t_in ht (by omega)
theorem tb_turn {k p c : Int32} {w : Int64} {s : RS} {M : Nat} (h : r_tb s M) : r_tb (r_turn k p c w s) (M + 1) := by
  obtain ⟨n, hn, ht⟩ := h
  exact ⟨n + 1, by omega, turn_t ht⟩
theorem tb_bst {s : RS} {M : Nat} {f : Nat → Int64} (h : r_tb s M) : r_tb (s.1, s.2.1, s.2.2.1, s.2.2.2.1, s.2.2.2.2.1, f) M := h
theorem lt_irr (a : Int32) : (a < a) = False := eq_false Int32.lt_irrefl
theorem tb_mw1 {c p : Int32} {s : RS} {M : Nat} (h : r_tb s M) : r_tb (r_mw1 c p s) (M + 1) := by
  unfold r_mw1
  split
  · obtain ⟨n, hn, ht⟩ := h
    exact ⟨n, by omega, ht⟩
  · exact tb_turn h
theorem mw1_b {c p : Int32} {s : RS} : (r_mw1 c p s).2.2.2.2.2 = s.2.2.2.2.2 := by
  unfold r_mw1
  split <;> rfl
theorem mw1_1 {c p : Int32} {s : RS} : (r_mw1 c p s).1 = s.1 := by
  unfold r_mw1
  split <;> rfl
def r_settle (a b m : Int32) (s : RS) : RS := if s.2.2.2.2.2 a.toNatClampNeg = 0 then s else if g_num (s.2.2.2.2.2 a.toNatClampNeg) < f_bal (s.2.2.2.2.2 b.toNatClampNeg) then r_put a (g_word (f_bal (s.2.2.2.2.2 a.toNatClampNeg) + m) (f_bal (s.2.2.2.2.2 b.toNatClampNeg))) s else s
def g_slip1 (bs : Nat → Int64) (k i : Int32) : Int32 := bI (¬ i = 0 ∧ ¬ bs k.toNatClampNeg = 0 ∧ g_num (bs k.toNatClampNeg) = g_num (bs (19 : Int32).toNatClampNeg))
