/-! THE REFERENCE'S PUBLIC METHODS AS FUNCTIONS -/
def g_fresh (w : Int64) : Int32 := bI (¬ g_valid w = 0 ∧ g_num w = 0)
def r_end (ok : Int32) (L : RPl) (s : RS) : Int32 × RS := (if (r_wk L s).1 = 0 then -2 else ok, (r_wk L s).2)
def r_open (a b : Int32) (s : RS) : Int32 × RS := if f_acct a = 0 then (-1, s) else if g_fresh (s.1.1 a.toNatClampNeg) = 0 then r_end (-1) ([] ++ [(0, r_place 0 a, 0)] ++ [(1, r_place 0 a, s.1.1 a.toNatClampNeg)]) (r_turn 1 0 a (s.1.1 a.toNatClampNeg) (r_turn 0 0 a 0 (r_zero s)))
  else r_end 1 ([] ++ [(0, r_place 0 a, 0)] ++ p_put a (g_word b 1)) (r_put a (g_word b 1) (r_turn 0 0 a 0 (r_zero s)))
def r_balance (a : Int32) (s : RS) : Int64 × RS := if f_acct a = 0 then (8796093022208, s) else
  (if (r_wk ([] ++ p_look a (s.1.1 a.toNatClampNeg)) (r_look a (r_zero s))).1 = 0 then 4398046511104 else if g_valid (s.1.1 a.toNatClampNeg) = 0 then 2199023255552 else if g_num (s.1.1 a.toNatClampNeg) = 0 then 1099511627776 else (f_bal (s.1.1 a.toNatClampNeg)).toInt64, (r_wk ([] ++ p_look a (s.1.1 a.toNatClampNeg)) (r_look a (r_zero s))).2)
def r_postAcc (m : Int32) (w : Int64) : Int32 := bI (¬ g_isop w = 0 ∧ ¬ 16777215 ≤ g_num w ∧ ¬ g_isint ((f_bal w).toInt64 + m.toInt64) = 0)
def r_postB (a m : Int32) (w : Int64) (s : RS) : Int32 × RS := if r_postAcc m w = 0 then r_end (-1) ([] ++ [(0, r_place 0 a, 0)] ++ [(1, r_place 0 a, w)]) (r_turn 1 0 a w (r_turn 0 0 a 0 (r_zero s)))
  else r_end 1 ([] ++ [(0, r_place 0 a, 0)] ++ p_put a (g_word ((f_bal w).toInt64 + m.toInt64).toInt32 (g_num w + 1))) (r_put a (g_word ((f_bal w).toInt64 + m.toInt64).toInt32 (g_num w + 1)) (r_turn 0 0 a 0 (r_zero s)))
def r_post (a m : Int32) (s : RS) : Int32 × RS := if f_acct a = 0 then (-1, s) else r_postB a m (s.1.1 a.toNatClampNeg) s
def r_trAcc (m : Int32) (x y z : Int64) : Int32 := bI (¬ g_can x ((f_bal x).toInt64 - m.toInt64) = 0 ∧ ¬ g_can y ((f_bal y).toInt64 + m.toInt64) = 0 ∧ ¬ g_valid z = 0 ∧ ¬ 16777215 ≤ g_num z)
def r_trL (f t : Int32) (x y z : Int64) : RPl := [] ++ p_look f x ++ p_look t y ++ p_look 16 z
def r_trS (f t : Int32) (s : RS) : RS := r_look 16 (r_look t (r_look f (r_zero s)))
def r_doL (f t m : Int32) (x y z : Int64) (L : RPl) : RPl := L ++ p_put 16 (g_word m (g_num z + 1)) ++ p_put 17 (g_word (g_num x + 1) (g_num z + 1)) ++ p_put 18 (g_word (g_num y + 1) (g_num z + 1)) ++ p_put 19 (g_word (256 * f + t + 65536) (g_num z + 1)) ++ p_put f (g_word ((f_bal x).toInt64 - m.toInt64).toInt32 (g_num x + 1)) ++ p_put t (g_word ((f_bal y).toInt64 + m.toInt64).toInt32 (g_num y + 1)) ++ p_put 19 (g_word (256 * f + t + 131072) (g_num z + 1))
def r_doS (f t m : Int32) (x y z : Int64) (s : RS) : RS := r_put 19 (g_word (256 * f + t + 131072) (g_num z + 1)) (r_put t (g_word ((f_bal y).toInt64 + m.toInt64).toInt32 (g_num y + 1)) (r_put f (g_word ((f_bal x).toInt64 - m.toInt64).toInt32 (g_num x + 1)) (r_put 19 (g_word (256 * f + t + 65536) (g_num z + 1)) (r_put 18 (g_word (g_num y + 1) (g_num z + 1)) (r_put 17 (g_word (g_num x + 1) (g_num z + 1)) (r_put 16 (g_word m (g_num z + 1)) s))))))
def r_trB (f t m : Int32) (x y z : Int64) (s : RS) : Int32 × RS := if r_trAcc m x y z = 0 then r_end (-1) (r_trL f t x y z) (r_trS f t s) else r_end 1 (r_doL f t m x y z (r_trL f t x y z)) (r_doS f t m x y z (r_trS f t s))
def r_transfer (f t m : Int32) (s : RS) : Int32 × RS := if f_acct f = 0 then (-1, s) else if f_acct t = 0 then (-1, s) else if f = t then (-1, s) else if 0 ≤ m then r_trB f t m (s.1.1 f.toNatClampNeg) (s.1.1 t.toNatClampNeg) (s.1.1 (16 : Int32).toNatClampNeg) s else (-1, s)
def r_number (a : Int32) (s : RS) : Int32 × RS := if f_acct a = 0 then (-1, s) else
  (if (r_wk ([] ++ p_look a (s.1.1 a.toNatClampNeg)) (r_look a (r_zero s))).1 = 0 then -2 else if g_valid (s.1.1 a.toNatClampNeg) = 0 then -1 else g_num (s.1.1 a.toNatClampNeg), (r_wk ([] ++ p_look a (s.1.1 a.toNatClampNeg)) (r_look a (r_zero s))).2)
def r_failAfter (n : Int32) (s : RS) : Int32 × RS := if 0 ≤ n then (1, ((s.1.1, s.1.2.1, s.1.2.2.1, n, s.1.2.2.2.2.1, s.1.2.2.2.2.2), s.2)) else (0, s)
def r_fail (s : RS) : Int32 × RS := if s.1.2.2.1 = 0 then (0, s) else (1, ((s.1.1, s.1.2.1, 0, -1, s.1.2.2.2.2.1, s.1.2.2.2.2.2), s.2))
def r_on (s : RS) : Int32 := s.1.2.2.1
def r_lost (a : Int32) (s : RS) : Int32 := if a < 0 then 0 else if 20 ≤ a then 0 else s.1.2.1 a.toNatClampNeg
def r_word (p c : Int32) (s : RS) : Int64 := if p < 0 then 0 else if 4 ≤ p then 0 else if c < 0 then 0 else if 20 ≤ c then 0 else s.1.1 (r_place p c).toNatClampNeg
def r_done (w : Int32) (s : RS) : Int32 := if w = 0 then s.1.2.2.2.2.1 else if w = 1 then s.1.2.2.2.2.2 else -1
theorem turn_1 {k p c : Int32} {w : Int64} {s : RS} : (r_turn k p c w s).1 = s.1 := rfl
theorem look_1 {c : Int32} {s : RS} : (r_look c s).1 = s.1 := rfl
theorem put_1 {c : Int32} {w : Int64} {s : RS} : (r_put c w s).1 = s.1 := rfl
