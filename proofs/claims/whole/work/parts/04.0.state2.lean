/-! THE CLASS'S PUBLIC METHODS AS FUNCTIONS -/
def f_an2 (x : Int32) (s : FS) : Int32 × FS := (f_ans x s, s)
def f_open (a b : Int32) (s : FS) : Int32 × FS := if f_acct a = 0 then (-1, s) else f_an2 (f_unop (f_read 0 a s).1) (if f_unop (f_read 0 a s).1 = 0 then f_write 0 a (f_read 0 a s).1 (f_read 0 a s).2 else f_put a (f_make b 1) (f_read 0 a s).2)
def f_balance (a : Int32) (s : FS) : Int64 × FS := if f_acct a = 0 then (8796093022208, s) else (if (f_look a s).2.2.2.1 = 0 then 4398046511104 else if f_valid (f_look a s).1 = 0 then 2199023255552 else if f_unop (f_look a s).1 = 0 then (f_bal (f_look a s).1).toInt64 else 1099511627776, (f_look a s).2)
def f_postAcc (m : Int32) (w : Int64) : Int32 := bI (¬ f_isop w = 0 ∧ ¬ f_hasn w = 0 ∧ ¬ f_isint ((f_bal w).toInt64 + m.toInt64) = 0)
def f_postB (a m : Int32) (w : Int64) (s : FS) : Int32 × FS := f_an2 (f_postAcc m w) (if f_postAcc m w = 0 then f_write 0 a w s else f_put a (f_make ((f_bal w).toInt64 + m.toInt64).toInt32 (f_num w + 1)) s)
def f_post (a m : Int32) (s : FS) : Int32 × FS := if f_acct a = 0 then (-1, s) else f_postB a m (f_read 0 a s).1 (f_read 0 a s).2
def f_trAcc (m : Int32) (x y z : Int64) : Int32 := bI (¬ f_can x (-m.toInt64) = 0 ∧ ¬ f_can y m.toInt64 = 0 ∧ ¬ f_valid z = 0 ∧ ¬ f_hasn z = 0)
def f_doTr (f t m : Int32) (x y z : Int64) (s : FS) : FS :=
  f_put 19 (f_make (f * 256 + t + 131072) (f_num z + 1)) (f_put t (f_next y m) (f_put f (f_next x (-m)) (f_put 19 (f_make (f * 256 + t + 65536) (f_num z + 1)) (f_put 18 (f_make (f_num (f_next y m)) (f_num z + 1)) (f_put 17 (f_make (f_num (f_next x (-m))) (f_num z + 1)) (f_put 16 (f_make m (f_num z + 1)) s))))))
def f_trB (f t m : Int32) (x y z : Int64) (s : FS) : Int32 × FS := f_an2 (f_trAcc m x y z) (if f_trAcc m x y z = 0 then s else f_doTr f t m x y z s)
def f_transfer (f t m : Int32) (s : FS) : Int32 × FS := if f_acct f = 0 then (-1, s) else if f_acct t = 0 then (-1, s) else if f = t then (-1, s) else if 0 ≤ m then
  f_trB f t m (f_look f s).1 (f_look t (f_look f s).2).1 (f_look 16 (f_look t (f_look f s).2).2).1 (f_look 16 (f_look t (f_look f s).2).2).2 else (-1, s)
def f_number (a : Int32) (s : FS) : Int32 × FS := if f_acct a = 0 then (-1, s) else (if (f_look a s).2.2.2.1 = 0 then -2 else if f_valid (f_look a s).1 = 0 then -1 else f_num (f_look a s).1, (f_look a s).2)
def f_failAfter (n : Int32) (s : FS) : Int32 × FS := if 0 ≤ n then (1, (s.1, s.2.1, s.2.2.1, n, s.2.2.2.2.1, s.2.2.2.2.2)) else (0, s)
def f_fail (s : FS) : Int32 × FS := if s.2.2.1 = 0 then (0, s) else (1, f_lose s)
def f_on (s : FS) : Int32 := s.2.2.1
def f_lost (a : Int32) (s : FS) : Int32 := if f_cell a = 0 then 0 else s.2.1 a.toNatClampNeg
def f_word (p c : Int32) (s : FS) : Int64 := if p < 0 then 0 else if 4 ≤ p then 0 else if f_cell c = 0 then 0 else s.1 (f_slot p c).toNatClampNeg
def f_done (w : Int32) (s : FS) : Int32 := if w = 0 then s.2.2.2.2.1 else if w = 1 then s.2.2.2.2.2 else -1
theorem on_nar {x : Int32} (h : x = 0 ∨ x = 1) : narrow .boolean (.int x) = .int x := by
  rcases h with h | h <;> subst h <;> rfl
