/-! MOUNT AND TOTAL AS FUNCTIONS -/
/-- restoreCell: what one plane does to (invalid, best, state) -/
def f_rest1 (c p : Int32) (x : Int32 × Int64 × FS) : Int32 × Int64 × FS :=
  (if f_valid (f_read p c x.2.2).1 = 0 then x.1 + 1 else x.1, f_better x.2.1 (f_read p c x.2.2).1,
    f_write p c (f_read p c x.2.2).1 (if p = 3 ∧ ¬ (f_read p c x.2.2).2.2.2.1 = 0 then ((f_read p c x.2.2).2.1, upd (f_read p c x.2.2).2.2.1 c.toNatClampNeg (if f_valid (f_read p c x.2.2).1 = 0 then x.1 + 1 else x.1), (f_read p c x.2.2).2.2.2) else (f_read p c x.2.2).2))
def f_wo1 (c : Int32) (b : Int64) (p : Int32) (s : FS) : FS := if s.1 (f_slot p c).toNatClampNeg = b then s else f_write p c b s
def f_wo (c : Int32) (b : Int64) (s : FS) : FS := f_wo1 c b 3 (f_wo1 c b 2 (f_wo1 c b 1 (f_wo1 c b 0 s)))
def f_restS (c : Int32) (s : FS) : Int32 × Int64 × FS := f_rest1 c 3 (f_rest1 c 2 (f_rest1 c 1 (f_rest1 c 0 (0, 0, s))))
def f_rest (c : Int32) (s : FS) : FS := if f_valid (f_restS c s).2.1 = 0 then (f_restS c s).2.2 else f_wo c (f_restS c s).2.1 (f_restS c s).2.2
def f_cells : List Int32 := [0, 1, 2, 3, 4, 5, 6, 7, 8, 9, 10, 11, 12, 13, 14, 15, 16, 17, 18, 19]
def f_accts : List Int32 := [0, 1, 2, 3, 4, 5, 6, 7, 8, 9, 10, 11, 12, 13, 14, 15]
def f_rests (s : FS) : FS := f_cells.foldl (fun s c => f_rest c s) s
abbrev f_okc (s : FS) (c : Int32) : Prop := ¬ f_valid (f_found c s) = 0 ∧ f_num (f_found c s) = f_num (f_found 16 s)
def f_pend (s : FS) : Int32 := bI (f_okc s 16 ∧ f_okc s 17 ∧ f_okc s 18 ∧ f_okc s 19 ∧ ¬ (f_bal (f_found 19 s) &&& 65536) = 0 ∧ ¬ f_acct (f_from (f_bal (f_found 19 s))) = 0 ∧ ¬ f_acct (f_to (f_bal (f_found 19 s))) = 0)
theorem pend_acc {s : FS} (h : ¬ f_pend s = 0) : ¬ f_acct (f_from (f_bal (f_found 19 s))) = 0 ∧ ¬ f_acct (f_to (f_bal (f_found 19 s))) = 0 := (bI_ne.mp h).2.2.2.2.2
def f_finA (a ch nn : Int32) (s : FS) : FS := if ¬ f_valid (f_found a s) = 0 ∧ ¬ nn ≤ f_num (f_found a s) then f_put a (f_make (f_bal (f_found a s) + ch) nn) s else s
def f_fin1 (s : FS) : FS := f_finA (f_from (f_bal (f_found 19 s))) (-(f_bal (f_found 16 s))) (f_bal (f_found 17 s)) s
def f_fin2 (r m : Int32) (s : FS) : FS := f_finA (f_to r) m (f_bal (f_found 18 s)) s
def f_fin (s : FS) : FS := f_put 19 (f_make (f_bal (f_found 19 s) - 65536 + 131072) (f_num (f_found 19 s))) (f_fin2 (f_bal (f_found 19 s)) (f_bal (f_found 16 s)) (f_fin1 s))
def f_fp (s : FS) : FS := if s.2.2.1 = 0 then s else if f_pend s = 0 then s else f_fin s
def f_mount (s : FS) : Int32 × FS := f_an2 1 (f_fp (f_rests (s.1, s.2.1, 1, s.2.2.2.1, s.2.2.2.2.1, s.2.2.2.2.2)))
def f_tot1 (c : Int32) (x : Int64 × FS) : Int64 × FS := (if f_isop (f_look c x.2).1 = 0 then x.1 else x.1 + (f_bal (f_look c x.2).1).toInt64, (f_look c x.2).2)
def f_tot (s : FS) : Int64 × FS := f_accts.foldl (fun x c => f_tot1 c x) (0, s)
def f_total (s : FS) : Int64 × FS := (if (f_tot s).2.2.2.1 = 0 then 4398046511104 else (f_tot s).1, (f_tot s).2)
theorem in16_0 : vp_in 0 16 := by unfold vp_in; decide
theorem in16_1 : vp_in 1 16 := by unfold vp_in; decide
theorem in16_2 : vp_in 2 16 := by unfold vp_in; decide
theorem in16_3 : vp_in 3 16 := by unfold vp_in; decide
theorem in16_4 : vp_in 4 16 := by unfold vp_in; decide
theorem in16_5 : vp_in 5 16 := by unfold vp_in; decide
theorem in16_6 : vp_in 6 16 := by unfold vp_in; decide
theorem in16_7 : vp_in 7 16 := by unfold vp_in; decide
theorem in16_8 : vp_in 8 16 := by unfold vp_in; decide
theorem in16_9 : vp_in 9 16 := by unfold vp_in; decide
theorem in16_10 : vp_in 10 16 := by unfold vp_in; decide
theorem in16_11 : vp_in 11 16 := by unfold vp_in; decide
theorem in16_12 : vp_in 12 16 := by unfold vp_in; decide
theorem in16_13 : vp_in 13 16 := by unfold vp_in; decide
theorem in16_14 : vp_in 14 16 := by unfold vp_in; decide
theorem in16_15 : vp_in 15 16 := by unfold vp_in; decide
theorem in20_0 : vp_in 0 20 := by unfold vp_in; decide
theorem in20_1 : vp_in 1 20 := by unfold vp_in; decide
theorem in20_2 : vp_in 2 20 := by unfold vp_in; decide
theorem in20_3 : vp_in 3 20 := by unfold vp_in; decide
theorem in20_4 : vp_in 4 20 := by unfold vp_in; decide
theorem in20_5 : vp_in 5 20 := by unfold vp_in; decide
theorem in20_6 : vp_in 6 20 := by unfold vp_in; decide
theorem in20_7 : vp_in 7 20 := by unfold vp_in; decide
theorem in20_8 : vp_in 8 20 := by unfold vp_in; decide
theorem in20_9 : vp_in 9 20 := by unfold vp_in; decide
theorem in20_10 : vp_in 10 20 := by unfold vp_in; decide
theorem in20_11 : vp_in 11 20 := by unfold vp_in; decide
theorem in20_12 : vp_in 12 20 := by unfold vp_in; decide
theorem in20_13 : vp_in 13 20 := by unfold vp_in; decide
theorem in20_14 : vp_in 14 20 := by unfold vp_in; decide
theorem in20_15 : vp_in 15 20 := by unfold vp_in; decide
