/-! THE REFERENCE'S PLAN OF A MOUNT -/
def gm_best (c : Int32) (mem : Nat → Int64) : Int64 := g_best1 (g_best1 (g_best1 (g_best1 0 (mem (r_place 0 c).toNatClampNeg)) (mem (r_place 1 c).toNatClampNeg)) (mem (r_place 2 c).toNatClampNeg)) (mem (r_place 3 c).toNatClampNeg)
def gm_bad (c : Int32) (mem : Nat → Int64) : Int32 := g_bad1 (g_bad1 (g_bad1 (g_bad1 0 (mem (r_place 0 c).toNatClampNeg)) (mem (r_place 1 c).toNatClampNeg)) (mem (r_place 2 c).toNatClampNeg)) (mem (r_place 3 c).toNatClampNeg)
def p_rw (p c : Int32) (x : Int64) (mem : Nat → Int64) : RPl := [(0, r_place p c, x), (1, r_place p c, mem (r_place p c).toNatClampNeg)]
def p_m8 (c : Int32) (mem : Nat → Int64) : RPl := p_rw 0 c 0 mem ++ (p_rw 1 c 0 mem ++ (p_rw 2 c 0 mem ++ p_rw 3 c ((gm_bad c mem).toInt64 + 1) mem))
def p_mw1 (c p : Int32) (b : Int64) (mem : Nat → Int64) : RPl := if mem (r_place p c).toNatClampNeg = b then [] else [(1, r_place p c, b)]
def p_mw (c : Int32) (b : Int64) (mem : Nat → Int64) : RPl := if b = 0 then [] else p_mw1 c 0 b mem ++ (p_mw1 c 1 b mem ++ (p_mw1 c 2 b mem ++ p_mw1 c 3 b mem))
def p_mend (c : Int32) (mem : Nat → Int64) : RPl := p_m8 c mem ++ p_mw c (gm_best c mem) mem
def rpb (s : RS) (L : RPl) (M : Nat) : Prop := r_plan s L ∧ L.length ≤ M
theorem rpb_tb {s : RS} {L : RPl} {M : Nat} (h : rpb s L M) : r_tb s M := ⟨L.length, h.2, h.1.1⟩
theorem rpb_turn {s : RS} {L : RPl} {M : Nat} (k p c : Int32) (w : Int64) (h : rpb s L M) (hM : M + 1 ≤ 256) (hp : vp_in p 4) (hc : vp_in c 20) : rpb (r_turn k p c w s) (L ++ [(k, r_place p c, w)]) (M + 1) :=
  ⟨plan_turn k p c w h.1 (by have := h.2; omega) hp hc, by have := h.2; simp; omega⟩
theorem rpb_put {s : RS} {L : RPl} {M : Nat} (c : Int32) (w : Int64) (h : rpb s L M) (hM : M + 4 ≤ 256) (hc : vp_in c 20) : rpb (r_put c w s) (L ++ p_put c w) (M + 4) :=
  ⟨plan_put c w h.1 (by have := h.2; omega) hc, by have := h.2; simp [pl_put]; omega⟩
theorem rpb_rw {s : RS} {L : RPl} {M : Nat} (p c : Int32) (x : Int64) (h : rpb s L M) (hM : M + 2 ≤ 256) (hp : vp_in p 4) (hc : vp_in c 20) : rpb (r_rw p c x s) (L ++ p_rw p c x s.1.1) (M + 2) := by
  have h1 := rpb_turn 0 p c x h (by omega) hp hc
  have h2 := rpb_turn 1 p c (s.1.1 (r_place p c).toNatClampNeg) h1 (by omega) hp hc
  rw [List.append_assoc] at h2
  exact h2
theorem rpb_m8 {s : RS} {L : RPl} {M : Nat} (c : Int32) (h : rpb s L M) (hM : M + 8 ≤ 256) (hc : vp_in c 20) : rpb (r_m8 c (gm_bad c s.1.1) s) (L ++ p_m8 c s.1.1) (M + 8) := by
  have h1 := rpb_rw 0 c 0 h (by omega) in4_0 hc
  have h2 := rpb_rw 1 c 0 h1 (by omega) in4_1 hc
  have h3 := rpb_rw 2 c 0 h2 (by omega) in4_2 hc
  have h4 := rpb_rw 3 c ((gm_bad c s.1.1).toInt64 + 1) h3 (by omega) in4_3 hc
  rw [List.append_assoc, List.append_assoc, List.append_assoc] at h4
  exact h4
theorem rpb_bst {s : RS} {L : RPl} {M : Nat} (c : Int32) (b : Int64) (h : rpb s L M) : rpb (r_bst c b s) L M := ⟨⟨h.1.1, h.1.2.1, h.1.2.2⟩, h.2⟩
theorem rpb_mw1 {s : RS} {L : RPl} {M : Nat} {b : Int64} (c p : Int32) (h : rpb s L M) (hM : M + 1 ≤ 256) (hp : vp_in p 4) (hc : vp_in c 20) (hb : s.2.2.2.2.2 c.toNatClampNeg = b) : rpb (r_mw1 c p s) (L ++ p_mw1 c p b s.1.1) (M + 1) := by
  unfold r_mw1 p_mw1
  rw [hb]
  split
  · rw [List.append_nil]
    exact ⟨h.1, by have := h.2; omega⟩
  · exact rpb_turn 1 p c b h hM hp hc
theorem m2_1 {c : Int32} {s : RS} : (r_m2 c s).1 = s.1 := rfl
theorem rpb_mend {s : RS} {L : RPl} {M : Nat} {mem : Nat → Int64} (c : Int32) (h : rpb s L M) (hM : M + 12 ≤ 256) (hc : vp_in c 20) (hm : s.1.1 = mem) : rpb (r_mend c s) (L ++ p_mend c mem) (M + 12) := by
  subst hm
  have h8 := rpb_bst c (gm_best c s.1.1) (rpb_m8 c h (by omega) hc)
  have hb0 : (r_m2 c s).2.2.2.2.2 c.toNatClampNeg = gm_best c s.1.1 := pk_uLs
  have h8 : rpb (r_m2 c s) (L ++ p_m8 c s.1.1) (M + 8) := h8
  unfold r_mend p_mend p_mw
  rw [← List.append_assoc]
  have hg : g_best c s = gm_best c s.1.1 := rfl
  rw [hg]
  split
  · rw [List.append_nil]
    exact ⟨h8.1, by have := h8.2; omega⟩
  · have k0 := rpb_mw1 (b := gm_best c s.1.1) c 0 h8 (by omega) in4_0 hc hb0
    have k1 := rpb_mw1 (b := gm_best c s.1.1) c 1 k0 (by omega) in4_1 hc (by rw [mw1_b]; exact hb0)
    have k2 := rpb_mw1 (b := gm_best c s.1.1) c 2 k1 (by omega) in4_2 hc (by rw [mw1_b, mw1_b]; exact hb0)
    have k3 := rpb_mw1 (b := gm_best c s.1.1) c 3 k2 (by omega) in4_3 hc (by rw [mw1_b, mw1_b, mw1_b]; exact hb0)
    simp only [mw1_1, m2_1] at k3
    rw [List.append_assoc, List.append_assoc, List.append_assoc] at k3
    exact k3
theorem mend_1 {c : Int32} {s : RS} : (r_mend c s).1 = s.1 := by
  unfold r_mend
  split
  · rfl
  · rw [mw1_1, mw1_1, mw1_1, mw1_1]
    rfl
theorem mend_b {c : Int32} {s : RS} : (r_mend c s).2.2.2.2.2 = vp_updL s.2.2.2.2.2 c.toNatClampNeg (gm_best c s.1.1) := by
  unfold r_mend
  split
  · rfl
  · rw [mw1_b, mw1_b, mw1_b, mw1_b]
    rfl
def p_settle (bs : Nat → Int64) (a b m : Int32) : RPl := if bs a.toNatClampNeg = 0 then [] else if g_num (bs a.toNatClampNeg) < f_bal (bs b.toNatClampNeg) then p_put a (g_word (f_bal (bs a.toNatClampNeg) + m) (f_bal (bs b.toNatClampNeg))) else []
theorem rpb_settle {s : RS} {L : RPl} {M : Nat} (a b m : Int32) (h : rpb s L M) (hM : M + 4 ≤ 256) (hc : vp_in a 20) : rpb (r_settle a b m s) (L ++ p_settle s.2.2.2.2.2 a b m) (M + 4) := by
  unfold r_settle p_settle
  split
  · rw [List.append_nil]
    exact ⟨h.1, by have := h.2; omega⟩
  · split
    · exact rpb_put a _ h hM hc
    · rw [List.append_nil]
      exact ⟨h.1, by have := h.2; omega⟩
theorem settle_1 {a b m : Int32} {s : RS} : (r_settle a b m s).1 = s.1 := by
  unfold r_settle
  split
  · rfl
  · split <;> rfl
theorem settle_b {a b m : Int32} {s : RS} : (r_settle a b m s).2.2.2.2.2 = s.2.2.2.2.2 := by
  unfold r_settle
  split
  · rfl
  · split <;> rfl
def r_on1 (s : RS) : RS := ((s.1.1, s.1.2.1, 1, s.1.2.2.2.1, s.1.2.2.2.2.1, s.1.2.2.2.2.2), s.2)
def r_mends (s : RS) : RS := f_cells.foldl (fun s c => r_mend c s) s
def p_mends (mem : Nat → Int64) : RPl := f_cells.foldl (fun L c => L ++ p_mend c mem) []
def r_slip (bs : Nat → Int64) : Int32 := g_slip1 bs 19 (g_slip1 bs 18 (g_slip1 bs 17 (g_slip1 bs 16 1)))
def r_told (s : RS) : Int32 := f_bal (s.2.2.2.2.2 (19 : Int32).toNatClampNeg)
def r_amt (s : RS) : Int32 := f_bal (s.2.2.2.2.2 (16 : Int32).toNatClampNeg)
def r_fin1 (s : RS) : RS := r_settle (f_from (r_told s)) 17 (-(r_amt s)) s
def r_fin2 (s : RS) : RS := r_settle (f_to (r_told s)) 18 (r_amt s) (r_fin1 s)
def r_fin3 (s : RS) : RS := r_put 19 (g_word (r_told s + 65536) (g_num ((r_fin2 s).2.2.2.2.2 (19 : Int32).toNatClampNeg))) (r_fin2 s)
def r_finL (s : RS) (L : RPl) : RPl := L ++ p_settle s.2.2.2.2.2 (f_from (r_told s)) 17 (-(r_amt s)) ++ p_settle (r_fin1 s).2.2.2.2.2 (f_to (r_told s)) 18 (r_amt s) ++ p_put 19 (g_word (r_told s + 65536) (g_num ((r_fin2 s).2.2.2.2.2 (19 : Int32).toNatClampNeg)))
def r_mountB (L : RPl) (s : RS) : Int32 × RS := if r_slip s.2.2.2.2.2 = 0 then r_end 1 L s else if (r_told s >>> ((16 : Int32) &&& 31)) &&& 1 = 1 then (if f_acct (f_from (r_told s)) = 0 then r_end 1 L s else if f_acct (f_to (r_told s)) = 0 then r_end 1 L s else r_end 1 (r_finL s L) (r_fin3 s)) else r_end 1 L s
def r_mount (s : RS) : Int32 × RS := r_mountB (p_mends s.1.1) (r_mends (r_zero (r_on1 s)))
