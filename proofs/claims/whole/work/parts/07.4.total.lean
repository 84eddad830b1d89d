/-! TOTAL -/
theorem tot_gen (m0 : Nat → Int64) : ∀ (cs : List Int32) (u : Int64) (s : FS), (¬ s.2.2.1 = 0 → s.1 = m0) →
    (cs.foldl (fun x c => f_tot1 c x) (u, s)).2 = xs (cs.flatMap (fun c => p_look c (m0 c.toNatClampNeg))) s ∧
    (¬ (cs.foldl (fun x c => f_tot1 c x) (u, s)).2.2.2.1 = 0 → (cs.foldl (fun x c => f_tot1 c x) (u, s)).1 = cs.foldl (fun u c => u + (if g_isop (m0 c.toNatClampNeg) = 0 then 0 else (f_bal (m0 c.toNatClampNeg)).toInt64)) u) := by
  intro cs
  induction cs with
  | nil => exact fun u s _ => ⟨rfl, fun _ => rfl⟩
  | cons c cs ih =>
    intro u s hm
    obtain ⟨a1, a2⟩ := look_go c s m0 hm
    rw [List.foldl_cons, List.foldl_cons, List.flatMap_cons, xs_app, ← a1]
    have e : f_tot1 c (u, s) = (if f_isop (f_look c s).1 = 0 then u else u + (f_bal (f_look c s).1).toInt64, (f_look c s).2) := rfl
    rw [e]
    obtain ⟨i1, i2⟩ := ih (if f_isop (f_look c s).1 = 0 then u else u + (f_bal (f_look c s).1).toInt64) (f_look c s).2 (fun h => (a2 h).2)
    refine ⟨i1, fun h => ?_⟩
    rw [i2 h]
    rw [i1] at h
    rw [(a2 (xs_down h)).1, isop_eq]
    congr 1
    split
    · rw [Int64.add_zero]
    · rfl
theorem rtot_gen : ∀ (cs : List Int32) (u : Int64) (z : RS), (cs.foldl (fun x c => r_tot1 c x) (u, z)).1 = cs.foldl (fun u c => u + (if g_isop (z.1.1 c.toNatClampNeg) = 0 then 0 else (f_bal (z.1.1 c.toNatClampNeg)).toInt64)) u ∧ (cs.foldl (fun x c => r_tot1 c x) (u, z)).2.1 = z.1 := by
  intro cs
  induction cs with
  | nil => exact fun u z => ⟨rfl, rfl⟩
  | cons c cs ih =>
    intro u z
    rw [List.foldl_cons, List.foldl_cons]
    have e : r_tot1 c (u, z) = (u + (if g_isop (z.1.1 c.toNatClampNeg) = 0 then 0 else (f_bal (z.1.1 c.toNatClampNeg)).toInt64), r_look c z) := rfl
    rw [e]
    obtain ⟨i1, i2⟩ := ih (u + (if g_isop (z.1.1 c.toNatClampNeg) = 0 then 0 else (f_bal (z.1.1 c.toNatClampNeg)).toInt64)) (r_look c z)
    rw [look_1] at i1 i2
    exact ⟨i1, i2⟩
theorem fold_app {α β : Type} (f : α → List β) : ∀ (cs : List α) (L : List β), cs.foldl (fun L c => L ++ f c) L = L ++ cs.flatMap f := by
  intro cs
  induction cs with
  | nil => exact fun L => by simp
  | cons c cs ih =>
    intro L
    rw [List.foldl_cons, ih, List.flatMap_cons, List.append_assoc]
theorem totL_eq (mem : Nat → Int64) : r_totL mem = f_accts.flatMap (fun c => p_look c (mem c.toNatClampNeg)) := by
  unfold r_totL
  rw [fold_app (fun c => p_look c (mem c.toNatClampNeg)), List.nil_append]
theorem totL_ne (mem : Nat → Int64) : r_totL mem ≠ [] := by
  rw [totL_eq]
  unfold f_accts
  rw [List.flatMap_cons]
  unfold p_look
  simp
theorem f_tot_def (s : FS) : f_accts.foldl (fun x c => f_tot1 c x) (0, s) = f_tot s := by unfold f_tot; with_reducible rfl
theorem r_tot_def (s : RS) : f_accts.foldl (fun x c => r_tot1 c x) (0, r_zero s) = r_tot s := by unfold r_tot; with_reducible rfl
theorem q_total (s : RS) : f_total s.1 = ((r_total s).1, (r_total s).2.1) := by
  obtain ⟨a1, a2⟩ := tot_gen s.1.1 f_accts 0 s.1 (fun _ => rfl)
  obtain ⟨b1, b2⟩ := rtot_gen f_accts 0 (r_zero s)
  rw [zero_1, r_tot_def] at b1
  rw [zero_1, r_tot_def] at b2
  rw [f_tot_def, ← totL_eq] at a1
  rw [f_tot_def] at a2
  unfold f_total r_total
  have i := wk0_iff (totL_ne s.1.1) (r_tot s).2
  rw [wk_2]
  rw [b2, ← a1] at i
  rw [b2, ← a1]
  by_cases h : (f_tot s.1).2.2.2.1 = 0
  · rw [if_pos h, if_pos (i.mpr h)]
  · rw [if_neg h, if_neg (fun z => h (i.mp z)), b1, a2 h]
