abbrev rmX1_open : Room := { frames := 2, cells := 0, slots := 0, locals := 49 }
-- open
set_option maxHeartbeats 400000 in
set_option maxRecDepth 100000 in
theorem c_X1_open (l : Launch) (D : va_G) (g0 g1 g2 g3 g4 g5 g6 : Nat) (cA cB : ClassId) (st : RS) (a : Int32) (b : Int32)  : cM l D vwCl (FT cA cB) (RWd g0 g1 g2 g3 g4 g5 g6 cA cB) yX1_open wsX1_open rmX1_open [.ref g0, .int a, .int b] st (some (.int (r_open a b st).1)) (r_open a b st).2 := by
  refine cM_in (cc := cX1_open) (maxL := 6) (ret := (some .int)) (by decide) rfl (Nat.le_of_ble_eq_true rfl) ?_
  intro p e s m below meth c ls A hx hb hr hlocks hml hown hts hA hK hP hD hS hl
  have hown : s.vm.findClass RX1 = some m.cls := hown
  have hl : lv_has ls 6 [(0, .ref g0), (1, .int a), (2, .int b)] := hl
  -- walk
  refine lv_iload_n hx hb dX1_open_0 rfl (lv_at hl 1 rfl) ?_
  refine cS_call (n := 1) (as := [.int a]) (rest := []) ⟨hx, hb, hml, hown, hts⟩ (c_X1_isAccount l a) gX1_open_X1_isAccount rfl rfl rfl (by decide +kernel) ⟨Nat.le_of_ble_eq_true rfl, Nat.le_of_ble_eq_true rfl⟩ hl.1 rfl rfl (Nat.le_of_ble_eq_true rfl) dX1_open_1 ⟨Nat.zero_le _, Nat.zero_le _⟩ ?_
  refine tpi (fun v1 e1 => ?_)
  refine lv_if_ne (tgt := 9) hx hb dX1_open_4 (by decide) (fun c2 => ?_) (fun c2 => ?_)
  · have hc : vp_in a 20 := acct_in20 (by rw [e1]; exact c2)
    refine lv_aload_n hx hb dX1_open_9 rfl (lv_at hl 0 rfl) ?_
    refine va_get (D := D) (ci := 1) (v := .ref g1) (C := RX1) (T := TX1) (N := 11) hx hb hts (by decide +kernel) hown hK hP 0 rfl rfl 0 (by decide) (hts (.fieldLink RX1 7 "FadeLedgerModel" "words" "[J") (by decide +kernel)) (fun _ h9 => h9) rfl dX1_open_10 ?_
    refine lv_iload_n hx hb dX1_open_13 rfl (lv_at hl 1 rfl) ?_
    refine va_lald hx hb hK hP 1 0 rfl rfl (in_up hc (by decide)) dX1_open_14 ?_
    refine tpl (fun v3 e3 => ?_)
    refine lv_lstore_n (lv' := [(3, .long v3), (0, .ref g0), (1, .int a), (2, .int b)]) hx hb dX1_open_15 rfl hl (by decide) rfl (fun ls hl => ?_)
    refine lv_lload_n hx hb dX1_open_16 rfl (lv_at hl 0 rfl) ?_
    refine cS_call (n := 1) (as := [.long v3]) (rest := []) ⟨hx, hb, hml, hown, hts⟩ (c_X1_isValid l v3) gX1_open_X1_isValid rfl rfl rfl (by decide +kernel) ⟨Nat.le_of_ble_eq_true rfl, Nat.le_of_ble_eq_true rfl⟩ hl.1 rfl rfl (Nat.le_of_ble_eq_true rfl) dX1_open_17 ⟨Nat.zero_le _, Nat.zero_le _⟩ ?_
    refine tpi (fun v4 e4 => ?_)
    refine lv_if_eq (tgt := 34) hx hb dX1_open_20 (by decide) (fun c5 => ?_) (fun c5 => ?_)
    · refine lv_iconst (v := 0) hx hb dX1_open_34 (by decide) ?_
      refine lv_istore (lv' := [(5, .int 0), (3, .long v3), (0, .ref g0), (1, .int a), (2, .int b)]) hx hb dX1_open_35 hl (by decide) rfl (fun ls hl => ?_)
      refine lv_aload_n hx hb dX1_open_37 rfl (lv_at hl 2 rfl) ?_
      refine lv_iconst (v := 0) hx hb dX1_open_38 (by decide) ?_
      refine va_put (D := D) (ci := 1) (v := .int 0) (ty := .int) (C := RX1) (T := TX1) (N := 11) hx hb hts (by decide +kernel) tyX1 tyX1_ok nmX1 hown hK hP hD hS 0 rfl rfl 9 (by decide) (hts (.fieldLink RX1 63 "FadeLedgerModel" "turns" "I") (by decide +kernel)) (fun _ h9 => h9) rfl (by decide +kernel) rfl rfl (Nat.le_of_ble_eq_true rfl) dX1_open_39 (fun H locs hP hD hS => ?_)
      obtain ⟨s6, t6⟩ : ∃ y9 : RS, ((st.1, st.2.1, st.2.2.1, st.2.2.2.1, 0, st.2.2.2.2.2) : RS) = y9 := ⟨_, rfl⟩
      replace hP : va_P D vwCl (RWd g0 g1 g2 g3 g4 g5 g6 cA cB s6) H := by rw [← t6]; exact hP
      replace hD : va_D A (RWd g0 g1 g2 g3 g4 g5 g6 cA cB s6) := by rw [← t6]; exact hD
      have hL7 : r_plan s6 [] := by rw [← t6]; exact plan_zero _
      refine lv_aload_n hx hb dX1_open_42 rfl (lv_at hl 2 rfl) ?_
      refine lv_iconst (v := 0) hx hb dX1_open_43 (by decide) ?_
      refine lv_iconst (v := 0) hx hb dX1_open_44 (by decide) ?_
      refine lv_iload_n hx hb dX1_open_45 rfl (lv_at hl 3 rfl) ?_
      refine lv_lconst (v := 0) hx hb dX1_open_46 (by decide) ?_
      refine cM_this (Wd := RWd g0 g1 g2 g3 g4 g5 g6 cA cB) (ci := 1) (q0 := 0) (n := 4) (as := [.int 0, .int 0, .int a, .long 0]) (rest := []) ⟨hx, hb, hml, hown, hts⟩ (c_X1_turn l D g0 g1 g2 g3 g4 g5 g6 cA cB s6 0 0 a 0 (t_in hL7.1 (by simp only [List.length_append, List.length_nil, List.length_cons, pl_look, pl_put] <;> decide))) gX1_open_X1_turn rfl rfl rfl (by decide +kernel) ⟨Nat.le_of_ble_eq_true rfl, Nat.le_of_ble_eq_true rfl⟩ hK hP hD hS hA rfl rfl rfl hl.1 rfl rfl (Nat.le_of_ble_eq_true rfl) dX1_open_47 ⟨Nat.zero_le _, Nat.zero_le _⟩ (fun H locs hP hD hS => ?_)
      refine W.eq (g2 := F0 m 50 ls []) rfl ?_
      obtain ⟨s8, t8⟩ : ∃ y9 : RS, r_turn 0 0 a 0 s6 = y9 := ⟨_, rfl⟩
      replace hP : va_P D vwCl (RWd g0 g1 g2 g3 g4 g5 g6 cA cB s8) H := by rw [← t8]; exact hP
      replace hD : va_D A (RWd g0 g1 g2 g3 g4 g5 g6 cA cB s8) := by rw [← t8]; exact hD
      have hL9 : r_plan s8 ([] ++ [(0, r_place 0 a, 0)]) := by clear hP hD hS; subst t6; subst t8; exact plan_turn 0 0 a 0 hL7 (by simp only [List.length_append, List.length_nil, List.length_cons, pl_look, pl_put] <;> decide) in4_0 hc
      refine lv_iload hx hb dX1_open_50 (lv_at hl 0 rfl) ?_
      refine lv_if_eq (tgt := 68) hx hb dX1_open_52 (by decide) (fun _ => ?_) (fun c0 => absurd c0 (by decide))
      refine lv_aload_n hx hb dX1_open_68 rfl (lv_at hl 2 rfl) ?_
      refine lv_iconst (v := 1) hx hb dX1_open_69 (by decide) ?_
      refine lv_iconst (v := 0) hx hb dX1_open_70 (by decide) ?_
      refine lv_iload_n hx hb dX1_open_71 rfl (lv_at hl 3 rfl) ?_
      refine lv_lload_n hx hb dX1_open_72 rfl (lv_at hl 1 rfl) ?_
      refine cM_this (Wd := RWd g0 g1 g2 g3 g4 g5 g6 cA cB) (ci := 1) (q0 := 0) (n := 4) (as := [.int 1, .int 0, .int a, .long v3]) (rest := []) ⟨hx, hb, hml, hown, hts⟩ (c_X1_turn l D g0 g1 g2 g3 g4 g5 g6 cA cB s8 1 0 a v3 (t_in hL9.1 (by simp only [List.length_append, List.length_nil, List.length_cons, pl_look, pl_put] <;> decide))) gX1_open_X1_turn rfl rfl rfl (by decide +kernel) ⟨Nat.le_of_ble_eq_true rfl, Nat.le_of_ble_eq_true rfl⟩ hK hP hD hS hA rfl rfl rfl hl.1 rfl rfl (Nat.le_of_ble_eq_true rfl) dX1_open_73 ⟨Nat.zero_le _, Nat.zero_le _⟩ (fun H locs hP hD hS => ?_)
      refine W.eq (g2 := F0 m 76 ls []) rfl ?_
      obtain ⟨s10, t10⟩ : ∃ y9 : RS, r_turn 1 0 a v3 s8 = y9 := ⟨_, rfl⟩
      replace hP : va_P D vwCl (RWd g0 g1 g2 g3 g4 g5 g6 cA cB s10) H := by rw [← t10]; exact hP
      replace hD : va_D A (RWd g0 g1 g2 g3 g4 g5 g6 cA cB s10) := by rw [← t10]; exact hD
      have hL11 : r_plan s10 ([] ++ [(0, r_place 0 a, 0)] ++ [(1, r_place 0 a, v3)]) := by clear hP hD hS; subst t6; subst t8; subst t10; exact plan_turn 1 0 a v3 hL9 (by simp only [List.length_append, List.length_nil, List.length_cons, pl_look, pl_put] <;> decide) in4_0 hc
      refine lv_aload_n hx hb dX1_open_76 rfl (lv_at hl 2 rfl) ?_
      refine cM_this (Wd := RWd g0 g1 g2 g3 g4 g5 g6 cA cB) (ci := 1) (q0 := 0) (n := 0) (as := []) (rest := []) ⟨hx, hb, hml, hown, hts⟩ (c_X1_works l D g0 g1 g2 g3 g4 g5 g6 cA cB s10 ([] ++ [(0, r_place 0 a, 0)] ++ [(1, r_place 0 a, v3)]) hL11) gX1_open_X1_works rfl rfl rfl (by decide +kernel) ⟨Nat.le_of_ble_eq_true rfl, Nat.le_of_ble_eq_true rfl⟩ hK hP hD hS hA rfl rfl rfl hl.1 rfl rfl (Nat.le_of_ble_eq_true rfl) dX1_open_77 ⟨Nat.zero_le _, Nat.zero_le _⟩ (fun H locs hP hD hS => ?_)
      obtain ⟨s12, t12⟩ : ∃ y9 : RS, (r_wk ([] ++ [(0, r_place 0 a, 0)] ++ [(1, r_place 0 a, v3)]) s10).2 = y9 := ⟨_, rfl⟩
      replace hP : va_P D vwCl (RWd g0 g1 g2 g3 g4 g5 g6 cA cB s12) H := by rw [← t12]; exact hP
      replace hD : va_D A (RWd g0 g1 g2 g3 g4 g5 g6 cA cB s12) := by rw [← t12]; exact hD
      refine tpi (fun v13 e13 => ?_)
      refine lv_if_ne (tgt := 88) hx hb dX1_open_80 (by decide) (fun c14 => ?_) (fun c14 => ?_)
      · refine lv_iload hx hb dX1_open_88 (lv_at hl 0 rfl) ?_
        refine lv_if_eq (tgt := 97) hx hb dX1_open_90 (by decide) (fun _ => ?_) (fun c0 => absurd c0 (by decide))
        refine lv_iconst (v := (-1)) hx hb dX1_open_97 (by decide) ?_
        have fin : r_open a b st = ((-1), s12) := by
          clear hP hD hS; subst e1; subst e3; subst e4; subst t6; subst t8; subst t10; subst t12; subst e13; simp only [r_open, g_fresh, r_end, r_zero, bI, c2, c5, c14, ↓reduceIte, not_true_eq_false, not_false_eq_true, and_self, and_true, true_and, and_false, false_and, eq_self, i10]
        exact cM_reti (Wd := RWd g0 g1 g2 g3 g4 g5 g6 cA cB) (st := s12) (st' := (r_open a b st).2) hx hb hr hlocks dX1_open_98 hS hP hD (congrArg Prod.fst fin).symm (congrArg Prod.snd fin).symm
      · refine lv_bipush (v := (-2)) hx hb dX1_open_83 (by decide) ?_
        refine lv_goto (tgt := 98) hx hb dX1_open_85 (by decide) ?_
        have fin : r_open a b st = ((-2), s12) := by
          clear hP hD hS; subst e1; subst e3; subst e4; subst t6; subst t8; subst t10; subst t12; subst e13; simp only [r_open, g_fresh, r_end, r_zero, bI, c2, c5, c14, ↓reduceIte, not_true_eq_false, not_false_eq_true, and_self, and_true, true_and, and_false, false_and, eq_self, i10]
        exact cM_reti (Wd := RWd g0 g1 g2 g3 g4 g5 g6 cA cB) (st := s12) (st' := (r_open a b st).2) hx hb hr hlocks dX1_open_98 hS hP hD (congrArg Prod.fst fin).symm (congrArg Prod.snd fin).symm
    · refine lv_lload_n hx hb dX1_open_23 rfl (lv_at hl 0 rfl) ?_
      refine cS_call (n := 1) (as := [.long v3]) (rest := []) ⟨hx, hb, hml, hown, hts⟩ (c_X1_numberOf l v3) gX1_open_X1_numberOf rfl rfl rfl (by decide +kernel) ⟨Nat.le_of_ble_eq_true rfl, Nat.le_of_ble_eq_true rfl⟩ hl.1 rfl rfl (Nat.le_of_ble_eq_true rfl) dX1_open_24 ⟨Nat.zero_le _, Nat.zero_le _⟩ ?_
      refine tpi (fun v15 e15 => ?_)
      refine lv_if_ne (tgt := 34) hx hb dX1_open_27 (by decide) (fun c16 => ?_) (fun c16 => ?_)
      · refine lv_iconst (v := 0) hx hb dX1_open_34 (by decide) ?_
        refine lv_istore (lv' := [(5, .int 0), (3, .long v3), (0, .ref g0), (1, .int a), (2, .int b)]) hx hb dX1_open_35 hl (by decide) rfl (fun ls hl => ?_)
        refine lv_aload_n hx hb dX1_open_37 rfl (lv_at hl 2 rfl) ?_
        refine lv_iconst (v := 0) hx hb dX1_open_38 (by decide) ?_
        refine va_put (D := D) (ci := 1) (v := .int 0) (ty := .int) (C := RX1) (T := TX1) (N := 11) hx hb hts (by decide +kernel) tyX1 tyX1_ok nmX1 hown hK hP hD hS 0 rfl rfl 9 (by decide) (hts (.fieldLink RX1 63 "FadeLedgerModel" "turns" "I") (by decide +kernel)) (fun _ h9 => h9) rfl (by decide +kernel) rfl rfl (Nat.le_of_ble_eq_true rfl) dX1_open_39 (fun H locs hP hD hS => ?_)
        obtain ⟨s17, t17⟩ : ∃ y9 : RS, ((st.1, st.2.1, st.2.2.1, st.2.2.2.1, 0, st.2.2.2.2.2) : RS) = y9 := ⟨_, rfl⟩
        replace hP : va_P D vwCl (RWd g0 g1 g2 g3 g4 g5 g6 cA cB s17) H := by rw [← t17]; exact hP
        replace hD : va_D A (RWd g0 g1 g2 g3 g4 g5 g6 cA cB s17) := by rw [← t17]; exact hD
        have hL18 : r_plan s17 [] := by rw [← t17]; exact plan_zero _
        refine lv_aload_n hx hb dX1_open_42 rfl (lv_at hl 2 rfl) ?_
        refine lv_iconst (v := 0) hx hb dX1_open_43 (by decide) ?_
        refine lv_iconst (v := 0) hx hb dX1_open_44 (by decide) ?_
        refine lv_iload_n hx hb dX1_open_45 rfl (lv_at hl 3 rfl) ?_
        refine lv_lconst (v := 0) hx hb dX1_open_46 (by decide) ?_
        refine cM_this (Wd := RWd g0 g1 g2 g3 g4 g5 g6 cA cB) (ci := 1) (q0 := 0) (n := 4) (as := [.int 0, .int 0, .int a, .long 0]) (rest := []) ⟨hx, hb, hml, hown, hts⟩ (c_X1_turn l D g0 g1 g2 g3 g4 g5 g6 cA cB s17 0 0 a 0 (t_in hL18.1 (by simp only [List.length_append, List.length_nil, List.length_cons, pl_look, pl_put] <;> decide))) gX1_open_X1_turn rfl rfl rfl (by decide +kernel) ⟨Nat.le_of_ble_eq_true rfl, Nat.le_of_ble_eq_true rfl⟩ hK hP hD hS hA rfl rfl rfl hl.1 rfl rfl (Nat.le_of_ble_eq_true rfl) dX1_open_47 ⟨Nat.zero_le _, Nat.zero_le _⟩ (fun H locs hP hD hS => ?_)
        refine W.eq (g2 := F0 m 50 ls []) rfl ?_
        obtain ⟨s19, t19⟩ : ∃ y9 : RS, r_turn 0 0 a 0 s17 = y9 := ⟨_, rfl⟩
        replace hP : va_P D vwCl (RWd g0 g1 g2 g3 g4 g5 g6 cA cB s19) H := by rw [← t19]; exact hP
        replace hD : va_D A (RWd g0 g1 g2 g3 g4 g5 g6 cA cB s19) := by rw [← t19]; exact hD
        have hL20 : r_plan s19 ([] ++ [(0, r_place 0 a, 0)]) := by clear hP hD hS; subst t17; subst t19; exact plan_turn 0 0 a 0 hL18 (by simp only [List.length_append, List.length_nil, List.length_cons, pl_look, pl_put] <;> decide) in4_0 hc
        refine lv_iload hx hb dX1_open_50 (lv_at hl 0 rfl) ?_
        refine lv_if_eq (tgt := 68) hx hb dX1_open_52 (by decide) (fun _ => ?_) (fun c0 => absurd c0 (by decide))
        refine lv_aload_n hx hb dX1_open_68 rfl (lv_at hl 2 rfl) ?_
        refine lv_iconst (v := 1) hx hb dX1_open_69 (by decide) ?_
        refine lv_iconst (v := 0) hx hb dX1_open_70 (by decide) ?_
        refine lv_iload_n hx hb dX1_open_71 rfl (lv_at hl 3 rfl) ?_
        refine lv_lload_n hx hb dX1_open_72 rfl (lv_at hl 1 rfl) ?_
        refine cM_this (Wd := RWd g0 g1 g2 g3 g4 g5 g6 cA cB) (ci := 1) (q0 := 0) (n := 4) (as := [.int 1, .int 0, .int a, .long v3]) (rest := []) ⟨hx, hb, hml, hown, hts⟩ (c_X1_turn l D g0 g1 g2 g3 g4 g5 g6 cA cB s19 1 0 a v3 (t_in hL20.1 (by simp only [List.length_append, List.length_nil, List.length_cons, pl_look, pl_put] <;> decide))) gX1_open_X1_turn rfl rfl rfl (by decide +kernel) ⟨Nat.le_of_ble_eq_true rfl, Nat.le_of_ble_eq_true rfl⟩ hK hP hD hS hA rfl rfl rfl hl.1 rfl rfl (Nat.le_of_ble_eq_true rfl) dX1_open_73 ⟨Nat.zero_le _, Nat.zero_le _⟩ (fun H locs hP hD hS => ?_)
        refine W.eq (g2 := F0 m 76 ls []) rfl ?_
        obtain ⟨s21, t21⟩ : ∃ y9 : RS, r_turn 1 0 a v3 s19 = y9 := ⟨_, rfl⟩
        replace hP : va_P D vwCl (RWd g0 g1 g2 g3 g4 g5 g6 cA cB s21) H := by rw [← t21]; exact hP
        replace hD : va_D A (RWd g0 g1 g2 g3 g4 g5 g6 cA cB s21) := by rw [← t21]; exact hD
        have hL22 : r_plan s21 ([] ++ [(0, r_place 0 a, 0)] ++ [(1, r_place 0 a, v3)]) := by clear hP hD hS; subst t17; subst t19; subst t21; exact plan_turn 1 0 a v3 hL20 (by simp only [List.length_append, List.length_nil, List.length_cons, pl_look, pl_put] <;> decide) in4_0 hc
        refine lv_aload_n hx hb dX1_open_76 rfl (lv_at hl 2 rfl) ?_
        refine cM_this (Wd := RWd g0 g1 g2 g3 g4 g5 g6 cA cB) (ci := 1) (q0 := 0) (n := 0) (as := []) (rest := []) ⟨hx, hb, hml, hown, hts⟩ (c_X1_works l D g0 g1 g2 g3 g4 g5 g6 cA cB s21 ([] ++ [(0, r_place 0 a, 0)] ++ [(1, r_place 0 a, v3)]) hL22) gX1_open_X1_works rfl rfl rfl (by decide +kernel) ⟨Nat.le_of_ble_eq_true rfl, Nat.le_of_ble_eq_true rfl⟩ hK hP hD hS hA rfl rfl rfl hl.1 rfl rfl (Nat.le_of_ble_eq_true rfl) dX1_open_77 ⟨Nat.zero_le _, Nat.zero_le _⟩ (fun H locs hP hD hS => ?_)
        obtain ⟨s23, t23⟩ : ∃ y9 : RS, (r_wk ([] ++ [(0, r_place 0 a, 0)] ++ [(1, r_place 0 a, v3)]) s21).2 = y9 := ⟨_, rfl⟩
        replace hP : va_P D vwCl (RWd g0 g1 g2 g3 g4 g5 g6 cA cB s23) H := by rw [← t23]; exact hP
        replace hD : va_D A (RWd g0 g1 g2 g3 g4 g5 g6 cA cB s23) := by rw [← t23]; exact hD
        refine tpi (fun v24 e24 => ?_)
        refine lv_if_ne (tgt := 88) hx hb dX1_open_80 (by decide) (fun c25 => ?_) (fun c25 => ?_)
        · refine lv_iload hx hb dX1_open_88 (lv_at hl 0 rfl) ?_
          refine lv_if_eq (tgt := 97) hx hb dX1_open_90 (by decide) (fun _ => ?_) (fun c0 => absurd c0 (by decide))
          refine lv_iconst (v := (-1)) hx hb dX1_open_97 (by decide) ?_
          have fin : r_open a b st = ((-1), s23) := by
            clear hP hD hS; subst e1; subst e3; subst e4; subst e15; subst t17; subst t19; subst t21; subst t23; subst e24; simp only [r_open, g_fresh, r_end, r_zero, bI, c2, c5, c16, c25, ↓reduceIte, not_true_eq_false, not_false_eq_true, and_self, and_true, true_and, and_false, false_and, eq_self, i10]
          exact cM_reti (Wd := RWd g0 g1 g2 g3 g4 g5 g6 cA cB) (st := s23) (st' := (r_open a b st).2) hx hb hr hlocks dX1_open_98 hS hP hD (congrArg Prod.fst fin).symm (congrArg Prod.snd fin).symm
        · refine lv_bipush (v := (-2)) hx hb dX1_open_83 (by decide) ?_
          refine lv_goto (tgt := 98) hx hb dX1_open_85 (by decide) ?_
          have fin : r_open a b st = ((-2), s23) := by
            clear hP hD hS; subst e1; subst e3; subst e4; subst e15; subst t17; subst t19; subst t21; subst t23; subst e24; simp only [r_open, g_fresh, r_end, r_zero, bI, c2, c5, c16, c25, ↓reduceIte, not_true_eq_false, not_false_eq_true, and_self, and_true, true_and, and_false, false_and, eq_self, i10]
          exact cM_reti (Wd := RWd g0 g1 g2 g3 g4 g5 g6 cA cB) (st := s23) (st' := (r_open a b st).2) hx hb hr hlocks dX1_open_98 hS hP hD (congrArg Prod.fst fin).symm (congrArg Prod.snd fin).symm
      · refine lv_iconst (v := 1) hx hb dX1_open_30 (by decide) ?_
        refine lv_goto (tgt := 35) hx hb dX1_open_31 (by decide) ?_
        refine lv_istore (lv' := [(5, .int 1), (3, .long v3), (0, .ref g0), (1, .int a), (2, .int b)]) hx hb dX1_open_35 hl (by decide) rfl (fun ls hl => ?_)
        refine lv_aload_n hx hb dX1_open_37 rfl (lv_at hl 2 rfl) ?_
        refine lv_iconst (v := 0) hx hb dX1_open_38 (by decide) ?_
        refine va_put (D := D) (ci := 1) (v := .int 0) (ty := .int) (C := RX1) (T := TX1) (N := 11) hx hb hts (by decide +kernel) tyX1 tyX1_ok nmX1 hown hK hP hD hS 0 rfl rfl 9 (by decide) (hts (.fieldLink RX1 63 "FadeLedgerModel" "turns" "I") (by decide +kernel)) (fun _ h9 => h9) rfl (by decide +kernel) rfl rfl (Nat.le_of_ble_eq_true rfl) dX1_open_39 (fun H locs hP hD hS => ?_)
        obtain ⟨s26, t26⟩ : ∃ y9 : RS, ((st.1, st.2.1, st.2.2.1, st.2.2.2.1, 0, st.2.2.2.2.2) : RS) = y9 := ⟨_, rfl⟩
        replace hP : va_P D vwCl (RWd g0 g1 g2 g3 g4 g5 g6 cA cB s26) H := by rw [← t26]; exact hP
        replace hD : va_D A (RWd g0 g1 g2 g3 g4 g5 g6 cA cB s26) := by rw [← t26]; exact hD
        have hL27 : r_plan s26 [] := by rw [← t26]; exact plan_zero _
        refine lv_aload_n hx hb dX1_open_42 rfl (lv_at hl 2 rfl) ?_
        refine lv_iconst (v := 0) hx hb dX1_open_43 (by decide) ?_
        refine lv_iconst (v := 0) hx hb dX1_open_44 (by decide) ?_
        refine lv_iload_n hx hb dX1_open_45 rfl (lv_at hl 3 rfl) ?_
        refine lv_lconst (v := 0) hx hb dX1_open_46 (by decide) ?_
        refine cM_this (Wd := RWd g0 g1 g2 g3 g4 g5 g6 cA cB) (ci := 1) (q0 := 0) (n := 4) (as := [.int 0, .int 0, .int a, .long 0]) (rest := []) ⟨hx, hb, hml, hown, hts⟩ (c_X1_turn l D g0 g1 g2 g3 g4 g5 g6 cA cB s26 0 0 a 0 (t_in hL27.1 (by simp only [List.length_append, List.length_nil, List.length_cons, pl_look, pl_put] <;> decide))) gX1_open_X1_turn rfl rfl rfl (by decide +kernel) ⟨Nat.le_of_ble_eq_true rfl, Nat.le_of_ble_eq_true rfl⟩ hK hP hD hS hA rfl rfl rfl hl.1 rfl rfl (Nat.le_of_ble_eq_true rfl) dX1_open_47 ⟨Nat.zero_le _, Nat.zero_le _⟩ (fun H locs hP hD hS => ?_)
        refine W.eq (g2 := F0 m 50 ls []) rfl ?_
        obtain ⟨s28, t28⟩ : ∃ y9 : RS, r_turn 0 0 a 0 s26 = y9 := ⟨_, rfl⟩
        replace hP : va_P D vwCl (RWd g0 g1 g2 g3 g4 g5 g6 cA cB s28) H := by rw [← t28]; exact hP
        replace hD : va_D A (RWd g0 g1 g2 g3 g4 g5 g6 cA cB s28) := by rw [← t28]; exact hD
        have hL29 : r_plan s28 ([] ++ [(0, r_place 0 a, 0)]) := by clear hP hD hS; subst t26; subst t28; exact plan_turn 0 0 a 0 hL27 (by simp only [List.length_append, List.length_nil, List.length_cons, pl_look, pl_put] <;> decide) in4_0 hc
        refine lv_iload hx hb dX1_open_50 (lv_at hl 0 rfl) ?_
        refine lv_if_eq (tgt := 68) hx hb dX1_open_52 (by decide) (fun c0 => absurd c0 (by decide)) (fun _ => ?_)
        refine lv_aload_n hx hb dX1_open_55 rfl (lv_at hl 2 rfl) ?_
        refine lv_iload_n hx hb dX1_open_56 rfl (lv_at hl 3 rfl) ?_
        refine lv_iload_n hx hb dX1_open_57 rfl (lv_at hl 4 rfl) ?_
        refine lv_iconst (v := 1) hx hb dX1_open_58 (by decide) ?_
        refine cS_call (n := 2) (as := [.int b, .int 1]) (rest := [.int a, .ref g0]) ⟨hx, hb, hml, hown, hts⟩ (c_X1_wordOf l b 1) gX1_open_X1_wordOf rfl rfl rfl (by decide +kernel) ⟨Nat.le_of_ble_eq_true rfl, Nat.le_of_ble_eq_true rfl⟩ hl.1 rfl rfl (Nat.le_of_ble_eq_true rfl) dX1_open_59 ⟨Nat.zero_le _, Nat.zero_le _⟩ ?_
        refine tpl (fun v30 e30 => ?_)
        refine cM_this (Wd := RWd g0 g1 g2 g3 g4 g5 g6 cA cB) (ci := 1) (q0 := 0) (n := 2) (as := [.int a, .long v30]) (rest := []) ⟨hx, hb, hml, hown, hts⟩ (c_X1_putAll l D g0 g1 g2 g3 g4 g5 g6 cA cB s28 a v30 _ hL29.1 (by simp only [List.length_append, List.length_nil, List.length_cons, pl_look, pl_put] <;> decide)) gX1_open_X1_putAll rfl rfl rfl (by decide +kernel) ⟨Nat.le_of_ble_eq_true rfl, Nat.le_of_ble_eq_true rfl⟩ hK hP hD hS hA rfl rfl rfl hl.1 rfl rfl (Nat.le_of_ble_eq_true rfl) dX1_open_62 ⟨Nat.zero_le _, Nat.zero_le _⟩ (fun H locs hP hD hS => ?_)
        refine W.eq (g2 := F0 m 65 ls []) rfl ?_
        obtain ⟨s31, t31⟩ : ∃ y9 : RS, r_put a v30 s28 = y9 := ⟨_, rfl⟩
        replace hP : va_P D vwCl (RWd g0 g1 g2 g3 g4 g5 g6 cA cB s31) H := by rw [← t31]; exact hP
        replace hD : va_D A (RWd g0 g1 g2 g3 g4 g5 g6 cA cB s31) := by rw [← t31]; exact hD
        have hL32 : r_plan s31 ([] ++ [(0, r_place 0 a, 0)] ++ p_put a v30) := by clear hP hD hS; subst t26; subst t28; subst t31; exact plan_put a v30 hL29 (by simp only [List.length_append, List.length_nil, List.length_cons, pl_look, pl_put] <;> decide) hc
        refine lv_goto (tgt := 76) hx hb dX1_open_65 (by decide) ?_
        refine lv_aload_n hx hb dX1_open_76 rfl (lv_at hl 2 rfl) ?_
        refine cM_this (Wd := RWd g0 g1 g2 g3 g4 g5 g6 cA cB) (ci := 1) (q0 := 0) (n := 0) (as := []) (rest := []) ⟨hx, hb, hml, hown, hts⟩ (c_X1_works l D g0 g1 g2 g3 g4 g5 g6 cA cB s31 ([] ++ [(0, r_place 0 a, 0)] ++ p_put a v30) hL32) gX1_open_X1_works rfl rfl rfl (by decide +kernel) ⟨Nat.le_of_ble_eq_true rfl, Nat.le_of_ble_eq_true rfl⟩ hK hP hD hS hA rfl rfl rfl hl.1 rfl rfl (Nat.le_of_ble_eq_true rfl) dX1_open_77 ⟨Nat.zero_le _, Nat.zero_le _⟩ (fun H locs hP hD hS => ?_)
        obtain ⟨s33, t33⟩ : ∃ y9 : RS, (r_wk ([] ++ [(0, r_place 0 a, 0)] ++ p_put a v30) s31).2 = y9 := ⟨_, rfl⟩
        replace hP : va_P D vwCl (RWd g0 g1 g2 g3 g4 g5 g6 cA cB s33) H := by rw [← t33]; exact hP
        replace hD : va_D A (RWd g0 g1 g2 g3 g4 g5 g6 cA cB s33) := by rw [← t33]; exact hD
        refine tpi (fun v34 e34 => ?_)
        refine lv_if_ne (tgt := 88) hx hb dX1_open_80 (by decide) (fun c35 => ?_) (fun c35 => ?_)
        · refine lv_iload hx hb dX1_open_88 (lv_at hl 0 rfl) ?_
          refine lv_if_eq (tgt := 97) hx hb dX1_open_90 (by decide) (fun c0 => absurd c0 (by decide)) (fun _ => ?_)
          refine lv_iconst (v := 1) hx hb dX1_open_93 (by decide) ?_
          refine lv_goto (tgt := 98) hx hb dX1_open_94 (by decide) ?_
          have fin : r_open a b st = (1, s33) := by
            clear hP hD hS; subst e1; subst e3; subst e4; subst e15; subst t26; subst t28; subst e30; subst t31; subst t33; subst e34; simp only [r_open, g_fresh, r_end, r_zero, bI, c2, c5, c16, c35, ↓reduceIte, not_true_eq_false, not_false_eq_true, and_self, and_true, true_and, and_false, false_and, eq_self, i10]
          exact cM_reti (Wd := RWd g0 g1 g2 g3 g4 g5 g6 cA cB) (st := s33) (st' := (r_open a b st).2) hx hb hr hlocks dX1_open_98 hS hP hD (congrArg Prod.fst fin).symm (congrArg Prod.snd fin).symm
        · refine lv_bipush (v := (-2)) hx hb dX1_open_83 (by decide) ?_
          refine lv_goto (tgt := 98) hx hb dX1_open_85 (by decide) ?_
          have fin : r_open a b st = ((-2), s33) := by
            clear hP hD hS; subst e1; subst e3; subst e4; subst e15; subst t26; subst t28; subst e30; subst t31; subst t33; subst e34; simp only [r_open, g_fresh, r_end, r_zero, bI, c2, c5, c16, c35, ↓reduceIte, not_true_eq_false, not_false_eq_true, and_self, and_true, true_and, and_false, false_and, eq_self, i10]
          exact cM_reti (Wd := RWd g0 g1 g2 g3 g4 g5 g6 cA cB) (st := s33) (st' := (r_open a b st).2) hx hb hr hlocks dX1_open_98 hS hP hD (congrArg Prod.fst fin).symm (congrArg Prod.snd fin).symm
  · refine lv_iconst (v := (-1)) hx hb dX1_open_7 (by decide) ?_
    have fin : r_open a b st = ((-1), st) := by
      clear hP hD hS; subst e1; simp only [r_open, g_fresh, r_end, r_zero, bI, c2, ↓reduceIte, not_true_eq_false, not_false_eq_true, and_self, and_true, true_and, and_false, false_and, eq_self, i10]
    exact cM_reti (Wd := RWd g0 g1 g2 g3 g4 g5 g6 cA cB) (st := st) (st' := (r_open a b st).2) hx hb hr hlocks dX1_open_8 hS hP hD (congrArg Prod.fst fin).symm (congrArg Prod.snd fin).symm
abbrev rmX1_balance : Room := { frames := 2, cells := 0, slots := 0, locals := 46 }
-- balance
set_option maxHeartbeats 400000 in
set_option maxRecDepth 100000 in
theorem c_X1_balance (l : Launch) (D : va_G) (g0 g1 g2 g3 g4 g5 g6 : Nat) (cA cB : ClassId) (st : RS) (a : Int32)  : cM l D vwCl (FT cA cB) (RWd g0 g1 g2 g3 g4 g5 g6 cA cB) yX1_balance wsX1_balance rmX1_balance [.ref g0, .int a] st (some (.long (r_balance a st).1)) (r_balance a st).2 := by
  refine cM_in (cc := cX1_balance) (maxL := 4) (ret := (some .long)) (by decide) rfl (Nat.le_of_ble_eq_true rfl) ?_
  intro p e s m below meth c ls A hx hb hr hlocks hml hown hts hA hK hP hD hS hl
  have hown : s.vm.findClass RX1 = some m.cls := hown
  have hl : lv_has ls 4 [(0, .ref g0), (1, .int a)] := hl
  -- walk
  refine lv_iload_n hx hb dX1_balance_0 rfl (lv_at hl 1 rfl) ?_
  refine cS_call (n := 1) (as := [.int a]) (rest := []) ⟨hx, hb, hml, hown, hts⟩ (c_X1_isAccount l a) gX1_balance_X1_isAccount rfl rfl rfl (by decide +kernel) ⟨Nat.le_of_ble_eq_true rfl, Nat.le_of_ble_eq_true rfl⟩ hl.1 rfl rfl (Nat.le_of_ble_eq_true rfl) dX1_balance_1 ⟨Nat.zero_le _, Nat.zero_le _⟩ ?_
  refine tpi (fun v1 e1 => ?_)
  refine lv_if_ne (tgt := 11) hx hb dX1_balance_4 (by decide) (fun c2 => ?_) (fun c2 => ?_)
  · have hc : vp_in a 20 := acct_in20 (by rw [e1]; exact c2)
    refine lv_aload_n hx hb dX1_balance_11 rfl (lv_at hl 0 rfl) ?_
    refine va_get (D := D) (ci := 1) (v := .ref g1) (C := RX1) (T := TX1) (N := 11) hx hb hts (by decide +kernel) hown hK hP 0 rfl rfl 0 (by decide) (hts (.fieldLink RX1 7 "FadeLedgerModel" "words" "[J") (by decide +kernel)) (fun _ h9 => h9) rfl dX1_balance_12 ?_
    refine lv_iload_n hx hb dX1_balance_15 rfl (lv_at hl 1 rfl) ?_
    refine va_lald hx hb hK hP 1 0 rfl rfl (in_up hc (by decide)) dX1_balance_16 ?_
    refine tpl (fun v3 e3 => ?_)
    refine lv_lstore_n (lv' := [(2, .long v3), (0, .ref g0), (1, .int a)]) hx hb dX1_balance_17 rfl hl (by decide) rfl (fun ls hl => ?_)
    refine lv_aload_n hx hb dX1_balance_18 rfl (lv_at hl 1 rfl) ?_
    refine lv_iconst (v := 0) hx hb dX1_balance_19 (by decide) ?_
    refine va_put (D := D) (ci := 1) (v := .int 0) (ty := .int) (C := RX1) (T := TX1) (N := 11) hx hb hts (by decide +kernel) tyX1 tyX1_ok nmX1 hown hK hP hD hS 0 rfl rfl 9 (by decide) (hts (.fieldLink RX1 63 "FadeLedgerModel" "turns" "I") (by decide +kernel)) (fun _ h9 => h9) rfl (by decide +kernel) rfl rfl (Nat.le_of_ble_eq_true rfl) dX1_balance_20 (fun H locs hP hD hS => ?_)
    obtain ⟨s4, t4⟩ : ∃ y9 : RS, ((st.1, st.2.1, st.2.2.1, st.2.2.2.1, 0, st.2.2.2.2.2) : RS) = y9 := ⟨_, rfl⟩
    replace hP : va_P D vwCl (RWd g0 g1 g2 g3 g4 g5 g6 cA cB s4) H := by rw [← t4]; exact hP
    replace hD : va_D A (RWd g0 g1 g2 g3 g4 g5 g6 cA cB s4) := by rw [← t4]; exact hD
    have hL5 : r_plan s4 [] := by rw [← t4]; exact plan_zero _
    refine lv_aload_n hx hb dX1_balance_23 rfl (lv_at hl 1 rfl) ?_
    refine lv_iload_n hx hb dX1_balance_24 rfl (lv_at hl 2 rfl) ?_
    refine cM_this (Wd := RWd g0 g1 g2 g3 g4 g5 g6 cA cB) (ci := 1) (q0 := 0) (n := 1) (as := [.int a]) (rest := []) ⟨hx, hb, hml, hown, hts⟩ (c_X1_look l D g0 g1 g2 g3 g4 g5 g6 cA cB s4 a hc _ hL5.1 (by simp only [List.length_append, List.length_nil, List.length_cons, pl_look, pl_put] <;> decide)) gX1_balance_X1_look rfl rfl rfl (by decide +kernel) ⟨Nat.le_of_ble_eq_true rfl, Nat.le_of_ble_eq_true rfl⟩ hK hP hD hS hA rfl rfl rfl hl.1 rfl rfl (Nat.le_of_ble_eq_true rfl) dX1_balance_25 ⟨Nat.zero_le _, Nat.zero_le _⟩ (fun H locs hP hD hS => ?_)
    refine W.eq (g2 := F0 m 28 ls []) rfl ?_
    obtain ⟨s6, t6⟩ : ∃ y9 : RS, r_look a s4 = y9 := ⟨_, rfl⟩
    replace hP : va_P D vwCl (RWd g0 g1 g2 g3 g4 g5 g6 cA cB s6) H := by rw [← t6]; exact hP
    replace hD : va_D A (RWd g0 g1 g2 g3 g4 g5 g6 cA cB s6) := by rw [← t6]; exact hD
    have hL7 : r_plan s6 ([] ++ p_look a (st.1.1 a.toNatClampNeg)) := by clear hP hD hS; subst t4; subst t6; exact plan_look a hL5 (by simp only [List.length_append, List.length_nil, List.length_cons, pl_look, pl_put] <;> decide) hc
    refine lv_aload_n hx hb dX1_balance_28 rfl (lv_at hl 1 rfl) ?_
    refine cM_this (Wd := RWd g0 g1 g2 g3 g4 g5 g6 cA cB) (ci := 1) (q0 := 0) (n := 0) (as := []) (rest := []) ⟨hx, hb, hml, hown, hts⟩ (c_X1_works l D g0 g1 g2 g3 g4 g5 g6 cA cB s6 ([] ++ p_look a (st.1.1 a.toNatClampNeg)) hL7) gX1_balance_X1_works rfl rfl rfl (by decide +kernel) ⟨Nat.le_of_ble_eq_true rfl, Nat.le_of_ble_eq_true rfl⟩ hK hP hD hS hA rfl rfl rfl hl.1 rfl rfl (Nat.le_of_ble_eq_true rfl) dX1_balance_29 ⟨Nat.zero_le _, Nat.zero_le _⟩ (fun H locs hP hD hS => ?_)
    obtain ⟨s8, t8⟩ : ∃ y9 : RS, (r_wk ([] ++ p_look a (st.1.1 a.toNatClampNeg)) s6).2 = y9 := ⟨_, rfl⟩
    replace hP : va_P D vwCl (RWd g0 g1 g2 g3 g4 g5 g6 cA cB s8) H := by rw [← t8]; exact hP
    replace hD : va_D A (RWd g0 g1 g2 g3 g4 g5 g6 cA cB s8) := by rw [← t8]; exact hD
    refine tpi (fun v9 e9 => ?_)
    refine lv_if_ne (tgt := 39) hx hb dX1_balance_32 (by decide) (fun c10 => ?_) (fun c10 => ?_)
    · refine lv_lload_n hx hb dX1_balance_39 rfl (lv_at hl 0 rfl) ?_
      refine cS_call (n := 1) (as := [.long v3]) (rest := []) ⟨hx, hb, hml, hown, hts⟩ (c_X1_isValid l v3) gX1_balance_X1_isValid rfl rfl rfl (by decide +kernel) ⟨Nat.le_of_ble_eq_true rfl, Nat.le_of_ble_eq_true rfl⟩ hl.1 rfl rfl (Nat.le_of_ble_eq_true rfl) dX1_balance_40 ⟨Nat.zero_le _, Nat.zero_le _⟩ ?_
      refine tpi (fun v11 e11 => ?_)
      refine lv_if_ne (tgt := 52) hx hb dX1_balance_43 (by decide) (fun c12 => ?_) (fun c12 => ?_)
      · refine lv_lload_n hx hb dX1_balance_52 rfl (lv_at hl 0 rfl) ?_
        refine cS_call (n := 1) (as := [.long v3]) (rest := []) ⟨hx, hb, hml, hown, hts⟩ (c_X1_numberOf l v3) gX1_balance_X1_numberOf rfl rfl rfl (by decide +kernel) ⟨Nat.le_of_ble_eq_true rfl, Nat.le_of_ble_eq_true rfl⟩ hl.1 rfl rfl (Nat.le_of_ble_eq_true rfl) dX1_balance_53 ⟨Nat.zero_le _, Nat.zero_le _⟩ ?_
        refine tpi (fun v13 e13 => ?_)
        refine lv_if_ne (tgt := 65) hx hb dX1_balance_56 (by decide) (fun c14 => ?_) (fun c14 => ?_)
        · refine lv_lload_n hx hb dX1_balance_65 rfl (lv_at hl 0 rfl) ?_
          refine cS_call (n := 1) (as := [.long v3]) (rest := []) ⟨hx, hb, hml, hown, hts⟩ (c_X1_balanceOf l v3) gX1_balance_X1_balanceOf rfl rfl rfl (by decide +kernel) ⟨Nat.le_of_ble_eq_true rfl, Nat.le_of_ble_eq_true rfl⟩ hl.1 rfl rfl (Nat.le_of_ble_eq_true rfl) dX1_balance_66 ⟨Nat.zero_le _, Nat.zero_le _⟩ ?_
          refine tpi (fun v15 e15 => ?_)
          refine lv_i2l hx hb dX1_balance_69 rfl ?_
          refine tpl (fun v16 e16 => ?_)
          have fin : r_balance a st = (v16, s8) := by
            clear hP hD hS; subst e1; subst e3; subst t4; subst t6; subst t8; subst e9; subst e11; subst e13; subst e15; subst e16; simp only [r_balance, r_zero, c2, c10, c12, c14, ↓reduceIte, not_true_eq_false, not_false_eq_true, and_self, and_true, true_and, and_false, false_and, eq_self, i10]
          exact cM_retl (Wd := RWd g0 g1 g2 g3 g4 g5 g6 cA cB) (st := s8) (st' := (r_balance a st).2) hx hb hr hlocks dX1_balance_70 hS hP hD (congrArg Prod.fst fin).symm (congrArg Prod.snd fin).symm
        · refine lv_ldc2 (v := 1099511627776) hx hb hown (hts (.constantLong RX1 98 1099511627776) (by decide +kernel)) dX1_balance_59 ?_
          refine lv_goto (tgt := 70) hx hb dX1_balance_62 (by decide) ?_
          have fin : r_balance a st = (1099511627776, s8) := by
            clear hP hD hS; subst e1; subst e3; subst t4; subst t6; subst t8; subst e9; subst e11; subst e13; simp only [r_balance, r_zero, c2, c10, c12, c14, ↓reduceIte, not_true_eq_false, not_false_eq_true, and_self, and_true, true_and, and_false, false_and, eq_self, i10]
          exact cM_retl (Wd := RWd g0 g1 g2 g3 g4 g5 g6 cA cB) (st := s8) (st' := (r_balance a st).2) hx hb hr hlocks dX1_balance_70 hS hP hD (congrArg Prod.fst fin).symm (congrArg Prod.snd fin).symm
      · refine lv_ldc2 (v := 2199023255552) hx hb hown (hts (.constantLong RX1 96 2199023255552) (by decide +kernel)) dX1_balance_46 ?_
        refine lv_goto (tgt := 70) hx hb dX1_balance_49 (by decide) ?_
        have fin : r_balance a st = (2199023255552, s8) := by
          clear hP hD hS; subst e1; subst e3; subst t4; subst t6; subst t8; subst e9; subst e11; simp only [r_balance, r_zero, c2, c10, c12, ↓reduceIte, not_true_eq_false, not_false_eq_true, and_self, and_true, true_and, and_false, false_and, eq_self, i10]
        exact cM_retl (Wd := RWd g0 g1 g2 g3 g4 g5 g6 cA cB) (st := s8) (st' := (r_balance a st).2) hx hb hr hlocks dX1_balance_70 hS hP hD (congrArg Prod.fst fin).symm (congrArg Prod.snd fin).symm
    · refine lv_ldc2 (v := 4398046511104) hx hb hown (hts (.constantLong RX1 94 4398046511104) (by decide +kernel)) dX1_balance_35 ?_
      have fin : r_balance a st = (4398046511104, s8) := by
        clear hP hD hS; subst e1; subst e3; subst t4; subst t6; subst t8; subst e9; simp only [r_balance, r_zero, c2, c10, ↓reduceIte, not_true_eq_false, not_false_eq_true, and_self, and_true, true_and, and_false, false_and, eq_self, i10]
      exact cM_retl (Wd := RWd g0 g1 g2 g3 g4 g5 g6 cA cB) (st := s8) (st' := (r_balance a st).2) hx hb hr hlocks dX1_balance_38 hS hP hD (congrArg Prod.fst fin).symm (congrArg Prod.snd fin).symm
  · refine lv_ldc2 (v := 8796093022208) hx hb hown (hts (.constantLong RX1 88 8796093022208) (by decide +kernel)) dX1_balance_7 ?_
    have fin : r_balance a st = (8796093022208, st) := by
      clear hP hD hS; subst e1; simp only [r_balance, r_zero, c2, ↓reduceIte, not_true_eq_false, not_false_eq_true, and_self, and_true, true_and, and_false, false_and, eq_self, i10]
    exact cM_retl (Wd := RWd g0 g1 g2 g3 g4 g5 g6 cA cB) (st := st) (st' := (r_balance a st).2) hx hb hr hlocks dX1_balance_10 hS hP hD (congrArg Prod.fst fin).symm (congrArg Prod.snd fin).symm
abbrev rmX1_post : Room := { frames := 3, cells := 0, slots := 0, locals := 66 }
-- post
set_option maxHeartbeats 400000 in
set_option maxRecDepth 100000 in
theorem c_X1_post (l : Launch) (D : va_G) (g0 g1 g2 g3 g4 g5 g6 : Nat) (cA cB : ClassId) (st : RS) (a : Int32) (k : Int32)  : cM l D vwCl (FT cA cB) (RWd g0 g1 g2 g3 g4 g5 g6 cA cB) yX1_post wsX1_post rmX1_post [.ref g0, .int a, .int k] st (some (.int (r_post a k st).1)) (r_post a k st).2 := by
  refine cM_in (cc := cX1_post) (maxL := 8) (ret := (some .int)) (by decide) rfl (Nat.le_of_ble_eq_true rfl) ?_
  intro p e s m below meth c ls A hx hb hr hlocks hml hown hts hA hK hP hD hS hl
  have hown : s.vm.findClass RX1 = some m.cls := hown
  have hl : lv_has ls 8 [(0, .ref g0), (1, .int a), (2, .int k)] := hl
  -- walk
  refine lv_iload_n hx hb dX1_post_0 rfl (lv_at hl 1 rfl) ?_
  refine cS_call (n := 1) (as := [.int a]) (rest := []) ⟨hx, hb, hml, hown, hts⟩ (c_X1_isAccount l a) gX1_post_X1_isAccount rfl rfl rfl (by decide +kernel) ⟨Nat.le_of_ble_eq_true rfl, Nat.le_of_ble_eq_true rfl⟩ hl.1 rfl rfl (Nat.le_of_ble_eq_true rfl) dX1_post_1 ⟨Nat.zero_le _, Nat.zero_le _⟩ ?_
  refine tpi (fun v1 e1 => ?_)
  refine lv_if_ne (tgt := 9) hx hb dX1_post_4 (by decide) (fun c2 => ?_) (fun c2 => ?_)
  · have hc : vp_in a 20 := acct_in20 (by rw [e1]; exact c2)
    refine lv_aload_n hx hb dX1_post_9 rfl (lv_at hl 0 rfl) ?_
    refine va_get (D := D) (ci := 1) (v := .ref g1) (C := RX1) (T := TX1) (N := 11) hx hb hts (by decide +kernel) hown hK hP 0 rfl rfl 0 (by decide) (hts (.fieldLink RX1 7 "FadeLedgerModel" "words" "[J") (by decide +kernel)) (fun _ h9 => h9) rfl dX1_post_10 ?_
    refine lv_iload_n hx hb dX1_post_13 rfl (lv_at hl 1 rfl) ?_
    refine va_lald hx hb hK hP 1 0 rfl rfl (in_up hc (by decide)) dX1_post_14 ?_
    refine tpl (fun v3 e3 => ?_)
    refine lv_lstore_n (lv' := [(3, .long v3), (0, .ref g0), (1, .int a), (2, .int k)]) hx hb dX1_post_15 rfl hl (by decide) rfl (fun ls hl => ?_)
    refine lv_lload_n hx hb dX1_post_16 rfl (lv_at hl 0 rfl) ?_
    refine cS_call (n := 1) (as := [.long v3]) (rest := []) ⟨hx, hb, hml, hown, hts⟩ (c_X1_balanceOf l v3) gX1_post_X1_balanceOf rfl rfl rfl (by decide +kernel) ⟨Nat.le_of_ble_eq_true rfl, Nat.le_of_ble_eq_true rfl⟩ hl.1 rfl rfl (Nat.le_of_ble_eq_true rfl) dX1_post_17 ⟨Nat.zero_le _, Nat.zero_le _⟩ ?_
    refine tpi (fun v4 e4 => ?_)
    refine lv_i2l hx hb dX1_post_20 rfl ?_
    refine tpl (fun v5 e5 => ?_)
    refine lv_iload_n hx hb dX1_post_21 rfl (lv_at hl 3 rfl) ?_
    refine lv_i2l hx hb dX1_post_22 rfl ?_
    refine tpl (fun v6 e6 => ?_)
    refine lv_ladd hx hb dX1_post_23 ?_
    refine tpl (fun v7 e7 => ?_)
    refine lv_lstore (lv' := [(5, .long v7), (3, .long v3), (0, .ref g0), (1, .int a), (2, .int k)]) hx hb dX1_post_24 hl (by decide) rfl (fun ls hl => ?_)
    refine lv_lload_n hx hb dX1_post_26 rfl (lv_at hl 1 rfl) ?_
    refine cS_call (n := 1) (as := [.long v3]) (rest := []) ⟨hx, hb, hml, hown, hts⟩ (c_X1_isOpen l v3) gX1_post_X1_isOpen rfl rfl rfl (by decide +kernel) ⟨Nat.le_of_ble_eq_true rfl, Nat.le_of_ble_eq_true rfl⟩ hl.1 rfl rfl (Nat.le_of_ble_eq_true rfl) dX1_post_27 ⟨Nat.zero_le _, Nat.zero_le _⟩ ?_
    refine tpi (fun v8 e8 => ?_)
    refine lv_if_eq (tgt := 54) hx hb dX1_post_30 (by decide) (fun c9 => ?_) (fun c9 => ?_)
    · refine lv_iconst (v := 0) hx hb dX1_post_54 (by decide) ?_
      refine lv_istore (lv' := [(7, .int 0), (5, .long v7), (3, .long v3), (0, .ref g0), (1, .int a), (2, .int k)]) hx hb dX1_post_55 hl (by decide) rfl (fun ls hl => ?_)
      refine lv_aload_n hx hb dX1_post_57 rfl (lv_at hl 3 rfl) ?_
      refine lv_iconst (v := 0) hx hb dX1_post_58 (by decide) ?_
      refine va_put (D := D) (ci := 1) (v := .int 0) (ty := .int) (C := RX1) (T := TX1) (N := 11) hx hb hts (by decide +kernel) tyX1 tyX1_ok nmX1 hown hK hP hD hS 0 rfl rfl 9 (by decide) (hts (.fieldLink RX1 63 "FadeLedgerModel" "turns" "I") (by decide +kernel)) (fun _ h9 => h9) rfl (by decide +kernel) rfl rfl (Nat.le_of_ble_eq_true rfl) dX1_post_59 (fun H locs hP hD hS => ?_)
      obtain ⟨s10, t10⟩ : ∃ y9 : RS, ((st.1, st.2.1, st.2.2.1, st.2.2.2.1, 0, st.2.2.2.2.2) : RS) = y9 := ⟨_, rfl⟩
      replace hP : va_P D vwCl (RWd g0 g1 g2 g3 g4 g5 g6 cA cB s10) H := by rw [← t10]; exact hP
      replace hD : va_D A (RWd g0 g1 g2 g3 g4 g5 g6 cA cB s10) := by rw [← t10]; exact hD
      have hL11 : r_plan s10 [] := by rw [← t10]; exact plan_zero _
      refine lv_aload_n hx hb dX1_post_62 rfl (lv_at hl 3 rfl) ?_
      refine lv_iconst (v := 0) hx hb dX1_post_63 (by decide) ?_
      refine lv_iconst (v := 0) hx hb dX1_post_64 (by decide) ?_
      refine lv_iload_n hx hb dX1_post_65 rfl (lv_at hl 4 rfl) ?_
      refine lv_lconst (v := 0) hx hb dX1_post_66 (by decide) ?_
      refine cM_this (Wd := RWd g0 g1 g2 g3 g4 g5 g6 cA cB) (ci := 1) (q0 := 0) (n := 4) (as := [.int 0, .int 0, .int a, .long 0]) (rest := []) ⟨hx, hb, hml, hown, hts⟩ (c_X1_turn l D g0 g1 g2 g3 g4 g5 g6 cA cB s10 0 0 a 0 (t_in hL11.1 (by simp only [List.length_append, List.length_nil, List.length_cons, pl_look, pl_put] <;> decide))) gX1_post_X1_turn rfl rfl rfl (by decide +kernel) ⟨Nat.le_of_ble_eq_true rfl, Nat.le_of_ble_eq_true rfl⟩ hK hP hD hS hA rfl rfl rfl hl.1 rfl rfl (Nat.le_of_ble_eq_true rfl) dX1_post_67 ⟨Nat.zero_le _, Nat.zero_le _⟩ (fun H locs hP hD hS => ?_)
      refine W.eq (g2 := F0 m 70 ls []) rfl ?_
      obtain ⟨s12, t12⟩ : ∃ y9 : RS, r_turn 0 0 a 0 s10 = y9 := ⟨_, rfl⟩
      replace hP : va_P D vwCl (RWd g0 g1 g2 g3 g4 g5 g6 cA cB s12) H := by rw [← t12]; exact hP
      replace hD : va_D A (RWd g0 g1 g2 g3 g4 g5 g6 cA cB s12) := by rw [← t12]; exact hD
      have hL13 : r_plan s12 ([] ++ [(0, r_place 0 a, 0)]) := by clear hP hD hS; subst t10; subst t12; exact plan_turn 0 0 a 0 hL11 (by simp only [List.length_append, List.length_nil, List.length_cons, pl_look, pl_put] <;> decide) in4_0 hc
      refine lv_iload hx hb dX1_post_70 (lv_at hl 0 rfl) ?_
      refine lv_if_eq (tgt := 95) hx hb dX1_post_72 (by decide) (fun _ => ?_) (fun c0 => absurd c0 (by decide))
      refine lv_aload_n hx hb dX1_post_95 rfl (lv_at hl 3 rfl) ?_
      refine lv_iconst (v := 1) hx hb dX1_post_96 (by decide) ?_
      refine lv_iconst (v := 0) hx hb dX1_post_97 (by decide) ?_
      refine lv_iload_n hx hb dX1_post_98 rfl (lv_at hl 4 rfl) ?_
      refine lv_lload_n hx hb dX1_post_99 rfl (lv_at hl 2 rfl) ?_
      refine cM_this (Wd := RWd g0 g1 g2 g3 g4 g5 g6 cA cB) (ci := 1) (q0 := 0) (n := 4) (as := [.int 1, .int 0, .int a, .long v3]) (rest := []) ⟨hx, hb, hml, hown, hts⟩ (c_X1_turn l D g0 g1 g2 g3 g4 g5 g6 cA cB s12 1 0 a v3 (t_in hL13.1 (by simp only [List.length_append, List.length_nil, List.length_cons, pl_look, pl_put] <;> decide))) gX1_post_X1_turn rfl rfl rfl (by decide +kernel) ⟨Nat.le_of_ble_eq_true rfl, Nat.le_of_ble_eq_true rfl⟩ hK hP hD hS hA rfl rfl rfl hl.1 rfl rfl (Nat.le_of_ble_eq_true rfl) dX1_post_100 ⟨Nat.zero_le _, Nat.zero_le _⟩ (fun H locs hP hD hS => ?_)
      refine W.eq (g2 := F0 m 103 ls []) rfl ?_
      obtain ⟨s14, t14⟩ : ∃ y9 : RS, r_turn 1 0 a v3 s12 = y9 := ⟨_, rfl⟩
      replace hP : va_P D vwCl (RWd g0 g1 g2 g3 g4 g5 g6 cA cB s14) H := by rw [← t14]; exact hP
      replace hD : va_D A (RWd g0 g1 g2 g3 g4 g5 g6 cA cB s14) := by rw [← t14]; exact hD
      have hL15 : r_plan s14 ([] ++ [(0, r_place 0 a, 0)] ++ [(1, r_place 0 a, v3)]) := by clear hP hD hS; subst t10; subst t12; subst t14; exact plan_turn 1 0 a v3 hL13 (by simp only [List.length_append, List.length_nil, List.length_cons, pl_look, pl_put] <;> decide) in4_0 hc
      refine lv_aload_n hx hb dX1_post_103 rfl (lv_at hl 3 rfl) ?_
      refine cM_this (Wd := RWd g0 g1 g2 g3 g4 g5 g6 cA cB) (ci := 1) (q0 := 0) (n := 0) (as := []) (rest := []) ⟨hx, hb, hml, hown, hts⟩ (c_X1_works l D g0 g1 g2 g3 g4 g5 g6 cA cB s14 ([] ++ [(0, r_place 0 a, 0)] ++ [(1, r_place 0 a, v3)]) hL15) gX1_post_X1_works rfl rfl rfl (by decide +kernel) ⟨Nat.le_of_ble_eq_true rfl, Nat.le_of_ble_eq_true rfl⟩ hK hP hD hS hA rfl rfl rfl hl.1 rfl rfl (Nat.le_of_ble_eq_true rfl) dX1_post_104 ⟨Nat.zero_le _, Nat.zero_le _⟩ (fun H locs hP hD hS => ?_)
      obtain ⟨s16, t16⟩ : ∃ y9 : RS, (r_wk ([] ++ [(0, r_place 0 a, 0)] ++ [(1, r_place 0 a, v3)]) s14).2 = y9 := ⟨_, rfl⟩
      replace hP : va_P D vwCl (RWd g0 g1 g2 g3 g4 g5 g6 cA cB s16) H := by rw [← t16]; exact hP
      replace hD : va_D A (RWd g0 g1 g2 g3 g4 g5 g6 cA cB s16) := by rw [← t16]; exact hD
      refine tpi (fun v17 e17 => ?_)
      refine lv_if_ne (tgt := 115) hx hb dX1_post_107 (by decide) (fun c18 => ?_) (fun c18 => ?_)
      · refine lv_iload hx hb dX1_post_115 (lv_at hl 0 rfl) ?_
        refine lv_if_eq (tgt := 124) hx hb dX1_post_117 (by decide) (fun _ => ?_) (fun c0 => absurd c0 (by decide))
        refine lv_iconst (v := (-1)) hx hb dX1_post_124 (by decide) ?_
        have fin : r_post a k st = ((-1), s16) := by
          clear hP hD hS; subst e1; subst e3; subst e4; subst e5; subst e6; subst e7; subst e8; subst t10; subst t12; subst t14; subst t16; subst e17; simp only [r_post, r_postB, r_postAcc, r_end, r_zero, bI, c2, c9, c18, ↓reduceIte, not_true_eq_false, not_false_eq_true, and_self, and_true, true_and, and_false, false_and, eq_self, i10]
        exact cM_reti (Wd := RWd g0 g1 g2 g3 g4 g5 g6 cA cB) (st := s16) (st' := (r_post a k st).2) hx hb hr hlocks dX1_post_125 hS hP hD (congrArg Prod.fst fin).symm (congrArg Prod.snd fin).symm
      · refine lv_bipush (v := (-2)) hx hb dX1_post_110 (by decide) ?_
        refine lv_goto (tgt := 125) hx hb dX1_post_112 (by decide) ?_
        have fin : r_post a k st = ((-2), s16) := by
          clear hP hD hS; subst e1; subst e3; subst e4; subst e5; subst e6; subst e7; subst e8; subst t10; subst t12; subst t14; subst t16; subst e17; simp only [r_post, r_postB, r_postAcc, r_end, r_zero, bI, c2, c9, c18, ↓reduceIte, not_true_eq_false, not_false_eq_true, and_self, and_true, true_and, and_false, false_and, eq_self, i10]
        exact cM_reti (Wd := RWd g0 g1 g2 g3 g4 g5 g6 cA cB) (st := s16) (st' := (r_post a k st).2) hx hb hr hlocks dX1_post_125 hS hP hD (congrArg Prod.fst fin).symm (congrArg Prod.snd fin).symm
    · refine lv_lload_n hx hb dX1_post_33 rfl (lv_at hl 1 rfl) ?_
      refine cS_call (n := 1) (as := [.long v3]) (rest := []) ⟨hx, hb, hml, hown, hts⟩ (c_X1_numberOf l v3) gX1_post_X1_numberOf rfl rfl rfl (by decide +kernel) ⟨Nat.le_of_ble_eq_true rfl, Nat.le_of_ble_eq_true rfl⟩ hl.1 rfl rfl (Nat.le_of_ble_eq_true rfl) dX1_post_34 ⟨Nat.zero_le _, Nat.zero_le _⟩ ?_
      refine tpi (fun v19 e19 => ?_)
      refine lv_ldc (v := 16777215) hx hb hown (hts (.constant RX1 106 16777215) (by decide +kernel)) dX1_post_37 ?_
      refine lv_icmp_ge (tgt := 54) hx hb dX1_post_39 (by decide) (fun c20 => ?_) (fun c20 => ?_)
      · refine lv_iconst (v := 0) hx hb dX1_post_54 (by decide) ?_
        refine lv_istore (lv' := [(7, .int 0), (5, .long v7), (3, .long v3), (0, .ref g0), (1, .int a), (2, .int k)]) hx hb dX1_post_55 hl (by decide) rfl (fun ls hl => ?_)
        refine lv_aload_n hx hb dX1_post_57 rfl (lv_at hl 3 rfl) ?_
        refine lv_iconst (v := 0) hx hb dX1_post_58 (by decide) ?_
        refine va_put (D := D) (ci := 1) (v := .int 0) (ty := .int) (C := RX1) (T := TX1) (N := 11) hx hb hts (by decide +kernel) tyX1 tyX1_ok nmX1 hown hK hP hD hS 0 rfl rfl 9 (by decide) (hts (.fieldLink RX1 63 "FadeLedgerModel" "turns" "I") (by decide +kernel)) (fun _ h9 => h9) rfl (by decide +kernel) rfl rfl (Nat.le_of_ble_eq_true rfl) dX1_post_59 (fun H locs hP hD hS => ?_)
        obtain ⟨s21, t21⟩ : ∃ y9 : RS, ((st.1, st.2.1, st.2.2.1, st.2.2.2.1, 0, st.2.2.2.2.2) : RS) = y9 := ⟨_, rfl⟩
        replace hP : va_P D vwCl (RWd g0 g1 g2 g3 g4 g5 g6 cA cB s21) H := by rw [← t21]; exact hP
        replace hD : va_D A (RWd g0 g1 g2 g3 g4 g5 g6 cA cB s21) := by rw [← t21]; exact hD
        have hL22 : r_plan s21 [] := by rw [← t21]; exact plan_zero _
        refine lv_aload_n hx hb dX1_post_62 rfl (lv_at hl 3 rfl) ?_
        refine lv_iconst (v := 0) hx hb dX1_post_63 (by decide) ?_
        refine lv_iconst (v := 0) hx hb dX1_post_64 (by decide) ?_
        refine lv_iload_n hx hb dX1_post_65 rfl (lv_at hl 4 rfl) ?_
        refine lv_lconst (v := 0) hx hb dX1_post_66 (by decide) ?_
        refine cM_this (Wd := RWd g0 g1 g2 g3 g4 g5 g6 cA cB) (ci := 1) (q0 := 0) (n := 4) (as := [.int 0, .int 0, .int a, .long 0]) (rest := []) ⟨hx, hb, hml, hown, hts⟩ (c_X1_turn l D g0 g1 g2 g3 g4 g5 g6 cA cB s21 0 0 a 0 (t_in hL22.1 (by simp only [List.length_append, List.length_nil, List.length_cons, pl_look, pl_put] <;> decide))) gX1_post_X1_turn rfl rfl rfl (by decide +kernel) ⟨Nat.le_of_ble_eq_true rfl, Nat.le_of_ble_eq_true rfl⟩ hK hP hD hS hA rfl rfl rfl hl.1 rfl rfl (Nat.le_of_ble_eq_true rfl) dX1_post_67 ⟨Nat.zero_le _, Nat.zero_le _⟩ (fun H locs hP hD hS => ?_)
        refine W.eq (g2 := F0 m 70 ls []) rfl ?_
        obtain ⟨s23, t23⟩ : ∃ y9 : RS, r_turn 0 0 a 0 s21 = y9 := ⟨_, rfl⟩
        replace hP : va_P D vwCl (RWd g0 g1 g2 g3 g4 g5 g6 cA cB s23) H := by rw [← t23]; exact hP
        replace hD : va_D A (RWd g0 g1 g2 g3 g4 g5 g6 cA cB s23) := by rw [← t23]; exact hD
        have hL24 : r_plan s23 ([] ++ [(0, r_place 0 a, 0)]) := by clear hP hD hS; subst t21; subst t23; exact plan_turn 0 0 a 0 hL22 (by simp only [List.length_append, List.length_nil, List.length_cons, pl_look, pl_put] <;> decide) in4_0 hc
        refine lv_iload hx hb dX1_post_70 (lv_at hl 0 rfl) ?_
        refine lv_if_eq (tgt := 95) hx hb dX1_post_72 (by decide) (fun _ => ?_) (fun c0 => absurd c0 (by decide))
        refine lv_aload_n hx hb dX1_post_95 rfl (lv_at hl 3 rfl) ?_
        refine lv_iconst (v := 1) hx hb dX1_post_96 (by decide) ?_
        refine lv_iconst (v := 0) hx hb dX1_post_97 (by decide) ?_
        refine lv_iload_n hx hb dX1_post_98 rfl (lv_at hl 4 rfl) ?_
        refine lv_lload_n hx hb dX1_post_99 rfl (lv_at hl 2 rfl) ?_
        refine cM_this (Wd := RWd g0 g1 g2 g3 g4 g5 g6 cA cB) (ci := 1) (q0 := 0) (n := 4) (as := [.int 1, .int 0, .int a, .long v3]) (rest := []) ⟨hx, hb, hml, hown, hts⟩ (c_X1_turn l D g0 g1 g2 g3 g4 g5 g6 cA cB s23 1 0 a v3 (t_in hL24.1 (by simp only [List.length_append, List.length_nil, List.length_cons, pl_look, pl_put] <;> decide))) gX1_post_X1_turn rfl rfl rfl (by decide +kernel) ⟨Nat.le_of_ble_eq_true rfl, Nat.le_of_ble_eq_true rfl⟩ hK hP hD hS hA rfl rfl rfl hl.1 rfl rfl (Nat.le_of_ble_eq_true rfl) dX1_post_100 ⟨Nat.zero_le _, Nat.zero_le _⟩ (fun H locs hP hD hS => ?_)
        refine W.eq (g2 := F0 m 103 ls []) rfl ?_
        obtain ⟨s25, t25⟩ : ∃ y9 : RS, r_turn 1 0 a v3 s23 = y9 := ⟨_, rfl⟩
        replace hP : va_P D vwCl (RWd g0 g1 g2 g3 g4 g5 g6 cA cB s25) H := by rw [← t25]; exact hP
        replace hD : va_D A (RWd g0 g1 g2 g3 g4 g5 g6 cA cB s25) := by rw [← t25]; exact hD
        have hL26 : r_plan s25 ([] ++ [(0, r_place 0 a, 0)] ++ [(1, r_place 0 a, v3)]) := by clear hP hD hS; subst t21; subst t23; subst t25; exact plan_turn 1 0 a v3 hL24 (by simp only [List.length_append, List.length_nil, List.length_cons, pl_look, pl_put] <;> decide) in4_0 hc
        refine lv_aload_n hx hb dX1_post_103 rfl (lv_at hl 3 rfl) ?_
        refine cM_this (Wd := RWd g0 g1 g2 g3 g4 g5 g6 cA cB) (ci := 1) (q0 := 0) (n := 0) (as := []) (rest := []) ⟨hx, hb, hml, hown, hts⟩ (c_X1_works l D g0 g1 g2 g3 g4 g5 g6 cA cB s25 ([] ++ [(0, r_place 0 a, 0)] ++ [(1, r_place 0 a, v3)]) hL26) gX1_post_X1_works rfl rfl rfl (by decide +kernel) ⟨Nat.le_of_ble_eq_true rfl, Nat.le_of_ble_eq_true rfl⟩ hK hP hD hS hA rfl rfl rfl hl.1 rfl rfl (Nat.le_of_ble_eq_true rfl) dX1_post_104 ⟨Nat.zero_le _, Nat.zero_le _⟩ (fun H locs hP hD hS => ?_)
        obtain ⟨s27, t27⟩ : ∃ y9 : RS, (r_wk ([] ++ [(0, r_place 0 a, 0)] ++ [(1, r_place 0 a, v3)]) s25).2 = y9 := ⟨_, rfl⟩
        replace hP : va_P D vwCl (RWd g0 g1 g2 g3 g4 g5 g6 cA cB s27) H := by rw [← t27]; exact hP
        replace hD : va_D A (RWd g0 g1 g2 g3 g4 g5 g6 cA cB s27) := by rw [← t27]; exact hD
        refine tpi (fun v28 e28 => ?_)
        refine lv_if_ne (tgt := 115) hx hb dX1_post_107 (by decide) (fun c29 => ?_) (fun c29 => ?_)
        · refine lv_iload hx hb dX1_post_115 (lv_at hl 0 rfl) ?_
          refine lv_if_eq (tgt := 124) hx hb dX1_post_117 (by decide) (fun _ => ?_) (fun c0 => absurd c0 (by decide))
          refine lv_iconst (v := (-1)) hx hb dX1_post_124 (by decide) ?_
          have fin : r_post a k st = ((-1), s27) := by
            clear hP hD hS; subst e1; subst e3; subst e4; subst e5; subst e6; subst e7; subst e8; subst e19; subst t21; subst t23; subst t25; subst t27; subst e28; simp only [r_post, r_postB, r_postAcc, r_end, r_zero, bI, c2, c9, c20, c29, ↓reduceIte, not_true_eq_false, not_false_eq_true, and_self, and_true, true_and, and_false, false_and, eq_self, i10]
          exact cM_reti (Wd := RWd g0 g1 g2 g3 g4 g5 g6 cA cB) (st := s27) (st' := (r_post a k st).2) hx hb hr hlocks dX1_post_125 hS hP hD (congrArg Prod.fst fin).symm (congrArg Prod.snd fin).symm
        · refine lv_bipush (v := (-2)) hx hb dX1_post_110 (by decide) ?_
          refine lv_goto (tgt := 125) hx hb dX1_post_112 (by decide) ?_
          have fin : r_post a k st = ((-2), s27) := by
            clear hP hD hS; subst e1; subst e3; subst e4; subst e5; subst e6; subst e7; subst e8; subst e19; subst t21; subst t23; subst t25; subst t27; subst e28; simp only [r_post, r_postB, r_postAcc, r_end, r_zero, bI, c2, c9, c20, c29, ↓reduceIte, not_true_eq_false, not_false_eq_true, and_self, and_true, true_and, and_false, false_and, eq_self, i10]
          exact cM_reti (Wd := RWd g0 g1 g2 g3 g4 g5 g6 cA cB) (st := s27) (st' := (r_post a k st).2) hx hb hr hlocks dX1_post_125 hS hP hD (congrArg Prod.fst fin).symm (congrArg Prod.snd fin).symm
      · refine lv_lload hx hb dX1_post_42 (lv_at hl 0 rfl) ?_
        refine cS_call (n := 1) (as := [.long v7]) (rest := []) ⟨hx, hb, hml, hown, hts⟩ (c_X1_isInt l v7) gX1_post_X1_isInt rfl rfl rfl (by decide +kernel) ⟨Nat.le_of_ble_eq_true rfl, Nat.le_of_ble_eq_true rfl⟩ hl.1 rfl rfl (Nat.le_of_ble_eq_true rfl) dX1_post_44 ⟨Nat.zero_le _, Nat.zero_le _⟩ ?_
        refine tpi (fun v30 e30 => ?_)
        refine lv_if_eq (tgt := 54) hx hb dX1_post_47 (by decide) (fun c31 => ?_) (fun c31 => ?_)
        · refine lv_iconst (v := 0) hx hb dX1_post_54 (by decide) ?_
          refine lv_istore (lv' := [(7, .int 0), (5, .long v7), (3, .long v3), (0, .ref g0), (1, .int a), (2, .int k)]) hx hb dX1_post_55 hl (by decide) rfl (fun ls hl => ?_)
          refine lv_aload_n hx hb dX1_post_57 rfl (lv_at hl 3 rfl) ?_
          refine lv_iconst (v := 0) hx hb dX1_post_58 (by decide) ?_
          refine va_put (D := D) (ci := 1) (v := .int 0) (ty := .int) (C := RX1) (T := TX1) (N := 11) hx hb hts (by decide +kernel) tyX1 tyX1_ok nmX1 hown hK hP hD hS 0 rfl rfl 9 (by decide) (hts (.fieldLink RX1 63 "FadeLedgerModel" "turns" "I") (by decide +kernel)) (fun _ h9 => h9) rfl (by decide +kernel) rfl rfl (Nat.le_of_ble_eq_true rfl) dX1_post_59 (fun H locs hP hD hS => ?_)
          obtain ⟨s32, t32⟩ : ∃ y9 : RS, ((st.1, st.2.1, st.2.2.1, st.2.2.2.1, 0, st.2.2.2.2.2) : RS) = y9 := ⟨_, rfl⟩
          replace hP : va_P D vwCl (RWd g0 g1 g2 g3 g4 g5 g6 cA cB s32) H := by rw [← t32]; exact hP
          replace hD : va_D A (RWd g0 g1 g2 g3 g4 g5 g6 cA cB s32) := by rw [← t32]; exact hD
          have hL33 : r_plan s32 [] := by rw [← t32]; exact plan_zero _
          refine lv_aload_n hx hb dX1_post_62 rfl (lv_at hl 3 rfl) ?_
          refine lv_iconst (v := 0) hx hb dX1_post_63 (by decide) ?_
          refine lv_iconst (v := 0) hx hb dX1_post_64 (by decide) ?_
          refine lv_iload_n hx hb dX1_post_65 rfl (lv_at hl 4 rfl) ?_
          refine lv_lconst (v := 0) hx hb dX1_post_66 (by decide) ?_
          refine cM_this (Wd := RWd g0 g1 g2 g3 g4 g5 g6 cA cB) (ci := 1) (q0 := 0) (n := 4) (as := [.int 0, .int 0, .int a, .long 0]) (rest := []) ⟨hx, hb, hml, hown, hts⟩ (c_X1_turn l D g0 g1 g2 g3 g4 g5 g6 cA cB s32 0 0 a 0 (t_in hL33.1 (by simp only [List.length_append, List.length_nil, List.length_cons, pl_look, pl_put] <;> decide))) gX1_post_X1_turn rfl rfl rfl (by decide +kernel) ⟨Nat.le_of_ble_eq_true rfl, Nat.le_of_ble_eq_true rfl⟩ hK hP hD hS hA rfl rfl rfl hl.1 rfl rfl (Nat.le_of_ble_eq_true rfl) dX1_post_67 ⟨Nat.zero_le _, Nat.zero_le _⟩ (fun H locs hP hD hS => ?_)
          refine W.eq (g2 := F0 m 70 ls []) rfl ?_
          obtain ⟨s34, t34⟩ : ∃ y9 : RS, r_turn 0 0 a 0 s32 = y9 := ⟨_, rfl⟩
          replace hP : va_P D vwCl (RWd g0 g1 g2 g3 g4 g5 g6 cA cB s34) H := by rw [← t34]; exact hP
          replace hD : va_D A (RWd g0 g1 g2 g3 g4 g5 g6 cA cB s34) := by rw [← t34]; exact hD
          have hL35 : r_plan s34 ([] ++ [(0, r_place 0 a, 0)]) := by clear hP hD hS; subst t32; subst t34; exact plan_turn 0 0 a 0 hL33 (by simp only [List.length_append, List.length_nil, List.length_cons, pl_look, pl_put] <;> decide) in4_0 hc
          refine lv_iload hx hb dX1_post_70 (lv_at hl 0 rfl) ?_
          refine lv_if_eq (tgt := 95) hx hb dX1_post_72 (by decide) (fun _ => ?_) (fun c0 => absurd c0 (by decide))
          refine lv_aload_n hx hb dX1_post_95 rfl (lv_at hl 3 rfl) ?_
          refine lv_iconst (v := 1) hx hb dX1_post_96 (by decide) ?_
          refine lv_iconst (v := 0) hx hb dX1_post_97 (by decide) ?_
          refine lv_iload_n hx hb dX1_post_98 rfl (lv_at hl 4 rfl) ?_
          refine lv_lload_n hx hb dX1_post_99 rfl (lv_at hl 2 rfl) ?_
          refine cM_this (Wd := RWd g0 g1 g2 g3 g4 g5 g6 cA cB) (ci := 1) (q0 := 0) (n := 4) (as := [.int 1, .int 0, .int a, .long v3]) (rest := []) ⟨hx, hb, hml, hown, hts⟩ (c_X1_turn l D g0 g1 g2 g3 g4 g5 g6 cA cB s34 1 0 a v3 (t_in hL35.1 (by simp only [List.length_append, List.length_nil, List.length_cons, pl_look, pl_put] <;> decide))) gX1_post_X1_turn rfl rfl rfl (by decide +kernel) ⟨Nat.le_of_ble_eq_true rfl, Nat.le_of_ble_eq_true rfl⟩ hK hP hD hS hA rfl rfl rfl hl.1 rfl rfl (Nat.le_of_ble_eq_true rfl) dX1_post_100 ⟨Nat.zero_le _, Nat.zero_le _⟩ (fun H locs hP hD hS => ?_)
          refine W.eq (g2 := F0 m 103 ls []) rfl ?_
          obtain ⟨s36, t36⟩ : ∃ y9 : RS, r_turn 1 0 a v3 s34 = y9 := ⟨_, rfl⟩
          replace hP : va_P D vwCl (RWd g0 g1 g2 g3 g4 g5 g6 cA cB s36) H := by rw [← t36]; exact hP
          replace hD : va_D A (RWd g0 g1 g2 g3 g4 g5 g6 cA cB s36) := by rw [← t36]; exact hD
          have hL37 : r_plan s36 ([] ++ [(0, r_place 0 a, 0)] ++ [(1, r_place 0 a, v3)]) := by clear hP hD hS; subst t32; subst t34; subst t36; exact plan_turn 1 0 a v3 hL35 (by simp only [List.length_append, List.length_nil, List.length_cons, pl_look, pl_put] <;> decide) in4_0 hc
          refine lv_aload_n hx hb dX1_post_103 rfl (lv_at hl 3 rfl) ?_
          refine cM_this (Wd := RWd g0 g1 g2 g3 g4 g5 g6 cA cB) (ci := 1) (q0 := 0) (n := 0) (as := []) (rest := []) ⟨hx, hb, hml, hown, hts⟩ (c_X1_works l D g0 g1 g2 g3 g4 g5 g6 cA cB s36 ([] ++ [(0, r_place 0 a, 0)] ++ [(1, r_place 0 a, v3)]) hL37) gX1_post_X1_works rfl rfl rfl (by decide +kernel) ⟨Nat.le_of_ble_eq_true rfl, Nat.le_of_ble_eq_true rfl⟩ hK hP hD hS hA rfl rfl rfl hl.1 rfl rfl (Nat.le_of_ble_eq_true rfl) dX1_post_104 ⟨Nat.zero_le _, Nat.zero_le _⟩ (fun H locs hP hD hS => ?_)
          obtain ⟨s38, t38⟩ : ∃ y9 : RS, (r_wk ([] ++ [(0, r_place 0 a, 0)] ++ [(1, r_place 0 a, v3)]) s36).2 = y9 := ⟨_, rfl⟩
          replace hP : va_P D vwCl (RWd g0 g1 g2 g3 g4 g5 g6 cA cB s38) H := by rw [← t38]; exact hP
          replace hD : va_D A (RWd g0 g1 g2 g3 g4 g5 g6 cA cB s38) := by rw [← t38]; exact hD
          refine tpi (fun v39 e39 => ?_)
          refine lv_if_ne (tgt := 115) hx hb dX1_post_107 (by decide) (fun c40 => ?_) (fun c40 => ?_)
          · refine lv_iload hx hb dX1_post_115 (lv_at hl 0 rfl) ?_
            refine lv_if_eq (tgt := 124) hx hb dX1_post_117 (by decide) (fun _ => ?_) (fun c0 => absurd c0 (by decide))
            refine lv_iconst (v := (-1)) hx hb dX1_post_124 (by decide) ?_
            have fin : r_post a k st = ((-1), s38) := by
              clear hP hD hS; subst e1; subst e3; subst e4; subst e5; subst e6; subst e7; subst e8; subst e19; subst e30; subst t32; subst t34; subst t36; subst t38; subst e39; simp only [r_post, r_postB, r_postAcc, r_end, r_zero, bI, c2, c9, c20, c31, c40, ↓reduceIte, not_true_eq_false, not_false_eq_true, and_self, and_true, true_and, and_false, false_and, eq_self, i10]
            exact cM_reti (Wd := RWd g0 g1 g2 g3 g4 g5 g6 cA cB) (st := s38) (st' := (r_post a k st).2) hx hb hr hlocks dX1_post_125 hS hP hD (congrArg Prod.fst fin).symm (congrArg Prod.snd fin).symm
          · refine lv_bipush (v := (-2)) hx hb dX1_post_110 (by decide) ?_
            refine lv_goto (tgt := 125) hx hb dX1_post_112 (by decide) ?_
            have fin : r_post a k st = ((-2), s38) := by
              clear hP hD hS; subst e1; subst e3; subst e4; subst e5; subst e6; subst e7; subst e8; subst e19; subst e30; subst t32; subst t34; subst t36; subst t38; subst e39; simp only [r_post, r_postB, r_postAcc, r_end, r_zero, bI, c2, c9, c20, c31, c40, ↓reduceIte, not_true_eq_false, not_false_eq_true, and_self, and_true, true_and, and_false, false_and, eq_self, i10]
            exact cM_reti (Wd := RWd g0 g1 g2 g3 g4 g5 g6 cA cB) (st := s38) (st' := (r_post a k st).2) hx hb hr hlocks dX1_post_125 hS hP hD (congrArg Prod.fst fin).symm (congrArg Prod.snd fin).symm
        · refine lv_iconst (v := 1) hx hb dX1_post_50 (by decide) ?_
          refine lv_goto (tgt := 55) hx hb dX1_post_51 (by decide) ?_
          refine lv_istore (lv' := [(7, .int 1), (5, .long v7), (3, .long v3), (0, .ref g0), (1, .int a), (2, .int k)]) hx hb dX1_post_55 hl (by decide) rfl (fun ls hl => ?_)
          refine lv_aload_n hx hb dX1_post_57 rfl (lv_at hl 3 rfl) ?_
          refine lv_iconst (v := 0) hx hb dX1_post_58 (by decide) ?_
          refine va_put (D := D) (ci := 1) (v := .int 0) (ty := .int) (C := RX1) (T := TX1) (N := 11) hx hb hts (by decide +kernel) tyX1 tyX1_ok nmX1 hown hK hP hD hS 0 rfl rfl 9 (by decide) (hts (.fieldLink RX1 63 "FadeLedgerModel" "turns" "I") (by decide +kernel)) (fun _ h9 => h9) rfl (by decide +kernel) rfl rfl (Nat.le_of_ble_eq_true rfl) dX1_post_59 (fun H locs hP hD hS => ?_)
          obtain ⟨s41, t41⟩ : ∃ y9 : RS, ((st.1, st.2.1, st.2.2.1, st.2.2.2.1, 0, st.2.2.2.2.2) : RS) = y9 := ⟨_, rfl⟩
          replace hP : va_P D vwCl (RWd g0 g1 g2 g3 g4 g5 g6 cA cB s41) H := by rw [← t41]; exact hP
          replace hD : va_D A (RWd g0 g1 g2 g3 g4 g5 g6 cA cB s41) := by rw [← t41]; exact hD
          have hL42 : r_plan s41 [] := by rw [← t41]; exact plan_zero _
          refine lv_aload_n hx hb dX1_post_62 rfl (lv_at hl 3 rfl) ?_
          refine lv_iconst (v := 0) hx hb dX1_post_63 (by decide) ?_
          refine lv_iconst (v := 0) hx hb dX1_post_64 (by decide) ?_
          refine lv_iload_n hx hb dX1_post_65 rfl (lv_at hl 4 rfl) ?_
          refine lv_lconst (v := 0) hx hb dX1_post_66 (by decide) ?_
          refine cM_this (Wd := RWd g0 g1 g2 g3 g4 g5 g6 cA cB) (ci := 1) (q0 := 0) (n := 4) (as := [.int 0, .int 0, .int a, .long 0]) (rest := []) ⟨hx, hb, hml, hown, hts⟩ (c_X1_turn l D g0 g1 g2 g3 g4 g5 g6 cA cB s41 0 0 a 0 (t_in hL42.1 (by simp only [List.length_append, List.length_nil, List.length_cons, pl_look, pl_put] <;> decide))) gX1_post_X1_turn rfl rfl rfl (by decide +kernel) ⟨Nat.le_of_ble_eq_true rfl, Nat.le_of_ble_eq_true rfl⟩ hK hP hD hS hA rfl rfl rfl hl.1 rfl rfl (Nat.le_of_ble_eq_true rfl) dX1_post_67 ⟨Nat.zero_le _, Nat.zero_le _⟩ (fun H locs hP hD hS => ?_)
          refine W.eq (g2 := F0 m 70 ls []) rfl ?_
          obtain ⟨s43, t43⟩ : ∃ y9 : RS, r_turn 0 0 a 0 s41 = y9 := ⟨_, rfl⟩
          replace hP : va_P D vwCl (RWd g0 g1 g2 g3 g4 g5 g6 cA cB s43) H := by rw [← t43]; exact hP
          replace hD : va_D A (RWd g0 g1 g2 g3 g4 g5 g6 cA cB s43) := by rw [← t43]; exact hD
          have hL44 : r_plan s43 ([] ++ [(0, r_place 0 a, 0)]) := by clear hP hD hS; subst t41; subst t43; exact plan_turn 0 0 a 0 hL42 (by simp only [List.length_append, List.length_nil, List.length_cons, pl_look, pl_put] <;> decide) in4_0 hc
          refine lv_iload hx hb dX1_post_70 (lv_at hl 0 rfl) ?_
          refine lv_if_eq (tgt := 95) hx hb dX1_post_72 (by decide) (fun c0 => absurd c0 (by decide)) (fun _ => ?_)
          refine lv_aload_n hx hb dX1_post_75 rfl (lv_at hl 3 rfl) ?_
          refine lv_iload_n hx hb dX1_post_76 rfl (lv_at hl 4 rfl) ?_
          refine lv_lload hx hb dX1_post_77 (lv_at hl 1 rfl) ?_
          refine lv_l2i hx hb dX1_post_79 rfl ?_
          refine tpi (fun v45 e45 => ?_)
          refine lv_lload_n hx hb dX1_post_80 rfl (lv_at hl 2 rfl) ?_
          refine cS_call (n := 1) (as := [.long v3]) (rest := [.int v45, .int a, .ref g0]) ⟨hx, hb, hml, hown, hts⟩ (c_X1_numberOf l v3) gX1_post_X1_numberOf rfl rfl rfl (by decide +kernel) ⟨Nat.le_of_ble_eq_true rfl, Nat.le_of_ble_eq_true rfl⟩ hl.1 rfl rfl (Nat.le_of_ble_eq_true rfl) dX1_post_81 ⟨Nat.zero_le _, Nat.zero_le _⟩ ?_
          refine tpi (fun v46 e46 => ?_)
          refine lv_iconst (v := 1) hx hb dX1_post_84 (by decide) ?_
          refine lv_iadd hx hb dX1_post_85 ?_
          refine tpi (fun v47 e47 => ?_)
          refine cS_call (n := 2) (as := [.int v45, .int v47]) (rest := [.int a, .ref g0]) ⟨hx, hb, hml, hown, hts⟩ (c_X1_wordOf l v45 v47) gX1_post_X1_wordOf rfl rfl rfl (by decide +kernel) ⟨Nat.le_of_ble_eq_true rfl, Nat.le_of_ble_eq_true rfl⟩ hl.1 rfl rfl (Nat.le_of_ble_eq_true rfl) dX1_post_86 ⟨Nat.zero_le _, Nat.zero_le _⟩ ?_
          refine tpl (fun v48 e48 => ?_)
          refine cM_this (Wd := RWd g0 g1 g2 g3 g4 g5 g6 cA cB) (ci := 1) (q0 := 0) (n := 2) (as := [.int a, .long v48]) (rest := []) ⟨hx, hb, hml, hown, hts⟩ (c_X1_putAll l D g0 g1 g2 g3 g4 g5 g6 cA cB s43 a v48 _ hL44.1 (by simp only [List.length_append, List.length_nil, List.length_cons, pl_look, pl_put] <;> decide)) gX1_post_X1_putAll rfl rfl rfl (by decide +kernel) ⟨Nat.le_of_ble_eq_true rfl, Nat.le_of_ble_eq_true rfl⟩ hK hP hD hS hA rfl rfl rfl hl.1 rfl rfl (Nat.le_of_ble_eq_true rfl) dX1_post_89 ⟨Nat.zero_le _, Nat.zero_le _⟩ (fun H locs hP hD hS => ?_)
          refine W.eq (g2 := F0 m 92 ls []) rfl ?_
          obtain ⟨s49, t49⟩ : ∃ y9 : RS, r_put a v48 s43 = y9 := ⟨_, rfl⟩
          replace hP : va_P D vwCl (RWd g0 g1 g2 g3 g4 g5 g6 cA cB s49) H := by rw [← t49]; exact hP
          replace hD : va_D A (RWd g0 g1 g2 g3 g4 g5 g6 cA cB s49) := by rw [← t49]; exact hD
          have hL50 : r_plan s49 ([] ++ [(0, r_place 0 a, 0)] ++ p_put a v48) := by clear hP hD hS; subst t41; subst t43; subst t49; exact plan_put a v48 hL44 (by simp only [List.length_append, List.length_nil, List.length_cons, pl_look, pl_put] <;> decide) hc
          refine lv_goto (tgt := 103) hx hb dX1_post_92 (by decide) ?_
          refine lv_aload_n hx hb dX1_post_103 rfl (lv_at hl 3 rfl) ?_
          refine cM_this (Wd := RWd g0 g1 g2 g3 g4 g5 g6 cA cB) (ci := 1) (q0 := 0) (n := 0) (as := []) (rest := []) ⟨hx, hb, hml, hown, hts⟩ (c_X1_works l D g0 g1 g2 g3 g4 g5 g6 cA cB s49 ([] ++ [(0, r_place 0 a, 0)] ++ p_put a v48) hL50) gX1_post_X1_works rfl rfl rfl (by decide +kernel) ⟨Nat.le_of_ble_eq_true rfl, Nat.le_of_ble_eq_true rfl⟩ hK hP hD hS hA rfl rfl rfl hl.1 rfl rfl (Nat.le_of_ble_eq_true rfl) dX1_post_104 ⟨Nat.zero_le _, Nat.zero_le _⟩ (fun H locs hP hD hS => ?_)
          obtain ⟨s51, t51⟩ : ∃ y9 : RS, (r_wk ([] ++ [(0, r_place 0 a, 0)] ++ p_put a v48) s49).2 = y9 := ⟨_, rfl⟩
          replace hP : va_P D vwCl (RWd g0 g1 g2 g3 g4 g5 g6 cA cB s51) H := by rw [← t51]; exact hP
          replace hD : va_D A (RWd g0 g1 g2 g3 g4 g5 g6 cA cB s51) := by rw [← t51]; exact hD
          refine tpi (fun v52 e52 => ?_)
          refine lv_if_ne (tgt := 115) hx hb dX1_post_107 (by decide) (fun c53 => ?_) (fun c53 => ?_)
          · refine lv_iload hx hb dX1_post_115 (lv_at hl 0 rfl) ?_
            refine lv_if_eq (tgt := 124) hx hb dX1_post_117 (by decide) (fun c0 => absurd c0 (by decide)) (fun _ => ?_)
            refine lv_iconst (v := 1) hx hb dX1_post_120 (by decide) ?_
            refine lv_goto (tgt := 125) hx hb dX1_post_121 (by decide) ?_
            have fin : r_post a k st = (1, s51) := by
              clear hP hD hS; subst e1; subst e3; subst e4; subst e5; subst e6; subst e7; subst e8; subst e19; subst e30; subst t41; subst t43; subst e45; subst e46; subst e47; subst e48; subst t49; subst t51; subst e52; simp only [r_post, r_postB, r_postAcc, r_end, r_zero, bI, c2, c9, c20, c31, c53, ↓reduceIte, not_true_eq_false, not_false_eq_true, and_self, and_true, true_and, and_false, false_and, eq_self, i10]
            exact cM_reti (Wd := RWd g0 g1 g2 g3 g4 g5 g6 cA cB) (st := s51) (st' := (r_post a k st).2) hx hb hr hlocks dX1_post_125 hS hP hD (congrArg Prod.fst fin).symm (congrArg Prod.snd fin).symm
          · refine lv_bipush (v := (-2)) hx hb dX1_post_110 (by decide) ?_
            refine lv_goto (tgt := 125) hx hb dX1_post_112 (by decide) ?_
            have fin : r_post a k st = ((-2), s51) := by
              clear hP hD hS; subst e1; subst e3; subst e4; subst e5; subst e6; subst e7; subst e8; subst e19; subst e30; subst t41; subst t43; subst e45; subst e46; subst e47; subst e48; subst t49; subst t51; subst e52; simp only [r_post, r_postB, r_postAcc, r_end, r_zero, bI, c2, c9, c20, c31, c53, ↓reduceIte, not_true_eq_false, not_false_eq_true, and_self, and_true, true_and, and_false, false_and, eq_self, i10]
            exact cM_reti (Wd := RWd g0 g1 g2 g3 g4 g5 g6 cA cB) (st := s51) (st' := (r_post a k st).2) hx hb hr hlocks dX1_post_125 hS hP hD (congrArg Prod.fst fin).symm (congrArg Prod.snd fin).symm
  · refine lv_iconst (v := (-1)) hx hb dX1_post_7 (by decide) ?_
    have fin : r_post a k st = ((-1), st) := by
      clear hP hD hS; subst e1; simp only [r_post, r_postB, r_postAcc, r_end, r_zero, bI, c2, ↓reduceIte, not_true_eq_false, not_false_eq_true, and_self, and_true, true_and, and_false, false_and, eq_self, i10]
    exact cM_reti (Wd := RWd g0 g1 g2 g3 g4 g5 g6 cA cB) (st := st) (st' := (r_post a k st).2) hx hb hr hlocks dX1_post_8 hS hP hD (congrArg Prod.fst fin).symm (congrArg Prod.snd fin).symm
abbrev rmX1_number : Room := { frames := 2, cells := 0, slots := 0, locals := 46 }
-- number
set_option maxHeartbeats 400000 in
set_option maxRecDepth 100000 in
theorem c_X1_number (l : Launch) (D : va_G) (g0 g1 g2 g3 g4 g5 g6 : Nat) (cA cB : ClassId) (st : RS) (a : Int32)  : cM l D vwCl (FT cA cB) (RWd g0 g1 g2 g3 g4 g5 g6 cA cB) yX1_number wsX1_number rmX1_number [.ref g0, .int a] st (some (.int (r_number a st).1)) (r_number a st).2 := by
  refine cM_in (cc := cX1_number) (maxL := 4) (ret := (some .int)) (by decide) rfl (Nat.le_of_ble_eq_true rfl) ?_
  intro p e s m below meth c ls A hx hb hr hlocks hml hown hts hA hK hP hD hS hl
  have hown : s.vm.findClass RX1 = some m.cls := hown
  have hl : lv_has ls 4 [(0, .ref g0), (1, .int a)] := hl
  -- walk
  refine lv_iload_n hx hb dX1_number_0 rfl (lv_at hl 1 rfl) ?_
  refine cS_call (n := 1) (as := [.int a]) (rest := []) ⟨hx, hb, hml, hown, hts⟩ (c_X1_isAccount l a) gX1_number_X1_isAccount rfl rfl rfl (by decide +kernel) ⟨Nat.le_of_ble_eq_true rfl, Nat.le_of_ble_eq_true rfl⟩ hl.1 rfl rfl (Nat.le_of_ble_eq_true rfl) dX1_number_1 ⟨Nat.zero_le _, Nat.zero_le _⟩ ?_
  refine tpi (fun v1 e1 => ?_)
  refine lv_if_ne (tgt := 9) hx hb dX1_number_4 (by decide) (fun c2 => ?_) (fun c2 => ?_)
  · have hc : vp_in a 20 := acct_in20 (by rw [e1]; exact c2)
    refine lv_aload_n hx hb dX1_number_9 rfl (lv_at hl 0 rfl) ?_
    refine va_get (D := D) (ci := 1) (v := .ref g1) (C := RX1) (T := TX1) (N := 11) hx hb hts (by decide +kernel) hown hK hP 0 rfl rfl 0 (by decide) (hts (.fieldLink RX1 7 "FadeLedgerModel" "words" "[J") (by decide +kernel)) (fun _ h9 => h9) rfl dX1_number_10 ?_
    refine lv_iload_n hx hb dX1_number_13 rfl (lv_at hl 1 rfl) ?_
    refine va_lald hx hb hK hP 1 0 rfl rfl (in_up hc (by decide)) dX1_number_14 ?_
    refine tpl (fun v3 e3 => ?_)
    refine lv_lstore_n (lv' := [(2, .long v3), (0, .ref g0), (1, .int a)]) hx hb dX1_number_15 rfl hl (by decide) rfl (fun ls hl => ?_)
    refine lv_aload_n hx hb dX1_number_16 rfl (lv_at hl 1 rfl) ?_
    refine lv_iconst (v := 0) hx hb dX1_number_17 (by decide) ?_
    refine va_put (D := D) (ci := 1) (v := .int 0) (ty := .int) (C := RX1) (T := TX1) (N := 11) hx hb hts (by decide +kernel) tyX1 tyX1_ok nmX1 hown hK hP hD hS 0 rfl rfl 9 (by decide) (hts (.fieldLink RX1 63 "FadeLedgerModel" "turns" "I") (by decide +kernel)) (fun _ h9 => h9) rfl (by decide +kernel) rfl rfl (Nat.le_of_ble_eq_true rfl) dX1_number_18 (fun H locs hP hD hS => ?_)
    obtain ⟨s4, t4⟩ : ∃ y9 : RS, ((st.1, st.2.1, st.2.2.1, st.2.2.2.1, 0, st.2.2.2.2.2) : RS) = y9 := ⟨_, rfl⟩
    replace hP : va_P D vwCl (RWd g0 g1 g2 g3 g4 g5 g6 cA cB s4) H := by rw [← t4]; exact hP
    replace hD : va_D A (RWd g0 g1 g2 g3 g4 g5 g6 cA cB s4) := by rw [← t4]; exact hD
    have hL5 : r_plan s4 [] := by rw [← t4]; exact plan_zero _
    refine lv_aload_n hx hb dX1_number_21 rfl (lv_at hl 1 rfl) ?_
    refine lv_iload_n hx hb dX1_number_22 rfl (lv_at hl 2 rfl) ?_
    refine cM_this (Wd := RWd g0 g1 g2 g3 g4 g5 g6 cA cB) (ci := 1) (q0 := 0) (n := 1) (as := [.int a]) (rest := []) ⟨hx, hb, hml, hown, hts⟩ (c_X1_look l D g0 g1 g2 g3 g4 g5 g6 cA cB s4 a hc _ hL5.1 (by simp only [List.length_append, List.length_nil, List.length_cons, pl_look, pl_put] <;> decide)) gX1_number_X1_look rfl rfl rfl (by decide +kernel) ⟨Nat.le_of_ble_eq_true rfl, Nat.le_of_ble_eq_true rfl⟩ hK hP hD hS hA rfl rfl rfl hl.1 rfl rfl (Nat.le_of_ble_eq_true rfl) dX1_number_23 ⟨Nat.zero_le _, Nat.zero_le _⟩ (fun H locs hP hD hS => ?_)
    refine W.eq (g2 := F0 m 26 ls []) rfl ?_
    obtain ⟨s6, t6⟩ : ∃ y9 : RS, r_look a s4 = y9 := ⟨_, rfl⟩
    replace hP : va_P D vwCl (RWd g0 g1 g2 g3 g4 g5 g6 cA cB s6) H := by rw [← t6]; exact hP
    replace hD : va_D A (RWd g0 g1 g2 g3 g4 g5 g6 cA cB s6) := by rw [← t6]; exact hD
    have hL7 : r_plan s6 ([] ++ p_look a (st.1.1 a.toNatClampNeg)) := by clear hP hD hS; subst t4; subst t6; exact plan_look a hL5 (by simp only [List.length_append, List.length_nil, List.length_cons, pl_look, pl_put] <;> decide) hc
    refine lv_aload_n hx hb dX1_number_26 rfl (lv_at hl 1 rfl) ?_
    refine cM_this (Wd := RWd g0 g1 g2 g3 g4 g5 g6 cA cB) (ci := 1) (q0 := 0) (n := 0) (as := []) (rest := []) ⟨hx, hb, hml, hown, hts⟩ (c_X1_works l D g0 g1 g2 g3 g4 g5 g6 cA cB s6 ([] ++ p_look a (st.1.1 a.toNatClampNeg)) hL7) gX1_number_X1_works rfl rfl rfl (by decide +kernel) ⟨Nat.le_of_ble_eq_true rfl, Nat.le_of_ble_eq_true rfl⟩ hK hP hD hS hA rfl rfl rfl hl.1 rfl rfl (Nat.le_of_ble_eq_true rfl) dX1_number_27 ⟨Nat.zero_le _, Nat.zero_le _⟩ (fun H locs hP hD hS => ?_)
    obtain ⟨s8, t8⟩ : ∃ y9 : RS, (r_wk ([] ++ p_look a (st.1.1 a.toNatClampNeg)) s6).2 = y9 := ⟨_, rfl⟩
    replace hP : va_P D vwCl (RWd g0 g1 g2 g3 g4 g5 g6 cA cB s8) H := by rw [← t8]; exact hP
    replace hD : va_D A (RWd g0 g1 g2 g3 g4 g5 g6 cA cB s8) := by rw [← t8]; exact hD
    refine tpi (fun v9 e9 => ?_)
    refine lv_if_ne (tgt := 38) hx hb dX1_number_30 (by decide) (fun c10 => ?_) (fun c10 => ?_)
    · refine lv_lload_n hx hb dX1_number_38 rfl (lv_at hl 0 rfl) ?_
      refine cS_call (n := 1) (as := [.long v3]) (rest := []) ⟨hx, hb, hml, hown, hts⟩ (c_X1_isValid l v3) gX1_number_X1_isValid rfl rfl rfl (by decide +kernel) ⟨Nat.le_of_ble_eq_true rfl, Nat.le_of_ble_eq_true rfl⟩ hl.1 rfl rfl (Nat.le_of_ble_eq_true rfl) dX1_number_39 ⟨Nat.zero_le _, Nat.zero_le _⟩ ?_
      refine tpi (fun v11 e11 => ?_)
      refine lv_if_eq (tgt := 52) hx hb dX1_number_42 (by decide) (fun c12 => ?_) (fun c12 => ?_)
      · refine lv_iconst (v := (-1)) hx hb dX1_number_52 (by decide) ?_
        have fin : r_number a st = ((-1), s8) := by
          clear hP hD hS; subst e1; subst e3; subst t4; subst t6; subst t8; subst e9; subst e11; simp only [r_number, r_zero, c2, c10, c12, ↓reduceIte, not_true_eq_false, not_false_eq_true, and_self, and_true, true_and, and_false, false_and, eq_self, i10]
        exact cM_reti (Wd := RWd g0 g1 g2 g3 g4 g5 g6 cA cB) (st := s8) (st' := (r_number a st).2) hx hb hr hlocks dX1_number_53 hS hP hD (congrArg Prod.fst fin).symm (congrArg Prod.snd fin).symm
      · refine lv_lload_n hx hb dX1_number_45 rfl (lv_at hl 0 rfl) ?_
        refine cS_call (n := 1) (as := [.long v3]) (rest := []) ⟨hx, hb, hml, hown, hts⟩ (c_X1_numberOf l v3) gX1_number_X1_numberOf rfl rfl rfl (by decide +kernel) ⟨Nat.le_of_ble_eq_true rfl, Nat.le_of_ble_eq_true rfl⟩ hl.1 rfl rfl (Nat.le_of_ble_eq_true rfl) dX1_number_46 ⟨Nat.zero_le _, Nat.zero_le _⟩ ?_
        refine tpi (fun v13 e13 => ?_)
        refine lv_goto (tgt := 53) hx hb dX1_number_49 (by decide) ?_
        have fin : r_number a st = (v13, s8) := by
          clear hP hD hS; subst e1; subst e3; subst t4; subst t6; subst t8; subst e9; subst e11; subst e13; simp only [r_number, r_zero, c2, c10, c12, ↓reduceIte, not_true_eq_false, not_false_eq_true, and_self, and_true, true_and, and_false, false_and, eq_self, i10]
        exact cM_reti (Wd := RWd g0 g1 g2 g3 g4 g5 g6 cA cB) (st := s8) (st' := (r_number a st).2) hx hb hr hlocks dX1_number_53 hS hP hD (congrArg Prod.fst fin).symm (congrArg Prod.snd fin).symm
    · refine lv_bipush (v := (-2)) hx hb dX1_number_33 (by decide) ?_
      refine lv_goto (tgt := 53) hx hb dX1_number_35 (by decide) ?_
      have fin : r_number a st = ((-2), s8) := by
        clear hP hD hS; subst e1; subst e3; subst t4; subst t6; subst t8; subst e9; simp only [r_number, r_zero, c2, c10, ↓reduceIte, not_true_eq_false, not_false_eq_true, and_self, and_true, true_and, and_false, false_and, eq_self, i10]
      exact cM_reti (Wd := RWd g0 g1 g2 g3 g4 g5 g6 cA cB) (st := s8) (st' := (r_number a st).2) hx hb hr hlocks dX1_number_53 hS hP hD (congrArg Prod.fst fin).symm (congrArg Prod.snd fin).symm
  · refine lv_iconst (v := (-1)) hx hb dX1_number_7 (by decide) ?_
    have fin : r_number a st = ((-1), st) := by
      clear hP hD hS; subst e1; simp only [r_number, r_zero, c2, ↓reduceIte, not_true_eq_false, not_false_eq_true, and_self, and_true, true_and, and_false, false_and, eq_self, i10]
    exact cM_reti (Wd := RWd g0 g1 g2 g3 g4 g5 g6 cA cB) (st := st) (st' := (r_number a st).2) hx hb hr hlocks dX1_number_8 hS hP hD (congrArg Prod.fst fin).symm (congrArg Prod.snd fin).symm
abbrev rmX1_transfer : Room := { frames := 4, cells := 0, slots := 0, locals := 89 }
-- transfer
set_option maxHeartbeats 400000 in
set_option maxRecDepth 100000 in
theorem c_X1_transfer (l : Launch) (D : va_G) (g0 g1 g2 g3 g4 g5 g6 : Nat) (cA cB : ClassId) (st : RS) (f : Int32) (t : Int32) (a : Int32)  : cM l D vwCl (FT cA cB) (RWd g0 g1 g2 g3 g4 g5 g6 cA cB) yX1_transfer wsX1_transfer rmX1_transfer [.ref g0, .int f, .int t, .int a] st (some (.int (r_transfer f t a st).1)) (r_transfer f t a st).2 := by
  refine cM_in (cc := cX1_transfer) (maxL := 17) (ret := (some .int)) (by decide) rfl (Nat.le_of_ble_eq_true rfl) ?_
  intro p e s m below meth c ls A hx hb hr hlocks hml hown hts hA hK hP hD hS hl
  have hown : s.vm.findClass RX1 = some m.cls := hown
  have hl : lv_has ls 17 [(0, .ref g0), (1, .int f), (2, .int t), (3, .int a)] := hl
  -- walk
  refine lv_iload_n hx hb dX1_transfer_0 rfl (lv_at hl 1 rfl) ?_
  refine cS_call (n := 1) (as := [.int f]) (rest := []) ⟨hx, hb, hml, hown, hts⟩ (c_X1_isAccount l f) gX1_transfer_X1_isAccount rfl rfl rfl (by decide +kernel) ⟨Nat.le_of_ble_eq_true rfl, Nat.le_of_ble_eq_true rfl⟩ hl.1 rfl rfl (Nat.le_of_ble_eq_true rfl) dX1_transfer_1 ⟨Nat.zero_le _, Nat.zero_le _⟩ ?_
  refine tpi (fun v1 e1 => ?_)
  refine lv_if_eq (tgt := 23) hx hb dX1_transfer_4 (by decide) (fun c2 => ?_) (fun c2 => ?_)
  · refine lv_iconst (v := (-1)) hx hb dX1_transfer_23 (by decide) ?_
    have fin : r_transfer f t a st = ((-1), st) := by
      clear hP hD hS; subst e1; simp only [r_transfer, r_trB, r_trAcc, r_trL, r_trS, r_doL, r_doS, r_end, r_zero, bI, c2, ↓reduceIte, not_true_eq_false, not_false_eq_true, and_self, and_true, true_and, and_false, false_and, eq_self, i10]
    exact cM_reti (Wd := RWd g0 g1 g2 g3 g4 g5 g6 cA cB) (st := st) (st' := (r_transfer f t a st).2) hx hb hr hlocks dX1_transfer_24 hS hP hD (congrArg Prod.fst fin).symm (congrArg Prod.snd fin).symm
  · refine lv_iload_n hx hb dX1_transfer_7 rfl (lv_at hl 2 rfl) ?_
    refine cS_call (n := 1) (as := [.int t]) (rest := []) ⟨hx, hb, hml, hown, hts⟩ (c_X1_isAccount l t) gX1_transfer_X1_isAccount rfl rfl rfl (by decide +kernel) ⟨Nat.le_of_ble_eq_true rfl, Nat.le_of_ble_eq_true rfl⟩ hl.1 rfl rfl (Nat.le_of_ble_eq_true rfl) dX1_transfer_8 ⟨Nat.zero_le _, Nat.zero_le _⟩ ?_
    refine tpi (fun v3 e3 => ?_)
    refine lv_if_eq (tgt := 23) hx hb dX1_transfer_11 (by decide) (fun c4 => ?_) (fun c4 => ?_)
    · refine lv_iconst (v := (-1)) hx hb dX1_transfer_23 (by decide) ?_
      have fin : r_transfer f t a st = ((-1), st) := by
        clear hP hD hS; subst e1; subst e3; simp only [r_transfer, r_trB, r_trAcc, r_trL, r_trS, r_doL, r_doS, r_end, r_zero, bI, c2, c4, ↓reduceIte, not_true_eq_false, not_false_eq_true, and_self, and_true, true_and, and_false, false_and, eq_self, i10]
      exact cM_reti (Wd := RWd g0 g1 g2 g3 g4 g5 g6 cA cB) (st := st) (st' := (r_transfer f t a st).2) hx hb hr hlocks dX1_transfer_24 hS hP hD (congrArg Prod.fst fin).symm (congrArg Prod.snd fin).symm
    · refine lv_iload_n hx hb dX1_transfer_14 rfl (lv_at hl 1 rfl) ?_
      refine lv_iload_n hx hb dX1_transfer_15 rfl (lv_at hl 2 rfl) ?_
      refine lv_icmp_eq (tgt := 23) hx hb dX1_transfer_16 (by decide) (fun c5 => ?_) (fun c5 => ?_)
      · refine lv_iconst (v := (-1)) hx hb dX1_transfer_23 (by decide) ?_
        have fin : r_transfer f t a st = ((-1), st) := by
          clear hP hD hS; subst e1; subst e3; simp only [r_transfer, r_trB, r_trAcc, r_trL, r_trS, r_doL, r_doS, r_end, r_zero, bI, c2, c4, c5, ↓reduceIte, not_true_eq_false, not_false_eq_true, and_self, and_true, true_and, and_false, false_and, eq_self, i10]
        exact cM_reti (Wd := RWd g0 g1 g2 g3 g4 g5 g6 cA cB) (st := st) (st' := (r_transfer f t a st).2) hx hb hr hlocks dX1_transfer_24 hS hP hD (congrArg Prod.fst fin).symm (congrArg Prod.snd fin).symm
      · refine lv_iload_n hx hb dX1_transfer_19 rfl (lv_at hl 3 rfl) ?_
        refine lv_if_ge (tgt := 25) hx hb dX1_transfer_20 (by decide) (fun c6 => ?_) (fun c6 => ?_)
        · have hf : vp_in f 20 := acct_in20 (by rw [e1]; exact c2)
          have ht : vp_in t 20 := acct_in20 (by rw [e3]; exact c4)
          refine lv_aload_n hx hb dX1_transfer_25 rfl (lv_at hl 0 rfl) ?_
          refine va_get (D := D) (ci := 1) (v := .ref g1) (C := RX1) (T := TX1) (N := 11) hx hb hts (by decide +kernel) hown hK hP 0 rfl rfl 0 (by decide) (hts (.fieldLink RX1 7 "FadeLedgerModel" "words" "[J") (by decide +kernel)) (fun _ h9 => h9) rfl dX1_transfer_26 ?_
          refine lv_iload_n hx hb dX1_transfer_29 rfl (lv_at hl 1 rfl) ?_
          refine va_lald hx hb hK hP 1 0 rfl rfl (in_up hf (by decide)) dX1_transfer_30 ?_
          refine tpl (fun v7 e7 => ?_)
          refine lv_lstore (lv' := [(4, .long v7), (0, .ref g0), (1, .int f), (2, .int t), (3, .int a)]) hx hb dX1_transfer_31 hl (by decide) rfl (fun ls hl => ?_)
          refine lv_aload_n hx hb dX1_transfer_33 rfl (lv_at hl 1 rfl) ?_
          refine va_get (D := D) (ci := 1) (v := .ref g1) (C := RX1) (T := TX1) (N := 11) hx hb hts (by decide +kernel) hown hK hP 0 rfl rfl 0 (by decide) (hts (.fieldLink RX1 7 "FadeLedgerModel" "words" "[J") (by decide +kernel)) (fun _ h9 => h9) rfl dX1_transfer_34 ?_
          refine lv_iload_n hx hb dX1_transfer_37 rfl (lv_at hl 3 rfl) ?_
          refine va_lald hx hb hK hP 1 0 rfl rfl (in_up ht (by decide)) dX1_transfer_38 ?_
          refine tpl (fun v8 e8 => ?_)
          refine lv_lstore (lv' := [(6, .long v8), (4, .long v7), (0, .ref g0), (1, .int f), (2, .int t), (3, .int a)]) hx hb dX1_transfer_39 hl (by decide) rfl (fun ls hl => ?_)
          refine lv_aload_n hx hb dX1_transfer_41 rfl (lv_at hl 2 rfl) ?_
          refine va_get (D := D) (ci := 1) (v := .ref g1) (C := RX1) (T := TX1) (N := 11) hx hb hts (by decide +kernel) hown hK hP 0 rfl rfl 0 (by decide) (hts (.fieldLink RX1 7 "FadeLedgerModel" "words" "[J") (by decide +kernel)) (fun _ h9 => h9) rfl dX1_transfer_42 ?_
          refine lv_bipush (v := 16) hx hb dX1_transfer_45 (by decide) ?_
          refine va_lald hx hb hK hP 1 0 rfl rfl (in_up in20_16 (by decide)) dX1_transfer_47 ?_
          refine tpl (fun v9 e9 => ?_)
          refine lv_lstore (lv' := [(8, .long v9), (6, .long v8), (4, .long v7), (0, .ref g0), (1, .int f), (2, .int t), (3, .int a)]) hx hb dX1_transfer_48 hl (by decide) rfl (fun ls hl => ?_)
          refine lv_lload hx hb dX1_transfer_50 (lv_at hl 2 rfl) ?_
          refine cS_call (n := 1) (as := [.long v7]) (rest := []) ⟨hx, hb, hml, hown, hts⟩ (c_X1_balanceOf l v7) gX1_transfer_X1_balanceOf rfl rfl rfl (by decide +kernel) ⟨Nat.le_of_ble_eq_true rfl, Nat.le_of_ble_eq_true rfl⟩ hl.1 rfl rfl (Nat.le_of_ble_eq_true rfl) dX1_transfer_52 ⟨Nat.zero_le _, Nat.zero_le _⟩ ?_
          refine tpi (fun v10 e10 => ?_)
          refine lv_i2l hx hb dX1_transfer_55 rfl ?_
          refine tpl (fun v11 e11 => ?_)
          refine lv_iload_n hx hb dX1_transfer_56 rfl (lv_at hl 6 rfl) ?_
          refine lv_i2l hx hb dX1_transfer_57 rfl ?_
          refine tpl (fun v12 e12 => ?_)
          refine lv_lsub hx hb dX1_transfer_58 ?_
          refine tpl (fun v13 e13 => ?_)
          refine lv_lstore (lv' := [(10, .long v13), (8, .long v9), (6, .long v8), (4, .long v7), (0, .ref g0), (1, .int f), (2, .int t), (3, .int a)]) hx hb dX1_transfer_59 hl (by decide) rfl (fun ls hl => ?_)
          refine lv_lload hx hb dX1_transfer_61 (lv_at hl 2 rfl) ?_
          refine cS_call (n := 1) (as := [.long v8]) (rest := []) ⟨hx, hb, hml, hown, hts⟩ (c_X1_balanceOf l v8) gX1_transfer_X1_balanceOf rfl rfl rfl (by decide +kernel) ⟨Nat.le_of_ble_eq_true rfl, Nat.le_of_ble_eq_true rfl⟩ hl.1 rfl rfl (Nat.le_of_ble_eq_true rfl) dX1_transfer_63 ⟨Nat.zero_le _, Nat.zero_le _⟩ ?_
          refine tpi (fun v14 e14 => ?_)
          refine lv_i2l hx hb dX1_transfer_66 rfl ?_
          refine tpl (fun v15 e15 => ?_)
          refine lv_iload_n hx hb dX1_transfer_67 rfl (lv_at hl 7 rfl) ?_
          refine lv_i2l hx hb dX1_transfer_68 rfl ?_
          refine tpl (fun v16 e16 => ?_)
          refine lv_ladd hx hb dX1_transfer_69 ?_
          refine tpl (fun v17 e17 => ?_)
          refine lv_lstore (lv' := [(12, .long v17), (10, .long v13), (8, .long v9), (6, .long v8), (4, .long v7), (0, .ref g0), (1, .int f), (2, .int t), (3, .int a)]) hx hb dX1_transfer_70 hl (by decide) rfl (fun ls hl => ?_)
          refine lv_lload hx hb dX1_transfer_72 (lv_at hl 4 rfl) ?_
          refine lv_lload hx hb dX1_transfer_74 (lv_at hl 1 rfl) ?_
          refine cS_call (n := 2) (as := [.long v7, .long v13]) (rest := []) ⟨hx, hb, hml, hown, hts⟩ (c_X1_canBe l v7 v13) gX1_transfer_X1_canBe rfl rfl rfl (by decide +kernel) ⟨Nat.le_of_ble_eq_true rfl, Nat.le_of_ble_eq_true rfl⟩ hl.1 rfl rfl (Nat.le_of_ble_eq_true rfl) dX1_transfer_76 ⟨Nat.zero_le _, Nat.zero_le _⟩ ?_
          refine tpi (fun v18 e18 => ?_)
          refine lv_if_eq (tgt := 114) hx hb dX1_transfer_79 (by decide) (fun c19 => ?_) (fun c19 => ?_)
          · refine lv_iconst (v := 0) hx hb dX1_transfer_114 (by decide) ?_
            refine lv_istore (lv' := [(14, .int 0), (12, .long v17), (10, .long v13), (8, .long v9), (6, .long v8), (4, .long v7), (0, .ref g0), (1, .int f), (2, .int t), (3, .int a)]) hx hb dX1_transfer_115 hl (by decide) rfl (fun ls hl => ?_)
            refine lv_aload_n hx hb dX1_transfer_117 rfl (lv_at hl 6 rfl) ?_
            refine lv_iconst (v := 0) hx hb dX1_transfer_118 (by decide) ?_
            refine va_put (D := D) (ci := 1) (v := .int 0) (ty := .int) (C := RX1) (T := TX1) (N := 11) hx hb hts (by decide +kernel) tyX1 tyX1_ok nmX1 hown hK hP hD hS 0 rfl rfl 9 (by decide) (hts (.fieldLink RX1 63 "FadeLedgerModel" "turns" "I") (by decide +kernel)) (fun _ h9 => h9) rfl (by decide +kernel) rfl rfl (Nat.le_of_ble_eq_true rfl) dX1_transfer_119 (fun H locs hP hD hS => ?_)
            obtain ⟨s20, t20⟩ : ∃ y9 : RS, ((st.1, st.2.1, st.2.2.1, st.2.2.2.1, 0, st.2.2.2.2.2) : RS) = y9 := ⟨_, rfl⟩
            replace hP : va_P D vwCl (RWd g0 g1 g2 g3 g4 g5 g6 cA cB s20) H := by rw [← t20]; exact hP
            replace hD : va_D A (RWd g0 g1 g2 g3 g4 g5 g6 cA cB s20) := by rw [← t20]; exact hD
            have hL21 : r_plan s20 [] := by rw [← t20]; exact plan_zero _
            refine lv_aload_n hx hb dX1_transfer_122 rfl (lv_at hl 6 rfl) ?_
            refine lv_iload_n hx hb dX1_transfer_123 rfl (lv_at hl 7 rfl) ?_
            refine cM_this (Wd := RWd g0 g1 g2 g3 g4 g5 g6 cA cB) (ci := 1) (q0 := 0) (n := 1) (as := [.int f]) (rest := []) ⟨hx, hb, hml, hown, hts⟩ (c_X1_look l D g0 g1 g2 g3 g4 g5 g6 cA cB s20 f hf _ hL21.1 (by simp only [List.length_append, List.length_nil, List.length_cons, pl_look, pl_put] <;> decide)) gX1_transfer_X1_look rfl rfl rfl (by decide +kernel) ⟨Nat.le_of_ble_eq_true rfl, Nat.le_of_ble_eq_true rfl⟩ hK hP hD hS hA rfl rfl rfl hl.1 rfl rfl (Nat.le_of_ble_eq_true rfl) dX1_transfer_124 ⟨Nat.zero_le _, Nat.zero_le _⟩ (fun H locs hP hD hS => ?_)
            refine W.eq (g2 := F0 m 127 ls []) rfl ?_
            obtain ⟨s22, t22⟩ : ∃ y9 : RS, r_look f s20 = y9 := ⟨_, rfl⟩
            replace hP : va_P D vwCl (RWd g0 g1 g2 g3 g4 g5 g6 cA cB s22) H := by rw [← t22]; exact hP
            replace hD : va_D A (RWd g0 g1 g2 g3 g4 g5 g6 cA cB s22) := by rw [← t22]; exact hD
            have hL23 : r_plan s22 ([] ++ p_look f (st.1.1 f.toNatClampNeg)) := by clear hP hD hS; subst t20; subst t22; exact plan_look f hL21 (by simp only [List.length_append, List.length_nil, List.length_cons, pl_look, pl_put] <;> decide) hf
            refine lv_aload_n hx hb dX1_transfer_127 rfl (lv_at hl 6 rfl) ?_
            refine lv_iload_n hx hb dX1_transfer_128 rfl (lv_at hl 8 rfl) ?_
            refine cM_this (Wd := RWd g0 g1 g2 g3 g4 g5 g6 cA cB) (ci := 1) (q0 := 0) (n := 1) (as := [.int t]) (rest := []) ⟨hx, hb, hml, hown, hts⟩ (c_X1_look l D g0 g1 g2 g3 g4 g5 g6 cA cB s22 t ht _ hL23.1 (by simp only [List.length_append, List.length_nil, List.length_cons, pl_look, pl_put] <;> decide)) gX1_transfer_X1_look rfl rfl rfl (by decide +kernel) ⟨Nat.le_of_ble_eq_true rfl, Nat.le_of_ble_eq_true rfl⟩ hK hP hD hS hA rfl rfl rfl hl.1 rfl rfl (Nat.le_of_ble_eq_true rfl) dX1_transfer_129 ⟨Nat.zero_le _, Nat.zero_le _⟩ (fun H locs hP hD hS => ?_)
            refine W.eq (g2 := F0 m 132 ls []) rfl ?_
            obtain ⟨s24, t24⟩ : ∃ y9 : RS, r_look t s22 = y9 := ⟨_, rfl⟩
            replace hP : va_P D vwCl (RWd g0 g1 g2 g3 g4 g5 g6 cA cB s24) H := by rw [← t24]; exact hP
            replace hD : va_D A (RWd g0 g1 g2 g3 g4 g5 g6 cA cB s24) := by rw [← t24]; exact hD
            have hL25 : r_plan s24 ([] ++ p_look f (st.1.1 f.toNatClampNeg) ++ p_look t (st.1.1 t.toNatClampNeg)) := by clear hP hD hS; subst t20; subst t22; subst t24; exact plan_look t hL23 (by simp only [List.length_append, List.length_nil, List.length_cons, pl_look, pl_put] <;> decide) ht
            refine lv_aload_n hx hb dX1_transfer_132 rfl (lv_at hl 6 rfl) ?_
            refine lv_bipush (v := 16) hx hb dX1_transfer_133 (by decide) ?_
            refine cM_this (Wd := RWd g0 g1 g2 g3 g4 g5 g6 cA cB) (ci := 1) (q0 := 0) (n := 1) (as := [.int 16]) (rest := []) ⟨hx, hb, hml, hown, hts⟩ (c_X1_look l D g0 g1 g2 g3 g4 g5 g6 cA cB s24 16 in20_16 _ hL25.1 (by simp only [List.length_append, List.length_nil, List.length_cons, pl_look, pl_put] <;> decide)) gX1_transfer_X1_look rfl rfl rfl (by decide +kernel) ⟨Nat.le_of_ble_eq_true rfl, Nat.le_of_ble_eq_true rfl⟩ hK hP hD hS hA rfl rfl rfl hl.1 rfl rfl (Nat.le_of_ble_eq_true rfl) dX1_transfer_135 ⟨Nat.zero_le _, Nat.zero_le _⟩ (fun H locs hP hD hS => ?_)
            refine W.eq (g2 := F0 m 138 ls []) rfl ?_
            obtain ⟨s26, t26⟩ : ∃ y9 : RS, r_look 16 s24 = y9 := ⟨_, rfl⟩
            replace hP : va_P D vwCl (RWd g0 g1 g2 g3 g4 g5 g6 cA cB s26) H := by rw [← t26]; exact hP
            replace hD : va_D A (RWd g0 g1 g2 g3 g4 g5 g6 cA cB s26) := by rw [← t26]; exact hD
            have hL27 : r_plan s26 ([] ++ p_look f (st.1.1 f.toNatClampNeg) ++ p_look t (st.1.1 t.toNatClampNeg) ++ p_look 16 (st.1.1 (16 : Int32).toNatClampNeg)) := by clear hP hD hS; subst t20; subst t22; subst t24; subst t26; exact plan_look 16 hL25 (by simp only [List.length_append, List.length_nil, List.length_cons, pl_look, pl_put] <;> decide) in20_16
            refine lv_iload hx hb dX1_transfer_138 (lv_at hl 0 rfl) ?_
            refine lv_if_eq (tgt := 277) hx hb dX1_transfer_140 (by decide) (fun _ => ?_) (fun c0 => absurd c0 (by decide))
            refine lv_aload_n hx hb dX1_transfer_277 rfl (lv_at hl 6 rfl) ?_
            refine cM_this (Wd := RWd g0 g1 g2 g3 g4 g5 g6 cA cB) (ci := 1) (q0 := 0) (n := 0) (as := []) (rest := []) ⟨hx, hb, hml, hown, hts⟩ (c_X1_works l D g0 g1 g2 g3 g4 g5 g6 cA cB s26 ([] ++ p_look f (st.1.1 f.toNatClampNeg) ++ p_look t (st.1.1 t.toNatClampNeg) ++ p_look 16 (st.1.1 (16 : Int32).toNatClampNeg)) hL27) gX1_transfer_X1_works rfl rfl rfl (by decide +kernel) ⟨Nat.le_of_ble_eq_true rfl, Nat.le_of_ble_eq_true rfl⟩ hK hP hD hS hA rfl rfl rfl hl.1 rfl rfl (Nat.le_of_ble_eq_true rfl) dX1_transfer_278 ⟨Nat.zero_le _, Nat.zero_le _⟩ (fun H locs hP hD hS => ?_)
            obtain ⟨s28, t28⟩ : ∃ y9 : RS, (r_wk ([] ++ p_look f (st.1.1 f.toNatClampNeg) ++ p_look t (st.1.1 t.toNatClampNeg) ++ p_look 16 (st.1.1 (16 : Int32).toNatClampNeg)) s26).2 = y9 := ⟨_, rfl⟩
            replace hP : va_P D vwCl (RWd g0 g1 g2 g3 g4 g5 g6 cA cB s28) H := by rw [← t28]; exact hP
            replace hD : va_D A (RWd g0 g1 g2 g3 g4 g5 g6 cA cB s28) := by rw [← t28]; exact hD
            refine tpi (fun v29 e29 => ?_)
            refine lv_if_ne (tgt := 289) hx hb dX1_transfer_281 (by decide) (fun c30 => ?_) (fun c30 => ?_)
            · refine lv_iload hx hb dX1_transfer_289 (lv_at hl 0 rfl) ?_
              refine lv_if_eq (tgt := 298) hx hb dX1_transfer_291 (by decide) (fun _ => ?_) (fun c0 => absurd c0 (by decide))
              refine lv_iconst (v := (-1)) hx hb dX1_transfer_298 (by decide) ?_
              have fin : r_transfer f t a st = ((-1), s28) := by
                clear hP hD hS; subst e1; subst e3; subst e7; subst e8; subst e9; subst e10; subst e11; subst e12; subst e13; subst e14; subst e15; subst e16; subst e17; subst e18; subst t20; subst t22; subst t24; subst t26; subst t28; subst e29; simp only [r_transfer, r_trB, r_trAcc, r_trL, r_trS, r_doL, r_doS, r_end, r_zero, bI, c2, c4, c5, c6, c19, c30, ↓reduceIte, not_true_eq_false, not_false_eq_true, and_self, and_true, true_and, and_false, false_and, eq_self, i10]
              exact cM_reti (Wd := RWd g0 g1 g2 g3 g4 g5 g6 cA cB) (st := s28) (st' := (r_transfer f t a st).2) hx hb hr hlocks dX1_transfer_299 hS hP hD (congrArg Prod.fst fin).symm (congrArg Prod.snd fin).symm
            · refine lv_bipush (v := (-2)) hx hb dX1_transfer_284 (by decide) ?_
              refine lv_goto (tgt := 299) hx hb dX1_transfer_286 (by decide) ?_
              have fin : r_transfer f t a st = ((-2), s28) := by
                clear hP hD hS; subst e1; subst e3; subst e7; subst e8; subst e9; subst e10; subst e11; subst e12; subst e13; subst e14; subst e15; subst e16; subst e17; subst e18; subst t20; subst t22; subst t24; subst t26; subst t28; subst e29; simp only [r_transfer, r_trB, r_trAcc, r_trL, r_trS, r_doL, r_doS, r_end, r_zero, bI, c2, c4, c5, c6, c19, c30, ↓reduceIte, not_true_eq_false, not_false_eq_true, and_self, and_true, true_and, and_false, false_and, eq_self, i10]
              exact cM_reti (Wd := RWd g0 g1 g2 g3 g4 g5 g6 cA cB) (st := s28) (st' := (r_transfer f t a st).2) hx hb hr hlocks dX1_transfer_299 hS hP hD (congrArg Prod.fst fin).symm (congrArg Prod.snd fin).symm
          · refine lv_lload hx hb dX1_transfer_82 (lv_at hl 3 rfl) ?_
            refine lv_lload hx hb dX1_transfer_84 (lv_at hl 0 rfl) ?_
            refine cS_call (n := 2) (as := [.long v8, .long v17]) (rest := []) ⟨hx, hb, hml, hown, hts⟩ (c_X1_canBe l v8 v17) gX1_transfer_X1_canBe rfl rfl rfl (by decide +kernel) ⟨Nat.le_of_ble_eq_true rfl, Nat.le_of_ble_eq_true rfl⟩ hl.1 rfl rfl (Nat.le_of_ble_eq_true rfl) dX1_transfer_86 ⟨Nat.zero_le _, Nat.zero_le _⟩ ?_
            refine tpi (fun v31 e31 => ?_)
            refine lv_if_eq (tgt := 114) hx hb dX1_transfer_89 (by decide) (fun c32 => ?_) (fun c32 => ?_)
            · refine lv_iconst (v := 0) hx hb dX1_transfer_114 (by decide) ?_
              refine lv_istore (lv' := [(14, .int 0), (12, .long v17), (10, .long v13), (8, .long v9), (6, .long v8), (4, .long v7), (0, .ref g0), (1, .int f), (2, .int t), (3, .int a)]) hx hb dX1_transfer_115 hl (by decide) rfl (fun ls hl => ?_)
              refine lv_aload_n hx hb dX1_transfer_117 rfl (lv_at hl 6 rfl) ?_
              refine lv_iconst (v := 0) hx hb dX1_transfer_118 (by decide) ?_
              refine va_put (D := D) (ci := 1) (v := .int 0) (ty := .int) (C := RX1) (T := TX1) (N := 11) hx hb hts (by decide +kernel) tyX1 tyX1_ok nmX1 hown hK hP hD hS 0 rfl rfl 9 (by decide) (hts (.fieldLink RX1 63 "FadeLedgerModel" "turns" "I") (by decide +kernel)) (fun _ h9 => h9) rfl (by decide +kernel) rfl rfl (Nat.le_of_ble_eq_true rfl) dX1_transfer_119 (fun H locs hP hD hS => ?_)
              obtain ⟨s33, t33⟩ : ∃ y9 : RS, ((st.1, st.2.1, st.2.2.1, st.2.2.2.1, 0, st.2.2.2.2.2) : RS) = y9 := ⟨_, rfl⟩
              replace hP : va_P D vwCl (RWd g0 g1 g2 g3 g4 g5 g6 cA cB s33) H := by rw [← t33]; exact hP
              replace hD : va_D A (RWd g0 g1 g2 g3 g4 g5 g6 cA cB s33) := by rw [← t33]; exact hD
              have hL34 : r_plan s33 [] := by rw [← t33]; exact plan_zero _
              refine lv_aload_n hx hb dX1_transfer_122 rfl (lv_at hl 6 rfl) ?_
              refine lv_iload_n hx hb dX1_transfer_123 rfl (lv_at hl 7 rfl) ?_
              refine cM_this (Wd := RWd g0 g1 g2 g3 g4 g5 g6 cA cB) (ci := 1) (q0 := 0) (n := 1) (as := [.int f]) (rest := []) ⟨hx, hb, hml, hown, hts⟩ (c_X1_look l D g0 g1 g2 g3 g4 g5 g6 cA cB s33 f hf _ hL34.1 (by simp only [List.length_append, List.length_nil, List.length_cons, pl_look, pl_put] <;> decide)) gX1_transfer_X1_look rfl rfl rfl (by decide +kernel) ⟨Nat.le_of_ble_eq_true rfl, Nat.le_of_ble_eq_true rfl⟩ hK hP hD hS hA rfl rfl rfl hl.1 rfl rfl (Nat.le_of_ble_eq_true rfl) dX1_transfer_124 ⟨Nat.zero_le _, Nat.zero_le _⟩ (fun H locs hP hD hS => ?_)
              refine W.eq (g2 := F0 m 127 ls []) rfl ?_
              obtain ⟨s35, t35⟩ : ∃ y9 : RS, r_look f s33 = y9 := ⟨_, rfl⟩
              replace hP : va_P D vwCl (RWd g0 g1 g2 g3 g4 g5 g6 cA cB s35) H := by rw [← t35]; exact hP
              replace hD : va_D A (RWd g0 g1 g2 g3 g4 g5 g6 cA cB s35) := by rw [← t35]; exact hD
              have hL36 : r_plan s35 ([] ++ p_look f (st.1.1 f.toNatClampNeg)) := by clear hP hD hS; subst t33; subst t35; exact plan_look f hL34 (by simp only [List.length_append, List.length_nil, List.length_cons, pl_look, pl_put] <;> decide) hf
              refine lv_aload_n hx hb dX1_transfer_127 rfl (lv_at hl 6 rfl) ?_
              refine lv_iload_n hx hb dX1_transfer_128 rfl (lv_at hl 8 rfl) ?_
              refine cM_this (Wd := RWd g0 g1 g2 g3 g4 g5 g6 cA cB) (ci := 1) (q0 := 0) (n := 1) (as := [.int t]) (rest := []) ⟨hx, hb, hml, hown, hts⟩ (c_X1_look l D g0 g1 g2 g3 g4 g5 g6 cA cB s35 t ht _ hL36.1 (by simp only [List.length_append, List.length_nil, List.length_cons, pl_look, pl_put] <;> decide)) gX1_transfer_X1_look rfl rfl rfl (by decide +kernel) ⟨Nat.le_of_ble_eq_true rfl, Nat.le_of_ble_eq_true rfl⟩ hK hP hD hS hA rfl rfl rfl hl.1 rfl rfl (Nat.le_of_ble_eq_true rfl) dX1_transfer_129 ⟨Nat.zero_le _, Nat.zero_le _⟩ (fun H locs hP hD hS => ?_)
              refine W.eq (g2 := F0 m 132 ls []) rfl ?_
              obtain ⟨s37, t37⟩ : ∃ y9 : RS, r_look t s35 = y9 := ⟨_, rfl⟩
              replace hP : va_P D vwCl (RWd g0 g1 g2 g3 g4 g5 g6 cA cB s37) H := by rw [← t37]; exact hP
              replace hD : va_D A (RWd g0 g1 g2 g3 g4 g5 g6 cA cB s37) := by rw [← t37]; exact hD
              have hL38 : r_plan s37 ([] ++ p_look f (st.1.1 f.toNatClampNeg) ++ p_look t (st.1.1 t.toNatClampNeg)) := by clear hP hD hS; subst t33; subst t35; subst t37; exact plan_look t hL36 (by simp only [List.length_append, List.length_nil, List.length_cons, pl_look, pl_put] <;> decide) ht
              refine lv_aload_n hx hb dX1_transfer_132 rfl (lv_at hl 6 rfl) ?_
              refine lv_bipush (v := 16) hx hb dX1_transfer_133 (by decide) ?_
              refine cM_this (Wd := RWd g0 g1 g2 g3 g4 g5 g6 cA cB) (ci := 1) (q0 := 0) (n := 1) (as := [.int 16]) (rest := []) ⟨hx, hb, hml, hown, hts⟩ (c_X1_look l D g0 g1 g2 g3 g4 g5 g6 cA cB s37 16 in20_16 _ hL38.1 (by simp only [List.length_append, List.length_nil, List.length_cons, pl_look, pl_put] <;> decide)) gX1_transfer_X1_look rfl rfl rfl (by decide +kernel) ⟨Nat.le_of_ble_eq_true rfl, Nat.le_of_ble_eq_true rfl⟩ hK hP hD hS hA rfl rfl rfl hl.1 rfl rfl (Nat.le_of_ble_eq_true rfl) dX1_transfer_135 ⟨Nat.zero_le _, Nat.zero_le _⟩ (fun H locs hP hD hS => ?_)
              refine W.eq (g2 := F0 m 138 ls []) rfl ?_
              obtain ⟨s39, t39⟩ : ∃ y9 : RS, r_look 16 s37 = y9 := ⟨_, rfl⟩
              replace hP : va_P D vwCl (RWd g0 g1 g2 g3 g4 g5 g6 cA cB s39) H := by rw [← t39]; exact hP
              replace hD : va_D A (RWd g0 g1 g2 g3 g4 g5 g6 cA cB s39) := by rw [← t39]; exact hD
              have hL40 : r_plan s39 ([] ++ p_look f (st.1.1 f.toNatClampNeg) ++ p_look t (st.1.1 t.toNatClampNeg) ++ p_look 16 (st.1.1 (16 : Int32).toNatClampNeg)) := by clear hP hD hS; subst t33; subst t35; subst t37; subst t39; exact plan_look 16 hL38 (by simp only [List.length_append, List.length_nil, List.length_cons, pl_look, pl_put] <;> decide) in20_16
              refine lv_iload hx hb dX1_transfer_138 (lv_at hl 0 rfl) ?_
              refine lv_if_eq (tgt := 277) hx hb dX1_transfer_140 (by decide) (fun _ => ?_) (fun c0 => absurd c0 (by decide))
              refine lv_aload_n hx hb dX1_transfer_277 rfl (lv_at hl 6 rfl) ?_
              refine cM_this (Wd := RWd g0 g1 g2 g3 g4 g5 g6 cA cB) (ci := 1) (q0 := 0) (n := 0) (as := []) (rest := []) ⟨hx, hb, hml, hown, hts⟩ (c_X1_works l D g0 g1 g2 g3 g4 g5 g6 cA cB s39 ([] ++ p_look f (st.1.1 f.toNatClampNeg) ++ p_look t (st.1.1 t.toNatClampNeg) ++ p_look 16 (st.1.1 (16 : Int32).toNatClampNeg)) hL40) gX1_transfer_X1_works rfl rfl rfl (by decide +kernel) ⟨Nat.le_of_ble_eq_true rfl, Nat.le_of_ble_eq_true rfl⟩ hK hP hD hS hA rfl rfl rfl hl.1 rfl rfl (Nat.le_of_ble_eq_true rfl) dX1_transfer_278 ⟨Nat.zero_le _, Nat.zero_le _⟩ (fun H locs hP hD hS => ?_)
              obtain ⟨s41, t41⟩ : ∃ y9 : RS, (r_wk ([] ++ p_look f (st.1.1 f.toNatClampNeg) ++ p_look t (st.1.1 t.toNatClampNeg) ++ p_look 16 (st.1.1 (16 : Int32).toNatClampNeg)) s39).2 = y9 := ⟨_, rfl⟩
              replace hP : va_P D vwCl (RWd g0 g1 g2 g3 g4 g5 g6 cA cB s41) H := by rw [← t41]; exact hP
              replace hD : va_D A (RWd g0 g1 g2 g3 g4 g5 g6 cA cB s41) := by rw [← t41]; exact hD
              refine tpi (fun v42 e42 => ?_)
              refine lv_if_ne (tgt := 289) hx hb dX1_transfer_281 (by decide) (fun c43 => ?_) (fun c43 => ?_)
              · refine lv_iload hx hb dX1_transfer_289 (lv_at hl 0 rfl) ?_
                refine lv_if_eq (tgt := 298) hx hb dX1_transfer_291 (by decide) (fun _ => ?_) (fun c0 => absurd c0 (by decide))
                refine lv_iconst (v := (-1)) hx hb dX1_transfer_298 (by decide) ?_
                have fin : r_transfer f t a st = ((-1), s41) := by
                  clear hP hD hS; subst e1; subst e3; subst e7; subst e8; subst e9; subst e10; subst e11; subst e12; subst e13; subst e14; subst e15; subst e16; subst e17; subst e18; subst e31; subst t33; subst t35; subst t37; subst t39; subst t41; subst e42; simp only [r_transfer, r_trB, r_trAcc, r_trL, r_trS, r_doL, r_doS, r_end, r_zero, bI, c2, c4, c5, c6, c19, c32, c43, ↓reduceIte, not_true_eq_false, not_false_eq_true, and_self, and_true, true_and, and_false, false_and, eq_self, i10]
                exact cM_reti (Wd := RWd g0 g1 g2 g3 g4 g5 g6 cA cB) (st := s41) (st' := (r_transfer f t a st).2) hx hb hr hlocks dX1_transfer_299 hS hP hD (congrArg Prod.fst fin).symm (congrArg Prod.snd fin).symm
              · refine lv_bipush (v := (-2)) hx hb dX1_transfer_284 (by decide) ?_
                refine lv_goto (tgt := 299) hx hb dX1_transfer_286 (by decide) ?_
                have fin : r_transfer f t a st = ((-2), s41) := by
                  clear hP hD hS; subst e1; subst e3; subst e7; subst e8; subst e9; subst e10; subst e11; subst e12; subst e13; subst e14; subst e15; subst e16; subst e17; subst e18; subst e31; subst t33; subst t35; subst t37; subst t39; subst t41; subst e42; simp only [r_transfer, r_trB, r_trAcc, r_trL, r_trS, r_doL, r_doS, r_end, r_zero, bI, c2, c4, c5, c6, c19, c32, c43, ↓reduceIte, not_true_eq_false, not_false_eq_true, and_self, and_true, true_and, and_false, false_and, eq_self, i10]
                exact cM_reti (Wd := RWd g0 g1 g2 g3 g4 g5 g6 cA cB) (st := s41) (st' := (r_transfer f t a st).2) hx hb hr hlocks dX1_transfer_299 hS hP hD (congrArg Prod.fst fin).symm (congrArg Prod.snd fin).symm
            · refine lv_lload hx hb dX1_transfer_92 (lv_at hl 2 rfl) ?_
              refine cS_call (n := 1) (as := [.long v9]) (rest := []) ⟨hx, hb, hml, hown, hts⟩ (c_X1_isValid l v9) gX1_transfer_X1_isValid rfl rfl rfl (by decide +kernel) ⟨Nat.le_of_ble_eq_true rfl, Nat.le_of_ble_eq_true rfl⟩ hl.1 rfl rfl (Nat.le_of_ble_eq_true rfl) dX1_transfer_94 ⟨Nat.zero_le _, Nat.zero_le _⟩ ?_
              refine tpi (fun v44 e44 => ?_)
              refine lv_if_eq (tgt := 114) hx hb dX1_transfer_97 (by decide) (fun c45 => ?_) (fun c45 => ?_)
              · refine lv_iconst (v := 0) hx hb dX1_transfer_114 (by decide) ?_
                refine lv_istore (lv' := [(14, .int 0), (12, .long v17), (10, .long v13), (8, .long v9), (6, .long v8), (4, .long v7), (0, .ref g0), (1, .int f), (2, .int t), (3, .int a)]) hx hb dX1_transfer_115 hl (by decide) rfl (fun ls hl => ?_)
                refine lv_aload_n hx hb dX1_transfer_117 rfl (lv_at hl 6 rfl) ?_
                refine lv_iconst (v := 0) hx hb dX1_transfer_118 (by decide) ?_
                refine va_put (D := D) (ci := 1) (v := .int 0) (ty := .int) (C := RX1) (T := TX1) (N := 11) hx hb hts (by decide +kernel) tyX1 tyX1_ok nmX1 hown hK hP hD hS 0 rfl rfl 9 (by decide) (hts (.fieldLink RX1 63 "FadeLedgerModel" "turns" "I") (by decide +kernel)) (fun _ h9 => h9) rfl (by decide +kernel) rfl rfl (Nat.le_of_ble_eq_true rfl) dX1_transfer_119 (fun H locs hP hD hS => ?_)
                obtain ⟨s46, t46⟩ : ∃ y9 : RS, ((st.1, st.2.1, st.2.2.1, st.2.2.2.1, 0, st.2.2.2.2.2) : RS) = y9 := ⟨_, rfl⟩
                replace hP : va_P D vwCl (RWd g0 g1 g2 g3 g4 g5 g6 cA cB s46) H := by rw [← t46]; exact hP
                replace hD : va_D A (RWd g0 g1 g2 g3 g4 g5 g6 cA cB s46) := by rw [← t46]; exact hD
                have hL47 : r_plan s46 [] := by rw [← t46]; exact plan_zero _
                refine lv_aload_n hx hb dX1_transfer_122 rfl (lv_at hl 6 rfl) ?_
                refine lv_iload_n hx hb dX1_transfer_123 rfl (lv_at hl 7 rfl) ?_
                refine cM_this (Wd := RWd g0 g1 g2 g3 g4 g5 g6 cA cB) (ci := 1) (q0 := 0) (n := 1) (as := [.int f]) (rest := []) ⟨hx, hb, hml, hown, hts⟩ (c_X1_look l D g0 g1 g2 g3 g4 g5 g6 cA cB s46 f hf _ hL47.1 (by simp only [List.length_append, List.length_nil, List.length_cons, pl_look, pl_put] <;> decide)) gX1_transfer_X1_look rfl rfl rfl (by decide +kernel) ⟨Nat.le_of_ble_eq_true rfl, Nat.le_of_ble_eq_true rfl⟩ hK hP hD hS hA rfl rfl rfl hl.1 rfl rfl (Nat.le_of_ble_eq_true rfl) dX1_transfer_124 ⟨Nat.zero_le _, Nat.zero_le _⟩ (fun H locs hP hD hS => ?_)
                refine W.eq (g2 := F0 m 127 ls []) rfl ?_
                obtain ⟨s48, t48⟩ : ∃ y9 : RS, r_look f s46 = y9 := ⟨_, rfl⟩
                replace hP : va_P D vwCl (RWd g0 g1 g2 g3 g4 g5 g6 cA cB s48) H := by rw [← t48]; exact hP
                replace hD : va_D A (RWd g0 g1 g2 g3 g4 g5 g6 cA cB s48) := by rw [← t48]; exact hD
                have hL49 : r_plan s48 ([] ++ p_look f (st.1.1 f.toNatClampNeg)) := by clear hP hD hS; subst t46; subst t48; exact plan_look f hL47 (by simp only [List.length_append, List.length_nil, List.length_cons, pl_look, pl_put] <;> decide) hf
                refine lv_aload_n hx hb dX1_transfer_127 rfl (lv_at hl 6 rfl) ?_
                refine lv_iload_n hx hb dX1_transfer_128 rfl (lv_at hl 8 rfl) ?_
                refine cM_this (Wd := RWd g0 g1 g2 g3 g4 g5 g6 cA cB) (ci := 1) (q0 := 0) (n := 1) (as := [.int t]) (rest := []) ⟨hx, hb, hml, hown, hts⟩ (c_X1_look l D g0 g1 g2 g3 g4 g5 g6 cA cB s48 t ht _ hL49.1 (by simp only [List.length_append, List.length_nil, List.length_cons, pl_look, pl_put] <;> decide)) gX1_transfer_X1_look rfl rfl rfl (by decide +kernel) ⟨Nat.le_of_ble_eq_true rfl, Nat.le_of_ble_eq_true rfl⟩ hK hP hD hS hA rfl rfl rfl hl.1 rfl rfl (Nat.le_of_ble_eq_true rfl) dX1_transfer_129 ⟨Nat.zero_le _, Nat.zero_le _⟩ (fun H locs hP hD hS => ?_)
                refine W.eq (g2 := F0 m 132 ls []) rfl ?_
                obtain ⟨s50, t50⟩ : ∃ y9 : RS, r_look t s48 = y9 := ⟨_, rfl⟩
                replace hP : va_P D vwCl (RWd g0 g1 g2 g3 g4 g5 g6 cA cB s50) H := by rw [← t50]; exact hP
                replace hD : va_D A (RWd g0 g1 g2 g3 g4 g5 g6 cA cB s50) := by rw [← t50]; exact hD
                have hL51 : r_plan s50 ([] ++ p_look f (st.1.1 f.toNatClampNeg) ++ p_look t (st.1.1 t.toNatClampNeg)) := by clear hP hD hS; subst t46; subst t48; subst t50; exact plan_look t hL49 (by simp only [List.length_append, List.length_nil, List.length_cons, pl_look, pl_put] <;> decide) ht
                refine lv_aload_n hx hb dX1_transfer_132 rfl (lv_at hl 6 rfl) ?_
                refine lv_bipush (v := 16) hx hb dX1_transfer_133 (by decide) ?_
                refine cM_this (Wd := RWd g0 g1 g2 g3 g4 g5 g6 cA cB) (ci := 1) (q0 := 0) (n := 1) (as := [.int 16]) (rest := []) ⟨hx, hb, hml, hown, hts⟩ (c_X1_look l D g0 g1 g2 g3 g4 g5 g6 cA cB s50 16 in20_16 _ hL51.1 (by simp only [List.length_append, List.length_nil, List.length_cons, pl_look, pl_put] <;> decide)) gX1_transfer_X1_look rfl rfl rfl (by decide +kernel) ⟨Nat.le_of_ble_eq_true rfl, Nat.le_of_ble_eq_true rfl⟩ hK hP hD hS hA rfl rfl rfl hl.1 rfl rfl (Nat.le_of_ble_eq_true rfl) dX1_transfer_135 ⟨Nat.zero_le _, Nat.zero_le _⟩ (fun H locs hP hD hS => ?_)
                refine W.eq (g2 := F0 m 138 ls []) rfl ?_
                obtain ⟨s52, t52⟩ : ∃ y9 : RS, r_look 16 s50 = y9 := ⟨_, rfl⟩
                replace hP : va_P D vwCl (RWd g0 g1 g2 g3 g4 g5 g6 cA cB s52) H := by rw [← t52]; exact hP
                replace hD : va_D A (RWd g0 g1 g2 g3 g4 g5 g6 cA cB s52) := by rw [← t52]; exact hD
                have hL53 : r_plan s52 ([] ++ p_look f (st.1.1 f.toNatClampNeg) ++ p_look t (st.1.1 t.toNatClampNeg) ++ p_look 16 (st.1.1 (16 : Int32).toNatClampNeg)) := by clear hP hD hS; subst t46; subst t48; subst t50; subst t52; exact plan_look 16 hL51 (by simp only [List.length_append, List.length_nil, List.length_cons, pl_look, pl_put] <;> decide) in20_16
                refine lv_iload hx hb dX1_transfer_138 (lv_at hl 0 rfl) ?_
                refine lv_if_eq (tgt := 277) hx hb dX1_transfer_140 (by decide) (fun _ => ?_) (fun c0 => absurd c0 (by decide))
                refine lv_aload_n hx hb dX1_transfer_277 rfl (lv_at hl 6 rfl) ?_
                refine cM_this (Wd := RWd g0 g1 g2 g3 g4 g5 g6 cA cB) (ci := 1) (q0 := 0) (n := 0) (as := []) (rest := []) ⟨hx, hb, hml, hown, hts⟩ (c_X1_works l D g0 g1 g2 g3 g4 g5 g6 cA cB s52 ([] ++ p_look f (st.1.1 f.toNatClampNeg) ++ p_look t (st.1.1 t.toNatClampNeg) ++ p_look 16 (st.1.1 (16 : Int32).toNatClampNeg)) hL53) gX1_transfer_X1_works rfl rfl rfl (by decide +kernel) ⟨Nat.le_of_ble_eq_true rfl, Nat.le_of_ble_eq_true rfl⟩ hK hP hD hS hA rfl rfl rfl hl.1 rfl rfl (Nat.le_of_ble_eq_true rfl) dX1_transfer_278 ⟨Nat.zero_le _, Nat.zero_le _⟩ (fun H locs hP hD hS => ?_)
                obtain ⟨s54, t54⟩ : ∃ y9 : RS, (r_wk ([] ++ p_look f (st.1.1 f.toNatClampNeg) ++ p_look t (st.1.1 t.toNatClampNeg) ++ p_look 16 (st.1.1 (16 : Int32).toNatClampNeg)) s52).2 = y9 := ⟨_, rfl⟩
                replace hP : va_P D vwCl (RWd g0 g1 g2 g3 g4 g5 g6 cA cB s54) H := by rw [← t54]; exact hP
                replace hD : va_D A (RWd g0 g1 g2 g3 g4 g5 g6 cA cB s54) := by rw [← t54]; exact hD
                refine tpi (fun v55 e55 => ?_)
                refine lv_if_ne (tgt := 289) hx hb dX1_transfer_281 (by decide) (fun c56 => ?_) (fun c56 => ?_)
                · refine lv_iload hx hb dX1_transfer_289 (lv_at hl 0 rfl) ?_
                  refine lv_if_eq (tgt := 298) hx hb dX1_transfer_291 (by decide) (fun _ => ?_) (fun c0 => absurd c0 (by decide))
                  refine lv_iconst (v := (-1)) hx hb dX1_transfer_298 (by decide) ?_
                  have fin : r_transfer f t a st = ((-1), s54) := by
                    clear hP hD hS; subst e1; subst e3; subst e7; subst e8; subst e9; subst e10; subst e11; subst e12; subst e13; subst e14; subst e15; subst e16; subst e17; subst e18; subst e31; subst e44; subst t46; subst t48; subst t50; subst t52; subst t54; subst e55; simp only [r_transfer, r_trB, r_trAcc, r_trL, r_trS, r_doL, r_doS, r_end, r_zero, bI, c2, c4, c5, c6, c19, c32, c45, c56, ↓reduceIte, not_true_eq_false, not_false_eq_true, and_self, and_true, true_and, and_false, false_and, eq_self, i10]
                  exact cM_reti (Wd := RWd g0 g1 g2 g3 g4 g5 g6 cA cB) (st := s54) (st' := (r_transfer f t a st).2) hx hb hr hlocks dX1_transfer_299 hS hP hD (congrArg Prod.fst fin).symm (congrArg Prod.snd fin).symm
                · refine lv_bipush (v := (-2)) hx hb dX1_transfer_284 (by decide) ?_
                  refine lv_goto (tgt := 299) hx hb dX1_transfer_286 (by decide) ?_
                  have fin : r_transfer f t a st = ((-2), s54) := by
                    clear hP hD hS; subst e1; subst e3; subst e7; subst e8; subst e9; subst e10; subst e11; subst e12; subst e13; subst e14; subst e15; subst e16; subst e17; subst e18; subst e31; subst e44; subst t46; subst t48; subst t50; subst t52; subst t54; subst e55; simp only [r_transfer, r_trB, r_trAcc, r_trL, r_trS, r_doL, r_doS, r_end, r_zero, bI, c2, c4, c5, c6, c19, c32, c45, c56, ↓reduceIte, not_true_eq_false, not_false_eq_true, and_self, and_true, true_and, and_false, false_and, eq_self, i10]
                  exact cM_reti (Wd := RWd g0 g1 g2 g3 g4 g5 g6 cA cB) (st := s54) (st' := (r_transfer f t a st).2) hx hb hr hlocks dX1_transfer_299 hS hP hD (congrArg Prod.fst fin).symm (congrArg Prod.snd fin).symm
              · refine lv_lload hx hb dX1_transfer_100 (lv_at hl 2 rfl) ?_
                refine cS_call (n := 1) (as := [.long v9]) (rest := []) ⟨hx, hb, hml, hown, hts⟩ (c_X1_numberOf l v9) gX1_transfer_X1_numberOf rfl rfl rfl (by decide +kernel) ⟨Nat.le_of_ble_eq_true rfl, Nat.le_of_ble_eq_true rfl⟩ hl.1 rfl rfl (Nat.le_of_ble_eq_true rfl) dX1_transfer_102 ⟨Nat.zero_le _, Nat.zero_le _⟩ ?_
                refine tpi (fun v57 e57 => ?_)
                refine lv_ldc (v := 16777215) hx hb hown (hts (.constant RX1 106 16777215) (by decide +kernel)) dX1_transfer_105 ?_
                refine lv_icmp_ge (tgt := 114) hx hb dX1_transfer_107 (by decide) (fun c58 => ?_) (fun c58 => ?_)
                · refine lv_iconst (v := 0) hx hb dX1_transfer_114 (by decide) ?_
                  refine lv_istore (lv' := [(14, .int 0), (12, .long v17), (10, .long v13), (8, .long v9), (6, .long v8), (4, .long v7), (0, .ref g0), (1, .int f), (2, .int t), (3, .int a)]) hx hb dX1_transfer_115 hl (by decide) rfl (fun ls hl => ?_)
                  refine lv_aload_n hx hb dX1_transfer_117 rfl (lv_at hl 6 rfl) ?_
                  refine lv_iconst (v := 0) hx hb dX1_transfer_118 (by decide) ?_
                  refine va_put (D := D) (ci := 1) (v := .int 0) (ty := .int) (C := RX1) (T := TX1) (N := 11) hx hb hts (by decide +kernel) tyX1 tyX1_ok nmX1 hown hK hP hD hS 0 rfl rfl 9 (by decide) (hts (.fieldLink RX1 63 "FadeLedgerModel" "turns" "I") (by decide +kernel)) (fun _ h9 => h9) rfl (by decide +kernel) rfl rfl (Nat.le_of_ble_eq_true rfl) dX1_transfer_119 (fun H locs hP hD hS => ?_)
                  obtain ⟨s59, t59⟩ : ∃ y9 : RS, ((st.1, st.2.1, st.2.2.1, st.2.2.2.1, 0, st.2.2.2.2.2) : RS) = y9 := ⟨_, rfl⟩
                  replace hP : va_P D vwCl (RWd g0 g1 g2 g3 g4 g5 g6 cA cB s59) H := by rw [← t59]; exact hP
                  replace hD : va_D A (RWd g0 g1 g2 g3 g4 g5 g6 cA cB s59) := by rw [← t59]; exact hD
                  have hL60 : r_plan s59 [] := by rw [← t59]; exact plan_zero _
                  refine lv_aload_n hx hb dX1_transfer_122 rfl (lv_at hl 6 rfl) ?_
                  refine lv_iload_n hx hb dX1_transfer_123 rfl (lv_at hl 7 rfl) ?_
                  refine cM_this (Wd := RWd g0 g1 g2 g3 g4 g5 g6 cA cB) (ci := 1) (q0 := 0) (n := 1) (as := [.int f]) (rest := []) ⟨hx, hb, hml, hown, hts⟩ (c_X1_look l D g0 g1 g2 g3 g4 g5 g6 cA cB s59 f hf _ hL60.1 (by simp only [List.length_append, List.length_nil, List.length_cons, pl_look, pl_put] <;> decide)) gX1_transfer_X1_look rfl rfl rfl (by decide +kernel) ⟨Nat.le_of_ble_eq_true rfl, Nat.le_of_ble_eq_true rfl⟩ hK hP hD hS hA rfl rfl rfl hl.1 rfl rfl (Nat.le_of_ble_eq_true rfl) dX1_transfer_124 ⟨Nat.zero_le _, Nat.zero_le _⟩ (fun H locs hP hD hS => ?_)
                  refine W.eq (g2 := F0 m 127 ls []) rfl ?_
                  obtain ⟨s61, t61⟩ : ∃ y9 : RS, r_look f s59 = y9 := ⟨_, rfl⟩
                  replace hP : va_P D vwCl (RWd g0 g1 g2 g3 g4 g5 g6 cA cB s61) H := by rw [← t61]; exact hP
                  replace hD : va_D A (RWd g0 g1 g2 g3 g4 g5 g6 cA cB s61) := by rw [← t61]; exact hD
                  have hL62 : r_plan s61 ([] ++ p_look f (st.1.1 f.toNatClampNeg)) := by clear hP hD hS; subst t59; subst t61; exact plan_look f hL60 (by simp only [List.length_append, List.length_nil, List.length_cons, pl_look, pl_put] <;> decide) hf
                  refine lv_aload_n hx hb dX1_transfer_127 rfl (lv_at hl 6 rfl) ?_
                  refine lv_iload_n hx hb dX1_transfer_128 rfl (lv_at hl 8 rfl) ?_
                  refine cM_this (Wd := RWd g0 g1 g2 g3 g4 g5 g6 cA cB) (ci := 1) (q0 := 0) (n := 1) (as := [.int t]) (rest := []) ⟨hx, hb, hml, hown, hts⟩ (c_X1_look l D g0 g1 g2 g3 g4 g5 g6 cA cB s61 t ht _ hL62.1 (by simp only [List.length_append, List.length_nil, List.length_cons, pl_look, pl_put] <;> decide)) gX1_transfer_X1_look rfl rfl rfl (by decide +kernel) ⟨Nat.le_of_ble_eq_true rfl, Nat.le_of_ble_eq_true rfl⟩ hK hP hD hS hA rfl rfl rfl hl.1 rfl rfl (Nat.le_of_ble_eq_true rfl) dX1_transfer_129 ⟨Nat.zero_le _, Nat.zero_le _⟩ (fun H locs hP hD hS => ?_)
                  refine W.eq (g2 := F0 m 132 ls []) rfl ?_
                  obtain ⟨s63, t63⟩ : ∃ y9 : RS, r_look t s61 = y9 := ⟨_, rfl⟩
                  replace hP : va_P D vwCl (RWd g0 g1 g2 g3 g4 g5 g6 cA cB s63) H := by rw [← t63]; exact hP
                  replace hD : va_D A (RWd g0 g1 g2 g3 g4 g5 g6 cA cB s63) := by rw [← t63]; exact hD
                  have hL64 : r_plan s63 ([] ++ p_look f (st.1.1 f.toNatClampNeg) ++ p_look t (st.1.1 t.toNatClampNeg)) := by clear hP hD hS; subst t59; subst t61; subst t63; exact plan_look t hL62 (by simp only [List.length_append, List.length_nil, List.length_cons, pl_look, pl_put] <;> decide) ht
                  refine lv_aload_n hx hb dX1_transfer_132 rfl (lv_at hl 6 rfl) ?_
                  refine lv_bipush (v := 16) hx hb dX1_transfer_133 (by decide) ?_
                  refine cM_this (Wd := RWd g0 g1 g2 g3 g4 g5 g6 cA cB) (ci := 1) (q0 := 0) (n := 1) (as := [.int 16]) (rest := []) ⟨hx, hb, hml, hown, hts⟩ (c_X1_look l D g0 g1 g2 g3 g4 g5 g6 cA cB s63 16 in20_16 _ hL64.1 (by simp only [List.length_append, List.length_nil, List.length_cons, pl_look, pl_put] <;> decide)) gX1_transfer_X1_look rfl rfl rfl (by decide +kernel) ⟨Nat.le_of_ble_eq_true rfl, Nat.le_of_ble_eq_true rfl⟩ hK hP hD hS hA rfl rfl rfl hl.1 rfl rfl (Nat.le_of_ble_eq_true rfl) dX1_transfer_135 ⟨Nat.zero_le _, Nat.zero_le _⟩ (fun H locs hP hD hS => ?_)
                  refine W.eq (g2 := F0 m 138 ls []) rfl ?_
                  obtain ⟨s65, t65⟩ : ∃ y9 : RS, r_look 16 s63 = y9 := ⟨_, rfl⟩
                  replace hP : va_P D vwCl (RWd g0 g1 g2 g3 g4 g5 g6 cA cB s65) H := by rw [← t65]; exact hP
                  replace hD : va_D A (RWd g0 g1 g2 g3 g4 g5 g6 cA cB s65) := by rw [← t65]; exact hD
                  have hL66 : r_plan s65 ([] ++ p_look f (st.1.1 f.toNatClampNeg) ++ p_look t (st.1.1 t.toNatClampNeg) ++ p_look 16 (st.1.1 (16 : Int32).toNatClampNeg)) := by clear hP hD hS; subst t59; subst t61; subst t63; subst t65; exact plan_look 16 hL64 (by simp only [List.length_append, List.length_nil, List.length_cons, pl_look, pl_put] <;> decide) in20_16
                  refine lv_iload hx hb dX1_transfer_138 (lv_at hl 0 rfl) ?_
                  refine lv_if_eq (tgt := 277) hx hb dX1_transfer_140 (by decide) (fun _ => ?_) (fun c0 => absurd c0 (by decide))
                  refine lv_aload_n hx hb dX1_transfer_277 rfl (lv_at hl 6 rfl) ?_
                  refine cM_this (Wd := RWd g0 g1 g2 g3 g4 g5 g6 cA cB) (ci := 1) (q0 := 0) (n := 0) (as := []) (rest := []) ⟨hx, hb, hml, hown, hts⟩ (c_X1_works l D g0 g1 g2 g3 g4 g5 g6 cA cB s65 ([] ++ p_look f (st.1.1 f.toNatClampNeg) ++ p_look t (st.1.1 t.toNatClampNeg) ++ p_look 16 (st.1.1 (16 : Int32).toNatClampNeg)) hL66) gX1_transfer_X1_works rfl rfl rfl (by decide +kernel) ⟨Nat.le_of_ble_eq_true rfl, Nat.le_of_ble_eq_true rfl⟩ hK hP hD hS hA rfl rfl rfl hl.1 rfl rfl (Nat.le_of_ble_eq_true rfl) dX1_transfer_278 ⟨Nat.zero_le _, Nat.zero_le _⟩ (fun H locs hP hD hS => ?_)
                  obtain ⟨s67, t67⟩ : ∃ y9 : RS, (r_wk ([] ++ p_look f (st.1.1 f.toNatClampNeg) ++ p_look t (st.1.1 t.toNatClampNeg) ++ p_look 16 (st.1.1 (16 : Int32).toNatClampNeg)) s65).2 = y9 := ⟨_, rfl⟩
                  replace hP : va_P D vwCl (RWd g0 g1 g2 g3 g4 g5 g6 cA cB s67) H := by rw [← t67]; exact hP
                  replace hD : va_D A (RWd g0 g1 g2 g3 g4 g5 g6 cA cB s67) := by rw [← t67]; exact hD
                  refine tpi (fun v68 e68 => ?_)
                  refine lv_if_ne (tgt := 289) hx hb dX1_transfer_281 (by decide) (fun c69 => ?_) (fun c69 => ?_)
                  · refine lv_iload hx hb dX1_transfer_289 (lv_at hl 0 rfl) ?_
                    refine lv_if_eq (tgt := 298) hx hb dX1_transfer_291 (by decide) (fun _ => ?_) (fun c0 => absurd c0 (by decide))
                    refine lv_iconst (v := (-1)) hx hb dX1_transfer_298 (by decide) ?_
                    have fin : r_transfer f t a st = ((-1), s67) := by
                      clear hP hD hS; subst e1; subst e3; subst e7; subst e8; subst e9; subst e10; subst e11; subst e12; subst e13; subst e14; subst e15; subst e16; subst e17; subst e18; subst e31; subst e44; subst e57; subst t59; subst t61; subst t63; subst t65; subst t67; subst e68; simp only [r_transfer, r_trB, r_trAcc, r_trL, r_trS, r_doL, r_doS, r_end, r_zero, bI, c2, c4, c5, c6, c19, c32, c45, c58, c69, ↓reduceIte, not_true_eq_false, not_false_eq_true, and_self, and_true, true_and, and_false, false_and, eq_self, i10]
                    exact cM_reti (Wd := RWd g0 g1 g2 g3 g4 g5 g6 cA cB) (st := s67) (st' := (r_transfer f t a st).2) hx hb hr hlocks dX1_transfer_299 hS hP hD (congrArg Prod.fst fin).symm (congrArg Prod.snd fin).symm
                  · refine lv_bipush (v := (-2)) hx hb dX1_transfer_284 (by decide) ?_
                    refine lv_goto (tgt := 299) hx hb dX1_transfer_286 (by decide) ?_
                    have fin : r_transfer f t a st = ((-2), s67) := by
                      clear hP hD hS; subst e1; subst e3; subst e7; subst e8; subst e9; subst e10; subst e11; subst e12; subst e13; subst e14; subst e15; subst e16; subst e17; subst e18; subst e31; subst e44; subst e57; subst t59; subst t61; subst t63; subst t65; subst t67; subst e68; simp only [r_transfer, r_trB, r_trAcc, r_trL, r_trS, r_doL, r_doS, r_end, r_zero, bI, c2, c4, c5, c6, c19, c32, c45, c58, c69, ↓reduceIte, not_true_eq_false, not_false_eq_true, and_self, and_true, true_and, and_false, false_and, eq_self, i10]
                    exact cM_reti (Wd := RWd g0 g1 g2 g3 g4 g5 g6 cA cB) (st := s67) (st' := (r_transfer f t a st).2) hx hb hr hlocks dX1_transfer_299 hS hP hD (congrArg Prod.fst fin).symm (congrArg Prod.snd fin).symm
                · refine lv_iconst (v := 1) hx hb dX1_transfer_110 (by decide) ?_
                  refine lv_goto (tgt := 115) hx hb dX1_transfer_111 (by decide) ?_
                  refine lv_istore (lv' := [(14, .int 1), (12, .long v17), (10, .long v13), (8, .long v9), (6, .long v8), (4, .long v7), (0, .ref g0), (1, .int f), (2, .int t), (3, .int a)]) hx hb dX1_transfer_115 hl (by decide) rfl (fun ls hl => ?_)
                  refine lv_aload_n hx hb dX1_transfer_117 rfl (lv_at hl 6 rfl) ?_
                  refine lv_iconst (v := 0) hx hb dX1_transfer_118 (by decide) ?_
                  refine va_put (D := D) (ci := 1) (v := .int 0) (ty := .int) (C := RX1) (T := TX1) (N := 11) hx hb hts (by decide +kernel) tyX1 tyX1_ok nmX1 hown hK hP hD hS 0 rfl rfl 9 (by decide) (hts (.fieldLink RX1 63 "FadeLedgerModel" "turns" "I") (by decide +kernel)) (fun _ h9 => h9) rfl (by decide +kernel) rfl rfl (Nat.le_of_ble_eq_true rfl) dX1_transfer_119 (fun H locs hP hD hS => ?_)
                  obtain ⟨s70, t70⟩ : ∃ y9 : RS, ((st.1, st.2.1, st.2.2.1, st.2.2.2.1, 0, st.2.2.2.2.2) : RS) = y9 := ⟨_, rfl⟩
                  replace hP : va_P D vwCl (RWd g0 g1 g2 g3 g4 g5 g6 cA cB s70) H := by rw [← t70]; exact hP
                  replace hD : va_D A (RWd g0 g1 g2 g3 g4 g5 g6 cA cB s70) := by rw [← t70]; exact hD
                  have hL71 : r_plan s70 [] := by rw [← t70]; exact plan_zero _
                  refine lv_aload_n hx hb dX1_transfer_122 rfl (lv_at hl 6 rfl) ?_
                  refine lv_iload_n hx hb dX1_transfer_123 rfl (lv_at hl 7 rfl) ?_
                  refine cM_this (Wd := RWd g0 g1 g2 g3 g4 g5 g6 cA cB) (ci := 1) (q0 := 0) (n := 1) (as := [.int f]) (rest := []) ⟨hx, hb, hml, hown, hts⟩ (c_X1_look l D g0 g1 g2 g3 g4 g5 g6 cA cB s70 f hf _ hL71.1 (by simp only [List.length_append, List.length_nil, List.length_cons, pl_look, pl_put] <;> decide)) gX1_transfer_X1_look rfl rfl rfl (by decide +kernel) ⟨Nat.le_of_ble_eq_true rfl, Nat.le_of_ble_eq_true rfl⟩ hK hP hD hS hA rfl rfl rfl hl.1 rfl rfl (Nat.le_of_ble_eq_true rfl) dX1_transfer_124 ⟨Nat.zero_le _, Nat.zero_le _⟩ (fun H locs hP hD hS => ?_)
                  refine W.eq (g2 := F0 m 127 ls []) rfl ?_
                  obtain ⟨s72, t72⟩ : ∃ y9 : RS, r_look f s70 = y9 := ⟨_, rfl⟩
                  replace hP : va_P D vwCl (RWd g0 g1 g2 g3 g4 g5 g6 cA cB s72) H := by rw [← t72]; exact hP
                  replace hD : va_D A (RWd g0 g1 g2 g3 g4 g5 g6 cA cB s72) := by rw [← t72]; exact hD
                  have hL73 : r_plan s72 ([] ++ p_look f (st.1.1 f.toNatClampNeg)) := by clear hP hD hS; subst t70; subst t72; exact plan_look f hL71 (by simp only [List.length_append, List.length_nil, List.length_cons, pl_look, pl_put] <;> decide) hf
                  refine lv_aload_n hx hb dX1_transfer_127 rfl (lv_at hl 6 rfl) ?_
                  refine lv_iload_n hx hb dX1_transfer_128 rfl (lv_at hl 8 rfl) ?_
                  refine cM_this (Wd := RWd g0 g1 g2 g3 g4 g5 g6 cA cB) (ci := 1) (q0 := 0) (n := 1) (as := [.int t]) (rest := []) ⟨hx, hb, hml, hown, hts⟩ (c_X1_look l D g0 g1 g2 g3 g4 g5 g6 cA cB s72 t ht _ hL73.1 (by simp only [List.length_append, List.length_nil, List.length_cons, pl_look, pl_put] <;> decide)) gX1_transfer_X1_look rfl rfl rfl (by decide +kernel) ⟨Nat.le_of_ble_eq_true rfl, Nat.le_of_ble_eq_true rfl⟩ hK hP hD hS hA rfl rfl rfl hl.1 rfl rfl (Nat.le_of_ble_eq_true rfl) dX1_transfer_129 ⟨Nat.zero_le _, Nat.zero_le _⟩ (fun H locs hP hD hS => ?_)
                  refine W.eq (g2 := F0 m 132 ls []) rfl ?_
                  obtain ⟨s74, t74⟩ : ∃ y9 : RS, r_look t s72 = y9 := ⟨_, rfl⟩
                  replace hP : va_P D vwCl (RWd g0 g1 g2 g3 g4 g5 g6 cA cB s74) H := by rw [← t74]; exact hP
                  replace hD : va_D A (RWd g0 g1 g2 g3 g4 g5 g6 cA cB s74) := by rw [← t74]; exact hD
                  have hL75 : r_plan s74 ([] ++ p_look f (st.1.1 f.toNatClampNeg) ++ p_look t (st.1.1 t.toNatClampNeg)) := by clear hP hD hS; subst t70; subst t72; subst t74; exact plan_look t hL73 (by simp only [List.length_append, List.length_nil, List.length_cons, pl_look, pl_put] <;> decide) ht
                  refine lv_aload_n hx hb dX1_transfer_132 rfl (lv_at hl 6 rfl) ?_
                  refine lv_bipush (v := 16) hx hb dX1_transfer_133 (by decide) ?_
                  refine cM_this (Wd := RWd g0 g1 g2 g3 g4 g5 g6 cA cB) (ci := 1) (q0 := 0) (n := 1) (as := [.int 16]) (rest := []) ⟨hx, hb, hml, hown, hts⟩ (c_X1_look l D g0 g1 g2 g3 g4 g5 g6 cA cB s74 16 in20_16 _ hL75.1 (by simp only [List.length_append, List.length_nil, List.length_cons, pl_look, pl_put] <;> decide)) gX1_transfer_X1_look rfl rfl rfl (by decide +kernel) ⟨Nat.le_of_ble_eq_true rfl, Nat.le_of_ble_eq_true rfl⟩ hK hP hD hS hA rfl rfl rfl hl.1 rfl rfl (Nat.le_of_ble_eq_true rfl) dX1_transfer_135 ⟨Nat.zero_le _, Nat.zero_le _⟩ (fun H locs hP hD hS => ?_)
                  refine W.eq (g2 := F0 m 138 ls []) rfl ?_
                  obtain ⟨s76, t76⟩ : ∃ y9 : RS, r_look 16 s74 = y9 := ⟨_, rfl⟩
                  replace hP : va_P D vwCl (RWd g0 g1 g2 g3 g4 g5 g6 cA cB s76) H := by rw [← t76]; exact hP
                  replace hD : va_D A (RWd g0 g1 g2 g3 g4 g5 g6 cA cB s76) := by rw [← t76]; exact hD
                  have hL77 : r_plan s76 ([] ++ p_look f (st.1.1 f.toNatClampNeg) ++ p_look t (st.1.1 t.toNatClampNeg) ++ p_look 16 (st.1.1 (16 : Int32).toNatClampNeg)) := by clear hP hD hS; subst t70; subst t72; subst t74; subst t76; exact plan_look 16 hL75 (by simp only [List.length_append, List.length_nil, List.length_cons, pl_look, pl_put] <;> decide) in20_16
                  refine lv_iload hx hb dX1_transfer_138 (lv_at hl 0 rfl) ?_
                  refine lv_if_eq (tgt := 277) hx hb dX1_transfer_140 (by decide) (fun c0 => absurd c0 (by decide)) (fun _ => ?_)
                  refine lv_lload hx hb dX1_transfer_143 (lv_at hl 3 rfl) ?_
                  refine cS_call (n := 1) (as := [.long v9]) (rest := []) ⟨hx, hb, hml, hown, hts⟩ (c_X1_numberOf l v9) gX1_transfer_X1_numberOf rfl rfl rfl (by decide +kernel) ⟨Nat.le_of_ble_eq_true rfl, Nat.le_of_ble_eq_true rfl⟩ hl.1 rfl rfl (Nat.le_of_ble_eq_true rfl) dX1_transfer_145 ⟨Nat.zero_le _, Nat.zero_le _⟩ ?_
                  refine tpi (fun v78 e78 => ?_)
                  refine lv_iconst (v := 1) hx hb dX1_transfer_148 (by decide) ?_
                  refine lv_iadd hx hb dX1_transfer_149 ?_
                  refine tpi (fun v79 e79 => ?_)
                  refine lv_istore (lv' := [(15, .int v79), (14, .int 1), (12, .long v17), (10, .long v13), (8, .long v9), (6, .long v8), (4, .long v7), (0, .ref g0), (1, .int f), (2, .int t), (3, .int a)]) hx hb dX1_transfer_150 hl (by decide) rfl (fun ls hl => ?_)
                  refine lv_sipush (v := 256) hx hb dX1_transfer_152 (by decide) ?_
                  refine lv_iload_n hx hb dX1_transfer_155 rfl (lv_at hl 8 rfl) ?_
                  refine lv_imul hx hb dX1_transfer_156 ?_
                  refine tpi (fun v80 e80 => ?_)
                  refine lv_iload_n hx hb dX1_transfer_157 rfl (lv_at hl 9 rfl) ?_
                  refine lv_iadd hx hb dX1_transfer_158 ?_
                  refine tpi (fun v81 e81 => ?_)
                  refine lv_istore (lv' := [(16, .int v81), (15, .int v79), (14, .int 1), (12, .long v17), (10, .long v13), (8, .long v9), (6, .long v8), (4, .long v7), (0, .ref g0), (1, .int f), (2, .int t), (3, .int a)]) hx hb dX1_transfer_159 hl (by decide) rfl (fun ls hl => ?_)
                  refine lv_aload_n hx hb dX1_transfer_161 rfl (lv_at hl 8 rfl) ?_
                  refine lv_bipush (v := 16) hx hb dX1_transfer_162 (by decide) ?_
                  refine lv_iload_n hx hb dX1_transfer_164 rfl (lv_at hl 11 rfl) ?_
                  refine lv_iload hx hb dX1_transfer_165 (lv_at hl 1 rfl) ?_
                  refine cS_call (n := 2) (as := [.int a, .int v79]) (rest := [.int 16, .ref g0]) ⟨hx, hb, hml, hown, hts⟩ (c_X1_wordOf l a v79) gX1_transfer_X1_wordOf rfl rfl rfl (by decide +kernel) ⟨Nat.le_of_ble_eq_true rfl, Nat.le_of_ble_eq_true rfl⟩ hl.1 rfl rfl (Nat.le_of_ble_eq_true rfl) dX1_transfer_167 ⟨Nat.zero_le _, Nat.zero_le _⟩ ?_
                  refine tpl (fun v82 e82 => ?_)
                  refine cM_this (Wd := RWd g0 g1 g2 g3 g4 g5 g6 cA cB) (ci := 1) (q0 := 0) (n := 2) (as := [.int 16, .long v82]) (rest := []) ⟨hx, hb, hml, hown, hts⟩ (c_X1_putAll l D g0 g1 g2 g3 g4 g5 g6 cA cB s76 16 v82 _ hL77.1 (by simp only [List.length_append, List.length_nil, List.length_cons, pl_look, pl_put] <;> decide)) gX1_transfer_X1_putAll rfl rfl rfl (by decide +kernel) ⟨Nat.le_of_ble_eq_true rfl, Nat.le_of_ble_eq_true rfl⟩ hK hP hD hS hA rfl rfl rfl hl.1 rfl rfl (Nat.le_of_ble_eq_true rfl) dX1_transfer_170 ⟨Nat.zero_le _, Nat.zero_le _⟩ (fun H locs hP hD hS => ?_)
                  refine W.eq (g2 := F0 m 173 ls []) rfl ?_
                  obtain ⟨s83, t83⟩ : ∃ y9 : RS, r_put 16 v82 s76 = y9 := ⟨_, rfl⟩
                  replace hP : va_P D vwCl (RWd g0 g1 g2 g3 g4 g5 g6 cA cB s83) H := by rw [← t83]; exact hP
                  replace hD : va_D A (RWd g0 g1 g2 g3 g4 g5 g6 cA cB s83) := by rw [← t83]; exact hD
                  have hL84 : r_plan s83 ([] ++ p_look f (st.1.1 f.toNatClampNeg) ++ p_look t (st.1.1 t.toNatClampNeg) ++ p_look 16 (st.1.1 (16 : Int32).toNatClampNeg) ++ p_put 16 v82) := by clear hP hD hS; subst t70; subst t72; subst t74; subst t76; subst t83; exact plan_put 16 v82 hL77 (by simp only [List.length_append, List.length_nil, List.length_cons, pl_look, pl_put] <;> decide) in20_16
                  refine lv_aload_n hx hb dX1_transfer_173 rfl (lv_at hl 8 rfl) ?_
                  refine lv_bipush (v := 17) hx hb dX1_transfer_174 (by decide) ?_
                  refine lv_lload hx hb dX1_transfer_176 (lv_at hl 7 rfl) ?_
                  refine cS_call (n := 1) (as := [.long v7]) (rest := [.int 17, .ref g0]) ⟨hx, hb, hml, hown, hts⟩ (c_X1_numberOf l v7) gX1_transfer_X1_numberOf rfl rfl rfl (by decide +kernel) ⟨Nat.le_of_ble_eq_true rfl, Nat.le_of_ble_eq_true rfl⟩ hl.1 rfl rfl (Nat.le_of_ble_eq_true rfl) dX1_transfer_178 ⟨Nat.zero_le _, Nat.zero_le _⟩ ?_
                  refine tpi (fun v85 e85 => ?_)
                  refine lv_iconst (v := 1) hx hb dX1_transfer_181 (by decide) ?_
                  refine lv_iadd hx hb dX1_transfer_182 ?_
                  refine tpi (fun v86 e86 => ?_)
                  refine lv_iload hx hb dX1_transfer_183 (lv_at hl 1 rfl) ?_
                  refine cS_call (n := 2) (as := [.int v86, .int v79]) (rest := [.int 17, .ref g0]) ⟨hx, hb, hml, hown, hts⟩ (c_X1_wordOf l v86 v79) gX1_transfer_X1_wordOf rfl rfl rfl (by decide +kernel) ⟨Nat.le_of_ble_eq_true rfl, Nat.le_of_ble_eq_true rfl⟩ hl.1 rfl rfl (Nat.le_of_ble_eq_true rfl) dX1_transfer_185 ⟨Nat.zero_le _, Nat.zero_le _⟩ ?_
                  refine tpl (fun v87 e87 => ?_)
                  refine cM_this (Wd := RWd g0 g1 g2 g3 g4 g5 g6 cA cB) (ci := 1) (q0 := 0) (n := 2) (as := [.int 17, .long v87]) (rest := []) ⟨hx, hb, hml, hown, hts⟩ (c_X1_putAll l D g0 g1 g2 g3 g4 g5 g6 cA cB s83 17 v87 _ hL84.1 (by simp only [List.length_append, List.length_nil, List.length_cons, pl_look, pl_put] <;> decide)) gX1_transfer_X1_putAll rfl rfl rfl (by decide +kernel) ⟨Nat.le_of_ble_eq_true rfl, Nat.le_of_ble_eq_true rfl⟩ hK hP hD hS hA rfl rfl rfl hl.1 rfl rfl (Nat.le_of_ble_eq_true rfl) dX1_transfer_188 ⟨Nat.zero_le _, Nat.zero_le _⟩ (fun H locs hP hD hS => ?_)
                  refine W.eq (g2 := F0 m 191 ls []) rfl ?_
                  obtain ⟨s88, t88⟩ : ∃ y9 : RS, r_put 17 v87 s83 = y9 := ⟨_, rfl⟩
                  replace hP : va_P D vwCl (RWd g0 g1 g2 g3 g4 g5 g6 cA cB s88) H := by rw [← t88]; exact hP
                  replace hD : va_D A (RWd g0 g1 g2 g3 g4 g5 g6 cA cB s88) := by rw [← t88]; exact hD
                  have hL89 : r_plan s88 ([] ++ p_look f (st.1.1 f.toNatClampNeg) ++ p_look t (st.1.1 t.toNatClampNeg) ++ p_look 16 (st.1.1 (16 : Int32).toNatClampNeg) ++ p_put 16 v82 ++ p_put 17 v87) := by clear hP hD hS; subst t70; subst t72; subst t74; subst t76; subst t83; subst t88; exact plan_put 17 v87 hL84 (by simp only [List.length_append, List.length_nil, List.length_cons, pl_look, pl_put] <;> decide) in20_17
                  refine lv_aload_n hx hb dX1_transfer_191 rfl (lv_at hl 8 rfl) ?_
                  refine lv_bipush (v := 18) hx hb dX1_transfer_192 (by decide) ?_
                  refine lv_lload hx hb dX1_transfer_194 (lv_at hl 6 rfl) ?_
                  refine cS_call (n := 1) (as := [.long v8]) (rest := [.int 18, .ref g0]) ⟨hx, hb, hml, hown, hts⟩ (c_X1_numberOf l v8) gX1_transfer_X1_numberOf rfl rfl rfl (by decide +kernel) ⟨Nat.le_of_ble_eq_true rfl, Nat.le_of_ble_eq_true rfl⟩ hl.1 rfl rfl (Nat.le_of_ble_eq_true rfl) dX1_transfer_196 ⟨Nat.zero_le _, Nat.zero_le _⟩ ?_
                  refine tpi (fun v90 e90 => ?_)
                  refine lv_iconst (v := 1) hx hb dX1_transfer_199 (by decide) ?_
                  refine lv_iadd hx hb dX1_transfer_200 ?_
                  refine tpi (fun v91 e91 => ?_)
                  refine lv_iload hx hb dX1_transfer_201 (lv_at hl 1 rfl) ?_
                  refine cS_call (n := 2) (as := [.int v91, .int v79]) (rest := [.int 18, .ref g0]) ⟨hx, hb, hml, hown, hts⟩ (c_X1_wordOf l v91 v79) gX1_transfer_X1_wordOf rfl rfl rfl (by decide +kernel) ⟨Nat.le_of_ble_eq_true rfl, Nat.le_of_ble_eq_true rfl⟩ hl.1 rfl rfl (Nat.le_of_ble_eq_true rfl) dX1_transfer_203 ⟨Nat.zero_le _, Nat.zero_le _⟩ ?_
                  refine tpl (fun v92 e92 => ?_)
                  refine cM_this (Wd := RWd g0 g1 g2 g3 g4 g5 g6 cA cB) (ci := 1) (q0 := 0) (n := 2) (as := [.int 18, .long v92]) (rest := []) ⟨hx, hb, hml, hown, hts⟩ (c_X1_putAll l D g0 g1 g2 g3 g4 g5 g6 cA cB s88 18 v92 _ hL89.1 (by simp only [List.length_append, List.length_nil, List.length_cons, pl_look, pl_put] <;> decide)) gX1_transfer_X1_putAll rfl rfl rfl (by decide +kernel) ⟨Nat.le_of_ble_eq_true rfl, Nat.le_of_ble_eq_true rfl⟩ hK hP hD hS hA rfl rfl rfl hl.1 rfl rfl (Nat.le_of_ble_eq_true rfl) dX1_transfer_206 ⟨Nat.zero_le _, Nat.zero_le _⟩ (fun H locs hP hD hS => ?_)
                  refine W.eq (g2 := F0 m 209 ls []) rfl ?_
                  obtain ⟨s93, t93⟩ : ∃ y9 : RS, r_put 18 v92 s88 = y9 := ⟨_, rfl⟩
                  replace hP : va_P D vwCl (RWd g0 g1 g2 g3 g4 g5 g6 cA cB s93) H := by rw [← t93]; exact hP
                  replace hD : va_D A (RWd g0 g1 g2 g3 g4 g5 g6 cA cB s93) := by rw [← t93]; exact hD
                  have hL94 : r_plan s93 ([] ++ p_look f (st.1.1 f.toNatClampNeg) ++ p_look t (st.1.1 t.toNatClampNeg) ++ p_look 16 (st.1.1 (16 : Int32).toNatClampNeg) ++ p_put 16 v82 ++ p_put 17 v87 ++ p_put 18 v92) := by clear hP hD hS; subst t70; subst t72; subst t74; subst t76; subst t83; subst t88; subst t93; exact plan_put 18 v92 hL89 (by simp only [List.length_append, List.length_nil, List.length_cons, pl_look, pl_put] <;> decide) in20_18
                  refine lv_aload_n hx hb dX1_transfer_209 rfl (lv_at hl 8 rfl) ?_
                  refine lv_bipush (v := 19) hx hb dX1_transfer_210 (by decide) ?_
                  refine lv_iload hx hb dX1_transfer_212 (lv_at hl 0 rfl) ?_
                  refine lv_ldc (v := 65536) hx hb hown (hts (.constant RX1 114 65536) (by decide +kernel)) dX1_transfer_214 ?_
                  refine lv_iadd hx hb dX1_transfer_216 ?_
                  refine tpi (fun v95 e95 => ?_)
                  refine lv_iload hx hb dX1_transfer_217 (lv_at hl 1 rfl) ?_
                  refine cS_call (n := 2) (as := [.int v95, .int v79]) (rest := [.int 19, .ref g0]) ⟨hx, hb, hml, hown, hts⟩ (c_X1_wordOf l v95 v79) gX1_transfer_X1_wordOf rfl rfl rfl (by decide +kernel) ⟨Nat.le_of_ble_eq_true rfl, Nat.le_of_ble_eq_true rfl⟩ hl.1 rfl rfl (Nat.le_of_ble_eq_true rfl) dX1_transfer_219 ⟨Nat.zero_le _, Nat.zero_le _⟩ ?_
                  refine tpl (fun v96 e96 => ?_)
                  refine cM_this (Wd := RWd g0 g1 g2 g3 g4 g5 g6 cA cB) (ci := 1) (q0 := 0) (n := 2) (as := [.int 19, .long v96]) (rest := []) ⟨hx, hb, hml, hown, hts⟩ (c_X1_putAll l D g0 g1 g2 g3 g4 g5 g6 cA cB s93 19 v96 _ hL94.1 (by simp only [List.length_append, List.length_nil, List.length_cons, pl_look, pl_put] <;> decide)) gX1_transfer_X1_putAll rfl rfl rfl (by decide +kernel) ⟨Nat.le_of_ble_eq_true rfl, Nat.le_of_ble_eq_true rfl⟩ hK hP hD hS hA rfl rfl rfl hl.1 rfl rfl (Nat.le_of_ble_eq_true rfl) dX1_transfer_222 ⟨Nat.zero_le _, Nat.zero_le _⟩ (fun H locs hP hD hS => ?_)
                  refine W.eq (g2 := F0 m 225 ls []) rfl ?_
                  obtain ⟨s97, t97⟩ : ∃ y9 : RS, r_put 19 v96 s93 = y9 := ⟨_, rfl⟩
                  replace hP : va_P D vwCl (RWd g0 g1 g2 g3 g4 g5 g6 cA cB s97) H := by rw [← t97]; exact hP
                  replace hD : va_D A (RWd g0 g1 g2 g3 g4 g5 g6 cA cB s97) := by rw [← t97]; exact hD
                  have hL98 : r_plan s97 ([] ++ p_look f (st.1.1 f.toNatClampNeg) ++ p_look t (st.1.1 t.toNatClampNeg) ++ p_look 16 (st.1.1 (16 : Int32).toNatClampNeg) ++ p_put 16 v82 ++ p_put 17 v87 ++ p_put 18 v92 ++ p_put 19 v96) := by clear hP hD hS; subst t70; subst t72; subst t74; subst t76; subst t83; subst t88; subst t93; subst t97; exact plan_put 19 v96 hL94 (by simp only [List.length_append, List.length_nil, List.length_cons, pl_look, pl_put] <;> decide) in20_19
                  refine lv_aload_n hx hb dX1_transfer_225 rfl (lv_at hl 8 rfl) ?_
                  refine lv_iload_n hx hb dX1_transfer_226 rfl (lv_at hl 9 rfl) ?_
                  refine lv_lload hx hb dX1_transfer_227 (lv_at hl 4 rfl) ?_
                  refine lv_l2i hx hb dX1_transfer_229 rfl ?_
                  refine tpi (fun v99 e99 => ?_)
                  refine lv_lload hx hb dX1_transfer_230 (lv_at hl 7 rfl) ?_
                  refine cS_call (n := 1) (as := [.long v7]) (rest := [.int v99, .int f, .ref g0]) ⟨hx, hb, hml, hown, hts⟩ (c_X1_numberOf l v7) gX1_transfer_X1_numberOf rfl rfl rfl (by decide +kernel) ⟨Nat.le_of_ble_eq_true rfl, Nat.le_of_ble_eq_true rfl⟩ hl.1 rfl rfl (Nat.le_of_ble_eq_true rfl) dX1_transfer_232 ⟨Nat.zero_le _, Nat.zero_le _⟩ ?_
                  refine tpi (fun v100 e100 => ?_)
                  refine lv_iconst (v := 1) hx hb dX1_transfer_235 (by decide) ?_
                  refine lv_iadd hx hb dX1_transfer_236 ?_
                  refine tpi (fun v101 e101 => ?_)
                  refine cS_call (n := 2) (as := [.int v99, .int v101]) (rest := [.int f, .ref g0]) ⟨hx, hb, hml, hown, hts⟩ (c_X1_wordOf l v99 v101) gX1_transfer_X1_wordOf rfl rfl rfl (by decide +kernel) ⟨Nat.le_of_ble_eq_true rfl, Nat.le_of_ble_eq_true rfl⟩ hl.1 rfl rfl (Nat.le_of_ble_eq_true rfl) dX1_transfer_237 ⟨Nat.zero_le _, Nat.zero_le _⟩ ?_
                  refine tpl (fun v102 e102 => ?_)
                  refine cM_this (Wd := RWd g0 g1 g2 g3 g4 g5 g6 cA cB) (ci := 1) (q0 := 0) (n := 2) (as := [.int f, .long v102]) (rest := []) ⟨hx, hb, hml, hown, hts⟩ (c_X1_putAll l D g0 g1 g2 g3 g4 g5 g6 cA cB s97 f v102 _ hL98.1 (by simp only [List.length_append, List.length_nil, List.length_cons, pl_look, pl_put] <;> decide)) gX1_transfer_X1_putAll rfl rfl rfl (by decide +kernel) ⟨Nat.le_of_ble_eq_true rfl, Nat.le_of_ble_eq_true rfl⟩ hK hP hD hS hA rfl rfl rfl hl.1 rfl rfl (Nat.le_of_ble_eq_true rfl) dX1_transfer_240 ⟨Nat.zero_le _, Nat.zero_le _⟩ (fun H locs hP hD hS => ?_)
                  refine W.eq (g2 := F0 m 243 ls []) rfl ?_
                  obtain ⟨s103, t103⟩ : ∃ y9 : RS, r_put f v102 s97 = y9 := ⟨_, rfl⟩
                  replace hP : va_P D vwCl (RWd g0 g1 g2 g3 g4 g5 g6 cA cB s103) H := by rw [← t103]; exact hP
                  replace hD : va_D A (RWd g0 g1 g2 g3 g4 g5 g6 cA cB s103) := by rw [← t103]; exact hD
                  have hL104 : r_plan s103 ([] ++ p_look f (st.1.1 f.toNatClampNeg) ++ p_look t (st.1.1 t.toNatClampNeg) ++ p_look 16 (st.1.1 (16 : Int32).toNatClampNeg) ++ p_put 16 v82 ++ p_put 17 v87 ++ p_put 18 v92 ++ p_put 19 v96 ++ p_put f v102) := by clear hP hD hS; subst t70; subst t72; subst t74; subst t76; subst t83; subst t88; subst t93; subst t97; subst t103; exact plan_put f v102 hL98 (by simp only [List.length_append, List.length_nil, List.length_cons, pl_look, pl_put] <;> decide) hf
                  refine lv_aload_n hx hb dX1_transfer_243 rfl (lv_at hl 8 rfl) ?_
                  refine lv_iload_n hx hb dX1_transfer_244 rfl (lv_at hl 10 rfl) ?_
                  refine lv_lload hx hb dX1_transfer_245 (lv_at hl 3 rfl) ?_
                  refine lv_l2i hx hb dX1_transfer_247 rfl ?_
                  refine tpi (fun v105 e105 => ?_)
                  refine lv_lload hx hb dX1_transfer_248 (lv_at hl 6 rfl) ?_
                  refine cS_call (n := 1) (as := [.long v8]) (rest := [.int v105, .int t, .ref g0]) ⟨hx, hb, hml, hown, hts⟩ (c_X1_numberOf l v8) gX1_transfer_X1_numberOf rfl rfl rfl (by decide +kernel) ⟨Nat.le_of_ble_eq_true rfl, Nat.le_of_ble_eq_true rfl⟩ hl.1 rfl rfl (Nat.le_of_ble_eq_true rfl) dX1_transfer_250 ⟨Nat.zero_le _, Nat.zero_le _⟩ ?_
                  refine tpi (fun v106 e106 => ?_)
                  refine lv_iconst (v := 1) hx hb dX1_transfer_253 (by decide) ?_
                  refine lv_iadd hx hb dX1_transfer_254 ?_
                  refine tpi (fun v107 e107 => ?_)
                  refine cS_call (n := 2) (as := [.int v105, .int v107]) (rest := [.int t, .ref g0]) ⟨hx, hb, hml, hown, hts⟩ (c_X1_wordOf l v105 v107) gX1_transfer_X1_wordOf rfl rfl rfl (by decide +kernel) ⟨Nat.le_of_ble_eq_true rfl, Nat.le_of_ble_eq_true rfl⟩ hl.1 rfl rfl (Nat.le_of_ble_eq_true rfl) dX1_transfer_255 ⟨Nat.zero_le _, Nat.zero_le _⟩ ?_
                  refine tpl (fun v108 e108 => ?_)
                  refine cM_this (Wd := RWd g0 g1 g2 g3 g4 g5 g6 cA cB) (ci := 1) (q0 := 0) (n := 2) (as := [.int t, .long v108]) (rest := []) ⟨hx, hb, hml, hown, hts⟩ (c_X1_putAll l D g0 g1 g2 g3 g4 g5 g6 cA cB s103 t v108 _ hL104.1 (by simp only [List.length_append, List.length_nil, List.length_cons, pl_look, pl_put] <;> decide)) gX1_transfer_X1_putAll rfl rfl rfl (by decide +kernel) ⟨Nat.le_of_ble_eq_true rfl, Nat.le_of_ble_eq_true rfl⟩ hK hP hD hS hA rfl rfl rfl hl.1 rfl rfl (Nat.le_of_ble_eq_true rfl) dX1_transfer_258 ⟨Nat.zero_le _, Nat.zero_le _⟩ (fun H locs hP hD hS => ?_)
                  refine W.eq (g2 := F0 m 261 ls []) rfl ?_
                  obtain ⟨s109, t109⟩ : ∃ y9 : RS, r_put t v108 s103 = y9 := ⟨_, rfl⟩
                  replace hP : va_P D vwCl (RWd g0 g1 g2 g3 g4 g5 g6 cA cB s109) H := by rw [← t109]; exact hP
                  replace hD : va_D A (RWd g0 g1 g2 g3 g4 g5 g6 cA cB s109) := by rw [← t109]; exact hD
                  have hL110 : r_plan s109 ([] ++ p_look f (st.1.1 f.toNatClampNeg) ++ p_look t (st.1.1 t.toNatClampNeg) ++ p_look 16 (st.1.1 (16 : Int32).toNatClampNeg) ++ p_put 16 v82 ++ p_put 17 v87 ++ p_put 18 v92 ++ p_put 19 v96 ++ p_put f v102 ++ p_put t v108) := by clear hP hD hS; subst t70; subst t72; subst t74; subst t76; subst t83; subst t88; subst t93; subst t97; subst t103; subst t109; exact plan_put t v108 hL104 (by simp only [List.length_append, List.length_nil, List.length_cons, pl_look, pl_put] <;> decide) ht
                  refine lv_aload_n hx hb dX1_transfer_261 rfl (lv_at hl 8 rfl) ?_
                  refine lv_bipush (v := 19) hx hb dX1_transfer_262 (by decide) ?_
                  refine lv_iload hx hb dX1_transfer_264 (lv_at hl 0 rfl) ?_
                  refine lv_ldc (v := 131072) hx hb hown (hts (.constant RX1 115 131072) (by decide +kernel)) dX1_transfer_266 ?_
                  refine lv_iadd hx hb dX1_transfer_268 ?_
                  refine tpi (fun v111 e111 => ?_)
                  refine lv_iload hx hb dX1_transfer_269 (lv_at hl 1 rfl) ?_
                  refine cS_call (n := 2) (as := [.int v111, .int v79]) (rest := [.int 19, .ref g0]) ⟨hx, hb, hml, hown, hts⟩ (c_X1_wordOf l v111 v79) gX1_transfer_X1_wordOf rfl rfl rfl (by decide +kernel) ⟨Nat.le_of_ble_eq_true rfl, Nat.le_of_ble_eq_true rfl⟩ hl.1 rfl rfl (Nat.le_of_ble_eq_true rfl) dX1_transfer_271 ⟨Nat.zero_le _, Nat.zero_le _⟩ ?_
                  refine tpl (fun v112 e112 => ?_)
                  refine cM_this (Wd := RWd g0 g1 g2 g3 g4 g5 g6 cA cB) (ci := 1) (q0 := 0) (n := 2) (as := [.int 19, .long v112]) (rest := []) ⟨hx, hb, hml, hown, hts⟩ (c_X1_putAll l D g0 g1 g2 g3 g4 g5 g6 cA cB s109 19 v112 _ hL110.1 (by simp only [List.length_append, List.length_nil, List.length_cons, pl_look, pl_put] <;> decide)) gX1_transfer_X1_putAll rfl rfl rfl (by decide +kernel) ⟨Nat.le_of_ble_eq_true rfl, Nat.le_of_ble_eq_true rfl⟩ hK hP hD hS hA rfl rfl rfl hl.1 rfl rfl (Nat.le_of_ble_eq_true rfl) dX1_transfer_274 ⟨Nat.zero_le _, Nat.zero_le _⟩ (fun H locs hP hD hS => ?_)
                  refine W.eq (g2 := F0 m 277 ls []) rfl ?_
                  obtain ⟨s113, t113⟩ : ∃ y9 : RS, r_put 19 v112 s109 = y9 := ⟨_, rfl⟩
                  replace hP : va_P D vwCl (RWd g0 g1 g2 g3 g4 g5 g6 cA cB s113) H := by rw [← t113]; exact hP
                  replace hD : va_D A (RWd g0 g1 g2 g3 g4 g5 g6 cA cB s113) := by rw [← t113]; exact hD
                  have hL114 : r_plan s113 ([] ++ p_look f (st.1.1 f.toNatClampNeg) ++ p_look t (st.1.1 t.toNatClampNeg) ++ p_look 16 (st.1.1 (16 : Int32).toNatClampNeg) ++ p_put 16 v82 ++ p_put 17 v87 ++ p_put 18 v92 ++ p_put 19 v96 ++ p_put f v102 ++ p_put t v108 ++ p_put 19 v112) := by clear hP hD hS; subst t70; subst t72; subst t74; subst t76; subst t83; subst t88; subst t93; subst t97; subst t103; subst t109; subst t113; exact plan_put 19 v112 hL110 (by simp only [List.length_append, List.length_nil, List.length_cons, pl_look, pl_put] <;> decide) in20_19
                  refine lv_aload_n hx hb dX1_transfer_277 rfl (lv_at hl 8 rfl) ?_
                  refine cM_this (Wd := RWd g0 g1 g2 g3 g4 g5 g6 cA cB) (ci := 1) (q0 := 0) (n := 0) (as := []) (rest := []) ⟨hx, hb, hml, hown, hts⟩ (c_X1_works l D g0 g1 g2 g3 g4 g5 g6 cA cB s113 ([] ++ p_look f (st.1.1 f.toNatClampNeg) ++ p_look t (st.1.1 t.toNatClampNeg) ++ p_look 16 (st.1.1 (16 : Int32).toNatClampNeg) ++ p_put 16 v82 ++ p_put 17 v87 ++ p_put 18 v92 ++ p_put 19 v96 ++ p_put f v102 ++ p_put t v108 ++ p_put 19 v112) hL114) gX1_transfer_X1_works rfl rfl rfl (by decide +kernel) ⟨Nat.le_of_ble_eq_true rfl, Nat.le_of_ble_eq_true rfl⟩ hK hP hD hS hA rfl rfl rfl hl.1 rfl rfl (Nat.le_of_ble_eq_true rfl) dX1_transfer_278 ⟨Nat.zero_le _, Nat.zero_le _⟩ (fun H locs hP hD hS => ?_)
                  obtain ⟨s115, t115⟩ : ∃ y9 : RS, (r_wk ([] ++ p_look f (st.1.1 f.toNatClampNeg) ++ p_look t (st.1.1 t.toNatClampNeg) ++ p_look 16 (st.1.1 (16 : Int32).toNatClampNeg) ++ p_put 16 v82 ++ p_put 17 v87 ++ p_put 18 v92 ++ p_put 19 v96 ++ p_put f v102 ++ p_put t v108 ++ p_put 19 v112) s113).2 = y9 := ⟨_, rfl⟩
                  replace hP : va_P D vwCl (RWd g0 g1 g2 g3 g4 g5 g6 cA cB s115) H := by rw [← t115]; exact hP
                  replace hD : va_D A (RWd g0 g1 g2 g3 g4 g5 g6 cA cB s115) := by rw [← t115]; exact hD
                  refine tpi (fun v116 e116 => ?_)
                  refine lv_if_ne (tgt := 289) hx hb dX1_transfer_281 (by decide) (fun c117 => ?_) (fun c117 => ?_)
                  · refine lv_iload hx hb dX1_transfer_289 (lv_at hl 2 rfl) ?_
                    refine lv_if_eq (tgt := 298) hx hb dX1_transfer_291 (by decide) (fun c0 => absurd c0 (by decide)) (fun _ => ?_)
                    refine lv_iconst (v := 1) hx hb dX1_transfer_294 (by decide) ?_
                    refine lv_goto (tgt := 299) hx hb dX1_transfer_295 (by decide) ?_
                    have fin : r_transfer f t a st = (1, s115) := by
                      clear hP hD hS; subst e1; subst e3; subst e7; subst e8; subst e9; subst e10; subst e11; subst e12; subst e13; subst e14; subst e15; subst e16; subst e17; subst e18; subst e31; subst e44; subst e57; subst t70; subst t72; subst t74; subst t76; subst e78; subst e79; subst e80; subst e81; subst e82; subst t83; subst e85; subst e86; subst e87; subst t88; subst e90; subst e91; subst e92; subst t93; subst e95; subst e96; subst t97; subst e99; subst e100; subst e101; subst e102; subst t103; subst e105; subst e106; subst e107; subst e108; subst t109; subst e111; subst e112; subst t113; subst t115; subst e116; simp only [r_transfer, r_trB, r_trAcc, r_trL, r_trS, r_doL, r_doS, r_end, r_zero, bI, c2, c4, c5, c6, c19, c32, c45, c58, c117, ↓reduceIte, not_true_eq_false, not_false_eq_true, and_self, and_true, true_and, and_false, false_and, eq_self, i10]
                    exact cM_reti (Wd := RWd g0 g1 g2 g3 g4 g5 g6 cA cB) (st := s115) (st' := (r_transfer f t a st).2) hx hb hr hlocks dX1_transfer_299 hS hP hD (congrArg Prod.fst fin).symm (congrArg Prod.snd fin).symm
                  · refine lv_bipush (v := (-2)) hx hb dX1_transfer_284 (by decide) ?_
                    refine lv_goto (tgt := 299) hx hb dX1_transfer_286 (by decide) ?_
                    have fin : r_transfer f t a st = ((-2), s115) := by
                      clear hP hD hS; subst e1; subst e3; subst e7; subst e8; subst e9; subst e10; subst e11; subst e12; subst e13; subst e14; subst e15; subst e16; subst e17; subst e18; subst e31; subst e44; subst e57; subst t70; subst t72; subst t74; subst t76; subst e78; subst e79; subst e80; subst e81; subst e82; subst t83; subst e85; subst e86; subst e87; subst t88; subst e90; subst e91; subst e92; subst t93; subst e95; subst e96; subst t97; subst e99; subst e100; subst e101; subst e102; subst t103; subst e105; subst e106; subst e107; subst e108; subst t109; subst e111; subst e112; subst t113; subst t115; subst e116; simp only [r_transfer, r_trB, r_trAcc, r_trL, r_trS, r_doL, r_doS, r_end, r_zero, bI, c2, c4, c5, c6, c19, c32, c45, c58, c117, ↓reduceIte, not_true_eq_false, not_false_eq_true, and_self, and_true, true_and, and_false, false_and, eq_self, i10]
                    exact cM_reti (Wd := RWd g0 g1 g2 g3 g4 g5 g6 cA cB) (st := s115) (st' := (r_transfer f t a st).2) hx hb hr hlocks dX1_transfer_299 hS hP hD (congrArg Prod.fst fin).symm (congrArg Prod.snd fin).symm
        · refine lv_iconst (v := (-1)) hx hb dX1_transfer_23 (by decide) ?_
          have fin : r_transfer f t a st = ((-1), st) := by
            clear hP hD hS; subst e1; subst e3; simp only [r_transfer, r_trB, r_trAcc, r_trL, r_trS, r_doL, r_doS, r_end, r_zero, bI, c2, c4, c5, c6, ↓reduceIte, not_true_eq_false, not_false_eq_true, and_self, and_true, true_and, and_false, false_and, eq_self, i10]
          exact cM_reti (Wd := RWd g0 g1 g2 g3 g4 g5 g6 cA cB) (st := st) (st' := (r_transfer f t a st).2) hx hb hr hlocks dX1_transfer_24 hS hP hD (congrArg Prod.fst fin).symm (congrArg Prod.snd fin).symm
abbrev rmX1_failAfter : Room := { frames := 0, cells := 0, slots := 0, locals := 0 }
-- failAfter
set_option maxHeartbeats 400000 in
set_option maxRecDepth 100000 in
theorem c_X1_failAfter (l : Launch) (D : va_G) (g0 g1 g2 g3 g4 g5 g6 : Nat) (cA cB : ClassId) (st : RS) (n : Int32)  : cM l D vwCl (FT cA cB) (RWd g0 g1 g2 g3 g4 g5 g6 cA cB) yX1_failAfter wsX1_failAfter rmX1_failAfter [.ref g0, .int n] st (some (.int (r_failAfter n st).1)) (r_failAfter n st).2 := by
  refine cM_in (cc := cX1_failAfter) (maxL := 2) (ret := (some .boolean)) (by decide) rfl (Nat.le_of_ble_eq_true rfl) ?_
  intro p e s m below meth c ls A hx hb hr hlocks hml hown hts hA hK hP hD hS hl
  have hown : s.vm.findClass RX1 = some m.cls := hown
  have hl : lv_has ls 2 [(0, .ref g0), (1, .int n)] := hl
  -- walk
  refine lv_iload_n hx hb dX1_failAfter_0 rfl (lv_at hl 1 rfl) ?_
  refine lv_if_ge (tgt := 6) hx hb dX1_failAfter_1 (by decide) (fun c1 => ?_) (fun c1 => ?_)
  · refine lv_aload_n hx hb dX1_failAfter_6 rfl (lv_at hl 0 rfl) ?_
    refine lv_iload_n hx hb dX1_failAfter_7 rfl (lv_at hl 1 rfl) ?_
    refine va_put (D := D) (ci := 1) (v := .int n) (ty := .int) (C := RX1) (T := TX1) (N := 11) hx hb hts (by decide +kernel) tyX1 tyX1_ok nmX1 hown hK hP hD hS 0 rfl rfl 3 (by decide) (hts (.fieldLink RX1 21 "FadeLedgerModel" "left" "I") (by decide +kernel)) (fun _ h9 => h9) rfl (by decide +kernel) rfl rfl (Nat.le_of_ble_eq_true rfl) dX1_failAfter_8 (fun H locs hP hD hS => ?_)
    obtain ⟨s2, t2⟩ : ∃ y9 : RS, (((st.1.1, st.1.2.1, st.1.2.2.1, n, st.1.2.2.2.2.1, st.1.2.2.2.2.2), st.2) : RS) = y9 := ⟨_, rfl⟩
    replace hP : va_P D vwCl (RWd g0 g1 g2 g3 g4 g5 g6 cA cB s2) H := by rw [← t2]; exact hP
    replace hD : va_D A (RWd g0 g1 g2 g3 g4 g5 g6 cA cB s2) := by rw [← t2]; exact hD
    refine lv_iconst (v := 1) hx hb dX1_failAfter_11 (by decide) ?_
    have fin : r_failAfter n st = (1, s2) := by
      clear hP hD hS; subst t2; simp only [r_failAfter, c1, ↓reduceIte, not_true_eq_false, not_false_eq_true, and_self, and_true, true_and, and_false, false_and, eq_self, i10]
    exact cM_retz (Wd := RWd g0 g1 g2 g3 g4 g5 g6 cA cB) (st := s2) (st' := (r_failAfter n st).2) hx hb hr hlocks dX1_failAfter_12 hS hP hD rfl (congrArg Prod.fst fin).symm (congrArg Prod.snd fin).symm
  · refine lv_iconst (v := 0) hx hb dX1_failAfter_4 (by decide) ?_
    have fin : r_failAfter n st = (0, st) := by
      clear hP hD hS; simp only [r_failAfter, c1, ↓reduceIte, not_true_eq_false, not_false_eq_true, and_self, and_true, true_and, and_false, false_and, eq_self, i10]
    exact cM_retz (Wd := RWd g0 g1 g2 g3 g4 g5 g6 cA cB) (st := st) (st' := (r_failAfter n st).2) hx hb hr hlocks dX1_failAfter_5 hS hP hD rfl (congrArg Prod.fst fin).symm (congrArg Prod.snd fin).symm
abbrev rmX1_fail : Room := { frames := 0, cells := 0, slots := 0, locals := 0 }
-- fail
set_option maxHeartbeats 400000 in
set_option maxRecDepth 100000 in
theorem c_X1_fail (l : Launch) (D : va_G) (g0 g1 g2 g3 g4 g5 g6 : Nat) (cA cB : ClassId) (st : RS)   : cM l D vwCl (FT cA cB) (RWd g0 g1 g2 g3 g4 g5 g6 cA cB) yX1_fail wsX1_fail rmX1_fail [.ref g0] st (some (.int (r_fail st).1)) (r_fail st).2 := by
  refine cM_in (cc := cX1_fail) (maxL := 1) (ret := (some .boolean)) (by decide) rfl (Nat.le_of_ble_eq_true rfl) ?_
  intro p e s m below meth c ls A hx hb hr hlocks hml hown hts hA hK hP hD hS hl
  have hown : s.vm.findClass RX1 = some m.cls := hown
  have hl : lv_has ls 1 [(0, .ref g0)] := hl
  -- walk
  refine lv_aload_n hx hb dX1_fail_0 rfl (lv_at hl 0 rfl) ?_
  refine va_get (D := D) (ci := 1) (v := .int st.1.2.2.1) (C := RX1) (T := TX1) (N := 11) hx hb hts (by decide +kernel) hown hK hP 0 rfl rfl 2 (by decide) (hts (.fieldLink RX1 17 "FadeLedgerModel" "power" "Z") (by decide +kernel)) (fun _ h9 => h9) rfl dX1_fail_1 ?_
  refine tpi (fun v1 e1 => ?_)
  refine lv_if_ne (tgt := 9) hx hb dX1_fail_4 (by decide) (fun c2 => ?_) (fun c2 => ?_)
  · refine lv_aload_n hx hb dX1_fail_9 rfl (lv_at hl 0 rfl) ?_
    refine lv_iconst (v := 0) hx hb dX1_fail_10 (by decide) ?_
    refine va_put (D := D) (ci := 1) (v := .int 0) (ty := .boolean) (C := RX1) (T := TX1) (N := 11) hx hb hts (by decide +kernel) tyX1 tyX1_ok nmX1 hown hK hP hD hS 0 rfl rfl 2 (by decide) (hts (.fieldLink RX1 17 "FadeLedgerModel" "power" "Z") (by decide +kernel)) (fun _ h9 => h9) rfl (by decide +kernel) rfl rfl (Nat.le_of_ble_eq_true rfl) dX1_fail_11 (fun H locs hP hD hS => ?_)
    obtain ⟨s3, t3⟩ : ∃ y9 : RS, (((st.1.1, st.1.2.1, 0, st.1.2.2.2.1, st.1.2.2.2.2.1, st.1.2.2.2.2.2), st.2) : RS) = y9 := ⟨_, rfl⟩
    replace hP : va_P D vwCl (RWd g0 g1 g2 g3 g4 g5 g6 cA cB s3) H := by rw [← t3]; exact hP
    replace hD : va_D A (RWd g0 g1 g2 g3 g4 g5 g6 cA cB s3) := by rw [← t3]; exact hD
    refine lv_aload_n hx hb dX1_fail_14 rfl (lv_at hl 0 rfl) ?_
    refine lv_iconst (v := (-1)) hx hb dX1_fail_15 (by decide) ?_
    refine va_put (D := D) (ci := 1) (v := .int (-1)) (ty := .int) (C := RX1) (T := TX1) (N := 11) hx hb hts (by decide +kernel) tyX1 tyX1_ok nmX1 hown hK hP hD hS 0 rfl rfl 3 (by decide) (hts (.fieldLink RX1 21 "FadeLedgerModel" "left" "I") (by decide +kernel)) (fun _ h9 => h9) rfl (by decide +kernel) rfl rfl (Nat.le_of_ble_eq_true rfl) dX1_fail_16 (fun H locs hP hD hS => ?_)
    obtain ⟨s4, t4⟩ : ∃ y9 : RS, (((s3.1.1, s3.1.2.1, s3.1.2.2.1, (-1), s3.1.2.2.2.2.1, s3.1.2.2.2.2.2), s3.2) : RS) = y9 := ⟨_, rfl⟩
    replace hP : va_P D vwCl (RWd g0 g1 g2 g3 g4 g5 g6 cA cB s4) H := by rw [← t4]; exact hP
    replace hD : va_D A (RWd g0 g1 g2 g3 g4 g5 g6 cA cB s4) := by rw [← t4]; exact hD
    refine lv_iconst (v := 1) hx hb dX1_fail_19 (by decide) ?_
    have fin : r_fail st = (1, s4) := by
      clear hP hD hS; subst e1; subst t3; subst t4; simp only [r_fail, c2, ↓reduceIte, not_true_eq_false, not_false_eq_true, and_self, and_true, true_and, and_false, false_and, eq_self, i10]
    exact cM_retz (Wd := RWd g0 g1 g2 g3 g4 g5 g6 cA cB) (st := s4) (st' := (r_fail st).2) hx hb hr hlocks dX1_fail_20 hS hP hD rfl (congrArg Prod.fst fin).symm (congrArg Prod.snd fin).symm
  · refine lv_iconst (v := 0) hx hb dX1_fail_7 (by decide) ?_
    have fin : r_fail st = (0, st) := by
      clear hP hD hS; subst e1; simp only [r_fail, c2, ↓reduceIte, not_true_eq_false, not_false_eq_true, and_self, and_true, true_and, and_false, false_and, eq_self, i10]
    exact cM_retz (Wd := RWd g0 g1 g2 g3 g4 g5 g6 cA cB) (st := st) (st' := (r_fail st).2) hx hb hr hlocks dX1_fail_8 hS hP hD rfl (congrArg Prod.fst fin).symm (congrArg Prod.snd fin).symm
abbrev rmX1_on : Room := { frames := 0, cells := 0, slots := 0, locals := 0 }
-- on
set_option maxHeartbeats 400000 in
set_option maxRecDepth 100000 in
theorem c_X1_on (l : Launch) (D : va_G) (g0 g1 g2 g3 g4 g5 g6 : Nat) (cA cB : ClassId) (st : RS)  (ho : st.1.2.2.1 = 0 ∨ st.1.2.2.1 = 1) : cM l D vwCl (FT cA cB) (RWd g0 g1 g2 g3 g4 g5 g6 cA cB) yX1_on wsX1_on rmX1_on [.ref g0] st (some (.int (r_on st))) st := by
  refine cM_in (cc := cX1_on) (maxL := 1) (ret := (some .boolean)) (by decide) rfl (Nat.le_of_ble_eq_true rfl) ?_
  intro p e s m below meth c ls A hx hb hr hlocks hml hown hts hA hK hP hD hS hl
  have hown : s.vm.findClass RX1 = some m.cls := hown
  have hl : lv_has ls 1 [(0, .ref g0)] := hl
  -- walk
  refine lv_aload_n hx hb dX1_on_0 rfl (lv_at hl 0 rfl) ?_
  refine va_get (D := D) (ci := 1) (v := .int st.1.2.2.1) (C := RX1) (T := TX1) (N := 11) hx hb hts (by decide +kernel) hown hK hP 0 rfl rfl 2 (by decide) (hts (.fieldLink RX1 17 "FadeLedgerModel" "power" "Z") (by decide +kernel)) (fun _ h9 => h9) rfl dX1_on_1 ?_
  refine tpi (fun v1 e1 => ?_)
  have fin : (r_on st, st) = (v1, st) := by
    clear hP hD hS; subst e1; simp only [r_on]
  exact cM_retz (Wd := RWd g0 g1 g2 g3 g4 g5 g6 cA cB) (st := st) (st' := st) hx hb hr hlocks dX1_on_4 hS hP hD (by subst e1; exact on_nar ho) (congrArg Prod.fst fin).symm (congrArg Prod.snd fin).symm
abbrev rmX1_lost : Room := { frames := 0, cells := 0, slots := 0, locals := 0 }
-- lost
set_option maxHeartbeats 400000 in
set_option maxRecDepth 100000 in
theorem c_X1_lost (l : Launch) (D : va_G) (g0 g1 g2 g3 g4 g5 g6 : Nat) (cA cB : ClassId) (st : RS) (a : Int32)  : cM l D vwCl (FT cA cB) (RWd g0 g1 g2 g3 g4 g5 g6 cA cB) yX1_lost wsX1_lost rmX1_lost [.ref g0, .int a] st (some (.int (r_lost a st))) st := by
  refine cM_in (cc := cX1_lost) (maxL := 2) (ret := (some .int)) (by decide) rfl (Nat.le_of_ble_eq_true rfl) ?_
  intro p e s m below meth c ls A hx hb hr hlocks hml hown hts hA hK hP hD hS hl
  have hown : s.vm.findClass RX1 = some m.cls := hown
  have hl : lv_has ls 2 [(0, .ref g0), (1, .int a)] := hl
  -- walk
  refine lv_iload_n hx hb dX1_lost_0 rfl (lv_at hl 1 rfl) ?_
  refine lv_if_lt (tgt := 19) hx hb dX1_lost_1 (by decide) (fun c1 => ?_) (fun c1 => ?_)
  · refine lv_iconst (v := 0) hx hb dX1_lost_19 (by decide) ?_
    have fin : (r_lost a st, st) = (0, st) := by
      clear hP hD hS; simp only [r_lost, c1, ↓reduceIte, not_true_eq_false, not_false_eq_true, and_self, and_true, true_and, and_false, false_and, eq_self, i10]
    exact cM_reti (Wd := RWd g0 g1 g2 g3 g4 g5 g6 cA cB) (st := st) (st' := st) hx hb hr hlocks dX1_lost_20 hS hP hD (congrArg Prod.fst fin).symm (congrArg Prod.snd fin).symm
  · refine lv_iload_n hx hb dX1_lost_4 rfl (lv_at hl 1 rfl) ?_
    refine lv_bipush (v := 20) hx hb dX1_lost_5 (by decide) ?_
    refine lv_icmp_ge (tgt := 19) hx hb dX1_lost_7 (by decide) (fun c2 => ?_) (fun c2 => ?_)
    · refine lv_iconst (v := 0) hx hb dX1_lost_19 (by decide) ?_
      have fin : (r_lost a st, st) = (0, st) := by
        clear hP hD hS; simp only [r_lost, c1, c2, ↓reduceIte, not_true_eq_false, not_false_eq_true, and_self, and_true, true_and, and_false, false_and, eq_self, i10]
      exact cM_reti (Wd := RWd g0 g1 g2 g3 g4 g5 g6 cA cB) (st := st) (st' := st) hx hb hr hlocks dX1_lost_20 hS hP hD (congrArg Prod.fst fin).symm (congrArg Prod.snd fin).symm
    · refine lv_aload_n hx hb dX1_lost_10 rfl (lv_at hl 0 rfl) ?_
      refine va_get (D := D) (ci := 1) (v := .ref g2) (C := RX1) (T := TX1) (N := 11) hx hb hts (by decide +kernel) hown hK hP 0 rfl rfl 1 (by decide) (hts (.fieldLink RX1 13 "FadeLedgerModel" "losses" "[I") (by decide +kernel)) (fun _ h9 => h9) rfl dX1_lost_11 ?_
      refine lv_iload_n hx hb dX1_lost_14 rfl (lv_at hl 1 rfl) ?_
      refine va_iald hx hb hK hP 2 1 rfl rfl (in_of (n := 20) rfl c1 c2) dX1_lost_15 ?_
      refine tpi (fun v3 e3 => ?_)
      refine lv_goto (tgt := 20) hx hb dX1_lost_16 (by decide) ?_
      have fin : (r_lost a st, st) = (v3, st) := by
        clear hP hD hS; subst e3; simp only [r_lost, c1, c2, ↓reduceIte, not_true_eq_false, not_false_eq_true, and_self, and_true, true_and, and_false, false_and, eq_self, i10]
      exact cM_reti (Wd := RWd g0 g1 g2 g3 g4 g5 g6 cA cB) (st := st) (st' := st) hx hb hr hlocks dX1_lost_20 hS hP hD (congrArg Prod.fst fin).symm (congrArg Prod.snd fin).symm
abbrev rmX1_word : Room := { frames := 0, cells := 0, slots := 0, locals := 0 }
-- word
set_option maxHeartbeats 400000 in
set_option maxRecDepth 100000 in
theorem c_X1_word (l : Launch) (D : va_G) (g0 g1 g2 g3 g4 g5 g6 : Nat) (cA cB : ClassId) (st : RS) (i : Int32) (j : Int32)  : cM l D vwCl (FT cA cB) (RWd g0 g1 g2 g3 g4 g5 g6 cA cB) yX1_word wsX1_word rmX1_word [.ref g0, .int i, .int j] st (some (.long (r_word i j st))) st := by
  refine cM_in (cc := cX1_word) (maxL := 3) (ret := (some .long)) (by decide) rfl (Nat.le_of_ble_eq_true rfl) ?_
  intro p e s m below meth c ls A hx hb hr hlocks hml hown hts hA hK hP hD hS hl
  have hown : s.vm.findClass RX1 = some m.cls := hown
  have hl : lv_has ls 3 [(0, .ref g0), (1, .int i), (2, .int j)] := hl
  -- walk
  refine lv_iload_n hx hb dX1_word_0 rfl (lv_at hl 1 rfl) ?_
  refine lv_if_lt (tgt := 33) hx hb dX1_word_1 (by decide) (fun c1 => ?_) (fun c1 => ?_)
  · refine lv_lconst (v := 0) hx hb dX1_word_33 (by decide) ?_
    have fin : (r_word i j st, st) = (0, st) := by
      clear hP hD hS; simp only [r_word, r_place, c1, ↓reduceIte, not_true_eq_false, not_false_eq_true, and_self, and_true, true_and, and_false, false_and, eq_self, i10]
    exact cM_retl (Wd := RWd g0 g1 g2 g3 g4 g5 g6 cA cB) (st := st) (st' := st) hx hb hr hlocks dX1_word_34 hS hP hD (congrArg Prod.fst fin).symm (congrArg Prod.snd fin).symm
  · refine lv_iload_n hx hb dX1_word_4 rfl (lv_at hl 1 rfl) ?_
    refine lv_iconst (v := 4) hx hb dX1_word_5 (by decide) ?_
    refine lv_icmp_ge (tgt := 33) hx hb dX1_word_6 (by decide) (fun c2 => ?_) (fun c2 => ?_)
    · refine lv_lconst (v := 0) hx hb dX1_word_33 (by decide) ?_
      have fin : (r_word i j st, st) = (0, st) := by
        clear hP hD hS; simp only [r_word, r_place, c1, c2, ↓reduceIte, not_true_eq_false, not_false_eq_true, and_self, and_true, true_and, and_false, false_and, eq_self, i10]
      exact cM_retl (Wd := RWd g0 g1 g2 g3 g4 g5 g6 cA cB) (st := st) (st' := st) hx hb hr hlocks dX1_word_34 hS hP hD (congrArg Prod.fst fin).symm (congrArg Prod.snd fin).symm
    · refine lv_iload_n hx hb dX1_word_9 rfl (lv_at hl 2 rfl) ?_
      refine lv_if_lt (tgt := 33) hx hb dX1_word_10 (by decide) (fun c3 => ?_) (fun c3 => ?_)
      · refine lv_lconst (v := 0) hx hb dX1_word_33 (by decide) ?_
        have fin : (r_word i j st, st) = (0, st) := by
          clear hP hD hS; simp only [r_word, r_place, c1, c2, c3, ↓reduceIte, not_true_eq_false, not_false_eq_true, and_self, and_true, true_and, and_false, false_and, eq_self, i10]
        exact cM_retl (Wd := RWd g0 g1 g2 g3 g4 g5 g6 cA cB) (st := st) (st' := st) hx hb hr hlocks dX1_word_34 hS hP hD (congrArg Prod.fst fin).symm (congrArg Prod.snd fin).symm
      · refine lv_iload_n hx hb dX1_word_13 rfl (lv_at hl 2 rfl) ?_
        refine lv_bipush (v := 20) hx hb dX1_word_14 (by decide) ?_
        refine lv_icmp_ge (tgt := 33) hx hb dX1_word_16 (by decide) (fun c4 => ?_) (fun c4 => ?_)
        · refine lv_lconst (v := 0) hx hb dX1_word_33 (by decide) ?_
          have fin : (r_word i j st, st) = (0, st) := by
            clear hP hD hS; simp only [r_word, r_place, c1, c2, c3, c4, ↓reduceIte, not_true_eq_false, not_false_eq_true, and_self, and_true, true_and, and_false, false_and, eq_self, i10]
          exact cM_retl (Wd := RWd g0 g1 g2 g3 g4 g5 g6 cA cB) (st := st) (st' := st) hx hb hr hlocks dX1_word_34 hS hP hD (congrArg Prod.fst fin).symm (congrArg Prod.snd fin).symm
        · refine lv_aload_n hx hb dX1_word_19 rfl (lv_at hl 0 rfl) ?_
          refine va_get (D := D) (ci := 1) (v := .ref g1) (C := RX1) (T := TX1) (N := 11) hx hb hts (by decide +kernel) hown hK hP 0 rfl rfl 0 (by decide) (hts (.fieldLink RX1 7 "FadeLedgerModel" "words" "[J") (by decide +kernel)) (fun _ h9 => h9) rfl dX1_word_20 ?_
          refine lv_bipush (v := 20) hx hb dX1_word_23 (by decide) ?_
          refine lv_iload_n hx hb dX1_word_25 rfl (lv_at hl 1 rfl) ?_
          refine lv_imul hx hb dX1_word_26 ?_
          refine tpi (fun v5 e5 => ?_)
          refine lv_iload_n hx hb dX1_word_27 rfl (lv_at hl 2 rfl) ?_
          refine lv_iadd hx hb dX1_word_28 ?_
          refine tpi (fun v6 e6 => ?_)
          refine va_lald hx hb hK hP 1 0 rfl rfl (by subst e5; subst e6; exact place_in (in_of (n := 4) rfl c1 c2) (in_of (n := 20) rfl c3 c4)) dX1_word_29 ?_
          refine tpl (fun v7 e7 => ?_)
          refine lv_goto (tgt := 34) hx hb dX1_word_30 (by decide) ?_
          have fin : (r_word i j st, st) = (v7, st) := by
            clear hP hD hS; subst e5; subst e6; subst e7; simp only [r_word, r_place, c1, c2, c3, c4, ↓reduceIte, not_true_eq_false, not_false_eq_true, and_self, and_true, true_and, and_false, false_and, eq_self, i10]
          exact cM_retl (Wd := RWd g0 g1 g2 g3 g4 g5 g6 cA cB) (st := st) (st' := st) hx hb hr hlocks dX1_word_34 hS hP hD (congrArg Prod.fst fin).symm (congrArg Prod.snd fin).symm
abbrev rmX1_done : Room := { frames := 0, cells := 0, slots := 0, locals := 0 }
-- done
set_option maxHeartbeats 400000 in
set_option maxRecDepth 100000 in
theorem c_X1_done (l : Launch) (D : va_G) (g0 g1 g2 g3 g4 g5 g6 : Nat) (cA cB : ClassId) (st : RS) (a : Int32)  : cM l D vwCl (FT cA cB) (RWd g0 g1 g2 g3 g4 g5 g6 cA cB) yX1_done wsX1_done rmX1_done [.ref g0, .int a] st (some (.int (r_done a st))) st := by
  refine cM_in (cc := cX1_done) (maxL := 2) (ret := (some .int)) (by decide) rfl (Nat.le_of_ble_eq_true rfl) ?_
  intro p e s m below meth c ls A hx hb hr hlocks hml hown hts hA hK hP hD hS hl
  have hown : s.vm.findClass RX1 = some m.cls := hown
  have hl : lv_has ls 2 [(0, .ref g0), (1, .int a)] := hl
  -- walk
  refine lv_iload_n hx hb dX1_done_0 rfl (lv_at hl 1 rfl) ?_
  refine lv_if_ne (tgt := 11) hx hb dX1_done_1 (by decide) (fun c1 => ?_) (fun c1 => ?_)
  · refine lv_iload_n hx hb dX1_done_11 rfl (lv_at hl 1 rfl) ?_
    refine lv_iconst (v := 1) hx hb dX1_done_12 (by decide) ?_
    refine lv_icmp_ne (tgt := 23) hx hb dX1_done_13 (by decide) (fun c2 => ?_) (fun c2 => ?_)
    · refine lv_iconst (v := (-1)) hx hb dX1_done_23 (by decide) ?_
      have fin : (r_done a st, st) = ((-1), st) := by
        clear hP hD hS; simp only [r_done, c1, c2, ↓reduceIte, not_true_eq_false, not_false_eq_true, and_self, and_true, true_and, and_false, false_and, eq_self, i10]
      exact cM_reti (Wd := RWd g0 g1 g2 g3 g4 g5 g6 cA cB) (st := st) (st' := st) hx hb hr hlocks dX1_done_24 hS hP hD (congrArg Prod.fst fin).symm (congrArg Prod.snd fin).symm
    · refine lv_aload_n hx hb dX1_done_16 rfl (lv_at hl 0 rfl) ?_
      refine va_get (D := D) (ci := 1) (v := .int st.1.2.2.2.2.2) (C := RX1) (T := TX1) (N := 11) hx hb hts (by decide +kernel) hown hK hP 0 rfl rfl 5 (by decide) (hts (.fieldLink RX1 73 "FadeLedgerModel" "writes" "I") (by decide +kernel)) (fun _ h9 => h9) rfl dX1_done_17 ?_
      refine tpi (fun v3 e3 => ?_)
      refine lv_goto (tgt := 24) hx hb dX1_done_20 (by decide) ?_
      have fin : (r_done a st, st) = (v3, st) := by
        clear hP hD hS; subst e3; simp only [r_done, c1, c2, ↓reduceIte, not_true_eq_false, not_false_eq_true, and_self, and_true, true_and, and_false, false_and, eq_self, i10]
      exact cM_reti (Wd := RWd g0 g1 g2 g3 g4 g5 g6 cA cB) (st := st) (st' := st) hx hb hr hlocks dX1_done_24 hS hP hD (congrArg Prod.fst fin).symm (congrArg Prod.snd fin).symm
  · refine lv_aload_n hx hb dX1_done_4 rfl (lv_at hl 0 rfl) ?_
    refine va_get (D := D) (ci := 1) (v := .int st.1.2.2.2.2.1) (C := RX1) (T := TX1) (N := 11) hx hb hts (by decide +kernel) hown hK hP 0 rfl rfl 4 (by decide) (hts (.fieldLink RX1 70 "FadeLedgerModel" "reads" "I") (by decide +kernel)) (fun _ h9 => h9) rfl dX1_done_5 ?_
    refine tpi (fun v4 e4 => ?_)
    refine lv_goto (tgt := 24) hx hb dX1_done_8 (by decide) ?_
    have fin : (r_done a st, st) = (v4, st) := by
      clear hP hD hS; subst e4; simp only [r_done, c1, ↓reduceIte, not_true_eq_false, not_false_eq_true, and_self, and_true, true_and, and_false, false_and, eq_self, i10]
    exact cM_reti (Wd := RWd g0 g1 g2 g3 g4 g5 g6 cA cB) (st := st) (st' := st) hx hb hr hlocks dX1_done_24 hS hP hD (congrArg Prod.fst fin).symm (congrArg Prod.snd fin).symm
