abbrev rmX1_open : Room := { frames := 2, cells := 0, slots := 0, locals := 49 }
-- open
set_option maxHeartbeats 400000 in
set_option maxRecDepth 100000 in
theorem c_X1_open (l : Launch) (D : va_G) (g0 g1 g2 g3 g4 g5 g6 : Nat) (cA cB : ClassId) (st : RS) (a : Int32) (b : Int32)  : cM l D vwCl (FT cA cB) (RWd g0 g1 g2 g3 g4 g5 g6 cA cB) yX1_open wsX1_open rmX1_open [.ref g0, .int a, .int b] st (some (.int (r_open a b st).1)) (r_open a b st).2 := by
  refine cM_in (cc := cX1_open) (maxL := 6) (ret := (some .int)) (by decide) rfl (Nat.le_of_ble_eq_true rfl) ?_
  intro p e s m below meth c ls A hx hb hr hlocks hml hown hts hA hK hP hD hS hl
  have hown : s.vm.findClass RX1 = some m.cls := hown
  have hl : lv_has ls 6 [(0, .ref g0), (1, .int a), (2, .int b)] := hl
  -- walk
  refine lv_iload_n hx hb dX1_open_0 rfl (lv_at hl 1 rfl) ?_
  refine cS_call (n := 1) (as := [.int a]) (rest := []) ⟨hx, hb, hml, hown, hts⟩ (c_X1_isAccount l a) gX1_open_X1_isAccount rfl rfl rfl (by decide +kernel) ⟨Nat.le_of_ble_eq_true rfl, Nat.le_of_ble_eq_true rfl⟩ hl.1 rfl rfl (Nat.le_of_ble_eq_true rfl) dX1_open_1 ⟨Nat.zero_le _, Nat.zero_le _⟩ ?_
  refine tpi (fun v1 e1 => ?_)
  refine lv_if_ne (tgt := 9) hx hb dX1_open_4 (by decide) (fun c2 => ?_) (fun c2 => ?_)
  · have hc : vp_in a 20 := acct_in20 (by rw [e1]; exact c2)
    refine lv_aload_n hx hb dX1_open_9 rfl (lv_at hl 0 rfl) ?_
    refine va_get (D := D) (ci := 1) (v := .ref g1) (C := RX1) (T := TX1) (N := 11) hx hb hts (by decide +kernel) hown hK hP 0 rfl rfl 0 (by decide) (hts (.fieldLink RX1 7 "FadeLedgerModel" "words" "[J") (by decide +kernel)) (fun _ h9 => h9) rfl dX1_open_10 ?_
    refine lv_iload_n hx hb dX1_open_13 rfl (lv_at hl 1 rfl) ?_
    refine va_lald hx hb hK hP 1 0 rfl rfl (in_up hc (by decide)) dX1_open_14 ?_
    refine tpl (fun v3 e3 => ?_)
    refine lv_lstore_n (lv' := [(3, .long v3), (0, .ref g0), (1, .int a), (2, .int b)]) hx hb dX1_open_15 rfl hl (by decide) rfl (fun ls hl => ?_)
    refine lv_lload_n hx hb dX1_open_16 rfl (lv_at hl 0 rfl) ?_
    refine cS_call (n := 1) (as := [.long v3]) (rest := []) ⟨hx, hb, hml, hown, hts⟩ (c_X1_isValid l v3) gX1_open_X1_isValid rfl rfl rfl (by decide +kernel) ⟨Nat.le_of_ble_eq_true rfl, Nat.le_of_ble_eq_true rfl⟩ hl.1 rfl rfl (Nat.le_of_ble_eq_true rfl) dX1_open_17 ⟨Nat.zero_le _, Nat.zero_le _⟩ ?_
    refine tpi (fun v4 e4 => ?_)
    refine lv_if_eq (tgt := 34) hx hb dX1_open_20 (by decide) (fun c5 => ?_) (fun c5 => ?_)
    · refine lv_iconst (v := 0) hx hb dX1_open_34 (by decide) ?_
      refine lv_istore (lv' := [(5, .int 0), (3, .long v3), (0, .ref g0), (1, .int a), (2, .int b)]) hx hb dX1_open_35 hl (by decide) rfl (fun ls hl => ?_)
      refine lv_aload_n hx hb dX1_open_37 rfl (lv_at hl 2 rfl) ?_
      refine lv_iconst (v := 0) hx hb dX1_open_38 (by decide) ?_
      refine va_put (D := D) (ci := 1) (v := .int 0) (ty := .int) (C := RX1) (T := TX1) (N := 11) hx hb hts (by decide +kernel) tyX1 tyX1_ok nmX1 hown hK hP hD hS 0 rfl rfl 9 (by decide) (hts (.fieldLink RX1 63 "FadeLedgerModel" "turns" "I") (by decide +kernel)) (fun _ h9 => h9) rfl (by decide +kernel) rfl rfl (Nat.le_of_ble_eq_true rfl) dX1_open_39 (fun H locs hP hD hS => ?_)
      obtain ⟨s6, t6⟩ : ∃ y9 : RS, ((st.1, st.2.1, st.2.2.1, st.2.2.2.1, 0, st.2.2.2.2.2) : RS) = y9 := ⟨_, rfl⟩
      replace hP : va_P D vwCl (RWd g0 g1 g2 g3 g4 g5 g6 cA cB s6) H := by rw [← t6]; exact hP
      replace hD : va_D A (RWd g0 g1 g2 g3 g4 g5 g6 cA cB s6) := by rw [← t6]; exact hD
      have hL7 : r_plan s6 [] := by rw [← t6]; exact plan_zero _
      refine lv_aload_n hx hb dX1_open_42 rfl (lv_at hl 2 rfl) ?_
      refine lv_iconst (v := 0) hx hb dX1_open_43 (by decide) ?_
      refine lv_iconst (v := 0) hx hb dX1_open_44 (by decide) ?_
      refine lv_iload_n hx hb dX1_open_45 rfl (lv_at hl 3 rfl) ?_
      refine lv_lconst (v := 0) hx hb dX1_open_46 (by decide) ?_
      refine cM_this (Wd := RWd g0 g1 g2 g3 g4 g5 g6 cA cB) (ci := 1) (q0 := 0) (n := 4) (as := [.int 0, .int 0, .int a, .long 0]) (rest := []) ⟨hx, hb, hml, hown, hts⟩ (c_X1_turn l D g0 g1 g2 g3 g4 g5 g6 cA cB s6 0 0 a 0 (t_in hL7.1 (by simp only [List.length_append, List.length_nil, List.length_cons, pl_look, pl_put] <;> decide))) gX1_open_X1_turn rfl rfl rfl (by decide +kernel) ⟨Nat.le_of_ble_eq_true rfl, Nat.le_of_ble_eq_true rfl⟩ hK hP hD hS hA rfl rfl rfl hl.1 rfl rfl (Nat.le_of_ble_eq_true rfl) dX1_open_47 ⟨Nat.zero_le _, Nat.zero_le _⟩ (fun H locs hP hD hS => ?_)
      refine W.eq (g2 := F0 m 50 ls []) rfl ?_
      obtain ⟨s8, t8⟩ : ∃ y9 : RS, r_turn 0 0 a 0 s6 = y9 := ⟨_, rfl⟩
      replace hP : va_P D vwCl (RWd g0 g1 g2 g3 g4 g5 g6 cA cB s8) H := by rw [← t8]; exact hP
      replace hD : va_D A (RWd g0 g1 g2 g3 g4 g5 g6 cA cB s8) := by rw [← t8]; exact hD
      have hL9 : r_plan s8 ([] ++ [(0, r_place 0 a, 0)]) := by clear hP hD hS; subst t6; subst t8; exact plan_turn 0 0 a 0 hL7 (by simp only [List.length_append, List.length_nil, List.length_cons, pl_look, pl_put] <;> decide) in4_0 hc
      refine lv_iload hx hb dX1_open_50 (lv_at hl 0 rfl) ?_
      refine lv_if_eq (tgt := 68) hx hb dX1_open_52 (by decide) (fun _ => ?_) (fun c0 => absurd c0 (by decide))
      refine lv_aload_n hx hb dX1_open_68 rfl (lv_at hl 2 rfl) ?_
      refine lv_iconst (v := 1) hx hb dX1_open_69 (by decide) ?_
      refine lv_iconst (v := 0) hx hb dX1_open_70 (by decide) ?_
      refine lv_iload_n hx hb dX1_open_71 rfl (lv_at hl 3 rfl) ?_
      refine lv_lload_n hx hb dX1_open_72 rfl (lv_at hl 1 rfl) ?_
      refine cM_this (Wd := RWd g0 g1 g2 g3 g4 g5 g6 cA cB) (ci := 1) (q0 := 0) (n := 4) (as := [.int 1, .int 0, .int a, .long v3]) (rest := []) ⟨hx, hb, hml, hown, hts⟩ (c_X1_turn l D g0 g1 g2 g3 g4 g5 g6 cA cB s8 1 0 a v3 (t_in hL9.1 (by simp only [List.length_append, List.length_nil, List.length_cons, pl_look, pl_put] <;> decide))) gX1_open_X1_turn rfl rfl rfl (by decide +kernel) ⟨Nat.le_of_ble_eq_true rfl, Nat.le_of_ble_eq_true rfl⟩ hK hP hD hS hA rfl rfl rfl hl.1 rfl rfl (Nat.le_of_ble_eq_true rfl) dX1_open_73 ⟨Nat.zero_le _, Nat.zero_le _⟩ (fun H locs hP hD hS => ?_)
      refine W.eq (g2 := F0 m 76 ls []) rfl ?_
      obtain ⟨s10, t10⟩ : ∃ y9 : RS, r_turn 1 0 a v3 s8 = y9 := ⟨_, rfl⟩
      replace hP : va_P D vwCl (RWd g0 g1 g2 g3 g4 g5 g6 cA cB s10) H := by rw [← t10]; exact hP
      replace hD : va_D A (RWd g0 g1 g2 g3 g4 g5 g6 cA cB s10) := by rw [← t10]; exact hD
      have hL11 : r_plan s10 ([] ++ [(0, r_place 0 a, 0)] ++ [(1, r_place 0 a, v3)]) := by clear hP hD hS; subst t6; subst t8; subst t10; exact plan_turn 1 0 a v3 hL9 (by simp only [List.length_append, List.length_nil, List.length_cons, pl_look, pl_put] <;> decide) in4_0 hc
      refine lv_aload_n hx hb dX1_open_76 rfl (lv_at hl 2 rfl) ?_
      obtain ⟨L12, f12⟩ : ∃ y9 : RPl, [] ++ [(0, r_place 0 a, 0)] ++ [(1, r_place 0 a, v3)] = y9 := ⟨_, rfl⟩
      have hL12 : r_plan s10 L12 := by rw [← f12]; exact hL11
      refine cM_this (Wd := RWd g0 g1 g2 g3 g4 g5 g6 cA cB) (ci := 1) (q0 := 0) (n := 0) (as := []) (rest := []) ⟨hx, hb, hml, hown, hts⟩ (c_X1_works l D g0 g1 g2 g3 g4 g5 g6 cA cB s10 L12 hL12) gX1_open_X1_works rfl rfl rfl (by decide +kernel) ⟨Nat.le_of_ble_eq_true rfl, Nat.le_of_ble_eq_true rfl⟩ hK hP hD hS hA rfl rfl rfl hl.1 rfl rfl (Nat.le_of_ble_eq_true rfl) dX1_open_77 ⟨Nat.zero_le _, Nat.zero_le _⟩ (fun H locs hP hD hS => ?_)
      obtain ⟨s13, t13⟩ : ∃ y9 : RS, (r_wk (L12) s10).2 = y9 := ⟨_, rfl⟩
      replace hP : va_P D vwCl (RWd g0 g1 g2 g3 g4 g5 g6 cA cB s13) H := by rw [← t13]; exact hP
      replace hD : va_D A (RWd g0 g1 g2 g3 g4 g5 g6 cA cB s13) := by rw [← t13]; exact hD
      refine tpi (fun v14 e14 => ?_)
      refine lv_if_ne (tgt := 88) hx hb dX1_open_80 (by decide) (fun c15 => ?_) (fun c15 => ?_)
      · refine lv_iload hx hb dX1_open_88 (lv_at hl 0 rfl) ?_
        refine lv_if_eq (tgt := 97) hx hb dX1_open_90 (by decide) (fun _ => ?_) (fun c0 => absurd c0 (by decide))
        refine lv_iconst (v := (-1)) hx hb dX1_open_97 (by decide) ?_
        have fin : r_open a b st = ((-1), s13) := by
          clear hP hD hS; subst e1; subst e3; subst e4; subst t6; subst t8; subst t10; subst f12; subst t13; subst e14; simp only [r_open, g_fresh, r_end, r_zero, bI, c2, c5, c15, ↓reduceIte, not_true_eq_false, not_false_eq_true, and_self, and_true, true_and, and_false, false_and, eq_self, i10]
        exact cM_reti (Wd := RWd g0 g1 g2 g3 g4 g5 g6 cA cB) (st := s13) (st' := (r_open a b st).2) hx hb hr hlocks dX1_open_98 hS hP hD (congrArg Prod.fst fin).symm (congrArg Prod.snd fin).symm
      · refine lv_bipush (v := (-2)) hx hb dX1_open_83 (by decide) ?_
        refine lv_goto (tgt := 98) hx hb dX1_open_85 (by decide) ?_
        have fin : r_open a b st = ((-2), s13) := by
          clear hP hD hS; subst e1; subst e3; subst e4; subst t6; subst t8; subst t10; subst f12; subst t13; subst e14; simp only [r_open, g_fresh, r_end, r_zero, bI, c2, c5, c15, ↓reduceIte, not_true_eq_false, not_false_eq_true, and_self, and_true, true_and, and_false, false_and, eq_self, i10]
        exact cM_reti (Wd := RWd g0 g1 g2 g3 g4 g5 g6 cA cB) (st := s13) (st' := (r_open a b st).2) hx hb hr hlocks dX1_open_98 hS hP hD (congrArg Prod.fst fin).symm (congrArg Prod.snd fin).symm
    · refine lv_lload_n hx hb dX1_open_23 rfl (lv_at hl 0 rfl) ?_
      refine cS_call (n := 1) (as := [.long v3]) (rest := []) ⟨hx, hb, hml, hown, hts⟩ (c_X1_numberOf l v3) gX1_open_X1_numberOf rfl rfl rfl (by decide +kernel) ⟨Nat.le_of_ble_eq_true rfl, Nat.le_of_ble_eq_true rfl⟩ hl.1 rfl rfl (Nat.le_of_ble_eq_true rfl) dX1_open_24 ⟨Nat.zero_le _, Nat.zero_le _⟩ ?_
      refine tpi (fun v16 e16 => ?_)
      refine lv_if_ne (tgt := 34) hx hb dX1_open_27 (by decide) (fun c17 => ?_) (fun c17 => ?_)
      · refine lv_iconst (v := 0) hx hb dX1_open_34 (by decide) ?_
        refine lv_istore (lv' := [(5, .int 0), (3, .long v3), (0, .ref g0), (1, .int a), (2, .int b)]) hx hb dX1_open_35 hl (by decide) rfl (fun ls hl => ?_)
        refine lv_aload_n hx hb dX1_open_37 rfl (lv_at hl 2 rfl) ?_
        refine lv_iconst (v := 0) hx hb dX1_open_38 (by decide) ?_
        refine va_put (D := D) (ci := 1) (v := .int 0) (ty := .int) (C := RX1) (T := TX1) (N := 11) hx hb hts (by decide +kernel) tyX1 tyX1_ok nmX1 hown hK hP hD hS 0 rfl rfl 9 (by decide) (hts (.fieldLink RX1 63 "FadeLedgerModel" "turns" "I") (by decide +kernel)) (fun _ h9 => h9) rfl (by decide +kernel) rfl rfl (Nat.le_of_ble_eq_true rfl) dX1_open_39 (fun H locs hP hD hS => ?_)
        obtain ⟨s18, t18⟩ : ∃ y9 : RS, ((st.1, st.2.1, st.2.2.1, st.2.2.2.1, 0, st.2.2.2.2.2) : RS) = y9 := ⟨_, rfl⟩
        replace hP : va_P D vwCl (RWd g0 g1 g2 g3 g4 g5 g6 cA cB s18) H := by rw [← t18]; exact hP
        replace hD : va_D A (RWd g0 g1 g2 g3 g4 g5 g6 cA cB s18) := by rw [← t18]; exact hD
        have hL19 : r_plan s18 [] := by rw [← t18]; exact plan_zero _
        refine lv_aload_n hx hb dX1_open_42 rfl (lv_at hl 2 rfl) ?_
        refine lv_iconst (v := 0) hx hb dX1_open_43 (by decide) ?_
        refine lv_iconst (v := 0) hx hb dX1_open_44 (by decide) ?_
        refine lv_iload_n hx hb dX1_open_45 rfl (lv_at hl 3 rfl) ?_
        refine lv_lconst (v := 0) hx hb dX1_open_46 (by decide) ?_
        refine cM_this (Wd := RWd g0 g1 g2 g3 g4 g5 g6 cA cB) (ci := 1) (q0 := 0) (n := 4) (as := [.int 0, .int 0, .int a, .long 0]) (rest := []) ⟨hx, hb, hml, hown, hts⟩ (c_X1_turn l D g0 g1 g2 g3 g4 g5 g6 cA cB s18 0 0 a 0 (t_in hL19.1 (by simp only [List.length_append, List.length_nil, List.length_cons, pl_look, pl_put] <;> decide))) gX1_open_X1_turn rfl rfl rfl (by decide +kernel) ⟨Nat.le_of_ble_eq_true rfl, Nat.le_of_ble_eq_true rfl⟩ hK hP hD hS hA rfl rfl rfl hl.1 rfl rfl (Nat.le_of_ble_eq_true rfl) dX1_open_47 ⟨Nat.zero_le _, Nat.zero_le _⟩ (fun H locs hP hD hS => ?_)
        refine W.eq (g2 := F0 m 50 ls []) rfl ?_
        obtain ⟨s20, t20⟩ : ∃ y9 : RS, r_turn 0 0 a 0 s18 = y9 := ⟨_, rfl⟩
        replace hP : va_P D vwCl (RWd g0 g1 g2 g3 g4 g5 g6 cA cB s20) H := by rw [← t20]; exact hP
        replace hD : va_D A (RWd g0 g1 g2 g3 g4 g5 g6 cA cB s20) := by rw [← t20]; exact hD
        have hL21 : r_plan s20 ([] ++ [(0, r_place 0 a, 0)]) := by clear hP hD hS; subst t18; subst t20; exact plan_turn 0 0 a 0 hL19 (by simp only [List.length_append, List.length_nil, List.length_cons, pl_look, pl_put] <;> decide) in4_0 hc
        refine lv_iload hx hb dX1_open_50 (lv_at hl 0 rfl) ?_
        refine lv_if_eq (tgt := 68) hx hb dX1_open_52 (by decide) (fun _ => ?_) (fun c0 => absurd c0 (by decide))
        refine lv_aload_n hx hb dX1_open_68 rfl (lv_at hl 2 rfl) ?_
        refine lv_iconst (v := 1) hx hb dX1_open_69 (by decide) ?_
        refine lv_iconst (v := 0) hx hb dX1_open_70 (by decide) ?_
        refine lv_iload_n hx hb dX1_open_71 rfl (lv_at hl 3 rfl) ?_
        refine lv_lload_n hx hb dX1_open_72 rfl (lv_at hl 1 rfl) ?_
        refine cM_this (Wd := RWd g0 g1 g2 g3 g4 g5 g6 cA cB) (ci := 1) (q0 := 0) (n := 4) (as := [.int 1, .int 0, .int a, .long v3]) (rest := []) ⟨hx, hb, hml, hown, hts⟩ (c_X1_turn l D g0 g1 g2 g3 g4 g5 g6 cA cB s20 1 0 a v3 (t_in hL21.1 (by simp only [List.length_append, List.length_nil, List.length_cons, pl_look, pl_put] <;> decide))) gX1_open_X1_turn rfl rfl rfl (by decide +kernel) ⟨Nat.le_of_ble_eq_true rfl, Nat.le_of_ble_eq_true rfl⟩ hK hP hD hS hA rfl rfl rfl hl.1 rfl rfl (Nat.le_of_ble_eq_true rfl) dX1_open_73 ⟨Nat.zero_le _, Nat.zero_le _⟩ (fun H locs hP hD hS => ?_)
        refine W.eq (g2 := F0 m 76 ls []) rfl ?_
        obtain ⟨s22, t22⟩ : ∃ y9 : RS, r_turn 1 0 a v3 s20 = y9 := ⟨_, rfl⟩
        replace hP : va_P D vwCl (RWd g0 g1 g2 g3 g4 g5 g6 cA cB s22) H := by rw [← t22]; exact hP
        replace hD : va_D A (RWd g0 g1 g2 g3 g4 g5 g6 cA cB s22) := by rw [← t22]; exact hD
        have hL23 : r_plan s22 ([] ++ [(0, r_place 0 a, 0)] ++ [(1, r_place 0 a, v3)]) := by clear hP hD hS; subst t18; subst t20; subst t22; exact plan_turn 1 0 a v3 hL21 (by simp only [List.length_append, List.length_nil, List.length_cons, pl_look, pl_put] <;> decide) in4_0 hc
        refine lv_aload_n hx hb dX1_open_76 rfl (lv_at hl 2 rfl) ?_
        obtain ⟨L24, f24⟩ : ∃ y9 : RPl, [] ++ [(0, r_place 0 a, 0)] ++ [(1, r_place 0 a, v3)] = y9 := ⟨_, rfl⟩
        have hL24 : r_plan s22 L24 := by rw [← f24]; exact hL23
        refine cM_this (Wd := RWd g0 g1 g2 g3 g4 g5 g6 cA cB) (ci := 1) (q0 := 0) (n := 0) (as := []) (rest := []) ⟨hx, hb, hml, hown, hts⟩ (c_X1_works l D g0 g1 g2 g3 g4 g5 g6 cA cB s22 L24 hL24) gX1_open_X1_works rfl rfl rfl (by decide +kernel) ⟨Nat.le_of_ble_eq_true rfl, Nat.le_of_ble_eq_true rfl⟩ hK hP hD hS hA rfl rfl rfl hl.1 rfl rfl (Nat.le_of_ble_eq_true rfl) dX1_open_77 ⟨Nat.zero_le _, Nat.zero_le _⟩ (fun H locs hP hD hS => ?_)
        obtain ⟨s25, t25⟩ : ∃ y9 : RS, (r_wk (L24) s22).2 = y9 := ⟨_, rfl⟩
        replace hP : va_P D vwCl (RWd g0 g1 g2 g3 g4 g5 g6 cA cB s25) H := by rw [← t25]; exact hP
        replace hD : va_D A (RWd g0 g1 g2 g3 g4 g5 g6 cA cB s25) := by rw [← t25]; exact hD
        refine tpi (fun v26 e26 => ?_)
        refine lv_if_ne (tgt := 88) hx hb dX1_open_80 (by decide) (fun c27 => ?_) (fun c27 => ?_)
        · refine lv_iload hx hb dX1_open_88 (lv_at hl 0 rfl) ?_
          refine lv_if_eq (tgt := 97) hx hb dX1_open_90 (by decide) (fun _ => ?_) (fun c0 => absurd c0 (by decide))
          refine lv_iconst (v := (-1)) hx hb dX1_open_97 (by decide) ?_
          have fin : r_open a b st = ((-1), s25) := by
            clear hP hD hS; subst e1; subst e3; subst e4; subst e16; subst t18; subst t20; subst t22; subst f24; subst t25; subst e26; simp only [r_open, g_fresh, r_end, r_zero, bI, c2, c5, c17, c27, ↓reduceIte, not_true_eq_false, not_false_eq_true, and_self, and_true, true_and, and_false, false_and, eq_self, i10]
          exact cM_reti (Wd := RWd g0 g1 g2 g3 g4 g5 g6 cA cB) (st := s25) (st' := (r_open a b st).2) hx hb hr hlocks dX1_open_98 hS hP hD (congrArg Prod.fst fin).symm (congrArg Prod.snd fin).symm
        · refine lv_bipush (v := (-2)) hx hb dX1_open_83 (by decide) ?_
          refine lv_goto (tgt := 98) hx hb dX1_open_85 (by decide) ?_
          have fin : r_open a b st = ((-2), s25) := by
            clear hP hD hS; subst e1; subst e3; subst e4; subst e16; subst t18; subst t20; subst t22; subst f24; subst t25; subst e26; simp only [r_open, g_fresh, r_end, r_zero, bI, c2, c5, c17, c27, ↓reduceIte, not_true_eq_false, not_false_eq_true, and_self, and_true, true_and, and_false, false_and, eq_self, i10]
          exact cM_reti (Wd := RWd g0 g1 g2 g3 g4 g5 g6 cA cB) (st := s25) (st' := (r_open a b st).2) hx hb hr hlocks dX1_open_98 hS hP hD (congrArg Prod.fst fin).symm (congrArg Prod.snd fin).symm
      · refine lv_iconst (v := 1) hx hb dX1_open_30 (by decide) ?_
        refine lv_goto (tgt := 35) hx hb dX1_open_31 (by decide) ?_
        refine lv_istore (lv' := [(5, .int 1), (3, .long v3), (0, .ref g0), (1, .int a), (2, .int b)]) hx hb dX1_open_35 hl (by decide) rfl (fun ls hl => ?_)
        refine lv_aload_n hx hb dX1_open_37 rfl (lv_at hl 2 rfl) ?_
        refine lv_iconst (v := 0) hx hb dX1_open_38 (by decide) ?_
        refine va_put (D := D) (ci := 1) (v := .int 0) (ty := .int) (C := RX1) (T := TX1) (N := 11) hx hb hts (by decide +kernel) tyX1 tyX1_ok nmX1 hown hK hP hD hS 0 rfl rfl 9 (by decide) (hts (.fieldLink RX1 63 "FadeLedgerModel" "turns" "I") (by decide +kernel)) (fun _ h9 => h9) rfl (by decide +kernel) rfl rfl (Nat.le_of_ble_eq_true rfl) dX1_open_39 (fun H locs hP hD hS => ?_)
        obtain ⟨s28, t28⟩ : ∃ y9 : RS, ((st.1, st.2.1, st.2.2.1, st.2.2.2.1, 0, st.2.2.2.2.2) : RS) = y9 := ⟨_, rfl⟩
        replace hP : va_P D vwCl (RWd g0 g1 g2 g3 g4 g5 g6 cA cB s28) H := by rw [← t28]; exact hP
        replace hD : va_D A (RWd g0 g1 g2 g3 g4 g5 g6 cA cB s28) := by rw [← t28]; exact hD
        have hL29 : r_plan s28 [] := by rw [← t28]; exact plan_zero _
        refine lv_aload_n hx hb dX1_open_42 rfl (lv_at hl 2 rfl) ?_
        refine lv_iconst (v := 0) hx hb dX1_open_43 (by decide) ?_
        refine lv_iconst (v := 0) hx hb dX1_open_44 (by decide) ?_
        refine lv_iload_n hx hb dX1_open_45 rfl (lv_at hl 3 rfl) ?_
        refine lv_lconst (v := 0) hx hb dX1_open_46 (by decide) ?_
        refine cM_this (Wd := RWd g0 g1 g2 g3 g4 g5 g6 cA cB) (ci := 1) (q0 := 0) (n := 4) (as := [.int 0, .int 0, .int a, .long 0]) (rest := []) ⟨hx, hb, hml, hown, hts⟩ (c_X1_turn l D g0 g1 g2 g3 g4 g5 g6 cA cB s28 0 0 a 0 (t_in hL29.1 (by simp only [List.length_append, List.length_nil, List.length_cons, pl_look, pl_put] <;> decide))) gX1_open_X1_turn rfl rfl rfl (by decide +kernel) ⟨Nat.le_of_ble_eq_true rfl, Nat.le_of_ble_eq_true rfl⟩ hK hP hD hS hA rfl rfl rfl hl.1 rfl rfl (Nat.le_of_ble_eq_true rfl) dX1_open_47 ⟨Nat.zero_le _, Nat.zero_le _⟩ (fun H locs hP hD hS => ?_)
        refine W.eq (g2 := F0 m 50 ls []) rfl ?_
        obtain ⟨s30, t30⟩ : ∃ y9 : RS, r_turn 0 0 a 0 s28 = y9 := ⟨_, rfl⟩
        replace hP : va_P D vwCl (RWd g0 g1 g2 g3 g4 g5 g6 cA cB s30) H := by rw [← t30]; exact hP
        replace hD : va_D A (RWd g0 g1 g2 g3 g4 g5 g6 cA cB s30) := by rw [← t30]; exact hD
        have hL31 : r_plan s30 ([] ++ [(0, r_place 0 a, 0)]) := by clear hP hD hS; subst t28; subst t30; exact plan_turn 0 0 a 0 hL29 (by simp only [List.length_append, List.length_nil, List.length_cons, pl_look, pl_put] <;> decide) in4_0 hc
        refine lv_iload hx hb dX1_open_50 (lv_at hl 0 rfl) ?_
        refine lv_if_eq (tgt := 68) hx hb dX1_open_52 (by decide) (fun c0 => absurd c0 (by decide)) (fun _ => ?_)
        refine lv_aload_n hx hb dX1_open_55 rfl (lv_at hl 2 rfl) ?_
        refine lv_iload_n hx hb dX1_open_56 rfl (lv_at hl 3 rfl) ?_
        refine lv_iload_n hx hb dX1_open_57 rfl (lv_at hl 4 rfl) ?_
        refine lv_iconst (v := 1) hx hb dX1_open_58 (by decide) ?_
        refine cS_call (n := 2) (as := [.int b, .int 1]) (rest := [.int a, .ref g0]) ⟨hx, hb, hml, hown, hts⟩ (c_X1_wordOf l b 1) gX1_open_X1_wordOf rfl rfl rfl (by decide +kernel) ⟨Nat.le_of_ble_eq_true rfl, Nat.le_of_ble_eq_true rfl⟩ hl.1 rfl rfl (Nat.le_of_ble_eq_true rfl) dX1_open_59 ⟨Nat.zero_le _, Nat.zero_le _⟩ ?_
        refine tpl (fun v32 e32 => ?_)
        refine cM_this (Wd := RWd g0 g1 g2 g3 g4 g5 g6 cA cB) (ci := 1) (q0 := 0) (n := 2) (as := [.int a, .long v32]) (rest := []) ⟨hx, hb, hml, hown, hts⟩ (c_X1_putAll l D g0 g1 g2 g3 g4 g5 g6 cA cB s30 a v32 _ hL31.1 (by simp only [List.length_append, List.length_nil, List.length_cons, pl_look, pl_put] <;> decide)) gX1_open_X1_putAll rfl rfl rfl (by decide +kernel) ⟨Nat.le_of_ble_eq_true rfl, Nat.le_of_ble_eq_true rfl⟩ hK hP hD hS hA rfl rfl rfl hl.1 rfl rfl (Nat.le_of_ble_eq_true rfl) dX1_open_62 ⟨Nat.zero_le _, Nat.zero_le _⟩ (fun H locs hP hD hS => ?_)
        refine W.eq (g2 := F0 m 65 ls []) rfl ?_
        obtain ⟨s33, t33⟩ : ∃ y9 : RS, r_put a v32 s30 = y9 := ⟨_, rfl⟩
        replace hP : va_P D vwCl (RWd g0 g1 g2 g3 g4 g5 g6 cA cB s33) H := by rw [← t33]; exact hP
        replace hD : va_D A (RWd g0 g1 g2 g3 g4 g5 g6 cA cB s33) := by rw [← t33]; exact hD
        have hL34 : r_plan s33 ([] ++ [(0, r_place 0 a, 0)] ++ p_put a v32) := by clear hP hD hS; subst t28; subst t30; subst t33; exact plan_put a v32 hL31 (by simp only [List.length_append, List.length_nil, List.length_cons, pl_look, pl_put] <;> decide) hc
        refine lv_goto (tgt := 76) hx hb dX1_open_65 (by decide) ?_
        refine lv_aload_n hx hb dX1_open_76 rfl (lv_at hl 2 rfl) ?_
        obtain ⟨L35, f35⟩ : ∃ y9 : RPl, [] ++ [(0, r_place 0 a, 0)] ++ p_put a v32 = y9 := ⟨_, rfl⟩
        have hL35 : r_plan s33 L35 := by rw [← f35]; exact hL34
        refine cM_this (Wd := RWd g0 g1 g2 g3 g4 g5 g6 cA cB) (ci := 1) (q0 := 0) (n := 0) (as := []) (rest := []) ⟨hx, hb, hml, hown, hts⟩ (c_X1_works l D g0 g1 g2 g3 g4 g5 g6 cA cB s33 L35 hL35) gX1_open_X1_works rfl rfl rfl (by decide +kernel) ⟨Nat.le_of_ble_eq_true rfl, Nat.le_of_ble_eq_true rfl⟩ hK hP hD hS hA rfl rfl rfl hl.1 rfl rfl (Nat.le_of_ble_eq_true rfl) dX1_open_77 ⟨Nat.zero_le _, Nat.zero_le _⟩ (fun H locs hP hD hS => ?_)
        obtain ⟨s36, t36⟩ : ∃ y9 : RS, (r_wk (L35) s33).2 = y9 := ⟨_, rfl⟩
        replace hP : va_P D vwCl (RWd g0 g1 g2 g3 g4 g5 g6 cA cB s36) H := by rw [← t36]; exact hP
        replace hD : va_D A (RWd g0 g1 g2 g3 g4 g5 g6 cA cB s36) := by rw [← t36]; exact hD
        refine tpi (fun v37 e37 => ?_)
        refine lv_if_ne (tgt := 88) hx hb dX1_open_80 (by decide) (fun c38 => ?_) (fun c38 => ?_)
        · refine lv_iload hx hb dX1_open_88 (lv_at hl 0 rfl) ?_
          refine lv_if_eq (tgt := 97) hx hb dX1_open_90 (by decide) (fun c0 => absurd c0 (by decide)) (fun _ => ?_)
          refine lv_iconst (v := 1) hx hb dX1_open_93 (by decide) ?_
          refine lv_goto (tgt := 98) hx hb dX1_open_94 (by decide) ?_
          have fin : r_open a b st = (1, s36) := by
            clear hP hD hS; subst e1; subst e3; subst e4; subst e16; subst t28; subst t30; subst e32; subst t33; subst f35; subst t36; subst e37; simp only [r_open, g_fresh, r_end, r_zero, bI, c2, c5, c17, c38, ↓reduceIte, not_true_eq_false, not_false_eq_true, and_self, and_true, true_and, and_false, false_and, eq_self, i10]
          exact cM_reti (Wd := RWd g0 g1 g2 g3 g4 g5 g6 cA cB) (st := s36) (st' := (r_open a b st).2) hx hb hr hlocks dX1_open_98 hS hP hD (congrArg Prod.fst fin).symm (congrArg Prod.snd fin).symm
        · refine lv_bipush (v := (-2)) hx hb dX1_open_83 (by decide) ?_
          refine lv_goto (tgt := 98) hx hb dX1_open_85 (by decide) ?_
          have fin : r_open a b st = ((-2), s36) := by
            clear hP hD hS; subst e1; subst e3; subst e4; subst e16; subst t28; subst t30; subst e32; subst t33; subst f35; subst t36; subst e37; simp only [r_open, g_fresh, r_end, r_zero, bI, c2, c5, c17, c38, ↓reduceIte, not_true_eq_false, not_false_eq_true, and_self, and_true, true_and, and_false, false_and, eq_self, i10]
          exact cM_reti (Wd := RWd g0 g1 g2 g3 g4 g5 g6 cA cB) (st := s36) (st' := (r_open a b st).2) hx hb hr hlocks dX1_open_98 hS hP hD (congrArg Prod.fst fin).symm (congrArg Prod.snd fin).symm
  · refine lv_iconst (v := (-1)) hx hb dX1_open_7 (by decide) ?_
    have fin : r_open a b st = ((-1), st) := by
      clear hP hD hS; subst e1; simp only [r_open, g_fresh, r_end, r_zero, bI, c2, ↓reduceIte, not_true_eq_false, not_false_eq_true, and_self, and_true, true_and, and_false, false_and, eq_self, i10]
    exact cM_reti (Wd := RWd g0 g1 g2 g3 g4 g5 g6 cA cB) (st := st) (st' := (r_open a b st).2) hx hb hr hlocks dX1_open_8 hS hP hD (congrArg Prod.fst fin).symm (congrArg Prod.snd fin).symm
abbrev rmX1_balance : Room := { frames := 2, cells := 0, slots := 0, locals := 46 }
-- balance
set_option maxHeartbeats 400000 in
set_option maxRecDepth 100000 in
theorem c_X1_balance (l : Launch) (D : va_G) (g0 g1 g2 g3 g4 g5 g6 : Nat) (cA cB : ClassId) (st : RS) (a : Int32)  : cM l D vwCl (FT cA cB) (RWd g0 g1 g2 g3 g4 g5 g6 cA cB) yX1_balance wsX1_balance rmX1_balance [.ref g0, .int a] st (some (.long (r_balance a st).1)) (r_balance a st).2 := by
  refine cM_in (cc := cX1_balance) (maxL := 4) (ret := (some .long)) (by decide) rfl (Nat.le_of_ble_eq_true rfl) ?_
  intro p e s m below meth c ls A hx hb hr hlocks hml hown hts hA hK hP hD hS hl
  have hown : s.vm.findClass RX1 = some m.cls := hown
  have hl : lv_has ls 4 [(0, .ref g0), (1, .int a)] := hl
  -- walk
  refine lv_iload_n hx hb dX1_balance_0 rfl (lv_at hl 1 rfl) ?_
  refine cS_call (n := 1) (as := [.int a]) (rest := []) ⟨hx, hb, hml, hown, hts⟩ (c_X1_isAccount l a) gX1_balance_X1_isAccount rfl rfl rfl (by decide +kernel) ⟨Nat.le_of_ble_eq_true rfl, Nat.le_of_ble_eq_true rfl⟩ hl.1 rfl rfl (Nat.le_of_ble_eq_true rfl) dX1_balance_1 ⟨Nat.zero_le _, Nat.zero_le _⟩ ?_
  refine tpi (fun v1 e1 => ?_)
  refine lv_if_ne (tgt := 11) hx hb dX1_balance_4 (by decide) (fun c2 => ?_) (fun c2 => ?_)
  · have hc : vp_in a 20 := acct_in20 (by rw [e1]; exact c2)
    refine lv_aload_n hx hb dX1_balance_11 rfl (lv_at hl 0 rfl) ?_
    refine va_get (D := D) (ci := 1) (v := .ref g1) (C := RX1) (T := TX1) (N := 11) hx hb hts (by decide +kernel) hown hK hP 0 rfl rfl 0 (by decide) (hts (.fieldLink RX1 7 "FadeLedgerModel" "words" "[J") (by decide +kernel)) (fun _ h9 => h9) rfl dX1_balance_12 ?_
    refine lv_iload_n hx hb dX1_balance_15 rfl (lv_at hl 1 rfl) ?_
    refine va_lald hx hb hK hP 1 0 rfl rfl (in_up hc (by decide)) dX1_balance_16 ?_
    refine tpl (fun v3 e3 => ?_)
    refine lv_lstore_n (lv' := [(2, .long v3), (0, .ref g0), (1, .int a)]) hx hb dX1_balance_17 rfl hl (by decide) rfl (fun ls hl => ?_)
    refine lv_aload_n hx hb dX1_balance_18 rfl (lv_at hl 1 rfl) ?_
    refine lv_iconst (v := 0) hx hb dX1_balance_19 (by decide) ?_
    refine va_put (D := D) (ci := 1) (v := .int 0) (ty := .int) (C := RX1) (T := TX1) (N := 11) hx hb hts (by decide +kernel) tyX1 tyX1_ok nmX1 hown hK hP hD hS 0 rfl rfl 9 (by decide) (hts (.fieldLink RX1 63 "FadeLedgerModel" "turns" "I") (by decide +kernel)) (fun _ h9 => h9) rfl (by decide +kernel) rfl rfl (Nat.le_of_ble_eq_true rfl) dX1_balance_20 (fun H locs hP hD hS => ?_)
    obtain ⟨s4, t4⟩ : ∃ y9 : RS, ((st.1, st.2.1, st.2.2.1, st.2.2.2.1, 0, st.2.2.2.2.2) : RS) = y9 := ⟨_, rfl⟩
    replace hP : va_P D vwCl (RWd g0 g1 g2 g3 g4 g5 g6 cA cB s4) H := by rw [← t4]; exact hP
    replace hD : va_D A (RWd g0 g1 g2 g3 g4 g5 g6 cA cB s4) := by rw [← t4]; exact hD
    have hL5 : r_plan s4 [] := by rw [← t4]; exact plan_zero _
    refine lv_aload_n hx hb dX1_balance_23 rfl (lv_at hl 1 rfl) ?_
    refine lv_iload_n hx hb dX1_balance_24 rfl (lv_at hl 2 rfl) ?_
    refine cM_this (Wd := RWd g0 g1 g2 g3 g4 g5 g6 cA cB) (ci := 1) (q0 := 0) (n := 1) (as := [.int a]) (rest := []) ⟨hx, hb, hml, hown, hts⟩ (c_X1_look l D g0 g1 g2 g3 g4 g5 g6 cA cB s4 a hc _ hL5.1 (by simp only [List.length_append, List.length_nil, List.length_cons, pl_look, pl_put] <;> decide)) gX1_balance_X1_look rfl rfl rfl (by decide +kernel) ⟨Nat.le_of_ble_eq_true rfl, Nat.le_of_ble_eq_true rfl⟩ hK hP hD hS hA rfl rfl rfl hl.1 rfl rfl (Nat.le_of_ble_eq_true rfl) dX1_balance_25 ⟨Nat.zero_le _, Nat.zero_le _⟩ (fun H locs hP hD hS => ?_)
    refine W.eq (g2 := F0 m 28 ls []) rfl ?_
    obtain ⟨s6, t6⟩ : ∃ y9 : RS, r_look a s4 = y9 := ⟨_, rfl⟩
    replace hP : va_P D vwCl (RWd g0 g1 g2 g3 g4 g5 g6 cA cB s6) H := by rw [← t6]; exact hP
    replace hD : va_D A (RWd g0 g1 g2 g3 g4 g5 g6 cA cB s6) := by rw [← t6]; exact hD
    have hL7 : r_plan s6 ([] ++ p_look a (st.1.1 a.toNatClampNeg)) := by clear hP hD hS; subst t4; subst t6; exact plan_look a hL5 (by simp only [List.length_append, List.length_nil, List.length_cons, pl_look, pl_put] <;> decide) hc
    refine lv_aload_n hx hb dX1_balance_28 rfl (lv_at hl 1 rfl) ?_
    obtain ⟨L8, f8⟩ : ∃ y9 : RPl, [] ++ p_look a (st.1.1 a.toNatClampNeg) = y9 := ⟨_, rfl⟩
    have hL8 : r_plan s6 L8 := by rw [← f8]; exact hL7
    refine cM_this (Wd := RWd g0 g1 g2 g3 g4 g5 g6 cA cB) (ci := 1) (q0 := 0) (n := 0) (as := []) (rest := []) ⟨hx, hb, hml, hown, hts⟩ (c_X1_works l D g0 g1 g2 g3 g4 g5 g6 cA cB s6 L8 hL8) gX1_balance_X1_works rfl rfl rfl (by decide +kernel) ⟨Nat.le_of_ble_eq_true rfl, Nat.le_of_ble_eq_true rfl⟩ hK hP hD hS hA rfl rfl rfl hl.1 rfl rfl (Nat.le_of_ble_eq_true rfl) dX1_balance_29 ⟨Nat.zero_le _, Nat.zero_le _⟩ (fun H locs hP hD hS => ?_)
    obtain ⟨s9, t9⟩ : ∃ y9 : RS, (r_wk (L8) s6).2 = y9 := ⟨_, rfl⟩
    replace hP : va_P D vwCl (RWd g0 g1 g2 g3 g4 g5 g6 cA cB s9) H := by rw [← t9]; exact hP
    replace hD : va_D A (RWd g0 g1 g2 g3 g4 g5 g6 cA cB s9) := by rw [← t9]; exact hD
    refine tpi (fun v10 e10 => ?_)
    refine lv_if_ne (tgt := 39) hx hb dX1_balance_32 (by decide) (fun c11 => ?_) (fun c11 => ?_)
    · refine lv_lload_n hx hb dX1_balance_39 rfl (lv_at hl 0 rfl) ?_
      refine cS_call (n := 1) (as := [.long v3]) (rest := []) ⟨hx, hb, hml, hown, hts⟩ (c_X1_isValid l v3) gX1_balance_X1_isValid rfl rfl rfl (by decide +kernel) ⟨Nat.le_of_ble_eq_true rfl, Nat.le_of_ble_eq_true rfl⟩ hl.1 rfl rfl (Nat.le_of_ble_eq_true rfl) dX1_balance_40 ⟨Nat.zero_le _, Nat.zero_le _⟩ ?_
      refine tpi (fun v12 e12 => ?_)
      refine lv_if_ne (tgt := 52) hx hb dX1_balance_43 (by decide) (fun c13 => ?_) (fun c13 => ?_)
      · refine lv_lload_n hx hb dX1_balance_52 rfl (lv_at hl 0 rfl) ?_
        refine cS_call (n := 1) (as := [.long v3]) (rest := []) ⟨hx, hb, hml, hown, hts⟩ (c_X1_numberOf l v3) gX1_balance_X1_numberOf rfl rfl rfl (by decide +kernel) ⟨Nat.le_of_ble_eq_true rfl, Nat.le_of_ble_eq_true rfl⟩ hl.1 rfl rfl (Nat.le_of_ble_eq_true rfl) dX1_balance_53 ⟨Nat.zero_le _, Nat.zero_le _⟩ ?_
        refine tpi (fun v14 e14 => ?_)
        refine lv_if_ne (tgt := 65) hx hb dX1_balance_56 (by decide) (fun c15 => ?_) (fun c15 => ?_)
        · refine lv_lload_n hx hb dX1_balance_65 rfl (lv_at hl 0 rfl) ?_
          refine cS_call (n := 1) (as := [.long v3]) (rest := []) ⟨hx, hb, hml, hown, hts⟩ (c_X1_balanceOf l v3) gX1_balance_X1_balanceOf rfl rfl rfl (by decide +kernel) ⟨Nat.le_of_ble_eq_true rfl, Nat.le_of_ble_eq_true rfl⟩ hl.1 rfl rfl (Nat.le_of_ble_eq_true rfl) dX1_balance_66 ⟨Nat.zero_le _, Nat.zero_le _⟩ ?_
          refine tpi (fun v16 e16 => ?_)
          refine lv_i2l hx hb dX1_balance_69 rfl ?_
          refine tpl (fun v17 e17 => ?_)
          have fin : r_balance a st = (v17, s9) := by
            clear hP hD hS; subst e1; subst e3; subst t4; subst t6; subst f8; subst t9; subst e10; subst e12; subst e14; subst e16; subst e17; simp only [r_balance, r_zero, c2, c11, c13, c15, ↓reduceIte, not_true_eq_false, not_false_eq_true, and_self, and_true, true_and, and_false, false_and, eq_self, i10]
          exact cM_retl (Wd := RWd g0 g1 g2 g3 g4 g5 g6 cA cB) (st := s9) (st' := (r_balance a st).2) hx hb hr hlocks dX1_balance_70 hS hP hD (congrArg Prod.fst fin).symm (congrArg Prod.snd fin).symm
        · refine lv_ldc2 (v := 1099511627776) hx hb hown (hts (.constantLong RX1 98 1099511627776) (by decide +kernel)) dX1_balance_59 ?_
          refine lv_goto (tgt := 70) hx hb dX1_balance_62 (by decide) ?_
          have fin : r_balance a st = (1099511627776, s9) := by
            clear hP hD hS; subst e1; subst e3; subst t4; subst t6; subst f8; subst t9; subst e10; subst e12; subst e14; simp only [r_balance, r_zero, c2, c11, c13, c15, ↓reduceIte, not_true_eq_false, not_false_eq_true, and_self, and_true, true_and, and_false, false_and, eq_self, i10]
          exact cM_retl (Wd := RWd g0 g1 g2 g3 g4 g5 g6 cA cB) (st := s9) (st' := (r_balance a st).2) hx hb hr hlocks dX1_balance_70 hS hP hD (congrArg Prod.fst fin).symm (congrArg Prod.snd fin).symm
      · refine lv_ldc2 (v := 2199023255552) hx hb hown (hts (.constantLong RX1 96 2199023255552) (by decide +kernel)) dX1_balance_46 ?_
        refine lv_goto (tgt := 70) hx hb dX1_balance_49 (by decide) ?_
        have fin : r_balance a st = (2199023255552, s9) := by
          clear hP hD hS; subst e1; subst e3; subst t4; subst t6; subst f8; subst t9; subst e10; subst e12; simp only [r_balance, r_zero, c2, c11, c13, ↓reduceIte, not_true_eq_false, not_false_eq_true, and_self, and_true, true_and, and_false, false_and, eq_self, i10]
        exact cM_retl (Wd := RWd g0 g1 g2 g3 g4 g5 g6 cA cB) (st := s9) (st' := (r_balance a st).2) hx hb hr hlocks dX1_balance_70 hS hP hD (congrArg Prod.fst fin).symm (congrArg Prod.snd fin).symm
    · refine lv_ldc2 (v := 4398046511104) hx hb hown (hts (.constantLong RX1 94 4398046511104) (by decide +kernel)) dX1_balance_35 ?_
      have fin : r_balance a st = (4398046511104, s9) := by
        clear hP hD hS; subst e1; subst e3; subst t4; subst t6; subst f8; subst t9; subst e10; simp only [r_balance, r_zero, c2, c11, ↓reduceIte, not_true_eq_false, not_false_eq_true, and_self, and_true, true_and, and_false, false_and, eq_self, i10]
      exact cM_retl (Wd := RWd g0 g1 g2 g3 g4 g5 g6 cA cB) (st := s9) (st' := (r_balance a st).2) hx hb hr hlocks dX1_balance_38 hS hP hD (congrArg Prod.fst fin).symm (congrArg Prod.snd fin).symm
  · refine lv_ldc2 (v := 8796093022208) hx hb hown (hts (.constantLong RX1 88 8796093022208) (by decide +kernel)) dX1_balance_7 ?_
    have fin : r_balance a st = (8796093022208, st) := by
      clear hP hD hS; subst e1; simp only [r_balance, r_zero, c2, ↓reduceIte, not_true_eq_false, not_false_eq_true, and_self, and_true, true_and, and_false, false_and, eq_self, i10]
    exact cM_retl (Wd := RWd g0 g1 g2 g3 g4 g5 g6 cA cB) (st := st) (st' := (r_balance a st).2) hx hb hr hlocks dX1_balance_10 hS hP hD (congrArg Prod.fst fin).symm (congrArg Prod.snd fin).symm
abbrev rmX1_post : Room := { frames := 3, cells := 0, slots := 0, locals := 66 }
-- post
set_option maxHeartbeats 400000 in
set_option maxRecDepth 100000 in
theorem c_X1_post (l : Launch) (D : va_G) (g0 g1 g2 g3 g4 g5 g6 : Nat) (cA cB : ClassId) (st : RS) (a : Int32) (k : Int32)  : cM l D vwCl (FT cA cB) (RWd g0 g1 g2 g3 g4 g5 g6 cA cB) yX1_post wsX1_post rmX1_post [.ref g0, .int a, .int k] st (some (.int (r_post a k st).1)) (r_post a k st).2 := by
  refine cM_in (cc := cX1_post) (maxL := 8) (ret := (some .int)) (by decide) rfl (Nat.le_of_ble_eq_true rfl) ?_
  intro p e s m below meth c ls A hx hb hr hlocks hml hown hts hA hK hP hD hS hl
  have hown : s.vm.findClass RX1 = some m.cls := hown
  have hl : lv_has ls 8 [(0, .ref g0), (1, .int a), (2, .int k)] := hl
  -- walk
  refine lv_iload_n hx hb dX1_post_0 rfl (lv_at hl 1 rfl) ?_
  refine cS_call (n := 1) (as := [.int a]) (rest := []) ⟨hx, hb, hml, hown, hts⟩ (c_X1_isAccount l a) gX1_post_X1_isAccount rfl rfl rfl (by decide +kernel) ⟨Nat.le_of_ble_eq_true rfl, Nat.le_of_ble_eq_true rfl⟩ hl.1 rfl rfl (Nat.le_of_ble_eq_true rfl) dX1_post_1 ⟨Nat.zero_le _, Nat.zero_le _⟩ ?_
  refine tpi (fun v1 e1 => ?_)
  refine lv_if_ne (tgt := 9) hx hb dX1_post_4 (by decide) (fun c2 => ?_) (fun c2 => ?_)
  · have hc : vp_in a 20 := acct_in20 (by rw [e1]; exact c2)
    refine lv_aload_n hx hb dX1_post_9 rfl (lv_at hl 0 rfl) ?_
    refine va_get (D := D) (ci := 1) (v := .ref g1) (C := RX1) (T := TX1) (N := 11) hx hb hts (by decide +kernel) hown hK hP 0 rfl rfl 0 (by decide) (hts (.fieldLink RX1 7 "FadeLedgerModel" "words" "[J") (by decide +kernel)) (fun _ h9 => h9) rfl dX1_post_10 ?_
    refine lv_iload_n hx hb dX1_post_13 rfl (lv_at hl 1 rfl) ?_
    refine va_lald hx hb hK hP 1 0 rfl rfl (in_up hc (by decide)) dX1_post_14 ?_
    refine tpl (fun v3 e3 => ?_)
    refine lv_lstore_n (lv' := [(3, .long v3), (0, .ref g0), (1, .int a), (2, .int k)]) hx hb dX1_post_15 rfl hl (by decide) rfl (fun ls hl => ?_)
    refine lv_lload_n hx hb dX1_post_16 rfl (lv_at hl 0 rfl) ?_
    refine cS_call (n := 1) (as := [.long v3]) (rest := []) ⟨hx, hb, hml, hown, hts⟩ (c_X1_balanceOf l v3) gX1_post_X1_balanceOf rfl rfl rfl (by decide +kernel) ⟨Nat.le_of_ble_eq_true rfl, Nat.le_of_ble_eq_true rfl⟩ hl.1 rfl rfl (Nat.le_of_ble_eq_true rfl) dX1_post_17 ⟨Nat.zero_le _, Nat.zero_le _⟩ ?_
    refine tpi (fun v4 e4 => ?_)
    refine lv_i2l hx hb dX1_post_20 rfl ?_
    refine tpl (fun v5 e5 => ?_)
    refine lv_iload_n hx hb dX1_post_21 rfl (lv_at hl 3 rfl) ?_
    refine lv_i2l hx hb dX1_post_22 rfl ?_
    refine tpl (fun v6 e6 => ?_)
    refine lv_ladd hx hb dX1_post_23 ?_
    refine tpl (fun v7 e7 => ?_)
    refine lv_lstore (lv' := [(5, .long v7), (3, .long v3), (0, .ref g0), (1, .int a), (2, .int k)]) hx hb dX1_post_24 hl (by decide) rfl (fun ls hl => ?_)
    refine lv_lload_n hx hb dX1_post_26 rfl (lv_at hl 1 rfl) ?_
    refine cS_call (n := 1) (as := [.long v3]) (rest := []) ⟨hx, hb, hml, hown, hts⟩ (c_X1_isOpen l v3) gX1_post_X1_isOpen rfl rfl rfl (by decide +kernel) ⟨Nat.le_of_ble_eq_true rfl, Nat.le_of_ble_eq_true rfl⟩ hl.1 rfl rfl (Nat.le_of_ble_eq_true rfl) dX1_post_27 ⟨Nat.zero_le _, Nat.zero_le _⟩ ?_
    refine tpi (fun v8 e8 => ?_)
    refine lv_if_eq (tgt := 54) hx hb dX1_post_30 (by decide) (fun c9 => ?_) (fun c9 => ?_)
    · refine lv_iconst (v := 0) hx hb dX1_post_54 (by decide) ?_
      refine lv_istore (lv' := [(7, .int 0), (5, .long v7), (3, .long v3), (0, .ref g0), (1, .int a), (2, .int k)]) hx hb dX1_post_55 hl (by decide) rfl (fun ls hl => ?_)
      refine lv_aload_n hx hb dX1_post_57 rfl (lv_at hl 3 rfl) ?_
      refine lv_iconst (v := 0) hx hb dX1_post_58 (by decide) ?_
      refine va_put (D := D) (ci := 1) (v := .int 0) (ty := .int) (C := RX1) (T := TX1) (N := 11) hx hb hts (by decide +kernel) tyX1 tyX1_ok nmX1 hown hK hP hD hS 0 rfl rfl 9 (by decide) (hts (.fieldLink RX1 63 "FadeLedgerModel" "turns" "I") (by decide +kernel)) (fun _ h9 => h9) rfl (by decide +kernel) rfl rfl (Nat.le_of_ble_eq_true rfl) dX1_post_59 (fun H locs hP hD hS => ?_)
      obtain ⟨s10, t10⟩ : ∃ y9 : RS, ((st.1, st.2.1, st.2.2.1, st.2.2.2.1, 0, st.2.2.2.2.2) : RS) = y9 := ⟨_, rfl⟩
      replace hP : va_P D vwCl (RWd g0 g1 g2 g3 g4 g5 g6 cA cB s10) H := by rw [← t10]; exact hP
      replace hD : va_D A (RWd g0 g1 g2 g3 g4 g5 g6 cA cB s10) := by rw [← t10]; exact hD
      have hL11 : r_plan s10 [] := by rw [← t10]; exact plan_zero _
      refine lv_aload_n hx hb dX1_post_62 rfl (lv_at hl 3 rfl) ?_
      refine lv_iconst (v := 0) hx hb dX1_post_63 (by decide) ?_
      refine lv_iconst (v := 0) hx hb dX1_post_64 (by decide) ?_
      refine lv_iload_n hx hb dX1_post_65 rfl (lv_at hl 4 rfl) ?_
      refine lv_lconst (v := 0) hx hb dX1_post_66 (by decide) ?_
      refine cM_this (Wd := RWd g0 g1 g2 g3 g4 g5 g6 cA cB) (ci := 1) (q0 := 0) (n := 4) (as := [.int 0, .int 0, .int a, .long 0]) (rest := []) ⟨hx, hb, hml, hown, hts⟩ (c_X1_turn l D g0 g1 g2 g3 g4 g5 g6 cA cB s10 0 0 a 0 (t_in hL11.1 (by simp only [List.length_append, List.length_nil, List.length_cons, pl_look, pl_put] <;> decide))) gX1_post_X1_turn rfl rfl rfl (by decide +kernel) ⟨Nat.le_of_ble_eq_true rfl, Nat.le_of_ble_eq_true rfl⟩ hK hP hD hS hA rfl rfl rfl hl.1 rfl rfl (Nat.le_of_ble_eq_true rfl) dX1_post_67 ⟨Nat.zero_le _, Nat.zero_le _⟩ (fun H locs hP hD hS => ?_)
      refine W.eq (g2 := F0 m 70 ls []) rfl ?_
      obtain ⟨s12, t12⟩ : ∃ y9 : RS, r_turn 0 0 a 0 s10 = y9 := ⟨_, rfl⟩
      replace hP : va_P D vwCl (RWd g0 g1 g2 g3 g4 g5 g6 cA cB s12) H := by rw [← t12]; exact hP
      replace hD : va_D A (RWd g0 g1 g2 g3 g4 g5 g6 cA cB s12) := by rw [← t12]; exact hD
      have hL13 : r_plan s12 ([] ++ [(0, r_place 0 a, 0)]) := by clear hP hD hS; subst t10; subst t12; exact plan_turn 0 0 a 0 hL11 (by simp only [List.length_append, List.length_nil, List.length_cons, pl_look, pl_put] <;> decide) in4_0 hc
      refine lv_iload hx hb dX1_post_70 (lv_at hl 0 rfl) ?_
      refine lv_if_eq (tgt := 95) hx hb dX1_post_72 (by decide) (fun _ => ?_) (fun c0 => absurd c0 (by decide))
      refine lv_aload_n hx hb dX1_post_95 rfl (lv_at hl 3 rfl) ?_
      refine lv_iconst (v := 1) hx hb dX1_post_96 (by decide) ?_
      refine lv_iconst (v := 0) hx hb dX1_post_97 (by decide) ?_
      refine lv_iload_n hx hb dX1_post_98 rfl (lv_at hl 4 rfl) ?_
      refine lv_lload_n hx hb dX1_post_99 rfl (lv_at hl 2 rfl) ?_
      refine cM_this (Wd := RWd g0 g1 g2 g3 g4 g5 g6 cA cB) (ci := 1) (q0 := 0) (n := 4) (as := [.int 1, .int 0, .int a, .long v3]) (rest := []) ⟨hx, hb, hml, hown, hts⟩ (c_X1_turn l D g0 g1 g2 g3 g4 g5 g6 cA cB s12 1 0 a v3 (t_in hL13.1 (by simp only [List.length_append, List.length_nil, List.length_cons, pl_look, pl_put] <;> decide))) gX1_post_X1_turn rfl rfl rfl (by decide +kernel) ⟨Nat.le_of_ble_eq_true rfl, Nat.le_of_ble_eq_true rfl⟩ hK hP hD hS hA rfl rfl rfl hl.1 rfl rfl (Nat.le_of_ble_eq_true rfl) dX1_post_100 ⟨Nat.zero_le _, Nat.zero_le _⟩ (fun H locs hP hD hS => ?_)
      refine W.eq (g2 := F0 m 103 ls []) rfl ?_
      obtain ⟨s14, t14⟩ : ∃ y9 : RS, r_turn 1 0 a v3 s12 = y9 := ⟨_, rfl⟩
      replace hP : va_P D vwCl (RWd g0 g1 g2 g3 g4 g5 g6 cA cB s14) H := by rw [← t14]; exact hP
      replace hD : va_D A (RWd g0 g1 g2 g3 g4 g5 g6 cA cB s14) := by rw [← t14]; exact hD
      have hL15 : r_plan s14 ([] ++ [(0, r_place 0 a, 0)] ++ [(1, r_place 0 a, v3)]) := by clear hP hD hS; subst t10; subst t12; subst t14; exact plan_turn 1 0 a v3 hL13 (by simp only [List.length_append, List.length_nil, List.length_cons, pl_look, pl_put] <;> decide) in4_0 hc
      refine lv_aload_n hx hb dX1_post_103 rfl (lv_at hl 3 rfl) ?_
      obtain ⟨L16, f16⟩ : ∃ y9 : RPl, [] ++ [(0, r_place 0 a, 0)] ++ [(1, r_place 0 a, v3)] = y9 := ⟨_, rfl⟩
      have hL16 : r_plan s14 L16 := by rw [← f16]; exact hL15
      refine cM_this (Wd := RWd g0 g1 g2 g3 g4 g5 g6 cA cB) (ci := 1) (q0 := 0) (n := 0) (as := []) (rest := []) ⟨hx, hb, hml, hown, hts⟩ (c_X1_works l D g0 g1 g2 g3 g4 g5 g6 cA cB s14 L16 hL16) gX1_post_X1_works rfl rfl rfl (by decide +kernel) ⟨Nat.le_of_ble_eq_true rfl, Nat.le_of_ble_eq_true rfl⟩ hK hP hD hS hA rfl rfl rfl hl.1 rfl rfl (Nat.le_of_ble_eq_true rfl) dX1_post_104 ⟨Nat.zero_le _, Nat.zero_le _⟩ (fun H locs hP hD hS => ?_)
      obtain ⟨s17, t17⟩ : ∃ y9 : RS, (r_wk (L16) s14).2 = y9 := ⟨_, rfl⟩
      replace hP : va_P D vwCl (RWd g0 g1 g2 g3 g4 g5 g6 cA cB s17) H := by rw [← t17]; exact hP
      replace hD : va_D A (RWd g0 g1 g2 g3 g4 g5 g6 cA cB s17) := by rw [← t17]; exact hD
      refine tpi (fun v18 e18 => ?_)
      refine lv_if_ne (tgt := 115) hx hb dX1_post_107 (by decide) (fun c19 => ?_) (fun c19 => ?_)
      · refine lv_iload hx hb dX1_post_115 (lv_at hl 0 rfl) ?_
        refine lv_if_eq (tgt := 124) hx hb dX1_post_117 (by decide) (fun _ => ?_) (fun c0 => absurd c0 (by decide))
        refine lv_iconst (v := (-1)) hx hb dX1_post_124 (by decide) ?_
        have fin : r_post a k st = ((-1), s17) := by
          clear hP hD hS; subst e1; subst e3; subst e4; subst e5; subst e6; subst e7; subst e8; subst t10; subst t12; subst t14; subst f16; subst t17; subst e18; simp only [r_post, r_postB, r_postAcc, r_end, r_zero, bI, c2, c9, c19, ↓reduceIte, not_true_eq_false, not_false_eq_true, and_self, and_true, true_and, and_false, false_and, eq_self, i10]
        exact cM_reti (Wd := RWd g0 g1 g2 g3 g4 g5 g6 cA cB) (st := s17) (st' := (r_post a k st).2) hx hb hr hlocks dX1_post_125 hS hP hD (congrArg Prod.fst fin).symm (congrArg Prod.snd fin).symm
      · refine lv_bipush (v := (-2)) hx hb dX1_post_110 (by decide) ?_
        refine lv_goto (tgt := 125) hx hb dX1_post_112 (by decide) ?_
        have fin : r_post a k st = ((-2), s17) := by
          clear hP hD hS; subst e1; subst e3; subst e4; subst e5; subst e6; subst e7; subst e8; subst t10; subst t12; subst t14; subst f16; subst t17; subst e18; simp only [r_post, r_postB, r_postAcc, r_end, r_zero, bI, c2, c9, c19, ↓reduceIte, not_true_eq_false, not_false_eq_true, and_self, and_true, true_and, and_false, false_and, eq_self, i10]
        exact cM_reti (Wd := RWd g0 g1 g2 g3 g4 g5 g6 cA cB) (st := s17) (st' := (r_post a k st).2) hx hb hr hlocks dX1_post_125 hS hP hD (congrArg Prod.fst fin).symm (congrArg Prod.snd fin).symm
    · refine lv_lload_n hx hb dX1_post_33 rfl (lv_at hl 1 rfl) ?_
      refine cS_call (n := 1) (as := [.long v3]) (rest := []) ⟨hx, hb, hml, hown, hts⟩ (c_X1_numberOf l v3) gX1_post_X1_numberOf rfl rfl rfl (by decide +kernel) ⟨Nat.le_of_ble_eq_true rfl, Nat.le_of_ble_eq_true rfl⟩ hl.1 rfl rfl (Nat.le_of_ble_eq_true rfl) dX1_post_34 ⟨Nat.zero_le _, Nat.zero_le _⟩ ?_
      refine tpi (fun v20 e20 => ?_)
      refine lv_ldc (v := 16777215) hx hb hown (hts (.constant RX1 106 16777215) (by decide +kernel)) dX1_post_37 ?_
      refine lv_icmp_ge (tgt := 54) hx hb dX1_post_39 (by decide) (fun c21 => ?_) (fun c21 => ?_)
      · refine lv_iconst (v := 0) hx hb dX1_post_54 (by decide) ?_
        refine lv_istore (lv' := [(7, .int 0), (5, .long v7), (3, .long v3), (0, .ref g0), (1, .int a), (2, .int k)]) hx hb dX1_post_55 hl (by decide) rfl (fun ls hl => ?_)
        refine lv_aload_n hx hb dX1_post_57 rfl (lv_at hl 3 rfl) ?_
        refine lv_iconst (v := 0) hx hb dX1_post_58 (by decide) ?_
        refine va_put (D := D) (ci := 1) (v := .int 0) (ty := .int) (C := RX1) (T := TX1) (N := 11) hx hb hts (by decide +kernel) tyX1 tyX1_ok nmX1 hown hK hP hD hS 0 rfl rfl 9 (by decide) (hts (.fieldLink RX1 63 "FadeLedgerModel" "turns" "I") (by decide +kernel)) (fun _ h9 => h9) rfl (by decide +kernel) rfl rfl (Nat.le_of_ble_eq_true rfl) dX1_post_59 (fun H locs hP hD hS => ?_)
        obtain ⟨s22, t22⟩ : ∃ y9 : RS, ((st.1, st.2.1, st.2.2.1, st.2.2.2.1, 0, st.2.2.2.2.2) : RS) = y9 := ⟨_, rfl⟩
        replace hP : va_P D vwCl (RWd g0 g1 g2 g3 g4 g5 g6 cA cB s22) H := by rw [← t22]; exact hP
        replace hD : va_D A (RWd g0 g1 g2 g3 g4 g5 g6 cA cB s22) := by rw [← t22]; exact hD
        have hL23 : r_plan s22 [] := by rw [← t22]; exact plan_zero _
        refine lv_aload_n hx hb dX1_post_62 rfl (lv_at hl 3 rfl) ?_
        refine lv_iconst (v := 0) hx hb dX1_post_63 (by decide) ?_
        refine lv_iconst (v := 0) hx hb dX1_post_64 (by decide) ?_
        refine lv_iload_n hx hb dX1_post_65 rfl (lv_at hl 4 rfl) ?_
        refine lv_lconst (v := 0) hx hb dX1_post_66 (by decide) ?_
        refine cM_this (Wd := RWd g0 g1 g2 g3 g4 g5 g6 cA cB) (ci := 1) (q0 := 0) (n := 4) (as := [.int 0, .int 0, .int a, .long 0]) (rest := []) ⟨hx, hb, hml, hown, hts⟩ (c_X1_turn l D g0 g1 g2 g3 g4 g5 g6 cA cB s22 0 0 a 0 (t_in hL23.1 (by simp only [List.length_append, List.length_nil, List.length_cons, pl_look, pl_put] <;> decide))) gX1_post_X1_turn rfl rfl rfl (by decide +kernel) ⟨Nat.le_of_ble_eq_true rfl, Nat.le_of_ble_eq_true rfl⟩ hK hP hD hS hA rfl rfl rfl hl.1 rfl rfl (Nat.le_of_ble_eq_true rfl) dX1_post_67 ⟨Nat.zero_le _, Nat.zero_le _⟩ (fun H locs hP hD hS => ?_)
        refine W.eq (g2 := F0 m 70 ls []) rfl ?_
        obtain ⟨s24, t24⟩ : ∃ y9 : RS, r_turn 0 0 a 0 s22 = y9 := ⟨_, rfl⟩
        replace hP : va_P D vwCl (RWd g0 g1 g2 g3 g4 g5 g6 cA cB s24) H := by rw [← t24]; exact hP
        replace hD : va_D A (RWd g0 g1 g2 g3 g4 g5 g6 cA cB s24) := by rw [← t24]; exact hD
        have hL25 : r_plan s24 ([] ++ [(0, r_place 0 a, 0)]) := by clear hP hD hS; subst t22; subst t24; exact plan_turn 0 0 a 0 hL23 (by simp only [List.length_append, List.length_nil, List.length_cons, pl_look, pl_put] <;> decide) in4_0 hc
        refine lv_iload hx hb dX1_post_70 (lv_at hl 0 rfl) ?_
        refine lv_if_eq (tgt := 95) hx hb dX1_post_72 (by decide) (fun _ => ?_) (fun c0 => absurd c0 (by decide))
        refine lv_aload_n hx hb dX1_post_95 rfl (lv_at hl 3 rfl) ?_
        refine lv_iconst (v := 1) hx hb dX1_post_96 (by decide) ?_
        refine lv_iconst (v := 0) hx hb dX1_post_97 (by decide) ?_
        refine lv_iload_n hx hb dX1_post_98 rfl (lv_at hl 4 rfl) ?_
        refine lv_lload_n hx hb dX1_post_99 rfl (lv_at hl 2 rfl) ?_
        refine cM_this (Wd := RWd g0 g1 g2 g3 g4 g5 g6 cA cB) (ci := 1) (q0 := 0) (n := 4) (as := [.int 1, .int 0, .int a, .long v3]) (rest := []) ⟨hx, hb, hml, hown, hts⟩ (c_X1_turn l D g0 g1 g2 g3 g4 g5 g6 cA cB s24 1 0 a v3 (t_in hL25.1 (by simp only [List.length_append, List.length_nil, List.length_cons, pl_look, pl_put] <;> decide))) gX1_post_X1_turn rfl rfl rfl (by decide +kernel) ⟨Nat.le_of_ble_eq_true rfl, Nat.le_of_ble_eq_true rfl⟩ hK hP hD hS hA rfl rfl rfl hl.1 rfl rfl (Nat.le_of_ble_eq_true rfl) dX1_post_100 ⟨Nat.zero_le _, Nat.zero_le _⟩ (fun H locs hP hD hS => ?_)
        refine W.eq (g2 := F0 m 103 ls []) rfl ?_
        obtain ⟨s26, t26⟩ : ∃ y9 : RS, r_turn 1 0 a v3 s24 = y9 := ⟨_, rfl⟩
        replace hP : va_P D vwCl (RWd g0 g1 g2 g3 g4 g5 g6 cA cB s26) H := by rw [← t26]; exact hP
        replace hD : va_D A (RWd g0 g1 g2 g3 g4 g5 g6 cA cB s26) := by rw [← t26]; exact hD
        have hL27 : r_plan s26 ([] ++ [(0, r_place 0 a, 0)] ++ [(1, r_place 0 a, v3)]) := by clear hP hD hS; subst t22; subst t24; subst t26; exact plan_turn 1 0 a v3 hL25 (by simp only [List.length_append, List.length_nil, List.length_cons, pl_look, pl_put] <;> decide) in4_0 hc
        refine lv_aload_n hx hb dX1_post_103 rfl (lv_at hl 3 rfl) ?_
        obtain ⟨L28, f28⟩ : ∃ y9 : RPl, [] ++ [(0, r_place 0 a, 0)] ++ [(1, r_place 0 a, v3)] = y9 := ⟨_, rfl⟩
        have hL28 : r_plan s26 L28 := by rw [← f28]; exact hL27
        refine cM_this (Wd := RWd g0 g1 g2 g3 g4 g5 g6 cA cB) (ci := 1) (q0 := 0) (n := 0) (as := []) (rest := []) ⟨hx, hb, hml, hown, hts⟩ (c_X1_works l D g0 g1 g2 g3 g4 g5 g6 cA cB s26 L28 hL28) gX1_post_X1_works rfl rfl rfl (by decide +kernel) ⟨Nat.le_of_ble_eq_true rfl, Nat.le_of_ble_eq_true rfl⟩ hK hP hD hS hA rfl rfl rfl hl.1 rfl rfl (Nat.le_of_ble_eq_true rfl) dX1_post_104 ⟨Nat.zero_le _, Nat.zero_le _⟩ (fun H locs hP hD hS => ?_)
        obtain ⟨s29, t29⟩ : ∃ y9 : RS, (r_wk (L28) s26).2 = y9 := ⟨_, rfl⟩
        replace hP : va_P D vwCl (RWd g0 g1 g2 g3 g4 g5 g6 cA cB s29) H := by rw [← t29]; exact hP
        replace hD : va_D A (RWd g0 g1 g2 g3 g4 g5 g6 cA cB s29) := by rw [← t29]; exact hD
        refine tpi (fun v30 e30 => ?_)
        refine lv_if_ne (tgt := 115) hx hb dX1_post_107 (by decide) (fun c31 => ?_) (fun c31 => ?_)
        · refine lv_iload hx hb dX1_post_115 (lv_at hl 0 rfl) ?_
          refine lv_if_eq (tgt := 124) hx hb dX1_post_117 (by decide) (fun _ => ?_) (fun c0 => absurd c0 (by decide))
          refine lv_iconst (v := (-1)) hx hb dX1_post_124 (by decide) ?_
          have fin : r_post a k st = ((-1), s29) := by
            clear hP hD hS; subst e1; subst e3; subst e4; subst e5; subst e6; subst e7; subst e8; subst e20; subst t22; subst t24; subst t26; subst f28; subst t29; subst e30; simp only [r_post, r_postB, r_postAcc, r_end, r_zero, bI, c2, c9, c21, c31, ↓reduceIte, not_true_eq_false, not_false_eq_true, and_self, and_true, true_and, and_false, false_and, eq_self, i10]
          exact cM_reti (Wd := RWd g0 g1 g2 g3 g4 g5 g6 cA cB) (st := s29) (st' := (r_post a k st).2) hx hb hr hlocks dX1_post_125 hS hP hD (congrArg Prod.fst fin).symm (congrArg Prod.snd fin).symm
        · refine lv_bipush (v := (-2)) hx hb dX1_post_110 (by decide) ?_
          refine lv_goto (tgt := 125) hx hb dX1_post_112 (by decide) ?_
          have fin : r_post a k st = ((-2), s29) := by
            clear hP hD hS; subst e1; subst e3; subst e4; subst e5; subst e6; subst e7; subst e8; subst e20; subst t22; subst t24; subst t26; subst f28; subst t29; subst e30; simp only [r_post, r_postB, r_postAcc, r_end, r_zero, bI, c2, c9, c21, c31, ↓reduceIte, not_true_eq_false, not_false_eq_true, and_self, and_true, true_and, and_false, false_and, eq_self, i10]
          exact cM_reti (Wd := RWd g0 g1 g2 g3 g4 g5 g6 cA cB) (st := s29) (st' := (r_post a k st).2) hx hb hr hlocks dX1_post_125 hS hP hD (congrArg Prod.fst fin).symm (congrArg Prod.snd fin).symm
      · refine lv_lload hx hb dX1_post_42 (lv_at hl 0 rfl) ?_
        refine cS_call (n := 1) (as := [.long v7]) (rest := []) ⟨hx, hb, hml, hown, hts⟩ (c_X1_isInt l v7) gX1_post_X1_isInt rfl rfl rfl (by decide +kernel) ⟨Nat.le_of_ble_eq_true rfl, Nat.le_of_ble_eq_true rfl⟩ hl.1 rfl rfl (Nat.le_of_ble_eq_true rfl) dX1_post_44 ⟨Nat.zero_le _, Nat.zero_le _⟩ ?_
        refine tpi (fun v32 e32 => ?_)
        refine lv_if_eq (tgt := 54) hx hb dX1_post_47 (by decide) (fun c33 => ?_) (fun c33 => ?_)
        · refine lv_iconst (v := 0) hx hb dX1_post_54 (by decide) ?_
          refine lv_istore (lv' := [(7, .int 0), (5, .long v7), (3, .long v3), (0, .ref g0), (1, .int a), (2, .int k)]) hx hb dX1_post_55 hl (by decide) rfl (fun ls hl => ?_)
          refine lv_aload_n hx hb dX1_post_57 rfl (lv_at hl 3 rfl) ?_
          refine lv_iconst (v := 0) hx hb dX1_post_58 (by decide) ?_
          refine va_put (D := D) (ci := 1) (v := .int 0) (ty := .int) (C := RX1) (T := TX1) (N := 11) hx hb hts (by decide +kernel) tyX1 tyX1_ok nmX1 hown hK hP hD hS 0 rfl rfl 9 (by decide) (hts (.fieldLink RX1 63 "FadeLedgerModel" "turns" "I") (by decide +kernel)) (fun _ h9 => h9) rfl (by decide +kernel) rfl rfl (Nat.le_of_ble_eq_true rfl) dX1_post_59 (fun H locs hP hD hS => ?_)
          obtain ⟨s34, t34⟩ : ∃ y9 : RS, ((st.1, st.2.1, st.2.2.1, st.2.2.2.1, 0, st.2.2.2.2.2) : RS) = y9 := ⟨_, rfl⟩
          replace hP : va_P D vwCl (RWd g0 g1 g2 g3 g4 g5 g6 cA cB s34) H := by rw [← t34]; exact hP
          replace hD : va_D A (RWd g0 g1 g2 g3 g4 g5 g6 cA cB s34) := by rw [← t34]; exact hD
          have hL35 : r_plan s34 [] := by rw [← t34]; exact plan_zero _
          refine lv_aload_n hx hb dX1_post_62 rfl (lv_at hl 3 rfl) ?_
          refine lv_iconst (v := 0) hx hb dX1_post_63 (by decide) ?_
          refine lv_iconst (v := 0) hx hb dX1_post_64 (by decide) ?_
          refine lv_iload_n hx hb dX1_post_65 rfl (lv_at hl 4 rfl) ?_
          refine lv_lconst (v := 0) hx hb dX1_post_66 (by decide) ?_
          refine cM_this (Wd := RWd g0 g1 g2 g3 g4 g5 g6 cA cB) (ci := 1) (q0 := 0) (n := 4) (as := [.int 0, .int 0, .int a, .long 0]) (rest := []) ⟨hx, hb, hml, hown, hts⟩ (c_X1_turn l D g0 g1 g2 g3 g4 g5 g6 cA cB s34 0 0 a 0 (t_in hL35.1 (by simp only [List.length_append, List.length_nil, List.length_cons, pl_look, pl_put] <;> decide))) gX1_post_X1_turn rfl rfl rfl (by decide +kernel) ⟨Nat.le_of_ble_eq_true rfl, Nat.le_of_ble_eq_true rfl⟩ hK hP hD hS hA rfl rfl rfl hl.1 rfl rfl (Nat.le_of_ble_eq_true rfl) dX1_post_67 ⟨Nat.zero_le _, Nat.zero_le _⟩ (fun H locs hP hD hS => ?_)
          refine W.eq (g2 := F0 m 70 ls []) rfl ?_
          obtain ⟨s36, t36⟩ : ∃ y9 : RS, r_turn 0 0 a 0 s34 = y9 := ⟨_, rfl⟩
          replace hP : va_P D vwCl (RWd g0 g1 g2 g3 g4 g5 g6 cA cB s36) H := by rw [← t36]; exact hP
          replace hD : va_D A (RWd g0 g1 g2 g3 g4 g5 g6 cA cB s36) := by rw [← t36]; exact hD
          have hL37 : r_plan s36 ([] ++ [(0, r_place 0 a, 0)]) := by clear hP hD hS; subst t34; subst t36; exact plan_turn 0 0 a 0 hL35 (by simp only [List.length_append, List.length_nil, List.length_cons, pl_look, pl_put] <;> decide) in4_0 hc
          refine lv_iload hx hb dX1_post_70 (lv_at hl 0 rfl) ?_
          refine lv_if_eq (tgt := 95) hx hb dX1_post_72 (by decide) (fun _ => ?_) (fun c0 => absurd c0 (by decide))
          refine lv_aload_n hx hb dX1_post_95 rfl (lv_at hl 3 rfl) ?_
          refine lv_iconst (v := 1) hx hb dX1_post_96 (by decide) ?_
          refine lv_iconst (v := 0) hx hb dX1_post_97 (by decide) ?_
          refine lv_iload_n hx hb dX1_post_98 rfl (lv_at hl 4 rfl) ?_
          refine lv_lload_n hx hb dX1_post_99 rfl (lv_at hl 2 rfl) ?_
          refine cM_this (Wd := RWd g0 g1 g2 g3 g4 g5 g6 cA cB) (ci := 1) (q0 := 0) (n := 4) (as := [.int 1, .int 0, .int a, .long v3]) (rest := []) ⟨hx, hb, hml, hown, hts⟩ (c_X1_turn l D g0 g1 g2 g3 g4 g5 g6 cA cB s36 1 0 a v3 (t_in hL37.1 (by simp only [List.length_append, List.length_nil, List.length_cons, pl_look, pl_put] <;> decide))) gX1_post_X1_turn rfl rfl rfl (by decide +kernel) ⟨Nat.le_of_ble_eq_true rfl, Nat.le_of_ble_eq_true rfl⟩ hK hP hD hS hA rfl rfl rfl hl.1 rfl rfl (Nat.le_of_ble_eq_true rfl) dX1_post_100 ⟨Nat.zero_le _, Nat.zero_le _⟩ (fun H locs hP hD hS => ?_)
          refine W.eq (g2 := F0 m 103 ls []) rfl ?_
          obtain ⟨s38, t38⟩ : ∃ y9 : RS, r_turn 1 0 a v3 s36 = y9 := ⟨_, rfl⟩
          replace hP : va_P D vwCl (RWd g0 g1 g2 g3 g4 g5 g6 cA cB s38) H := by rw [← t38]; exact hP
          replace hD : va_D A (RWd g0 g1 g2 g3 g4 g5 g6 cA cB s38) := by rw [← t38]; exact hD
          have hL39 : r_plan s38 ([] ++ [(0, r_place 0 a, 0)] ++ [(1, r_place 0 a, v3)]) := by clear hP hD hS; subst t34; subst t36; subst t38; exact plan_turn 1 0 a v3 hL37 (by simp only [List.length_append, List.length_nil, List.length_cons, pl_look, pl_put] <;> decide) in4_0 hc
          refine lv_aload_n hx hb dX1_post_103 rfl (lv_at hl 3 rfl) ?_
          obtain ⟨L40, f40⟩ : ∃ y9 : RPl, [] ++ [(0, r_place 0 a, 0)] ++ [(1, r_place 0 a, v3)] = y9 := ⟨_, rfl⟩
          have hL40 : r_plan s38 L40 := by rw [← f40]; exact hL39
          refine cM_this (Wd := RWd g0 g1 g2 g3 g4 g5 g6 cA cB) (ci := 1) (q0 := 0) (n := 0) (as := []) (rest := []) ⟨hx, hb, hml, hown, hts⟩ (c_X1_works l D g0 g1 g2 g3 g4 g5 g6 cA cB s38 L40 hL40) gX1_post_X1_works rfl rfl rfl (by decide +kernel) ⟨Nat.le_of_ble_eq_true rfl, Nat.le_of_ble_eq_true rfl⟩ hK hP hD hS hA rfl rfl rfl hl.1 rfl rfl (Nat.le_of_ble_eq_true rfl) dX1_post_104 ⟨Nat.zero_le _, Nat.zero_le _⟩ (fun H locs hP hD hS => ?_)
          obtain ⟨s41, t41⟩ : ∃ y9 : RS, (r_wk (L40) s38).2 = y9 := ⟨_, rfl⟩
          replace hP : va_P D vwCl (RWd g0 g1 g2 g3 g4 g5 g6 cA cB s41) H := by rw [← t41]; exact hP
          replace hD : va_D A (RWd g0 g1 g2 g3 g4 g5 g6 cA cB s41) := by rw [← t41]; exact hD
          refine tpi (fun v42 e42 => ?_)
          refine lv_if_ne (tgt := 115) hx hb dX1_post_107 (by decide) (fun c43 => ?_) (fun c43 => ?_)
          · refine lv_iload hx hb dX1_post_115 (lv_at hl 0 rfl) ?_
            refine lv_if_eq (tgt := 124) hx hb dX1_post_117 (by decide) (fun _ => ?_) (fun c0 => absurd c0 (by decide))
            refine lv_iconst (v := (-1)) hx hb dX1_post_124 (by decide) ?_
            have fin : r_post a k st = ((-1), s41) := by
              clear hP hD hS; subst e1; subst e3; subst e4; subst e5; subst e6; subst e7; subst e8; subst e20; subst e32; subst t34; subst t36; subst t38; subst f40; subst t41; subst e42; simp only [r_post, r_postB, r_postAcc, r_end, r_zero, bI, c2, c9, c21, c33, c43, ↓reduceIte, not_true_eq_false, not_false_eq_true, and_self, and_true, true_and, and_false, false_and, eq_self, i10]
            exact cM_reti (Wd := RWd g0 g1 g2 g3 g4 g5 g6 cA cB) (st := s41) (st' := (r_post a k st).2) hx hb hr hlocks dX1_post_125 hS hP hD (congrArg Prod.fst fin).symm (congrArg Prod.snd fin).symm
          · refine lv_bipush (v := (-2)) hx hb dX1_post_110 (by decide) ?_
            refine lv_goto (tgt := 125) hx hb dX1_post_112 (by decide) ?_
            have fin : r_post a k st = ((-2), s41) := by
              clear hP hD hS; subst e1; subst e3; subst e4; subst e5; subst e6; subst e7; subst e8; subst e20; subst e32; subst t34; subst t36; subst t38; subst f40; subst t41; subst e42; simp only [r_post, r_postB, r_postAcc, r_end, r_zero, bI, c2, c9, c21, c33, c43, ↓reduceIte, not_true_eq_false, not_false_eq_true, and_self, and_true, true_and, and_false, false_and, eq_self, i10]
            exact cM_reti (Wd := RWd g0 g1 g2 g3 g4 g5 g6 cA cB) (st := s41) (st' := (r_post a k st).2) hx hb hr hlocks dX1_post_125 hS hP hD (congrArg Prod.fst fin).symm (congrArg Prod.snd fin).symm
        · refine lv_iconst (v := 1) hx hb dX1_post_50 (by decide) ?_
          refine lv_goto (tgt := 55) hx hb dX1_post_51 (by decide) ?_
          refine lv_istore (lv' := [(7, .int 1), (5, .long v7), (3, .long v3), (0, .ref g0), (1, .int a), (2, .int k)]) hx hb dX1_post_55 hl (by decide) rfl (fun ls hl => ?_)
          refine lv_aload_n hx hb dX1_post_57 rfl (lv_at hl 3 rfl) ?_
          refine lv_iconst (v := 0) hx hb dX1_post_58 (by decide) ?_
          refine va_put (D := D) (ci := 1) (v := .int 0) (ty := .int) (C := RX1) (T := TX1) (N := 11) hx hb hts (by decide +kernel) tyX1 tyX1_ok nmX1 hown hK hP hD hS 0 rfl rfl 9 (by decide) (hts (.fieldLink RX1 63 "FadeLedgerModel" "turns" "I") (by decide +kernel)) (fun _ h9 => h9) rfl (by decide +kernel) rfl rfl (Nat.le_of_ble_eq_true rfl) dX1_post_59 (fun H locs hP hD hS => ?_)
          obtain ⟨s44, t44⟩ : ∃ y9 : RS, ((st.1, st.2.1, st.2.2.1, st.2.2.2.1, 0, st.2.2.2.2.2) : RS) = y9 := ⟨_, rfl⟩
          replace hP : va_P D vwCl (RWd g0 g1 g2 g3 g4 g5 g6 cA cB s44) H := by rw [← t44]; exact hP
          replace hD : va_D A (RWd g0 g1 g2 g3 g4 g5 g6 cA cB s44) := by rw [← t44]; exact hD
          have hL45 : r_plan s44 [] := by rw [← t44]; exact plan_zero _
          refine lv_aload_n hx hb dX1_post_62 rfl (lv_at hl 3 rfl) ?_
          refine lv_iconst (v := 0) hx hb dX1_post_63 (by decide) ?_
          refine lv_iconst (v := 0) hx hb dX1_post_64 (by decide) ?_
          refine lv_iload_n hx hb dX1_post_65 rfl (lv_at hl 4 rfl) ?_
          refine lv_lconst (v := 0) hx hb dX1_post_66 (by decide) ?_
          refine cM_this (Wd := RWd g0 g1 g2 g3 g4 g5 g6 cA cB) (ci := 1) (q0 := 0) (n := 4) (as := [.int 0, .int 0, .int a, .long 0]) (rest := []) ⟨hx, hb, hml, hown, hts⟩ (c_X1_turn l D g0 g1 g2 g3 g4 g5 g6 cA cB s44 0 0 a 0 (t_in hL45.1 (by simp only [List.length_append, List.length_nil, List.length_cons, pl_look, pl_put] <;> decide))) gX1_post_X1_turn rfl rfl rfl (by decide +kernel) ⟨Nat.le_of_ble_eq_true rfl, Nat.le_of_ble_eq_true rfl⟩ hK hP hD hS hA rfl rfl rfl hl.1 rfl rfl (Nat.le_of_ble_eq_true rfl) dX1_post_67 ⟨Nat.zero_le _, Nat.zero_le _⟩ (fun H locs hP hD hS => ?_)
          refine W.eq (g2 := F0 m 70 ls []) rfl ?_
          obtain ⟨s46, t46⟩ : ∃ y9 : RS, r_turn 0 0 a 0 s44 = y9 := ⟨_, rfl⟩
          replace hP : va_P D vwCl (RWd g0 g1 g2 g3 g4 g5 g6 cA cB s46) H := by rw [← t46]; exact hP
          replace hD : va_D A (RWd g0 g1 g2 g3 g4 g5 g6 cA cB s46) := by rw [← t46]; exact hD
          have hL47 : r_plan s46 ([] ++ [(0, r_place 0 a, 0)]) := by clear hP hD hS; subst t44; subst t46; exact plan_turn 0 0 a 0 hL45 (by simp only [List.length_append, List.length_nil, List.length_cons, pl_look, pl_put] <;> decide) in4_0 hc
          refine lv_iload hx hb dX1_post_70 (lv_at hl 0 rfl) ?_
          refine lv_if_eq (tgt := 95) hx hb dX1_post_72 (by decide) (fun c0 => absurd c0 (by decide)) (fun _ => ?_)
          refine lv_aload_n hx hb dX1_post_75 rfl (lv_at hl 3 rfl) ?_
          refine lv_iload_n hx hb dX1_post_76 rfl (lv_at hl 4 rfl) ?_
          refine lv_lload hx hb dX1_post_77 (lv_at hl 1 rfl) ?_
          refine lv_l2i hx hb dX1_post_79 rfl ?_
          refine tpi (fun v48 e48 => ?_)
          refine lv_lload_n hx hb dX1_post_80 rfl (lv_at hl 2 rfl) ?_
          refine cS_call (n := 1) (as := [.long v3]) (rest := [.int v48, .int a, .ref g0]) ⟨hx, hb, hml, hown, hts⟩ (c_X1_numberOf l v3) gX1_post_X1_numberOf rfl rfl rfl (by decide +kernel) ⟨Nat.le_of_ble_eq_true rfl, Nat.le_of_ble_eq_true rfl⟩ hl.1 rfl rfl (Nat.le_of_ble_eq_true rfl) dX1_post_81 ⟨Nat.zero_le _, Nat.zero_le _⟩ ?_
          refine tpi (fun v49 e49 => ?_)
          refine lv_iconst (v := 1) hx hb dX1_post_84 (by decide) ?_
          refine lv_iadd hx hb dX1_post_85 ?_
          refine tpi (fun v50 e50 => ?_)
          refine cS_call (n := 2) (as := [.int v48, .int v50]) (rest := [.int a, .ref g0]) ⟨hx, hb, hml, hown, hts⟩ (c_X1_wordOf l v48 v50) gX1_post_X1_wordOf rfl rfl rfl (by decide +kernel) ⟨Nat.le_of_ble_eq_true rfl, Nat.le_of_ble_eq_true rfl⟩ hl.1 rfl rfl (Nat.le_of_ble_eq_true rfl) dX1_post_86 ⟨Nat.zero_le _, Nat.zero_le _⟩ ?_
          refine tpl (fun v51 e51 => ?_)
          refine cM_this (Wd := RWd g0 g1 g2 g3 g4 g5 g6 cA cB) (ci := 1) (q0 := 0) (n := 2) (as := [.int a, .long v51]) (rest := []) ⟨hx, hb, hml, hown, hts⟩ (c_X1_putAll l D g0 g1 g2 g3 g4 g5 g6 cA cB s46 a v51 _ hL47.1 (by simp only [List.length_append, List.length_nil, List.length_cons, pl_look, pl_put] <;> decide)) gX1_post_X1_putAll rfl rfl rfl (by decide +kernel) ⟨Nat.le_of_ble_eq_true rfl, Nat.le_of_ble_eq_true rfl⟩ hK hP hD hS hA rfl rfl rfl hl.1 rfl rfl (Nat.le_of_ble_eq_true rfl) dX1_post_89 ⟨Nat.zero_le _, Nat.zero_le _⟩ (fun H locs hP hD hS => ?_)
          refine W.eq (g2 := F0 m 92 ls []) rfl ?_
          obtain ⟨s52, t52⟩ : ∃ y9 : RS, r_put a v51 s46 = y9 := ⟨_, rfl⟩
          replace hP : va_P D vwCl (RWd g0 g1 g2 g3 g4 g5 g6 cA cB s52) H := by rw [← t52]; exact hP
          replace hD : va_D A (RWd g0 g1 g2 g3 g4 g5 g6 cA cB s52) := by rw [← t52]; exact hD
          have hL53 : r_plan s52 ([] ++ [(0, r_place 0 a, 0)] ++ p_put a v51) := by clear hP hD hS; subst t44; subst t46; subst t52; exact plan_put a v51 hL47 (by simp only [List.length_append, List.length_nil, List.length_cons, pl_look, pl_put] <;> decide) hc
          refine lv_goto (tgt := 103) hx hb dX1_post_92 (by decide) ?_
          refine lv_aload_n hx hb dX1_post_103 rfl (lv_at hl 3 rfl) ?_
          obtain ⟨L54, f54⟩ : ∃ y9 : RPl, [] ++ [(0, r_place 0 a, 0)] ++ p_put a v51 = y9 := ⟨_, rfl⟩
          have hL54 : r_plan s52 L54 := by rw [← f54]; exact hL53
          refine cM_this (Wd := RWd g0 g1 g2 g3 g4 g5 g6 cA cB) (ci := 1) (q0 := 0) (n := 0) (as := []) (rest := []) ⟨hx, hb, hml, hown, hts⟩ (c_X1_works l D g0 g1 g2 g3 g4 g5 g6 cA cB s52 L54 hL54) gX1_post_X1_works rfl rfl rfl (by decide +kernel) ⟨Nat.le_of_ble_eq_true rfl, Nat.le_of_ble_eq_true rfl⟩ hK hP hD hS hA rfl rfl rfl hl.1 rfl rfl (Nat.le_of_ble_eq_true rfl) dX1_post_104 ⟨Nat.zero_le _, Nat.zero_le _⟩ (fun H locs hP hD hS => ?_)
          obtain ⟨s55, t55⟩ : ∃ y9 : RS, (r_wk (L54) s52).2 = y9 := ⟨_, rfl⟩
          replace hP : va_P D vwCl (RWd g0 g1 g2 g3 g4 g5 g6 cA cB s55) H := by rw [← t55]; exact hP
          replace hD : va_D A (RWd g0 g1 g2 g3 g4 g5 g6 cA cB s55) := by rw [← t55]; exact hD
          refine tpi (fun v56 e56 => ?_)
          refine lv_if_ne (tgt := 115) hx hb dX1_post_107 (by decide) (fun c57 => ?_) (fun c57 => ?_)
          · refine lv_iload hx hb dX1_post_115 (lv_at hl 0 rfl) ?_
            refine lv_if_eq (tgt := 124) hx hb dX1_post_117 (by decide) (fun c0 => absurd c0 (by decide)) (fun _ => ?_)
            refine lv_iconst (v := 1) hx hb dX1_post_120 (by decide) ?_
            refine lv_goto (tgt := 125) hx hb dX1_post_121 (by decide) ?_
            have fin : r_post a k st = (1, s55) := by
              clear hP hD hS; subst e1; subst e3; subst e4; subst e5; subst e6; subst e7; subst e8; subst e20; subst e32; subst t44; subst t46; subst e48; subst e49; subst e50; subst e51; subst t52; subst f54; subst t55; subst e56; simp only [r_post, r_postB, r_postAcc, r_end, r_zero, bI, c2, c9, c21, c33, c57, ↓reduceIte, not_true_eq_false, not_false_eq_true, and_self, and_true, true_and, and_false, false_and, eq_self, i10]
            exact cM_reti (Wd := RWd g0 g1 g2 g3 g4 g5 g6 cA cB) (st := s55) (st' := (r_post a k st).2) hx hb hr hlocks dX1_post_125 hS hP hD (congrArg Prod.fst fin).symm (congrArg Prod.snd fin).symm
          · refine lv_bipush (v := (-2)) hx hb dX1_post_110 (by decide) ?_
            refine lv_goto (tgt := 125) hx hb dX1_post_112 (by decide) ?_
            have fin : r_post a k st = ((-2), s55) := by
              clear hP hD hS; subst e1; subst e3; subst e4; subst e5; subst e6; subst e7; subst e8; subst e20; subst e32; subst t44; subst t46; subst e48; subst e49; subst e50; subst e51; subst t52; subst f54; subst t55; subst e56; simp only [r_post, r_postB, r_postAcc, r_end, r_zero, bI, c2, c9, c21, c33, c57, ↓reduceIte, not_true_eq_false, not_false_eq_true, and_self, and_true, true_and, and_false, false_and, eq_self, i10]
            exact cM_reti (Wd := RWd g0 g1 g2 g3 g4 g5 g6 cA cB) (st := s55) (st' := (r_post a k st).2) hx hb hr hlocks dX1_post_125 hS hP hD (congrArg Prod.fst fin).symm (congrArg Prod.snd fin).symm
  · refine lv_iconst (v := (-1)) hx hb dX1_post_7 (by decide) ?_
    have fin : r_post a k st = ((-1), st) := by
      clear hP hD hS; subst e1; simp only [r_post, r_postB, r_postAcc, r_end, r_zero, bI, c2, ↓reduceIte, not_true_eq_false, not_false_eq_true, and_self, and_true, true_and, and_false, false_and, eq_self, i10]
    exact cM_reti (Wd := RWd g0 g1 g2 g3 g4 g5 g6 cA cB) (st := st) (st' := (r_post a k st).2) hx hb hr hlocks dX1_post_8 hS hP hD (congrArg Prod.fst fin).symm (congrArg Prod.snd fin).symm
abbrev rmX1_number : Room := { frames := 2, cells := 0, slots := 0, locals := 46 }
-- number
set_option maxHeartbeats 400000 in
set_option maxRecDepth 100000 in
theorem c_X1_number (l : Launch) (D : va_G) (g0 g1 g2 g3 g4 g5 g6 : Nat) (cA cB : ClassId) (st : RS) (a : Int32)  : cM l D vwCl (FT cA cB) (RWd g0 g1 g2 g3 g4 g5 g6 cA cB) yX1_number wsX1_number rmX1_number [.ref g0, .int a] st (some (.int (r_number a st).1)) (r_number a st).2 := by
  refine cM_in (cc := cX1_number) (maxL := 4) (ret := (some .int)) (by decide) rfl (Nat.le_of_ble_eq_true rfl) ?_
  intro p e s m below meth c ls A hx hb hr hlocks hml hown hts hA hK hP hD hS hl
  have hown : s.vm.findClass RX1 = some m.cls := hown
  have hl : lv_has ls 4 [(0, .ref g0), (1, .int a)] := hl
  -- walk
  refine lv_iload_n hx hb dX1_number_0 rfl (lv_at hl 1 rfl) ?_
  refine cS_call (n := 1) (as := [.int a]) (rest := []) ⟨hx, hb, hml, hown, hts⟩ (c_X1_isAccount l a) gX1_number_X1_isAccount rfl rfl rfl (by decide +kernel) ⟨Nat.le_of_ble_eq_true rfl, Nat.le_of_ble_eq_true rfl⟩ hl.1 rfl rfl (Nat.le_of_ble_eq_true rfl) dX1_number_1 ⟨Nat.zero_le _, Nat.zero_le _⟩ ?_
  refine tpi (fun v1 e1 => ?_)
  refine lv_if_ne (tgt := 9) hx hb dX1_number_4 (by decide) (fun c2 => ?_) (fun c2 => ?_)
  · have hc : vp_in a 20 := acct_in20 (by rw [e1]; exact c2)
    refine lv_aload_n hx hb dX1_number_9 rfl (lv_at hl 0 rfl) ?_
    refine va_get (D := D) (ci := 1) (v := .ref g1) (C := RX1) (T := TX1) (N := 11) hx hb hts (by decide +kernel) hown hK hP 0 rfl rfl 0 (by decide) (hts (.fieldLink RX1 7 "FadeLedgerModel" "words" "[J") (by decide +kernel)) (fun _ h9 => h9) rfl dX1_number_10 ?_
    refine lv_iload_n hx hb dX1_number_13 rfl (lv_at hl 1 rfl) ?_
    refine va_lald hx hb hK hP 1 0 rfl rfl (in_up hc (by decide)) dX1_number_14 ?_
    refine tpl (fun v3 e3 => ?_)
    refine lv_lstore_n (lv' := [(2, .long v3), (0, .ref g0), (1, .int a)]) hx hb dX1_number_15 rfl hl (by decide) rfl (fun ls hl => ?_)
    refine lv_aload_n hx hb dX1_number_16 rfl (lv_at hl 1 rfl) ?_
    refine lv_iconst (v := 0) hx hb dX1_number_17 (by decide) ?_
    refine va_put (D := D) (ci := 1) (v := .int 0) (ty := .int) (C := RX1) (T := TX1) (N := 11) hx hb hts (by decide +kernel) tyX1 tyX1_ok nmX1 hown hK hP hD hS 0 rfl rfl 9 (by decide) (hts (.fieldLink RX1 63 "FadeLedgerModel" "turns" "I") (by decide +kernel)) (fun _ h9 => h9) rfl (by decide +kernel) rfl rfl (Nat.le_of_ble_eq_true rfl) dX1_number_18 (fun H locs hP hD hS => ?_)
    obtain ⟨s4, t4⟩ : ∃ y9 : RS, ((st.1, st.2.1, st.2.2.1, st.2.2.2.1, 0, st.2.2.2.2.2) : RS) = y9 := ⟨_, rfl⟩
    replace hP : va_P D vwCl (RWd g0 g1 g2 g3 g4 g5 g6 cA cB s4) H := by rw [← t4]; exact hP
    replace hD : va_D A (RWd g0 g1 g2 g3 g4 g5 g6 cA cB s4) := by rw [← t4]; exact hD
    have hL5 : r_plan s4 [] := by rw [← t4]; exact plan_zero _
    refine lv_aload_n hx hb dX1_number_21 rfl (lv_at hl 1 rfl) ?_
    refine lv_iload_n hx hb dX1_number_22 rfl (lv_at hl 2 rfl) ?_
    refine cM_this (Wd := RWd g0 g1 g2 g3 g4 g5 g6 cA cB) (ci := 1) (q0 := 0) (n := 1) (as := [.int a]) (rest := []) ⟨hx, hb, hml, hown, hts⟩ (c_X1_look l D g0 g1 g2 g3 g4 g5 g6 cA cB s4 a hc _ hL5.1 (by simp only [List.length_append, List.length_nil, List.length_cons, pl_look, pl_put] <;> decide)) gX1_number_X1_look rfl rfl rfl (by decide +kernel) ⟨Nat.le_of_ble_eq_true rfl, Nat.le_of_ble_eq_true rfl⟩ hK hP hD hS hA rfl rfl rfl hl.1 rfl rfl (Nat.le_of_ble_eq_true rfl) dX1_number_23 ⟨Nat.zero_le _, Nat.zero_le _⟩ (fun H locs hP hD hS => ?_)
    refine W.eq (g2 := F0 m 26 ls []) rfl ?_
    obtain ⟨s6, t6⟩ : ∃ y9 : RS, r_look a s4 = y9 := ⟨_, rfl⟩
    replace hP : va_P D vwCl (RWd g0 g1 g2 g3 g4 g5 g6 cA cB s6) H := by rw [← t6]; exact hP
    replace hD : va_D A (RWd g0 g1 g2 g3 g4 g5 g6 cA cB s6) := by rw [← t6]; exact hD
    have hL7 : r_plan s6 ([] ++ p_look a (st.1.1 a.toNatClampNeg)) := by clear hP hD hS; subst t4; subst t6; exact plan_look a hL5 (by simp only [List.length_append, List.length_nil, List.length_cons, pl_look, pl_put] <;> decide) hc
    refine lv_aload_n hx hb dX1_number_26 rfl (lv_at hl 1 rfl) ?_
    obtain ⟨L8, f8⟩ : ∃ y9 : RPl, [] ++ p_look a (st.1.1 a.toNatClampNeg) = y9 := ⟨_, rfl⟩
    have hL8 : r_plan s6 L8 := by rw [← f8]; exact hL7
    refine cM_this (Wd := RWd g0 g1 g2 g3 g4 g5 g6 cA cB) (ci := 1) (q0 := 0) (n := 0) (as := []) (rest := []) ⟨hx, hb, hml, hown, hts⟩ (c_X1_works l D g0 g1 g2 g3 g4 g5 g6 cA cB s6 L8 hL8) gX1_number_X1_works rfl rfl rfl (by decide +kernel) ⟨Nat.le_of_ble_eq_true rfl, Nat.le_of_ble_eq_true rfl⟩ hK hP hD hS hA rfl rfl rfl hl.1 rfl rfl (Nat.le_of_ble_eq_true rfl) dX1_number_27 ⟨Nat.zero_le _, Nat.zero_le _⟩ (fun H locs hP hD hS => ?_)
    obtain ⟨s9, t9⟩ : ∃ y9 : RS, (r_wk (L8) s6).2 = y9 := ⟨_, rfl⟩
    replace hP : va_P D vwCl (RWd g0 g1 g2 g3 g4 g5 g6 cA cB s9) H := by rw [← t9]; exact hP
    replace hD : va_D A (RWd g0 g1 g2 g3 g4 g5 g6 cA cB s9) := by rw [← t9]; exact hD
    refine tpi (fun v10 e10 => ?_)
    refine lv_if_ne (tgt := 38) hx hb dX1_number_30 (by decide) (fun c11 => ?_) (fun c11 => ?_)
    · refine lv_lload_n hx hb dX1_number_38 rfl (lv_at hl 0 rfl) ?_
      refine cS_call (n := 1) (as := [.long v3]) (rest := []) ⟨hx, hb, hml, hown, hts⟩ (c_X1_isValid l v3) gX1_number_X1_isValid rfl rfl rfl (by decide +kernel) ⟨Nat.le_of_ble_eq_true rfl, Nat.le_of_ble_eq_true rfl⟩ hl.1 rfl rfl (Nat.le_of_ble_eq_true rfl) dX1_number_39 ⟨Nat.zero_le _, Nat.zero_le _⟩ ?_
      refine tpi (fun v12 e12 => ?_)
      refine lv_if_eq (tgt := 52) hx hb dX1_number_42 (by decide) (fun c13 => ?_) (fun c13 => ?_)
      · refine lv_iconst (v := (-1)) hx hb dX1_number_52 (by decide) ?_
        have fin : r_number a st = ((-1), s9) := by
          clear hP hD hS; subst e1; subst e3; subst t4; subst t6; subst f8; subst t9; subst e10; subst e12; simp only [r_number, r_zero, c2, c11, c13, ↓reduceIte, not_true_eq_false, not_false_eq_true, and_self, and_true, true_and, and_false, false_and, eq_self, i10]
        exact cM_reti (Wd := RWd g0 g1 g2 g3 g4 g5 g6 cA cB) (st := s9) (st' := (r_number a st).2) hx hb hr hlocks dX1_number_53 hS hP hD (congrArg Prod.fst fin).symm (congrArg Prod.snd fin).symm
      · refine lv_lload_n hx hb dX1_number_45 rfl (lv_at hl 0 rfl) ?_
        refine cS_call (n := 1) (as := [.long v3]) (rest := []) ⟨hx, hb, hml, hown, hts⟩ (c_X1_numberOf l v3) gX1_number_X1_numberOf rfl rfl rfl (by decide +kernel) ⟨Nat.le_of_ble_eq_true rfl, Nat.le_of_ble_eq_true rfl⟩ hl.1 rfl rfl (Nat.le_of_ble_eq_true rfl) dX1_number_46 ⟨Nat.zero_le _, Nat.zero_le _⟩ ?_
        refine tpi (fun v14 e14 => ?_)
        refine lv_goto (tgt := 53) hx hb dX1_number_49 (by decide) ?_
        have fin : r_number a st = (v14, s9) := by
          clear hP hD hS; subst e1; subst e3; subst t4; subst t6; subst f8; subst t9; subst e10; subst e12; subst e14; simp only [r_number, r_zero, c2, c11, c13, ↓reduceIte, not_true_eq_false, not_false_eq_true, and_self, and_true, true_and, and_false, false_and, eq_self, i10]
        exact cM_reti (Wd := RWd g0 g1 g2 g3 g4 g5 g6 cA cB) (st := s9) (st' := (r_number a st).2) hx hb hr hlocks dX1_number_53 hS hP hD (congrArg Prod.fst fin).symm (congrArg Prod.snd fin).symm
    · refine lv_bipush (v := (-2)) hx hb dX1_number_33 (by decide) ?_
      refine lv_goto (tgt := 53) hx hb dX1_number_35 (by decide) ?_
      have fin : r_number a st = ((-2), s9) := by
        clear hP hD hS; subst e1; subst e3; subst t4; subst t6; subst f8; subst t9; subst e10; simp only [r_number, r_zero, c2, c11, ↓reduceIte, not_true_eq_false, not_false_eq_true, and_self, and_true, true_and, and_false, false_and, eq_self, i10]
      exact cM_reti (Wd := RWd g0 g1 g2 g3 g4 g5 g6 cA cB) (st := s9) (st' := (r_number a st).2) hx hb hr hlocks dX1_number_53 hS hP hD (congrArg Prod.fst fin).symm (congrArg Prod.snd fin).symm
  · refine lv_iconst (v := (-1)) hx hb dX1_number_7 (by decide) ?_
    have fin : r_number a st = ((-1), st) := by
      clear hP hD hS; subst e1; simp only [r_number, r_zero, c2, ↓reduceIte, not_true_eq_false, not_false_eq_true, and_self, and_true, true_and, and_false, false_and, eq_self, i10]
    exact cM_reti (Wd := RWd g0 g1 g2 g3 g4 g5 g6 cA cB) (st := st) (st' := (r_number a st).2) hx hb hr hlocks dX1_number_8 hS hP hD (congrArg Prod.fst fin).symm (congrArg Prod.snd fin).symm
abbrev rmX1_transfer : Room := { frames := 4, cells := 0, slots := 0, locals := 89 }
-- transfer
set_option maxHeartbeats 400000 in
set_option maxRecDepth 100000 in
theorem c_X1_transfer (l : Launch) (D : va_G) (g0 g1 g2 g3 g4 g5 g6 : Nat) (cA cB : ClassId) (st : RS) (f : Int32) (t : Int32) (a : Int32)  : cM l D vwCl (FT cA cB) (RWd g0 g1 g2 g3 g4 g5 g6 cA cB) yX1_transfer wsX1_transfer rmX1_transfer [.ref g0, .int f, .int t, .int a] st (some (.int (r_transfer f t a st).1)) (r_transfer f t a st).2 := by
  refine cM_in (cc := cX1_transfer) (maxL := 17) (ret := (some .int)) (by decide) rfl (Nat.le_of_ble_eq_true rfl) ?_
  intro p e s m below meth c ls A hx hb hr hlocks hml hown hts hA hK hP hD hS hl
  have hown : s.vm.findClass RX1 = some m.cls := hown
  have hl : lv_has ls 17 [(0, .ref g0), (1, .int f), (2, .int t), (3, .int a)] := hl
  -- walk
  refine lv_iload_n hx hb dX1_transfer_0 rfl (lv_at hl 1 rfl) ?_
  refine cS_call (n := 1) (as := [.int f]) (rest := []) ⟨hx, hb, hml, hown, hts⟩ (c_X1_isAccount l f) gX1_transfer_X1_isAccount rfl rfl rfl (by decide +kernel) ⟨Nat.le_of_ble_eq_true rfl, Nat.le_of_ble_eq_true rfl⟩ hl.1 rfl rfl (Nat.le_of_ble_eq_true rfl) dX1_transfer_1 ⟨Nat.zero_le _, Nat.zero_le _⟩ ?_
  refine tpi (fun v1 e1 => ?_)
  refine lv_if_eq (tgt := 23) hx hb dX1_transfer_4 (by decide) (fun c2 => ?_) (fun c2 => ?_)
  · refine lv_iconst (v := (-1)) hx hb dX1_transfer_23 (by decide) ?_
    have fin : r_transfer f t a st = ((-1), st) := by
      clear hP hD hS; subst e1; simp only [r_transfer, r_trB, r_trAcc, r_trL, r_trS, r_doL, r_doS, r_end, r_zero, bI, c2, ↓reduceIte, not_true_eq_false, not_false_eq_true, and_self, and_true, true_and, and_false, false_and, eq_self, i10]
    exact cM_reti (Wd := RWd g0 g1 g2 g3 g4 g5 g6 cA cB) (st := st) (st' := (r_transfer f t a st).2) hx hb hr hlocks dX1_transfer_24 hS hP hD (congrArg Prod.fst fin).symm (congrArg Prod.snd fin).symm
  · refine lv_iload_n hx hb dX1_transfer_7 rfl (lv_at hl 2 rfl) ?_
    refine cS_call (n := 1) (as := [.int t]) (rest := []) ⟨hx, hb, hml, hown, hts⟩ (c_X1_isAccount l t) gX1_transfer_X1_isAccount rfl rfl rfl (by decide +kernel) ⟨Nat.le_of_ble_eq_true rfl, Nat.le_of_ble_eq_true rfl⟩ hl.1 rfl rfl (Nat.le_of_ble_eq_true rfl) dX1_transfer_8 ⟨Nat.zero_le _, Nat.zero_le _⟩ ?_
    refine tpi (fun v3 e3 => ?_)
    refine lv_if_eq (tgt := 23) hx hb dX1_transfer_11 (by decide) (fun c4 => ?_) (fun c4 => ?_)
    · refine lv_iconst (v := (-1)) hx hb dX1_transfer_23 (by decide) ?_
      have fin : r_transfer f t a st = ((-1), st) := by
        clear hP hD hS; subst e1; subst e3; simp only [r_transfer, r_trB, r_trAcc, r_trL, r_trS, r_doL, r_doS, r_end, r_zero, bI, c2, c4, ↓reduceIte, not_true_eq_false, not_false_eq_true, and_self, and_true, true_and, and_false, false_and, eq_self, i10]
      exact cM_reti (Wd := RWd g0 g1 g2 g3 g4 g5 g6 cA cB) (st := st) (st' := (r_transfer f t a st).2) hx hb hr hlocks dX1_transfer_24 hS hP hD (congrArg Prod.fst fin).symm (congrArg Prod.snd fin).symm
    · refine lv_iload_n hx hb dX1_transfer_14 rfl (lv_at hl 1 rfl) ?_
      refine lv_iload_n hx hb dX1_transfer_15 rfl (lv_at hl 2 rfl) ?_
      refine lv_icmp_eq (tgt := 23) hx hb dX1_transfer_16 (by decide) (fun c5 => ?_) (fun c5 => ?_)
      · refine lv_iconst (v := (-1)) hx hb dX1_transfer_23 (by decide) ?_
        have fin : r_transfer f t a st = ((-1), st) := by
          clear hP hD hS; subst e1; subst e3; simp only [r_transfer, r_trB, r_trAcc, r_trL, r_trS, r_doL, r_doS, r_end, r_zero, bI, c2, c4, c5, ↓reduceIte, not_true_eq_false, not_false_eq_true, and_self, and_true, true_and, and_false, false_and, eq_self, i10]
        exact cM_reti (Wd := RWd g0 g1 g2 g3 g4 g5 g6 cA cB) (st := st) (st' := (r_transfer f t a st).2) hx hb hr hlocks dX1_transfer_24 hS hP hD (congrArg Prod.fst fin).symm (congrArg Prod.snd fin).symm
      · refine lv_iload_n hx hb dX1_transfer_19 rfl (lv_at hl 3 rfl) ?_
        refine lv_if_ge (tgt := 25) hx hb dX1_transfer_20 (by decide) (fun c6 => ?_) (fun c6 => ?_)
        · have hf : vp_in f 20 := acct_in20 (by rw [e1]; exact c2)
          have ht : vp_in t 20 := acct_in20 (by rw [e3]; exact c4)
          refine lv_aload_n hx hb dX1_transfer_25 rfl (lv_at hl 0 rfl) ?_
          refine va_get (D := D) (ci := 1) (v := .ref g1) (C := RX1) (T := TX1) (N := 11) hx hb hts (by decide +kernel) hown hK hP 0 rfl rfl 0 (by decide) (hts (.fieldLink RX1 7 "FadeLedgerModel" "words" "[J") (by decide +kernel)) (fun _ h9 => h9) rfl dX1_transfer_26 ?_
          refine lv_iload_n hx hb dX1_transfer_29 rfl (lv_at hl 1 rfl) ?_
          refine va_lald hx hb hK hP 1 0 rfl rfl (in_up hf (by decide)) dX1_transfer_30 ?_
          refine tpl (fun v7 e7 => ?_)
          refine lv_lstore (lv' := [(4, .long v7), (0, .ref g0), (1, .int f), (2, .int t), (3, .int a)]) hx hb dX1_transfer_31 hl (by decide) rfl (fun ls hl => ?_)
          refine lv_aload_n hx hb dX1_transfer_33 rfl (lv_at hl 1 rfl) ?_
          refine va_get (D := D) (ci := 1) (v := .ref g1) (C := RX1) (T := TX1) (N := 11) hx hb hts (by decide +kernel) hown hK hP 0 rfl rfl 0 (by decide) (hts (.fieldLink RX1 7 "FadeLedgerModel" "words" "[J") (by decide +kernel)) (fun _ h9 => h9) rfl dX1_transfer_34 ?_
          refine lv_iload_n hx hb dX1_transfer_37 rfl (lv_at hl 3 rfl) ?_
          refine va_lald hx hb hK hP 1 0 rfl rfl (in_up ht (by decide)) dX1_transfer_38 ?_
          refine tpl (fun v8 e8 => ?_)
          refine lv_lstore (lv' := [(6, .long v8), (4, .long v7), (0, .ref g0), (1, .int f), (2, .int t), (3, .int a)]) hx hb dX1_transfer_39 hl (by decide) rfl (fun ls hl => ?_)
          refine lv_aload_n hx hb dX1_transfer_41 rfl (lv_at hl 2 rfl) ?_
          refine va_get (D := D) (ci := 1) (v := .ref g1) (C := RX1) (T := TX1) (N := 11) hx hb hts (by decide +kernel) hown hK hP 0 rfl rfl 0 (by decide) (hts (.fieldLink RX1 7 "FadeLedgerModel" "words" "[J") (by decide +kernel)) (fun _ h9 => h9) rfl dX1_transfer_42 ?_
          refine lv_bipush (v := 16) hx hb dX1_transfer_45 (by decide) ?_
          refine va_lald hx hb hK hP 1 0 rfl rfl (in_up in20_16 (by decide)) dX1_transfer_47 ?_
          refine tpl (fun v9 e9 => ?_)
          refine lv_lstore (lv' := [(8, .long v9), (6, .long v8), (4, .long v7), (0, .ref g0), (1, .int f), (2, .int t), (3, .int a)]) hx hb dX1_transfer_48 hl (by decide) rfl (fun ls hl => ?_)
          refine lv_lload hx hb dX1_transfer_50 (lv_at hl 2 rfl) ?_
          refine cS_call (n := 1) (as := [.long v7]) (rest := []) ⟨hx, hb, hml, hown, hts⟩ (c_X1_balanceOf l v7) gX1_transfer_X1_balanceOf rfl rfl rfl (by decide +kernel) ⟨Nat.le_of_ble_eq_true rfl, Nat.le_of_ble_eq_true rfl⟩ hl.1 rfl rfl (Nat.le_of_ble_eq_true rfl) dX1_transfer_52 ⟨Nat.zero_le _, Nat.zero_le _⟩ ?_
          refine tpi (fun v10 e10 => ?_)
          refine lv_i2l hx hb dX1_transfer_55 rfl ?_
          refine tpl (fun v11 e11 => ?_)
          refine lv_iload_n hx hb dX1_transfer_56 rfl (lv_at hl 6 rfl) ?_
          refine lv_i2l hx hb dX1_transfer_57 rfl ?_
          refine tpl (fun v12 e12 => ?_)
          refine lv_lsub hx hb dX1_transfer_58 ?_
          refine tpl (fun v13 e13 => ?_)
          refine lv_lstore (lv' := [(10, .long v13), (8, .long v9), (6, .long v8), (4, .long v7), (0, .ref g0), (1, .int f), (2, .int t), (3, .int a)]) hx hb dX1_transfer_59 hl (by decide) rfl (fun ls hl => ?_)
          refine lv_lload hx hb dX1_transfer_61 (lv_at hl 2 rfl) ?_
          refine cS_call (n := 1) (as := [.long v8]) (rest := []) ⟨hx, hb, hml, hown, hts⟩ (c_X1_balanceOf l v8) gX1_transfer_X1_balanceOf rfl rfl rfl (by decide +kernel) ⟨Nat.le_of_ble_eq_true rfl, Nat.le_of_ble_eq_true rfl⟩ hl.1 rfl rfl (Nat.le_of_ble_eq_true rfl) dX1_transfer_63 ⟨Nat.zero_le _, Nat.zero_le _⟩ ?_
          refine tpi (fun v14 e14 => ?_)
          refine lv_i2l hx hb dX1_transfer_66 rfl ?_
          refine tpl (fun v15 e15 => ?_)
          refine lv_iload_n hx hb dX1_transfer_67 rfl (lv_at hl 7 rfl) ?_
          refine lv_i2l hx hb dX1_transfer_68 rfl ?_
          refine tpl (fun v16 e16 => ?_)
          refine lv_ladd hx hb dX1_transfer_69 ?_
          refine tpl (fun v17 e17 => ?_)
          refine lv_lstore (lv' := [(12, .long v17), (10, .long v13), (8, .long v9), (6, .long v8), (4, .long v7), (0, .ref g0), (1, .int f), (2, .int t), (3, .int a)]) hx hb dX1_transfer_70 hl (by decide) rfl (fun ls hl => ?_)
          refine lv_lload hx hb dX1_transfer_72 (lv_at hl 4 rfl) ?_
          refine lv_lload hx hb dX1_transfer_74 (lv_at hl 1 rfl) ?_
          refine cS_call (n := 2) (as := [.long v7, .long v13]) (rest := []) ⟨hx, hb, hml, hown, hts⟩ (c_X1_canBe l v7 v13) gX1_transfer_X1_canBe rfl rfl rfl (by decide +kernel) ⟨Nat.le_of_ble_eq_true rfl, Nat.le_of_ble_eq_true rfl⟩ hl.1 rfl rfl (Nat.le_of_ble_eq_true rfl) dX1_transfer_76 ⟨Nat.zero_le _, Nat.zero_le _⟩ ?_
          refine tpi (fun v18 e18 => ?_)
          refine lv_if_eq (tgt := 114) hx hb dX1_transfer_79 (by decide) (fun c19 => ?_) (fun c19 => ?_)
          · refine lv_iconst (v := 0) hx hb dX1_transfer_114 (by decide) ?_
            refine lv_istore (lv' := [(14, .int 0), (12, .long v17), (10, .long v13), (8, .long v9), (6, .long v8), (4, .long v7), (0, .ref g0), (1, .int f), (2, .int t), (3, .int a)]) hx hb dX1_transfer_115 hl (by decide) rfl (fun ls hl => ?_)
            refine lv_aload_n hx hb dX1_transfer_117 rfl (lv_at hl 6 rfl) ?_
            refine lv_iconst (v := 0) hx hb dX1_transfer_118 (by decide) ?_
            refine va_put (D := D) (ci := 1) (v := .int 0) (ty := .int) (C := RX1) (T := TX1) (N := 11) hx hb hts (by decide +kernel) tyX1 tyX1_ok nmX1 hown hK hP hD hS 0 rfl rfl 9 (by decide) (hts (.fieldLink RX1 63 "FadeLedgerModel" "turns" "I") (by decide +kernel)) (fun _ h9 => h9) rfl (by decide +kernel) rfl rfl (Nat.le_of_ble_eq_true rfl) dX1_transfer_119 (fun H locs hP hD hS => ?_)
            obtain ⟨s20, t20⟩ : ∃ y9 : RS, ((st.1, st.2.1, st.2.2.1, st.2.2.2.1, 0, st.2.2.2.2.2) : RS) = y9 := ⟨_, rfl⟩
            replace hP : va_P D vwCl (RWd g0 g1 g2 g3 g4 g5 g6 cA cB s20) H := by rw [← t20]; exact hP
            replace hD : va_D A (RWd g0 g1 g2 g3 g4 g5 g6 cA cB s20) := by rw [← t20]; exact hD
            have hL21 : r_plan s20 [] := by rw [← t20]; exact plan_zero _
            refine lv_aload_n hx hb dX1_transfer_122 rfl (lv_at hl 6 rfl) ?_
            refine lv_iload_n hx hb dX1_transfer_123 rfl (lv_at hl 7 rfl) ?_
            refine cM_this (Wd := RWd g0 g1 g2 g3 g4 g5 g6 cA cB) (ci := 1) (q0 := 0) (n := 1) (as := [.int f]) (rest := []) ⟨hx, hb, hml, hown, hts⟩ (c_X1_look l D g0 g1 g2 g3 g4 g5 g6 cA cB s20 f hf _ hL21.1 (by simp only [List.length_append, List.length_nil, List.length_cons, pl_look, pl_put] <;> decide)) gX1_transfer_X1_look rfl rfl rfl (by decide +kernel) ⟨Nat.le_of_ble_eq_true rfl, Nat.le_of_ble_eq_true rfl⟩ hK hP hD hS hA rfl rfl rfl hl.1 rfl rfl (Nat.le_of_ble_eq_true rfl) dX1_transfer_124 ⟨Nat.zero_le _, Nat.zero_le _⟩ (fun H locs hP hD hS => ?_)
            refine W.eq (g2 := F0 m 127 ls []) rfl ?_
            obtain ⟨s22, t22⟩ : ∃ y9 : RS, r_look f s20 = y9 := ⟨_, rfl⟩
            replace hP : va_P D vwCl (RWd g0 g1 g2 g3 g4 g5 g6 cA cB s22) H := by rw [← t22]; exact hP
            replace hD : va_D A (RWd g0 g1 g2 g3 g4 g5 g6 cA cB s22) := by rw [← t22]; exact hD
            have hL23 : r_plan s22 ([] ++ p_look f (st.1.1 f.toNatClampNeg)) := by clear hP hD hS; subst t20; subst t22; exact plan_look f hL21 (by simp only [List.length_append, List.length_nil, List.length_cons, pl_look, pl_put] <;> decide) hf
            refine lv_aload_n hx hb dX1_transfer_127 rfl (lv_at hl 6 rfl) ?_
            refine lv_iload_n hx hb dX1_transfer_128 rfl (lv_at hl 8 rfl) ?_
            refine cM_this (Wd := RWd g0 g1 g2 g3 g4 g5 g6 cA cB) (ci := 1) (q0 := 0) (n := 1) (as := [.int t]) (rest := []) ⟨hx, hb, hml, hown, hts⟩ (c_X1_look l D g0 g1 g2 g3 g4 g5 g6 cA cB s22 t ht _ hL23.1 (by simp only [List.length_append, List.length_nil, List.length_cons, pl_look, pl_put] <;> decide)) gX1_transfer_X1_look rfl rfl rfl (by decide +kernel) ⟨Nat.le_of_ble_eq_true rfl, Nat.le_of_ble_eq_true rfl⟩ hK hP hD hS hA rfl rfl rfl hl.1 rfl rfl (Nat.le_of_ble_eq_true rfl) dX1_transfer_129 ⟨Nat.zero_le _, Nat.zero_le _⟩ (fun H locs hP hD hS => ?_)
            refine W.eq (g2 := F0 m 132 ls []) rfl ?_
            obtain ⟨s24, t24⟩ : ∃ y9 : RS, r_look t s22 = y9 := ⟨_, rfl⟩
            replace hP : va_P D vwCl (RWd g0 g1 g2 g3 g4 g5 g6 cA cB s24) H := by rw [← t24]; exact hP
            replace hD : va_D A (RWd g0 g1 g2 g3 g4 g5 g6 cA cB s24) := by rw [← t24]; exact hD
            have hL25 : r_plan s24 ([] ++ p_look f (st.1.1 f.toNatClampNeg) ++ p_look t (st.1.1 t.toNatClampNeg)) := by clear hP hD hS; subst t20; subst t22; subst t24; exact plan_look t hL23 (by simp only [List.length_append, List.length_nil, List.length_cons, pl_look, pl_put] <;> decide) ht
            refine lv_aload_n hx hb dX1_transfer_132 rfl (lv_at hl 6 rfl) ?_
            refine lv_bipush (v := 16) hx hb dX1_transfer_133 (by decide) ?_
            refine cM_this (Wd := RWd g0 g1 g2 g3 g4 g5 g6 cA cB) (ci := 1) (q0 := 0) (n := 1) (as := [.int 16]) (rest := []) ⟨hx, hb, hml, hown, hts⟩ (c_X1_look l D g0 g1 g2 g3 g4 g5 g6 cA cB s24 16 in20_16 _ hL25.1 (by simp only [List.length_append, List.length_nil, List.length_cons, pl_look, pl_put] <;> decide)) gX1_transfer_X1_look rfl rfl rfl (by decide +kernel) ⟨Nat.le_of_ble_eq_true rfl, Nat.le_of_ble_eq_true rfl⟩ hK hP hD hS hA rfl rfl rfl hl.1 rfl rfl (Nat.le_of_ble_eq_true rfl) dX1_transfer_135 ⟨Nat.zero_le _, Nat.zero_le _⟩ (fun H locs hP hD hS => ?_)
            refine W.eq (g2 := F0 m 138 ls []) rfl ?_
            obtain ⟨s26, t26⟩ : ∃ y9 : RS, r_look 16 s24 = y9 := ⟨_, rfl⟩
            replace hP : va_P D vwCl (RWd g0 g1 g2 g3 g4 g5 g6 cA cB s26) H := by rw [← t26]; exact hP
            replace hD : va_D A (RWd g0 g1 g2 g3 g4 g5 g6 cA cB s26) := by rw [← t26]; exact hD
            have hL27 : r_plan s26 ([] ++ p_look f (st.1.1 f.toNatClampNeg) ++ p_look t (st.1.1 t.toNatClampNeg) ++ p_look 16 (st.1.1 (16 : Int32).toNatClampNeg)) := by clear hP hD hS; subst t20; subst t22; subst t24; subst t26; exact plan_look 16 hL25 (by simp only [List.length_append, List.length_nil, List.length_cons, pl_look, pl_put] <;> decide) in20_16
            refine lv_iload hx hb dX1_transfer_138 (lv_at hl 0 rfl) ?_
            refine lv_if_eq (tgt := 277) hx hb dX1_transfer_140 (by decide) (fun _ => ?_) (fun c0 => absurd c0 (by decide))
            refine lv_aload_n hx hb dX1_transfer_277 rfl (lv_at hl 6 rfl) ?_
            obtain ⟨L28, f28⟩ : ∃ y9 : RPl, [] ++ p_look f (st.1.1 f.toNatClampNeg) ++ p_look t (st.1.1 t.toNatClampNeg) ++ p_look 16 (st.1.1 (16 : Int32).toNatClampNeg) = y9 := ⟨_, rfl⟩
            have hL28 : r_plan s26 L28 := by rw [← f28]; exact hL27
            refine cM_this (Wd := RWd g0 g1 g2 g3 g4 g5 g6 cA cB) (ci := 1) (q0 := 0) (n := 0) (as := []) (rest := []) ⟨hx, hb, hml, hown, hts⟩ (c_X1_works l D g0 g1 g2 g3 g4 g5 g6 cA cB s26 L28 hL28) gX1_transfer_X1_works rfl rfl rfl (by decide +kernel) ⟨Nat.le_of_ble_eq_true rfl, Nat.le_of_ble_eq_true rfl⟩ hK hP hD hS hA rfl rfl rfl hl.1 rfl rfl (Nat.le_of_ble_eq_true rfl) dX1_transfer_278 ⟨Nat.zero_le _, Nat.zero_le _⟩ (fun H locs hP hD hS => ?_)
            obtain ⟨s29, t29⟩ : ∃ y9 : RS, (r_wk (L28) s26).2 = y9 := ⟨_, rfl⟩
            replace hP : va_P D vwCl (RWd g0 g1 g2 g3 g4 g5 g6 cA cB s29) H := by rw [← t29]; exact hP
            replace hD : va_D A (RWd g0 g1 g2 g3 g4 g5 g6 cA cB s29) := by rw [← t29]; exact hD
            refine tpi (fun v30 e30 => ?_)
            refine lv_if_ne (tgt := 289) hx hb dX1_transfer_281 (by decide) (fun c31 => ?_) (fun c31 => ?_)
            · refine lv_iload hx hb dX1_transfer_289 (lv_at hl 0 rfl) ?_
              refine lv_if_eq (tgt := 298) hx hb dX1_transfer_291 (by decide) (fun _ => ?_) (fun c0 => absurd c0 (by decide))
              refine lv_iconst (v := (-1)) hx hb dX1_transfer_298 (by decide) ?_
              have fin : r_transfer f t a st = ((-1), s29) := by
                clear hP hD hS; subst e1; subst e3; subst e7; subst e8; subst e9; subst e10; subst e11; subst e12; subst e13; subst e14; subst e15; subst e16; subst e17; subst e18; subst t20; subst t22; subst t24; subst t26; subst f28; subst t29; subst e30; simp only [r_transfer, r_trB, r_trAcc, r_trL, r_trS, r_doL, r_doS, r_end, r_zero, bI, c2, c4, c5, c6, c19, c31, ↓reduceIte, not_true_eq_false, not_false_eq_true, and_self, and_true, true_and, and_false, false_and, eq_self, i10]
              exact cM_reti (Wd := RWd g0 g1 g2 g3 g4 g5 g6 cA cB) (st := s29) (st' := (r_transfer f t a st).2) hx hb hr hlocks dX1_transfer_299 hS hP hD (congrArg Prod.fst fin).symm (congrArg Prod.snd fin).symm
            · refine lv_bipush (v := (-2)) hx hb dX1_transfer_284 (by decide) ?_
              refine lv_goto (tgt := 299) hx hb dX1_transfer_286 (by decide) ?_
              have fin : r_transfer f t a st = ((-2), s29) := by
                clear hP hD hS; subst e1; subst e3; subst e7; subst e8; subst e9; subst e10; subst e11; subst e12; subst e13; subst e14; subst e15; subst e16; subst e17; subst e18; subst t20; subst t22; subst t24; subst t26; subst f28; subst t29; subst e30; simp only [r_transfer, r_trB, r_trAcc, r_trL, r_trS, r_doL, r_doS, r_end, r_zero, bI, c2, c4, c5, c6, c19, c31, ↓reduceIte, not_true_eq_false, not_false_eq_true, and_self, and_true, true_and, and_false, false_and, eq_self, i10]
              exact cM_reti (Wd := RWd g0 g1 g2 g3 g4 g5 g6 cA cB) (st := s29) (st' := (r_transfer f t a st).2) hx hb hr hlocks dX1_transfer_299 hS hP hD (congrArg Prod.fst fin).symm (congrArg Prod.snd fin).symm
          · refine lv_lload hx hb dX1_transfer_82 (lv_at hl 3 rfl) ?_
            refine lv_lload hx hb dX1_transfer_84 (lv_at hl 0 rfl) ?_
            refine cS_call (n := 2) (as := [.long v8, .long v17]) (rest := []) ⟨hx, hb, hml, hown, hts⟩ (c_X1_canBe l v8 v17) gX1_transfer_X1_canBe rfl rfl rfl (by decide +kernel) ⟨Nat.le_of_ble_eq_true rfl, Nat.le_of_ble_eq_true rfl⟩ hl.1 rfl rfl (Nat.le_of_ble_eq_true rfl) dX1_transfer_86 ⟨Nat.zero_le _, Nat.zero_le _⟩ ?_
            refine tpi (fun v32 e32 => ?_)
            refine lv_if_eq (tgt := 114) hx hb dX1_transfer_89 (by decide) (fun c33 => ?_) (fun c33 => ?_)
            · refine lv_iconst (v := 0) hx hb dX1_transfer_114 (by decide) ?_
              refine lv_istore (lv' := [(14, .int 0), (12, .long v17), (10, .long v13), (8, .long v9), (6, .long v8), (4, .long v7), (0, .ref g0), (1, .int f), (2, .int t), (3, .int a)]) hx hb dX1_transfer_115 hl (by decide) rfl (fun ls hl => ?_)
              refine lv_aload_n hx hb dX1_transfer_117 rfl (lv_at hl 6 rfl) ?_
              refine lv_iconst (v := 0) hx hb dX1_transfer_118 (by decide) ?_
              refine va_put (D := D) (ci := 1) (v := .int 0) (ty := .int) (C := RX1) (T := TX1) (N := 11) hx hb hts (by decide +kernel) tyX1 tyX1_ok nmX1 hown hK hP hD hS 0 rfl rfl 9 (by decide) (hts (.fieldLink RX1 63 "FadeLedgerModel" "turns" "I") (by decide +kernel)) (fun _ h9 => h9) rfl (by decide +kernel) rfl rfl (Nat.le_of_ble_eq_true rfl) dX1_transfer_119 (fun H locs hP hD hS => ?_)
              obtain ⟨s34, t34⟩ : ∃ y9 : RS, ((st.1, st.2.1, st.2.2.1, st.2.2.2.1, 0, st.2.2.2.2.2) : RS) = y9 := ⟨_, rfl⟩
              replace hP : va_P D vwCl (RWd g0 g1 g2 g3 g4 g5 g6 cA cB s34) H := by rw [← t34]; exact hP
              replace hD : va_D A (RWd g0 g1 g2 g3 g4 g5 g6 cA cB s34) := by rw [← t34]; exact hD
              have hL35 : r_plan s34 [] := by rw [← t34]; exact plan_zero _
              refine lv_aload_n hx hb dX1_transfer_122 rfl (lv_at hl 6 rfl) ?_
              refine lv_iload_n hx hb dX1_transfer_123 rfl (lv_at hl 7 rfl) ?_
              refine cM_this (Wd := RWd g0 g1 g2 g3 g4 g5 g6 cA cB) (ci := 1) (q0 := 0) (n := 1) (as := [.int f]) (rest := []) ⟨hx, hb, hml, hown, hts⟩ (c_X1_look l D g0 g1 g2 g3 g4 g5 g6 cA cB s34 f hf _ hL35.1 (by simp only [List.length_append, List.length_nil, List.length_cons, pl_look, pl_put] <;> decide)) gX1_transfer_X1_look rfl rfl rfl (by decide +kernel) ⟨Nat.le_of_ble_eq_true rfl, Nat.le_of_ble_eq_true rfl⟩ hK hP hD hS hA rfl rfl rfl hl.1 rfl rfl (Nat.le_of_ble_eq_true rfl) dX1_transfer_124 ⟨Nat.zero_le _, Nat.zero_le _⟩ (fun H locs hP hD hS => ?_)
              refine W.eq (g2 := F0 m 127 ls []) rfl ?_
              obtain ⟨s36, t36⟩ : ∃ y9 : RS, r_look f s34 = y9 := ⟨_, rfl⟩
              replace hP : va_P D vwCl (RWd g0 g1 g2 g3 g4 g5 g6 cA cB s36) H := by rw [← t36]; exact hP
              replace hD : va_D A (RWd g0 g1 g2 g3 g4 g5 g6 cA cB s36) := by rw [← t36]; exact hD
              have hL37 : r_plan s36 ([] ++ p_look f (st.1.1 f.toNatClampNeg)) := by clear hP hD hS; subst t34; subst t36; exact plan_look f hL35 (by simp only [List.length_append, List.length_nil, List.length_cons, pl_look, pl_put] <;> decide) hf
              refine lv_aload_n hx hb dX1_transfer_127 rfl (lv_at hl 6 rfl) ?_
              refine lv_iload_n hx hb dX1_transfer_128 rfl (lv_at hl 8 rfl) ?_
              refine cM_this (Wd := RWd g0 g1 g2 g3 g4 g5 g6 cA cB) (ci := 1) (q0 := 0) (n := 1) (as := [.int t]) (rest := []) ⟨hx, hb, hml, hown, hts⟩ (c_X1_look l D g0 g1 g2 g3 g4 g5 g6 cA cB s36 t ht _ hL37.1 (by simp only [List.length_append, List.length_nil, List.length_cons, pl_look, pl_put] <;> decide)) gX1_transfer_X1_look rfl rfl rfl (by decide +kernel) ⟨Nat.le_of_ble_eq_true rfl, Nat.le_of_ble_eq_true rfl⟩ hK hP hD hS hA rfl rfl rfl hl.1 rfl rfl (Nat.le_of_ble_eq_true rfl) dX1_transfer_129 ⟨Nat.zero_le _, Nat.zero_le _⟩ (fun H locs hP hD hS => ?_)
              refine W.eq (g2 := F0 m 132 ls []) rfl ?_
              obtain ⟨s38, t38⟩ : ∃ y9 : RS, r_look t s36 = y9 := ⟨_, rfl⟩
              replace hP : va_P D vwCl (RWd g0 g1 g2 g3 g4 g5 g6 cA cB s38) H := by rw [← t38]; exact hP
              replace hD : va_D A (RWd g0 g1 g2 g3 g4 g5 g6 cA cB s38) := by rw [← t38]; exact hD
              have hL39 : r_plan s38 ([] ++ p_look f (st.1.1 f.toNatClampNeg) ++ p_look t (st.1.1 t.toNatClampNeg)) := by clear hP hD hS; subst t34; subst t36; subst t38; exact plan_look t hL37 (by simp only [List.length_append, List.length_nil, List.length_cons, pl_look, pl_put] <;> decide) ht
              refine lv_aload_n hx hb dX1_transfer_132 rfl (lv_at hl 6 rfl) ?_
              refine lv_bipush (v := 16) hx hb dX1_transfer_133 (by decide) ?_
              refine cM_this (Wd := RWd g0 g1 g2 g3 g4 g5 g6 cA cB) (ci := 1) (q0 := 0) (n := 1) (as := [.int 16]) (rest := []) ⟨hx, hb, hml, hown, hts⟩ (c_X1_look l D g0 g1 g2 g3 g4 g5 g6 cA cB s38 16 in20_16 _ hL39.1 (by simp only [List.length_append, List.length_nil, List.length_cons, pl_look, pl_put] <;> decide)) gX1_transfer_X1_look rfl rfl rfl (by decide +kernel) ⟨Nat.le_of_ble_eq_true rfl, Nat.le_of_ble_eq_true rfl⟩ hK hP hD hS hA rfl rfl rfl hl.1 rfl rfl (Nat.le_of_ble_eq_true rfl) dX1_transfer_135 ⟨Nat.zero_le _, Nat.zero_le _⟩ (fun H locs hP hD hS => ?_)
              refine W.eq (g2 := F0 m 138 ls []) rfl ?_
              obtain ⟨s40, t40⟩ : ∃ y9 : RS, r_look 16 s38 = y9 := ⟨_, rfl⟩
              replace hP : va_P D vwCl (RWd g0 g1 g2 g3 g4 g5 g6 cA cB s40) H := by rw [← t40]; exact hP
              replace hD : va_D A (RWd g0 g1 g2 g3 g4 g5 g6 cA cB s40) := by rw [← t40]; exact hD
              have hL41 : r_plan s40 ([] ++ p_look f (st.1.1 f.toNatClampNeg) ++ p_look t (st.1.1 t.toNatClampNeg) ++ p_look 16 (st.1.1 (16 : Int32).toNatClampNeg)) := by clear hP hD hS; subst t34; subst t36; subst t38; subst t40; exact plan_look 16 hL39 (by simp only [List.length_append, List.length_nil, List.length_cons, pl_look, pl_put] <;> decide) in20_16
              refine lv_iload hx hb dX1_transfer_138 (lv_at hl 0 rfl) ?_
              refine lv_if_eq (tgt := 277) hx hb dX1_transfer_140 (by decide) (fun _ => ?_) (fun c0 => absurd c0 (by decide))
              refine lv_aload_n hx hb dX1_transfer_277 rfl (lv_at hl 6 rfl) ?_
              obtain ⟨L42, f42⟩ : ∃ y9 : RPl, [] ++ p_look f (st.1.1 f.toNatClampNeg) ++ p_look t (st.1.1 t.toNatClampNeg) ++ p_look 16 (st.1.1 (16 : Int32).toNatClampNeg) = y9 := ⟨_, rfl⟩
              have hL42 : r_plan s40 L42 := by rw [← f42]; exact hL41
              refine cM_this (Wd := RWd g0 g1 g2 g3 g4 g5 g6 cA cB) (ci := 1) (q0 := 0) (n := 0) (as := []) (rest := []) ⟨hx, hb, hml, hown, hts⟩ (c_X1_works l D g0 g1 g2 g3 g4 g5 g6 cA cB s40 L42 hL42) gX1_transfer_X1_works rfl rfl rfl (by decide +kernel) ⟨Nat.le_of_ble_eq_true rfl, Nat.le_of_ble_eq_true rfl⟩ hK hP hD hS hA rfl rfl rfl hl.1 rfl rfl (Nat.le_of_ble_eq_true rfl) dX1_transfer_278 ⟨Nat.zero_le _, Nat.zero_le _⟩ (fun H locs hP hD hS => ?_)
              obtain ⟨s43, t43⟩ : ∃ y9 : RS, (r_wk (L42) s40).2 = y9 := ⟨_, rfl⟩
              replace hP : va_P D vwCl (RWd g0 g1 g2 g3 g4 g5 g6 cA cB s43) H := by rw [← t43]; exact hP
              replace hD : va_D A (RWd g0 g1 g2 g3 g4 g5 g6 cA cB s43) := by rw [← t43]; exact hD
              refine tpi (fun v44 e44 => ?_)
              refine lv_if_ne (tgt := 289) hx hb dX1_transfer_281 (by decide) (fun c45 => ?_) (fun c45 => ?_)
              · refine lv_iload hx hb dX1_transfer_289 (lv_at hl 0 rfl) ?_
                refine lv_if_eq (tgt := 298) hx hb dX1_transfer_291 (by decide) (fun _ => ?_) (fun c0 => absurd c0 (by decide))
                refine lv_iconst (v := (-1)) hx hb dX1_transfer_298 (by decide) ?_
                have fin : r_transfer f t a st = ((-1), s43) := by
                  clear hP hD hS; subst e1; subst e3; subst e7; subst e8; subst e9; subst e10; subst e11; subst e12; subst e13; subst e14; subst e15; subst e16; subst e17; subst e18; subst e32; subst t34; subst t36; subst t38; subst t40; subst f42; subst t43; subst e44; simp only [r_transfer, r_trB, r_trAcc, r_trL, r_trS, r_doL, r_doS, r_end, r_zero, bI, c2, c4, c5, c6, c19, c33, c45, ↓reduceIte, not_true_eq_false, not_false_eq_true, and_self, and_true, true_and, and_false, false_and, eq_self, i10]
                exact cM_reti (Wd := RWd g0 g1 g2 g3 g4 g5 g6 cA cB) (st := s43) (st' := (r_transfer f t a st).2) hx hb hr hlocks dX1_transfer_299 hS hP hD (congrArg Prod.fst fin).symm (congrArg Prod.snd fin).symm
              · refine lv_bipush (v := (-2)) hx hb dX1_transfer_284 (by decide) ?_
                refine lv_goto (tgt := 299) hx hb dX1_transfer_286 (by decide) ?_
                have fin : r_transfer f t a st = ((-2), s43) := by
                  clear hP hD hS; subst e1; subst e3; subst e7; subst e8; subst e9; subst e10; subst e11; subst e12; subst e13; subst e14; subst e15; subst e16; subst e17; subst e18; subst e32; subst t34; subst t36; subst t38; subst t40; subst f42; subst t43; subst e44; simp only [r_transfer, r_trB, r_trAcc, r_trL, r_trS, r_doL, r_doS, r_end, r_zero, bI, c2, c4, c5, c6, c19, c33, c45, ↓reduceIte, not_true_eq_false, not_false_eq_true, and_self, and_true, true_and, and_false, false_and, eq_self, i10]
                exact cM_reti (Wd := RWd g0 g1 g2 g3 g4 g5 g6 cA cB) (st := s43) (st' := (r_transfer f t a st).2) hx hb hr hlocks dX1_transfer_299 hS hP hD (congrArg Prod.fst fin).symm (congrArg Prod.snd fin).symm
            · refine lv_lload hx hb dX1_transfer_92 (lv_at hl 2 rfl) ?_
              refine cS_call (n := 1) (as := [.long v9]) (rest := []) ⟨hx, hb, hml, hown, hts⟩ (c_X1_isValid l v9) gX1_transfer_X1_isValid rfl rfl rfl (by decide +kernel) ⟨Nat.le_of_ble_eq_true rfl, Nat.le_of_ble_eq_true rfl⟩ hl.1 rfl rfl (Nat.le_of_ble_eq_true rfl) dX1_transfer_94 ⟨Nat.zero_le _, Nat.zero_le _⟩ ?_
              refine tpi (fun v46 e46 => ?_)
              refine lv_if_eq (tgt := 114) hx hb dX1_transfer_97 (by decide) (fun c47 => ?_) (fun c47 => ?_)
              · refine lv_iconst (v := 0) hx hb dX1_transfer_114 (by decide) ?_
                refine lv_istore (lv' := [(14, .int 0), (12, .long v17), (10, .long v13), (8, .long v9), (6, .long v8), (4, .long v7), (0, .ref g0), (1, .int f), (2, .int t), (3, .int a)]) hx hb dX1_transfer_115 hl (by decide) rfl (fun ls hl => ?_)
                refine lv_aload_n hx hb dX1_transfer_117 rfl (lv_at hl 6 rfl) ?_
                refine lv_iconst (v := 0) hx hb dX1_transfer_118 (by decide) ?_
                refine va_put (D := D) (ci := 1) (v := .int 0) (ty := .int) (C := RX1) (T := TX1) (N := 11) hx hb hts (by decide +kernel) tyX1 tyX1_ok nmX1 hown hK hP hD hS 0 rfl rfl 9 (by decide) (hts (.fieldLink RX1 63 "FadeLedgerModel" "turns" "I") (by decide +kernel)) (fun _ h9 => h9) rfl (by decide +kernel) rfl rfl (Nat.le_of_ble_eq_true rfl) dX1_transfer_119 (fun H locs hP hD hS => ?_)
                obtain ⟨s48, t48⟩ : ∃ y9 : RS, ((st.1, st.2.1, st.2.2.1, st.2.2.2.1, 0, st.2.2.2.2.2) : RS) = y9 := ⟨_, rfl⟩
                replace hP : va_P D vwCl (RWd g0 g1 g2 g3 g4 g5 g6 cA cB s48) H := by rw [← t48]; exact hP
                replace hD : va_D A (RWd g0 g1 g2 g3 g4 g5 g6 cA cB s48) := by rw [← t48]; exact hD
                have hL49 : r_plan s48 [] := by rw [← t48]; exact plan_zero _
                refine lv_aload_n hx hb dX1_transfer_122 rfl (lv_at hl 6 rfl) ?_
                refine lv_iload_n hx hb dX1_transfer_123 rfl (lv_at hl 7 rfl) ?_
                refine cM_this (Wd := RWd g0 g1 g2 g3 g4 g5 g6 cA cB) (ci := 1) (q0 := 0) (n := 1) (as := [.int f]) (rest := []) ⟨hx, hb, hml, hown, hts⟩ (c_X1_look l D g0 g1 g2 g3 g4 g5 g6 cA cB s48 f hf _ hL49.1 (by simp only [List.length_append, List.length_nil, List.length_cons, pl_look, pl_put] <;> decide)) gX1_transfer_X1_look rfl rfl rfl (by decide +kernel) ⟨Nat.le_of_ble_eq_true rfl, Nat.le_of_ble_eq_true rfl⟩ hK hP hD hS hA rfl rfl rfl hl.1 rfl rfl (Nat.le_of_ble_eq_true rfl) dX1_transfer_124 ⟨Nat.zero_le _, Nat.zero_le _⟩ (fun H locs hP hD hS => ?_)
                refine W.eq (g2 := F0 m 127 ls []) rfl ?_
                obtain ⟨s50, t50⟩ : ∃ y9 : RS, r_look f s48 = y9 := ⟨_, rfl⟩
                replace hP : va_P D vwCl (RWd g0 g1 g2 g3 g4 g5 g6 cA cB s50) H := by rw [← t50]; exact hP
                replace hD : va_D A (RWd g0 g1 g2 g3 g4 g5 g6 cA cB s50) := by rw [← t50]; exact hD
                have hL51 : r_plan s50 ([] ++ p_look f (st.1.1 f.toNatClampNeg)) := by clear hP hD hS; subst t48; subst t50; exact plan_look f hL49 (by simp only [List.length_append, List.length_nil, List.length_cons, pl_look, pl_put] <;> decide) hf
                refine lv_aload_n hx hb dX1_transfer_127 rfl (lv_at hl 6 rfl) ?_
                refine lv_iload_n hx hb dX1_transfer_128 rfl (lv_at hl 8 rfl) ?_
                refine cM_this (Wd := RWd g0 g1 g2 g3 g4 g5 g6 cA cB) (ci := 1) (q0 := 0) (n := 1) (as := [.int t]) (rest := []) ⟨hx, hb, hml, hown, hts⟩ (c_X1_look l D g0 g1 g2 g3 g4 g5 g6 cA cB s50 t ht _ hL51.1 (by simp only [List.length_append, List.length_nil, List.length_cons, pl_look, pl_put] <;> decide)) gX1_transfer_X1_look rfl rfl rfl (by decide +kernel) ⟨Nat.le_of_ble_eq_true rfl, Nat.le_of_ble_eq_true rfl⟩ hK hP hD hS hA rfl rfl rfl hl.1 rfl rfl (Nat.le_of_ble_eq_true rfl) dX1_transfer_129 ⟨Nat.zero_le _, Nat.zero_le _⟩ (fun H locs hP hD hS => ?_)
                refine W.eq (g2 := F0 m 132 ls []) rfl ?_
                obtain ⟨s52, t52⟩ : ∃ y9 : RS, r_look t s50 = y9 := ⟨_, rfl⟩
                replace hP : va_P D vwCl (RWd g0 g1 g2 g3 g4 g5 g6 cA cB s52) H := by rw [← t52]; exact hP
                replace hD : va_D A (RWd g0 g1 g2 g3 g4 g5 g6 cA cB s52) := by rw [← t52]; exact hD
                have hL53 : r_plan s52 ([] ++ p_look f (st.1.1 f.toNatClampNeg) ++ p_look t (st.1.1 t.toNatClampNeg)) := by clear hP hD hS; subst t48; subst t50; subst t52; exact plan_look t hL51 (by simp only [List.length_append, List.length_nil, List.length_cons, pl_look, pl_put] <;> decide) ht
                refine lv_aload_n hx hb dX1_transfer_132 rfl (lv_at hl 6 rfl) ?_
                refine lv_bipush (v := 16) hx hb dX1_transfer_133 (by decide) ?_
                refine cM_this (Wd := RWd g0 g1 g2 g3 g4 g5 g6 cA cB) (ci := 1) (q0 := 0) (n := 1) (as := [.int 16]) (rest := []) ⟨hx, hb, hml, hown, hts⟩ (c_X1_look l D g0 g1 g2 g3 g4 g5 g6 cA cB s52 16 in20_16 _ hL53.1 (by simp only [List.length_append, List.length_nil, List.length_cons, pl_look, pl_put] <;> decide)) gX1_transfer_X1_look rfl rfl rfl (by decide +kernel) ⟨Nat.le_of_ble_eq_true rfl, Nat.le_of_ble_eq_true rfl⟩ hK hP hD hS hA rfl rfl rfl hl.1 rfl rfl (Nat.le_of_ble_eq_true rfl) dX1_transfer_135 ⟨Nat.zero_le _, Nat.zero_le _⟩ (fun H locs hP hD hS => ?_)
                refine W.eq (g2 := F0 m 138 ls []) rfl ?_
                obtain ⟨s54, t54⟩ : ∃ y9 : RS, r_look 16 s52 = y9 := ⟨_, rfl⟩
                replace hP : va_P D vwCl (RWd g0 g1 g2 g3 g4 g5 g6 cA cB s54) H := by rw [← t54]; exact hP
                replace hD : va_D A (RWd g0 g1 g2 g3 g4 g5 g6 cA cB s54) := by rw [← t54]; exact hD
                have hL55 : r_plan s54 ([] ++ p_look f (st.1.1 f.toNatClampNeg) ++ p_look t (st.1.1 t.toNatClampNeg) ++ p_look 16 (st.1.1 (16 : Int32).toNatClampNeg)) := by clear hP hD hS; subst t48; subst t50; subst t52; subst t54; exact plan_look 16 hL53 (by simp only [List.length_append, List.length_nil, List.length_cons, pl_look, pl_put] <;> decide) in20_16
                refine lv_iload hx hb dX1_transfer_138 (lv_at hl 0 rfl) ?_
                refine lv_if_eq (tgt := 277) hx hb dX1_transfer_140 (by decide) (fun _ => ?_) (fun c0 => absurd c0 (by decide))
                refine lv_aload_n hx hb dX1_transfer_277 rfl (lv_at hl 6 rfl) ?_
                obtain ⟨L56, f56⟩ : ∃ y9 : RPl, [] ++ p_look f (st.1.1 f.toNatClampNeg) ++ p_look t (st.1.1 t.toNatClampNeg) ++ p_look 16 (st.1.1 (16 : Int32).toNatClampNeg) = y9 := ⟨_, rfl⟩
                have hL56 : r_plan s54 L56 := by rw [← f56]; exact hL55
                refine cM_this (Wd := RWd g0 g1 g2 g3 g4 g5 g6 cA cB) (ci := 1) (q0 := 0) (n := 0) (as := []) (rest := []) ⟨hx, hb, hml, hown, hts⟩ (c_X1_works l D g0 g1 g2 g3 g4 g5 g6 cA cB s54 L56 hL56) gX1_transfer_X1_works rfl rfl rfl (by decide +kernel) ⟨Nat.le_of_ble_eq_true rfl, Nat.le_of_ble_eq_true rfl⟩ hK hP hD hS hA rfl rfl rfl hl.1 rfl rfl (Nat.le_of_ble_eq_true rfl) dX1_transfer_278 ⟨Nat.zero_le _, Nat.zero_le _⟩ (fun H locs hP hD hS => ?_)
                obtain ⟨s57, t57⟩ : ∃ y9 : RS, (r_wk (L56) s54).2 = y9 := ⟨_, rfl⟩
                replace hP : va_P D vwCl (RWd g0 g1 g2 g3 g4 g5 g6 cA cB s57) H := by rw [← t57]; exact hP
                replace hD : va_D A (RWd g0 g1 g2 g3 g4 g5 g6 cA cB s57) := by rw [← t57]; exact hD
                refine tpi (fun v58 e58 => ?_)
                refine lv_if_ne (tgt := 289) hx hb dX1_transfer_281 (by decide) (fun c59 => ?_) (fun c59 => ?_)
                · refine lv_iload hx hb dX1_transfer_289 (lv_at hl 0 rfl) ?_
                  refine lv_if_eq (tgt := 298) hx hb dX1_transfer_291 (by decide) (fun _ => ?_) (fun c0 => absurd c0 (by decide))
                  refine lv_iconst (v := (-1)) hx hb dX1_transfer_298 (by decide) ?_
                  have fin : r_transfer f t a st = ((-1), s57) := by
                    clear hP hD hS; subst e1; subst e3; subst e7; subst e8; subst e9; subst e10; subst e11; subst e12; subst e13; subst e14; subst e15; subst e16; subst e17; subst e18; subst e32; subst e46; subst t48; subst t50; subst t52; subst t54; subst f56; subst t57; subst e58; simp only [r_transfer, r_trB, r_trAcc, r_trL, r_trS, r_doL, r_doS, r_end, r_zero, bI, c2, c4, c5, c6, c19, c33, c47, c59, ↓reduceIte, not_true_eq_false, not_false_eq_true, and_self, and_true, true_and, and_false, false_and, eq_self, i10]
                  exact cM_reti (Wd := RWd g0 g1 g2 g3 g4 g5 g6 cA cB) (st := s57) (st' := (r_transfer f t a st).2) hx hb hr hlocks dX1_transfer_299 hS hP hD (congrArg Prod.fst fin).symm (congrArg Prod.snd fin).symm
                · refine lv_bipush (v := (-2)) hx hb dX1_transfer_284 (by decide) ?_
                  refine lv_goto (tgt := 299) hx hb dX1_transfer_286 (by decide) ?_
                  have fin : r_transfer f t a st = ((-2), s57) := by
                    clear hP hD hS; subst e1; subst e3; subst e7; subst e8; subst e9; subst e10; subst e11; subst e12; subst e13; subst e14; subst e15; subst e16; subst e17; subst e18; subst e32; subst e46; subst t48; subst t50; subst t52; subst t54; subst f56; subst t57; subst e58; simp only [r_transfer, r_trB, r_trAcc, r_trL, r_trS, r_doL, r_doS, r_end, r_zero, bI, c2, c4, c5, c6, c19, c33, c47, c59, ↓reduceIte, not_true_eq_false, not_false_eq_true, and_self, and_true, true_and, and_false, false_and, eq_self, i10]
                  exact cM_reti (Wd := RWd g0 g1 g2 g3 g4 g5 g6 cA cB) (st := s57) (st' := (r_transfer f t a st).2) hx hb hr hlocks dX1_transfer_299 hS hP hD (congrArg Prod.fst fin).symm (congrArg Prod.snd fin).symm
              · refine lv_lload hx hb dX1_transfer_100 (lv_at hl 2 rfl) ?_
                refine cS_call (n := 1) (as := [.long v9]) (rest := []) ⟨hx, hb, hml, hown, hts⟩ (c_X1_numberOf l v9) gX1_transfer_X1_numberOf rfl rfl rfl (by decide +kernel) ⟨Nat.le_of_ble_eq_true rfl, Nat.le_of_ble_eq_true rfl⟩ hl.1 rfl rfl (Nat.le_of_ble_eq_true rfl) dX1_transfer_102 ⟨Nat.zero_le _, Nat.zero_le _⟩ ?_
                refine tpi (fun v60 e60 => ?_)
                refine lv_ldc (v := 16777215) hx hb hown (hts (.constant RX1 106 16777215) (by decide +kernel)) dX1_transfer_105 ?_
                refine lv_icmp_ge (tgt := 114) hx hb dX1_transfer_107 (by decide) (fun c61 => ?_) (fun c61 => ?_)
                · refine lv_iconst (v := 0) hx hb dX1_transfer_114 (by decide) ?_
                  refine lv_istore (lv' := [(14, .int 0), (12, .long v17), (10, .long v13), (8, .long v9), (6, .long v8), (4, .long v7), (0, .ref g0), (1, .int f), (2, .int t), (3, .int a)]) hx hb dX1_transfer_115 hl (by decide) rfl (fun ls hl => ?_)
                  refine lv_aload_n hx hb dX1_transfer_117 rfl (lv_at hl 6 rfl) ?_
                  refine lv_iconst (v := 0) hx hb dX1_transfer_118 (by decide) ?_
                  refine va_put (D := D) (ci := 1) (v := .int 0) (ty := .int) (C := RX1) (T := TX1) (N := 11) hx hb hts (by decide +kernel) tyX1 tyX1_ok nmX1 hown hK hP hD hS 0 rfl rfl 9 (by decide) (hts (.fieldLink RX1 63 "FadeLedgerModel" "turns" "I") (by decide +kernel)) (fun _ h9 => h9) rfl (by decide +kernel) rfl rfl (Nat.le_of_ble_eq_true rfl) dX1_transfer_119 (fun H locs hP hD hS => ?_)
                  obtain ⟨s62, t62⟩ : ∃ y9 : RS, ((st.1, st.2.1, st.2.2.1, st.2.2.2.1, 0, st.2.2.2.2.2) : RS) = y9 := ⟨_, rfl⟩
                  replace hP : va_P D vwCl (RWd g0 g1 g2 g3 g4 g5 g6 cA cB s62) H := by rw [← t62]; exact hP
                  replace hD : va_D A (RWd g0 g1 g2 g3 g4 g5 g6 cA cB s62) := by rw [← t62]; exact hD
                  have hL63 : r_plan s62 [] := by rw [← t62]; exact plan_zero _
                  refine lv_aload_n hx hb dX1_transfer_122 rfl (lv_at hl 6 rfl) ?_
                  refine lv_iload_n hx hb dX1_transfer_123 rfl (lv_at hl 7 rfl) ?_
                  refine cM_this (Wd := RWd g0 g1 g2 g3 g4 g5 g6 cA cB) (ci := 1) (q0 := 0) (n := 1) (as := [.int f]) (rest := []) ⟨hx, hb, hml, hown, hts⟩ (c_X1_look l D g0 g1 g2 g3 g4 g5 g6 cA cB s62 f hf _ hL63.1 (by simp only [List.length_append, List.length_nil, List.length_cons, pl_look, pl_put] <;> decide)) gX1_transfer_X1_look rfl rfl rfl (by decide +kernel) ⟨Nat.le_of_ble_eq_true rfl, Nat.le_of_ble_eq_true rfl⟩ hK hP hD hS hA rfl rfl rfl hl.1 rfl rfl (Nat.le_of_ble_eq_true rfl) dX1_transfer_124 ⟨Nat.zero_le _, Nat.zero_le _⟩ (fun H locs hP hD hS => ?_)
                  refine W.eq (g2 := F0 m 127 ls []) rfl ?_
                  obtain ⟨s64, t64⟩ : ∃ y9 : RS, r_look f s62 = y9 := ⟨_, rfl⟩
                  replace hP : va_P D vwCl (RWd g0 g1 g2 g3 g4 g5 g6 cA cB s64) H := by rw [← t64]; exact hP
                  replace hD : va_D A (RWd g0 g1 g2 g3 g4 g5 g6 cA cB s64) := by rw [← t64]; exact hD
                  have hL65 : r_plan s64 ([] ++ p_look f (st.1.1 f.toNatClampNeg)) := by clear hP hD hS; subst t62; subst t64; exact plan_look f hL63 (by simp only [List.length_append, List.length_nil, List.length_cons, pl_look, pl_put] <;> decide) hf
                  refine lv_aload_n hx hb dX1_transfer_127 rfl (lv_at hl 6 rfl) ?_
                  refine lv_iload_n hx hb dX1_transfer_128 rfl (lv_at hl 8 rfl) ?_
                  refine cM_this (Wd := RWd g0 g1 g2 g3 g4 g5 g6 cA cB) (ci := 1) (q0 := 0) (n := 1) (as := [.int t]) (rest := []) ⟨hx, hb, hml, hown, hts⟩ (c_X1_look l D g0 g1 g2 g3 g4 g5 g6 cA cB s64 t ht _ hL65.1 (by simp only [List.length_append, List.length_nil, List.length_cons, pl_look, pl_put] <;> decide)) gX1_transfer_X1_look rfl rfl rfl (by decide +kernel) ⟨Nat.le_of_ble_eq_true rfl, Nat.le_of_ble_eq_true rfl⟩ hK hP hD hS hA rfl rfl rfl hl.1 rfl rfl (Nat.le_of_ble_eq_true rfl) dX1_transfer_129 ⟨Nat.zero_le _, Nat.zero_le _⟩ (fun H locs hP hD hS => ?_)
                  refine W.eq (g2 := F0 m 132 ls []) rfl ?_
                  obtain ⟨s66, t66⟩ : ∃ y9 : RS, r_look t s64 = y9 := ⟨_, rfl⟩
                  replace hP : va_P D vwCl (RWd g0 g1 g2 g3 g4 g5 g6 cA cB s66) H := by rw [← t66]; exact hP
                  replace hD : va_D A (RWd g0 g1 g2 g3 g4 g5 g6 cA cB s66) := by rw [← t66]; exact hD
                  have hL67 : r_plan s66 ([] ++ p_look f (st.1.1 f.toNatClampNeg) ++ p_look t (st.1.1 t.toNatClampNeg)) := by clear hP hD hS; subst t62; subst t64; subst t66; exact plan_look t hL65 (by simp only [List.length_append, List.length_nil, List.length_cons, pl_look, pl_put] <;> decide) ht
                  refine lv_aload_n hx hb dX1_transfer_132 rfl (lv_at hl 6 rfl) ?_
                  refine lv_bipush (v := 16) hx hb dX1_transfer_133 (by decide) ?_
                  refine cM_this (Wd := RWd g0 g1 g2 g3 g4 g5 g6 cA cB) (ci := 1) (q0 := 0) (n := 1) (as := [.int 16]) (rest := []) ⟨hx, hb, hml, hown, hts⟩ (c_X1_look l D g0 g1 g2 g3 g4 g5 g6 cA cB s66 16 in20_16 _ hL67.1 (by simp only [List.length_append, List.length_nil, List.length_cons, pl_look, pl_put] <;> decide)) gX1_transfer_X1_look rfl rfl rfl (by decide +kernel) ⟨Nat.le_of_ble_eq_true rfl, Nat.le_of_ble_eq_true rfl⟩ hK hP hD hS hA rfl rfl rfl hl.1 rfl rfl (Nat.le_of_ble_eq_true rfl) dX1_transfer_135 ⟨Nat.zero_le _, Nat.zero_le _⟩ (fun H locs hP hD hS => ?_)
                  refine W.eq (g2 := F0 m 138 ls []) rfl ?_
                  obtain ⟨s68, t68⟩ : ∃ y9 : RS, r_look 16 s66 = y9 := ⟨_, rfl⟩
                  replace hP : va_P D vwCl (RWd g0 g1 g2 g3 g4 g5 g6 cA cB s68) H := by rw [← t68]; exact hP
                  replace hD : va_D A (RWd g0 g1 g2 g3 g4 g5 g6 cA cB s68) := by rw [← t68]; exact hD
                  have hL69 : r_plan s68 ([] ++ p_look f (st.1.1 f.toNatClampNeg) ++ p_look t (st.1.1 t.toNatClampNeg) ++ p_look 16 (st.1.1 (16 : Int32).toNatClampNeg)) := by clear hP hD hS; subst t62; subst t64; subst t66; subst t68; exact plan_look 16 hL67 (by simp only [List.length_append, List.length_nil, List.length_cons, pl_look, pl_put] <;> decide) in20_16
                  refine lv_iload hx hb dX1_transfer_138 (lv_at hl 0 rfl) ?_
                  refine lv_if_eq (tgt := 277) hx hb dX1_transfer_140 (by decide) (fun _ => ?_) (fun c0 => absurd c0 (by decide))
                  refine lv_aload_n hx hb dX1_transfer_277 rfl (lv_at hl 6 rfl) ?_
                  obtain ⟨L70, f70⟩ : ∃ y9 : RPl, [] ++ p_look f (st.1.1 f.toNatClampNeg) ++ p_look t (st.1.1 t.toNatClampNeg) ++ p_look 16 (st.1.1 (16 : Int32).toNatClampNeg) = y9 := ⟨_, rfl⟩
                  have hL70 : r_plan s68 L70 := by rw [← f70]; exact hL69
                  refine cM_this (Wd := RWd g0 g1 g2 g3 g4 g5 g6 cA cB) (ci := 1) (q0 := 0) (n := 0) (as := []) (rest := []) ⟨hx, hb, hml, hown, hts⟩ (c_X1_works l D g0 g1 g2 g3 g4 g5 g6 cA cB s68 L70 hL70) gX1_transfer_X1_works rfl rfl rfl (by decide +kernel) ⟨Nat.le_of_ble_eq_true rfl, Nat.le_of_ble_eq_true rfl⟩ hK hP hD hS hA rfl rfl rfl hl.1 rfl rfl (Nat.le_of_ble_eq_true rfl) dX1_transfer_278 ⟨Nat.zero_le _, Nat.zero_le _⟩ (fun H locs hP hD hS => ?_)
                  obtain ⟨s71, t71⟩ : ∃ y9 : RS, (r_wk (L70) s68).2 = y9 := ⟨_, rfl⟩
                  replace hP : va_P D vwCl (RWd g0 g1 g2 g3 g4 g5 g6 cA cB s71) H := by rw [← t71]; exact hP
                  replace hD : va_D A (RWd g0 g1 g2 g3 g4 g5 g6 cA cB s71) := by rw [← t71]; exact hD
                  refine tpi (fun v72 e72 => ?_)
                  refine lv_if_ne (tgt := 289) hx hb dX1_transfer_281 (by decide) (fun c73 => ?_) (fun c73 => ?_)
                  · refine lv_iload hx hb dX1_transfer_289 (lv_at hl 0 rfl) ?_
                    refine lv_if_eq (tgt := 298) hx hb dX1_transfer_291 (by decide) (fun _ => ?_) (fun c0 => absurd c0 (by decide))
                    refine lv_iconst (v := (-1)) hx hb dX1_transfer_298 (by decide) ?_
                    have fin : r_transfer f t a st = ((-1), s71) := by
                      clear hP hD hS; subst e1; subst e3; subst e7; subst e8; subst e9; subst e10; subst e11; subst e12; subst e13; subst e14; subst e15; subst e16; subst e17; subst e18; subst e32; subst e46; subst e60; subst t62; subst t64; subst t66; subst t68; subst f70; subst t71; subst e72; simp only [r_transfer, r_trB, r_trAcc, r_trL, r_trS, r_doL, r_doS, r_end, r_zero, bI, c2, c4, c5, c6, c19, c33, c47, c61, c73, ↓reduceIte, not_true_eq_false, not_false_eq_true, and_self, and_true, true_and, and_false, false_and, eq_self, i10]
                    exact cM_reti (Wd := RWd g0 g1 g2 g3 g4 g5 g6 cA cB) (st := s71) (st' := (r_transfer f t a st).2) hx hb hr hlocks dX1_transfer_299 hS hP hD (congrArg Prod.fst fin).symm (congrArg Prod.snd fin).symm
                  · refine lv_bipush (v := (-2)) hx hb dX1_transfer_284 (by decide) ?_
                    refine lv_goto (tgt := 299) hx hb dX1_transfer_286 (by decide) ?_
                    have fin : r_transfer f t a st = ((-2), s71) := by
                      clear hP hD hS; subst e1; subst e3; subst e7; subst e8; subst e9; subst e10; subst e11; subst e12; subst e13; subst e14; subst e15; subst e16; subst e17; subst e18; subst e32; subst e46; subst e60; subst t62; subst t64; subst t66; subst t68; subst f70; subst t71; subst e72; simp only [r_transfer, r_trB, r_trAcc, r_trL, r_trS, r_doL, r_doS, r_end, r_zero, bI, c2, c4, c5, c6, c19, c33, c47, c61, c73, ↓reduceIte, not_true_eq_false, not_false_eq_true, and_self, and_true, true_and, and_false, false_and, eq_self, i10]
                    exact cM_reti (Wd := RWd g0 g1 g2 g3 g4 g5 g6 cA cB) (st := s71) (st' := (r_transfer f t a st).2) hx hb hr hlocks dX1_transfer_299 hS hP hD (congrArg Prod.fst fin).symm (congrArg Prod.snd fin).symm
                · refine lv_iconst (v := 1) hx hb dX1_transfer_110 (by decide) ?_
                  refine lv_goto (tgt := 115) hx hb dX1_transfer_111 (by decide) ?_
                  refine lv_istore (lv' := [(14, .int 1), (12, .long v17), (10, .long v13), (8, .long v9), (6, .long v8), (4, .long v7), (0, .ref g0), (1, .int f), (2, .int t), (3, .int a)]) hx hb dX1_transfer_115 hl (by decide) rfl (fun ls hl => ?_)
                  refine lv_aload_n hx hb dX1_transfer_117 rfl (lv_at hl 6 rfl) ?_
                  refine lv_iconst (v := 0) hx hb dX1_transfer_118 (by decide) ?_
                  refine va_put (D := D) (ci := 1) (v := .int 0) (ty := .int) (C := RX1) (T := TX1) (N := 11) hx hb hts (by decide +kernel) tyX1 tyX1_ok nmX1 hown hK hP hD hS 0 rfl rfl 9 (by decide) (hts (.fieldLink RX1 63 "FadeLedgerModel" "turns" "I") (by decide +kernel)) (fun _ h9 => h9) rfl (by decide +kernel) rfl rfl (Nat.le_of_ble_eq_true rfl) dX1_transfer_119 (fun H locs hP hD hS => ?_)
                  obtain ⟨s74, t74⟩ : ∃ y9 : RS, ((st.1, st.2.1, st.2.2.1, st.2.2.2.1, 0, st.2.2.2.2.2) : RS) = y9 := ⟨_, rfl⟩
                  replace hP : va_P D vwCl (RWd g0 g1 g2 g3 g4 g5 g6 cA cB s74) H := by rw [← t74]; exact hP
                  replace hD : va_D A (RWd g0 g1 g2 g3 g4 g5 g6 cA cB s74) := by rw [← t74]; exact hD
                  have hL75 : r_plan s74 [] := by rw [← t74]; exact plan_zero _
                  refine lv_aload_n hx hb dX1_transfer_122 rfl (lv_at hl 6 rfl) ?_
                  refine lv_iload_n hx hb dX1_transfer_123 rfl (lv_at hl 7 rfl) ?_
                  refine cM_this (Wd := RWd g0 g1 g2 g3 g4 g5 g6 cA cB) (ci := 1) (q0 := 0) (n := 1) (as := [.int f]) (rest := []) ⟨hx, hb, hml, hown, hts⟩ (c_X1_look l D g0 g1 g2 g3 g4 g5 g6 cA cB s74 f hf _ hL75.1 (by simp only [List.length_append, List.length_nil, List.length_cons, pl_look, pl_put] <;> decide)) gX1_transfer_X1_look rfl rfl rfl (by decide +kernel) ⟨Nat.le_of_ble_eq_true rfl, Nat.le_of_ble_eq_true rfl⟩ hK hP hD hS hA rfl rfl rfl hl.1 rfl rfl (Nat.le_of_ble_eq_true rfl) dX1_transfer_124 ⟨Nat.zero_le _, Nat.zero_le _⟩ (fun H locs hP hD hS => ?_)
                  refine W.eq (g2 := F0 m 127 ls []) rfl ?_
                  obtain ⟨s76, t76⟩ : ∃ y9 : RS, r_look f s74 = y9 := ⟨_, rfl⟩
                  replace hP : va_P D vwCl (RWd g0 g1 g2 g3 g4 g5 g6 cA cB s76) H := by rw [← t76]; exact hP
                  replace hD : va_D A (RWd g0 g1 g2 g3 g4 g5 g6 cA cB s76) := by rw [← t76]; exact hD
                  have hL77 : r_plan s76 ([] ++ p_look f (st.1.1 f.toNatClampNeg)) := by clear hP hD hS; subst t74; subst t76; exact plan_look f hL75 (by simp only [List.length_append, List.length_nil, List.length_cons, pl_look, pl_put] <;> decide) hf
                  refine lv_aload_n hx hb dX1_transfer_127 rfl (lv_at hl 6 rfl) ?_
                  refine lv_iload_n hx hb dX1_transfer_128 rfl (lv_at hl 8 rfl) ?_
                  refine cM_this (Wd := RWd g0 g1 g2 g3 g4 g5 g6 cA cB) (ci := 1) (q0 := 0) (n := 1) (as := [.int t]) (rest := []) ⟨hx, hb, hml, hown, hts⟩ (c_X1_look l D g0 g1 g2 g3 g4 g5 g6 cA cB s76 t ht _ hL77.1 (by simp only [List.length_append, List.length_nil, List.length_cons, pl_look, pl_put] <;> decide)) gX1_transfer_X1_look rfl rfl rfl (by decide +kernel) ⟨Nat.le_of_ble_eq_true rfl, Nat.le_of_ble_eq_true rfl⟩ hK hP hD hS hA rfl rfl rfl hl.1 rfl rfl (Nat.le_of_ble_eq_true rfl) dX1_transfer_129 ⟨Nat.zero_le _, Nat.zero_le _⟩ (fun H locs hP hD hS => ?_)
                  refine W.eq (g2 := F0 m 132 ls []) rfl ?_
                  obtain ⟨s78, t78⟩ : ∃ y9 : RS, r_look t s76 = y9 := ⟨_, rfl⟩
                  replace hP : va_P D vwCl (RWd g0 g1 g2 g3 g4 g5 g6 cA cB s78) H := by rw [← t78]; exact hP
                  replace hD : va_D A (RWd g0 g1 g2 g3 g4 g5 g6 cA cB s78) := by rw [← t78]; exact hD
                  have hL79 : r_plan s78 ([] ++ p_look f (st.1.1 f.toNatClampNeg) ++ p_look t (st.1.1 t.toNatClampNeg)) := by clear hP hD hS; subst t74; subst t76; subst t78; exact plan_look t hL77 (by simp only [List.length_append, List.length_nil, List.length_cons, pl_look, pl_put] <;> decide) ht
                  refine lv_aload_n hx hb dX1_transfer_132 rfl (lv_at hl 6 rfl) ?_
                  refine lv_bipush (v := 16) hx hb dX1_transfer_133 (by decide) ?_
                  refine cM_this (Wd := RWd g0 g1 g2 g3 g4 g5 g6 cA cB) (ci := 1) (q0 := 0) (n := 1) (as := [.int 16]) (rest := []) ⟨hx, hb, hml, hown, hts⟩ (c_X1_look l D g0 g1 g2 g3 g4 g5 g6 cA cB s78 16 in20_16 _ hL79.1 (by simp only [List.length_append, List.length_nil, List.length_cons, pl_look, pl_put] <;> decide)) gX1_transfer_X1_look rfl rfl rfl (by decide +kernel) ⟨Nat.le_of_ble_eq_true rfl, Nat.le_of_ble_eq_true rfl⟩ hK hP hD hS hA rfl rfl rfl hl.1 rfl rfl (Nat.le_of_ble_eq_true rfl) dX1_transfer_135 ⟨Nat.zero_le _, Nat.zero_le _⟩ (fun H locs hP hD hS => ?_)
                  refine W.eq (g2 := F0 m 138 ls []) rfl ?_
                  obtain ⟨s80, t80⟩ : ∃ y9 : RS, r_look 16 s78 = y9 := ⟨_, rfl⟩
                  replace hP : va_P D vwCl (RWd g0 g1 g2 g3 g4 g5 g6 cA cB s80) H := by rw [← t80]; exact hP
                  replace hD : va_D A (RWd g0 g1 g2 g3 g4 g5 g6 cA cB s80) := by rw [← t80]; exact hD
                  have hL81 : r_plan s80 ([] ++ p_look f (st.1.1 f.toNatClampNeg) ++ p_look t (st.1.1 t.toNatClampNeg) ++ p_look 16 (st.1.1 (16 : Int32).toNatClampNeg)) := by clear hP hD hS; subst t74; subst t76; subst t78; subst t80; exact plan_look 16 hL79 (by simp only [List.length_append, List.length_nil, List.length_cons, pl_look, pl_put] <;> decide) in20_16
                  refine lv_iload hx hb dX1_transfer_138 (lv_at hl 0 rfl) ?_
                  refine lv_if_eq (tgt := 277) hx hb dX1_transfer_140 (by decide) (fun c0 => absurd c0 (by decide)) (fun _ => ?_)
                  refine lv_lload hx hb dX1_transfer_143 (lv_at hl 3 rfl) ?_
                  refine cS_call (n := 1) (as := [.long v9]) (rest := []) ⟨hx, hb, hml, hown, hts⟩ (c_X1_numberOf l v9) gX1_transfer_X1_numberOf rfl rfl rfl (by decide +kernel) ⟨Nat.le_of_ble_eq_true rfl, Nat.le_of_ble_eq_true rfl⟩ hl.1 rfl rfl (Nat.le_of_ble_eq_true rfl) dX1_transfer_145 ⟨Nat.zero_le _, Nat.zero_le _⟩ ?_
                  refine tpi (fun v82 e82 => ?_)
                  refine lv_iconst (v := 1) hx hb dX1_transfer_148 (by decide) ?_
                  refine lv_iadd hx hb dX1_transfer_149 ?_
                  refine tpi (fun v83 e83 => ?_)
                  refine lv_istore (lv' := [(15, .int v83), (14, .int 1), (12, .long v17), (10, .long v13), (8, .long v9), (6, .long v8), (4, .long v7), (0, .ref g0), (1, .int f), (2, .int t), (3, .int a)]) hx hb dX1_transfer_150 hl (by decide) rfl (fun ls hl => ?_)
                  refine lv_sipush (v := 256) hx hb dX1_transfer_152 (by decide) ?_
                  refine lv_iload_n hx hb dX1_transfer_155 rfl (lv_at hl 8 rfl) ?_
                  refine lv_imul hx hb dX1_transfer_156 ?_
                  refine tpi (fun v84 e84 => ?_)
                  refine lv_iload_n hx hb dX1_transfer_157 rfl (lv_at hl 9 rfl) ?_
                  refine lv_iadd hx hb dX1_transfer_158 ?_
                  refine tpi (fun v85 e85 => ?_)
                  refine lv_istore (lv' := [(16, .int v85), (15, .int v83), (14, .int 1), (12, .long v17), (10, .long v13), (8, .long v9), (6, .long v8), (4, .long v7), (0, .ref g0), (1, .int f), (2, .int t), (3, .int a)]) hx hb dX1_transfer_159 hl (by decide) rfl (fun ls hl => ?_)
                  refine lv_aload_n hx hb dX1_transfer_161 rfl (lv_at hl 8 rfl) ?_
                  refine lv_bipush (v := 16) hx hb dX1_transfer_162 (by decide) ?_
                  refine lv_iload_n hx hb dX1_transfer_164 rfl (lv_at hl 11 rfl) ?_
                  refine lv_iload hx hb dX1_transfer_165 (lv_at hl 1 rfl) ?_
                  refine cS_call (n := 2) (as := [.int a, .int v83]) (rest := [.int 16, .ref g0]) ⟨hx, hb, hml, hown, hts⟩ (c_X1_wordOf l a v83) gX1_transfer_X1_wordOf rfl rfl rfl (by decide +kernel) ⟨Nat.le_of_ble_eq_true rfl, Nat.le_of_ble_eq_true rfl⟩ hl.1 rfl rfl (Nat.le_of_ble_eq_true rfl) dX1_transfer_167 ⟨Nat.zero_le _, Nat.zero_le _⟩ ?_
                  refine tpl (fun v86 e86 => ?_)
                  refine cM_this (Wd := RWd g0 g1 g2 g3 g4 g5 g6 cA cB) (ci := 1) (q0 := 0) (n := 2) (as := [.int 16, .long v86]) (rest := []) ⟨hx, hb, hml, hown, hts⟩ (c_X1_putAll l D g0 g1 g2 g3 g4 g5 g6 cA cB s80 16 v86 _ hL81.1 (by simp only [List.length_append, List.length_nil, List.length_cons, pl_look, pl_put] <;> decide)) gX1_transfer_X1_putAll rfl rfl rfl (by decide +kernel) ⟨Nat.le_of_ble_eq_true rfl, Nat.le_of_ble_eq_true rfl⟩ hK hP hD hS hA rfl rfl rfl hl.1 rfl rfl (Nat.le_of_ble_eq_true rfl) dX1_transfer_170 ⟨Nat.zero_le _, Nat.zero_le _⟩ (fun H locs hP hD hS => ?_)
                  refine W.eq (g2 := F0 m 173 ls []) rfl ?_
                  obtain ⟨s87, t87⟩ : ∃ y9 : RS, r_put 16 v86 s80 = y9 := ⟨_, rfl⟩
                  replace hP : va_P D vwCl (RWd g0 g1 g2 g3 g4 g5 g6 cA cB s87) H := by rw [← t87]; exact hP
                  replace hD : va_D A (RWd g0 g1 g2 g3 g4 g5 g6 cA cB s87) := by rw [← t87]; exact hD
                  have hL88 : r_plan s87 ([] ++ p_look f (st.1.1 f.toNatClampNeg) ++ p_look t (st.1.1 t.toNatClampNeg) ++ p_look 16 (st.1.1 (16 : Int32).toNatClampNeg) ++ p_put 16 v86) := by clear hP hD hS; subst t74; subst t76; subst t78; subst t80; subst t87; exact plan_put 16 v86 hL81 (by simp only [List.length_append, List.length_nil, List.length_cons, pl_look, pl_put] <;> decide) in20_16
                  refine lv_aload_n hx hb dX1_transfer_173 rfl (lv_at hl 8 rfl) ?_
                  refine lv_bipush (v := 17) hx hb dX1_transfer_174 (by decide) ?_
                  refine lv_lload hx hb dX1_transfer_176 (lv_at hl 7 rfl) ?_
                  refine cS_call (n := 1) (as := [.long v7]) (rest := [.int 17, .ref g0]) ⟨hx, hb, hml, hown, hts⟩ (c_X1_numberOf l v7) gX1_transfer_X1_numberOf rfl rfl rfl (by decide +kernel) ⟨Nat.le_of_ble_eq_true rfl, Nat.le_of_ble_eq_true rfl⟩ hl.1 rfl rfl (Nat.le_of_ble_eq_true rfl) dX1_transfer_178 ⟨Nat.zero_le _, Nat.zero_le _⟩ ?_
                  refine tpi (fun v89 e89 => ?_)
                  refine lv_iconst (v := 1) hx hb dX1_transfer_181 (by decide) ?_
                  refine lv_iadd hx hb dX1_transfer_182 ?_
                  refine tpi (fun v90 e90 => ?_)
                  refine lv_iload hx hb dX1_transfer_183 (lv_at hl 1 rfl) ?_
                  refine cS_call (n := 2) (as := [.int v90, .int v83]) (rest := [.int 17, .ref g0]) ⟨hx, hb, hml, hown, hts⟩ (c_X1_wordOf l v90 v83) gX1_transfer_X1_wordOf rfl rfl rfl (by decide +kernel) ⟨Nat.le_of_ble_eq_true rfl, Nat.le_of_ble_eq_true rfl⟩ hl.1 rfl rfl (Nat.le_of_ble_eq_true rfl) dX1_transfer_185 ⟨Nat.zero_le _, Nat.zero_le _⟩ ?_
                  refine tpl (fun v91 e91 => ?_)
                  refine cM_this (Wd := RWd g0 g1 g2 g3 g4 g5 g6 cA cB) (ci := 1) (q0 := 0) (n := 2) (as := [.int 17, .long v91]) (rest := []) ⟨hx, hb, hml, hown, hts⟩ (c_X1_putAll l D g0 g1 g2 g3 g4 g5 g6 cA cB s87 17 v91 _ hL88.1 (by simp only [List.length_append, List.length_nil, List.length_cons, pl_look, pl_put] <;> decide)) gX1_transfer_X1_putAll rfl rfl rfl (by decide +kernel) ⟨Nat.le_of_ble_eq_true rfl, Nat.le_of_ble_eq_true rfl⟩ hK hP hD hS hA rfl rfl rfl hl.1 rfl rfl (Nat.le_of_ble_eq_true rfl) dX1_transfer_188 ⟨Nat.zero_le _, Nat.zero_le _⟩ (fun H locs hP hD hS => ?_)
                  refine W.eq (g2 := F0 m 191 ls []) rfl ?_
                  obtain ⟨s92, t92⟩ : ∃ y9 : RS, r_put 17 v91 s87 = y9 := ⟨_, rfl⟩
                  replace hP : va_P D vwCl (RWd g0 g1 g2 g3 g4 g5 g6 cA cB s92) H := by rw [← t92]; exact hP
                  replace hD : va_D A (RWd g0 g1 g2 g3 g4 g5 g6 cA cB s92) := by rw [← t92]; exact hD
                  have hL93 : r_plan s92 ([] ++ p_look f (st.1.1 f.toNatClampNeg) ++ p_look t (st.1.1 t.toNatClampNeg) ++ p_look 16 (st.1.1 (16 : Int32).toNatClampNeg) ++ p_put 16 v86 ++ p_put 17 v91) := by clear hP hD hS; subst t74; subst t76; subst t78; subst t80; subst t87; subst t92; exact plan_put 17 v91 hL88 (by simp only [List.length_append, List.length_nil, List.length_cons, pl_look, pl_put] <;> decide) in20_17
                  refine lv_aload_n hx hb dX1_transfer_191 rfl (lv_at hl 8 rfl) ?_
                  refine lv_bipush (v := 18) hx hb dX1_transfer_192 (by decide) ?_
                  refine lv_lload hx hb dX1_transfer_194 (lv_at hl 6 rfl) ?_
                  refine cS_call (n := 1) (as := [.long v8]) (rest := [.int 18, .ref g0]) ⟨hx, hb, hml, hown, hts⟩ (c_X1_numberOf l v8) gX1_transfer_X1_numberOf rfl rfl rfl (by decide +kernel) ⟨Nat.le_of_ble_eq_true rfl, Nat.le_of_ble_eq_true rfl⟩ hl.1 rfl rfl (Nat.le_of_ble_eq_true rfl) dX1_transfer_196 ⟨Nat.zero_le _, Nat.zero_le _⟩ ?_
                  refine tpi (fun v94 e94 => ?_)
                  refine lv_iconst (v := 1) hx hb dX1_transfer_199 (by decide) ?_
                  refine lv_iadd hx hb dX1_transfer_200 ?_
                  refine tpi (fun v95 e95 => ?_)
                  refine lv_iload hx hb dX1_transfer_201 (lv_at hl 1 rfl) ?_
                  refine cS_call (n := 2) (as := [.int v95, .int v83]) (rest := [.int 18, .ref g0]) ⟨hx, hb, hml, hown, hts⟩ (c_X1_wordOf l v95 v83) gX1_transfer_X1_wordOf rfl rfl rfl (by decide +kernel) ⟨Nat.le_of_ble_eq_true rfl, Nat.le_of_ble_eq_true rfl⟩ hl.1 rfl rfl (Nat.le_of_ble_eq_true rfl) dX1_transfer_203 ⟨Nat.zero_le _, Nat.zero_le _⟩ ?_
                  refine tpl (fun v96 e96 => ?_)
                  refine cM_this (Wd := RWd g0 g1 g2 g3 g4 g5 g6 cA cB) (ci := 1) (q0 := 0) (n := 2) (as := [.int 18, .long v96]) (rest := []) ⟨hx, hb, hml, hown, hts⟩ (c_X1_putAll l D g0 g1 g2 g3 g4 g5 g6 cA cB s92 18 v96 _ hL93.1 (by simp only [List.length_append, List.length_nil, List.length_cons, pl_look, pl_put] <;> decide)) gX1_transfer_X1_putAll rfl rfl rfl (by decide +kernel) ⟨Nat.le_of_ble_eq_true rfl, Nat.le_of_ble_eq_true rfl⟩ hK hP hD hS hA rfl rfl rfl hl.1 rfl rfl (Nat.le_of_ble_eq_true rfl) dX1_transfer_206 ⟨Nat.zero_le _, Nat.zero_le _⟩ (fun H locs hP hD hS => ?_)
                  refine W.eq (g2 := F0 m 209 ls []) rfl ?_
                  obtain ⟨s97, t97⟩ : ∃ y9 : RS, r_put 18 v96 s92 = y9 := ⟨_, rfl⟩
                  replace hP : va_P D vwCl (RWd g0 g1 g2 g3 g4 g5 g6 cA cB s97) H := by rw [← t97]; exact hP
                  replace hD : va_D A (RWd g0 g1 g2 g3 g4 g5 g6 cA cB s97) := by rw [← t97]; exact hD
                  have hL98 : r_plan s97 ([] ++ p_look f (st.1.1 f.toNatClampNeg) ++ p_look t (st.1.1 t.toNatClampNeg) ++ p_look 16 (st.1.1 (16 : Int32).toNatClampNeg) ++ p_put 16 v86 ++ p_put 17 v91 ++ p_put 18 v96) := by clear hP hD hS; subst t74; subst t76; subst t78; subst t80; subst t87; subst t92; subst t97; exact plan_put 18 v96 hL93 (by simp only [List.length_append, List.length_nil, List.length_cons, pl_look, pl_put] <;> decide) in20_18
                  refine lv_aload_n hx hb dX1_transfer_209 rfl (lv_at hl 8 rfl) ?_
                  refine lv_bipush (v := 19) hx hb dX1_transfer_210 (by decide) ?_
                  refine lv_iload hx hb dX1_transfer_212 (lv_at hl 0 rfl) ?_
                  refine lv_ldc (v := 65536) hx hb hown (hts (.constant RX1 114 65536) (by decide +kernel)) dX1_transfer_214 ?_
                  refine lv_iadd hx hb dX1_transfer_216 ?_
                  refine tpi (fun v99 e99 => ?_)
                  refine lv_iload hx hb dX1_transfer_217 (lv_at hl 1 rfl) ?_
                  refine cS_call (n := 2) (as := [.int v99, .int v83]) (rest := [.int 19, .ref g0]) ⟨hx, hb, hml, hown, hts⟩ (c_X1_wordOf l v99 v83) gX1_transfer_X1_wordOf rfl rfl rfl (by decide +kernel) ⟨Nat.le_of_ble_eq_true rfl, Nat.le_of_ble_eq_true rfl⟩ hl.1 rfl rfl (Nat.le_of_ble_eq_true rfl) dX1_transfer_219 ⟨Nat.zero_le _, Nat.zero_le _⟩ ?_
                  refine tpl (fun v100 e100 => ?_)
                  refine cM_this (Wd := RWd g0 g1 g2 g3 g4 g5 g6 cA cB) (ci := 1) (q0 := 0) (n := 2) (as := [.int 19, .long v100]) (rest := []) ⟨hx, hb, hml, hown, hts⟩ (c_X1_putAll l D g0 g1 g2 g3 g4 g5 g6 cA cB s97 19 v100 _ hL98.1 (by simp only [List.length_append, List.length_nil, List.length_cons, pl_look, pl_put] <;> decide)) gX1_transfer_X1_putAll rfl rfl rfl (by decide +kernel) ⟨Nat.le_of_ble_eq_true rfl, Nat.le_of_ble_eq_true rfl⟩ hK hP hD hS hA rfl rfl rfl hl.1 rfl rfl (Nat.le_of_ble_eq_true rfl) dX1_transfer_222 ⟨Nat.zero_le _, Nat.zero_le _⟩ (fun H locs hP hD hS => ?_)
                  refine W.eq (g2 := F0 m 225 ls []) rfl ?_
                  obtain ⟨s101, t101⟩ : ∃ y9 : RS, r_put 19 v100 s97 = y9 := ⟨_, rfl⟩
                  replace hP : va_P D vwCl (RWd g0 g1 g2 g3 g4 g5 g6 cA cB s101) H := by rw [← t101]; exact hP
                  replace hD : va_D A (RWd g0 g1 g2 g3 g4 g5 g6 cA cB s101) := by rw [← t101]; exact hD
                  have hL102 : r_plan s101 ([] ++ p_look f (st.1.1 f.toNatClampNeg) ++ p_look t (st.1.1 t.toNatClampNeg) ++ p_look 16 (st.1.1 (16 : Int32).toNatClampNeg) ++ p_put 16 v86 ++ p_put 17 v91 ++ p_put 18 v96 ++ p_put 19 v100) := by clear hP hD hS; subst t74; subst t76; subst t78; subst t80; subst t87; subst t92; subst t97; subst t101; exact plan_put 19 v100 hL98 (by simp only [List.length_append, List.length_nil, List.length_cons, pl_look, pl_put] <;> decide) in20_19
                  refine lv_aload_n hx hb dX1_transfer_225 rfl (lv_at hl 8 rfl) ?_
                  refine lv_iload_n hx hb dX1_transfer_226 rfl (lv_at hl 9 rfl) ?_
                  refine lv_lload hx hb dX1_transfer_227 (lv_at hl 4 rfl) ?_
                  refine lv_l2i hx hb dX1_transfer_229 rfl ?_
                  refine tpi (fun v103 e103 => ?_)
                  refine lv_lload hx hb dX1_transfer_230 (lv_at hl 7 rfl) ?_
                  refine cS_call (n := 1) (as := [.long v7]) (rest := [.int v103, .int f, .ref g0]) ⟨hx, hb, hml, hown, hts⟩ (c_X1_numberOf l v7) gX1_transfer_X1_numberOf rfl rfl rfl (by decide +kernel) ⟨Nat.le_of_ble_eq_true rfl, Nat.le_of_ble_eq_true rfl⟩ hl.1 rfl rfl (Nat.le_of_ble_eq_true rfl) dX1_transfer_232 ⟨Nat.zero_le _, Nat.zero_le _⟩ ?_
                  refine tpi (fun v104 e104 => ?_)
                  refine lv_iconst (v := 1) hx hb dX1_transfer_235 (by decide) ?_
                  refine lv_iadd hx hb dX1_transfer_236 ?_
                  refine tpi (fun v105 e105 => ?_)
                  refine cS_call (n := 2) (as := [.int v103, .int v105]) (rest := [.int f, .ref g0]) ⟨hx, hb, hml, hown, hts⟩ (c_X1_wordOf l v103 v105) gX1_transfer_X1_wordOf rfl rfl rfl (by decide +kernel) ⟨Nat.le_of_ble_eq_true rfl, Nat.le_of_ble_eq_true rfl⟩ hl.1 rfl rfl (Nat.le_of_ble_eq_true rfl) dX1_transfer_237 ⟨Nat.zero_le _, Nat.zero_le _⟩ ?_
                  refine tpl (fun v106 e106 => ?_)
                  refine cM_this (Wd := RWd g0 g1 g2 g3 g4 g5 g6 cA cB) (ci := 1) (q0 := 0) (n := 2) (as := [.int f, .long v106]) (rest := []) ⟨hx, hb, hml, hown, hts⟩ (c_X1_putAll l D g0 g1 g2 g3 g4 g5 g6 cA cB s101 f v106 _ hL102.1 (by simp only [List.length_append, List.length_nil, List.length_cons, pl_look, pl_put] <;> decide)) gX1_transfer_X1_putAll rfl rfl rfl (by decide +kernel) ⟨Nat.le_of_ble_eq_true rfl, Nat.le_of_ble_eq_true rfl⟩ hK hP hD hS hA rfl rfl rfl hl.1 rfl rfl (Nat.le_of_ble_eq_true rfl) dX1_transfer_240 ⟨Nat.zero_le _, Nat.zero_le _⟩ (fun H locs hP hD hS => ?_)
                  refine W.eq (g2 := F0 m 243 ls []) rfl ?_
                  obtain ⟨s107, t107⟩ : ∃ y9 : RS, r_put f v106 s101 = y9 := ⟨_, rfl⟩
                  replace hP : va_P D vwCl (RWd g0 g1 g2 g3 g4 g5 g6 cA cB s107) H := by rw [← t107]; exact hP
                  replace hD : va_D A (RWd g0 g1 g2 g3 g4 g5 g6 cA cB s107) := by rw [← t107]; exact hD
                  have hL108 : r_plan s107 ([] ++ p_look f (st.1.1 f.toNatClampNeg) ++ p_look t (st.1.1 t.toNatClampNeg) ++ p_look 16 (st.1.1 (16 : Int32).toNatClampNeg) ++ p_put 16 v86 ++ p_put 17 v91 ++ p_put 18 v96 ++ p_put 19 v100 ++ p_put f v106) := by clear hP hD hS; subst t74; subst t76; subst t78; subst t80; subst t87; subst t92; subst t97; subst t101; subst t107; exact plan_put f v106 hL102 (by simp only [List.length_append, List.length_nil, List.length_cons, pl_look, pl_put] <;> decide) hf
                  refine lv_aload_n hx hb dX1_transfer_243 rfl (lv_at hl 8 rfl) ?_
                  refine lv_iload_n hx hb dX1_transfer_244 rfl (lv_at hl 10 rfl) ?_
                  refine lv_lload hx hb dX1_transfer_245 (lv_at hl 3 rfl) ?_
                  refine lv_l2i hx hb dX1_transfer_247 rfl ?_
                  refine tpi (fun v109 e109 => ?_)
                  refine lv_lload hx hb dX1_transfer_248 (lv_at hl 6 rfl) ?_
                  refine cS_call (n := 1) (as := [.long v8]) (rest := [.int v109, .int t, .ref g0]) ⟨hx, hb, hml, hown, hts⟩ (c_X1_numberOf l v8) gX1_transfer_X1_numberOf rfl rfl rfl (by decide +kernel) ⟨Nat.le_of_ble_eq_true rfl, Nat.le_of_ble_eq_true rfl⟩ hl.1 rfl rfl (Nat.le_of_ble_eq_true rfl) dX1_transfer_250 ⟨Nat.zero_le _, Nat.zero_le _⟩ ?_
                  refine tpi (fun v110 e110 => ?_)
                  refine lv_iconst (v := 1) hx hb dX1_transfer_253 (by decide) ?_
                  refine lv_iadd hx hb dX1_transfer_254 ?_
                  refine tpi (fun v111 e111 => ?_)
                  refine cS_call (n := 2) (as := [.int v109, .int v111]) (rest := [.int t, .ref g0]) ⟨hx, hb, hml, hown, hts⟩ (c_X1_wordOf l v109 v111) gX1_transfer_X1_wordOf rfl rfl rfl (by decide +kernel) ⟨Nat.le_of_ble_eq_true rfl, Nat.le_of_ble_eq_true rfl⟩ hl.1 rfl rfl (Nat.le_of_ble_eq_true rfl) dX1_transfer_255 ⟨Nat.zero_le _, Nat.zero_le _⟩ ?_
                  refine tpl (fun v112 e112 => ?_)
                  refine cM_this (Wd := RWd g0 g1 g2 g3 g4 g5 g6 cA cB) (ci := 1) (q0 := 0) (n := 2) (as := [.int t, .long v112]) (rest := []) ⟨hx, hb, hml, hown, hts⟩ (c_X1_putAll l D g0 g1 g2 g3 g4 g5 g6 cA cB s107 t v112 _ hL108.1 (by simp only [List.length_append, List.length_nil, List.length_cons, pl_look, pl_put] <;> decide)) gX1_transfer_X1_putAll rfl rfl rfl (by decide +kernel) ⟨Nat.le_of_ble_eq_true rfl, Nat.le_of_ble_eq_true rfl⟩ hK hP hD hS hA rfl rfl rfl hl.1 rfl rfl (Nat.le_of_ble_eq_true rfl) dX1_transfer_258 ⟨Nat.zero_le _, Nat.zero_le _⟩ (fun H locs hP hD hS => ?_)
                  refine W.eq (g2 := F0 m 261 ls []) rfl ?_
                  obtain ⟨s113, t113⟩ : ∃ y9 : RS, r_put t v112 s107 = y9 := ⟨_, rfl⟩
                  replace hP : va_P D vwCl (RWd g0 g1 g2 g3 g4 g5 g6 cA cB s113) H := by rw [← t113]; exact hP
                  replace hD : va_D A (RWd g0 g1 g2 g3 g4 g5 g6 cA cB s113) := by rw [← t113]; exact hD
                  have hL114 : r_plan s113 ([] ++ p_look f (st.1.1 f.toNatClampNeg) ++ p_look t (st.1.1 t.toNatClampNeg) ++ p_look 16 (st.1.1 (16 : Int32).toNatClampNeg) ++ p_put 16 v86 ++ p_put 17 v91 ++ p_put 18 v96 ++ p_put 19 v100 ++ p_put f v106 ++ p_put t v112) := by clear hP hD hS; subst t74; subst t76; subst t78; subst t80; subst t87; subst t92; subst t97; subst t101; subst t107; subst t113; exact plan_put t v112 hL108 (by simp only [List.length_append, List.length_nil, List.length_cons, pl_look, pl_put] <;> decide) ht
                  refine lv_aload_n hx hb dX1_transfer_261 rfl (lv_at hl 8 rfl) ?_
                  refine lv_bipush (v := 19) hx hb dX1_transfer_262 (by decide) ?_
                  refine lv_iload hx hb dX1_transfer_264 (lv_at hl 0 rfl) ?_
                  refine lv_ldc (v := 131072) hx hb hown (hts (.constant RX1 115 131072) (by decide +kernel)) dX1_transfer_266 ?_
                  refine lv_iadd hx hb dX1_transfer_268 ?_
                  refine tpi (fun v115 e115 => ?_)
                  refine lv_iload hx hb dX1_transfer_269 (lv_at hl 1 rfl) ?_
                  refine cS_call (n := 2) (as := [.int v115, .int v83]) (rest := [.int 19, .ref g0]) ⟨hx, hb, hml, hown, hts⟩ (c_X1_wordOf l v115 v83) gX1_transfer_X1_wordOf rfl rfl rfl (by decide +kernel) ⟨Nat.le_of_ble_eq_true rfl, Nat.le_of_ble_eq_true rfl⟩ hl.1 rfl rfl (Nat.le_of_ble_eq_true rfl) dX1_transfer_271 ⟨Nat.zero_le _, Nat.zero_le _⟩ ?_
                  refine tpl (fun v116 e116 => ?_)
                  refine cM_this (Wd := RWd g0 g1 g2 g3 g4 g5 g6 cA cB) (ci := 1) (q0 := 0) (n := 2) (as := [.int 19, .long v116]) (rest := []) ⟨hx, hb, hml, hown, hts⟩ (c_X1_putAll l D g0 g1 g2 g3 g4 g5 g6 cA cB s113 19 v116 _ hL114.1 (by simp only [List.length_append, List.length_nil, List.length_cons, pl_look, pl_put] <;> decide)) gX1_transfer_X1_putAll rfl rfl rfl (by decide +kernel) ⟨Nat.le_of_ble_eq_true rfl, Nat.le_of_ble_eq_true rfl⟩ hK hP hD hS hA rfl rfl rfl hl.1 rfl rfl (Nat.le_of_ble_eq_true rfl) dX1_transfer_274 ⟨Nat.zero_le _, Nat.zero_le _⟩ (fun H locs hP hD hS => ?_)
                  refine W.eq (g2 := F0 m 277 ls []) rfl ?_
                  obtain ⟨s117, t117⟩ : ∃ y9 : RS, r_put 19 v116 s113 = y9 := ⟨_, rfl⟩
                  replace hP : va_P D vwCl (RWd g0 g1 g2 g3 g4 g5 g6 cA cB s117) H := by rw [← t117]; exact hP
                  replace hD : va_D A (RWd g0 g1 g2 g3 g4 g5 g6 cA cB s117) := by rw [← t117]; exact hD
                  have hL118 : r_plan s117 ([] ++ p_look f (st.1.1 f.toNatClampNeg) ++ p_look t (st.1.1 t.toNatClampNeg) ++ p_look 16 (st.1.1 (16 : Int32).toNatClampNeg) ++ p_put 16 v86 ++ p_put 17 v91 ++ p_put 18 v96 ++ p_put 19 v100 ++ p_put f v106 ++ p_put t v112 ++ p_put 19 v116) := by clear hP hD hS; subst t74; subst t76; subst t78; subst t80; subst t87; subst t92; subst t97; subst t101; subst t107; subst t113; subst t117; exact plan_put 19 v116 hL114 (by simp only [List.length_append, List.length_nil, List.length_cons, pl_look, pl_put] <;> decide) in20_19
                  refine lv_aload_n hx hb dX1_transfer_277 rfl (lv_at hl 8 rfl) ?_
                  obtain ⟨L119, f119⟩ : ∃ y9 : RPl, [] ++ p_look f (st.1.1 f.toNatClampNeg) ++ p_look t (st.1.1 t.toNatClampNeg) ++ p_look 16 (st.1.1 (16 : Int32).toNatClampNeg) ++ p_put 16 v86 ++ p_put 17 v91 ++ p_put 18 v96 ++ p_put 19 v100 ++ p_put f v106 ++ p_put t v112 ++ p_put 19 v116 = y9 := ⟨_, rfl⟩
                  have hL119 : r_plan s117 L119 := by rw [← f119]; exact hL118
                  refine cM_this (Wd := RWd g0 g1 g2 g3 g4 g5 g6 cA cB) (ci := 1) (q0 := 0) (n := 0) (as := []) (rest := []) ⟨hx, hb, hml, hown, hts⟩ (c_X1_works l D g0 g1 g2 g3 g4 g5 g6 cA cB s117 L119 hL119) gX1_transfer_X1_works rfl rfl rfl (by decide +kernel) ⟨Nat.le_of_ble_eq_true rfl, Nat.le_of_ble_eq_true rfl⟩ hK hP hD hS hA rfl rfl rfl hl.1 rfl rfl (Nat.le_of_ble_eq_true rfl) dX1_transfer_278 ⟨Nat.zero_le _, Nat.zero_le _⟩ (fun H locs hP hD hS => ?_)
                  obtain ⟨s120, t120⟩ : ∃ y9 : RS, (r_wk (L119) s117).2 = y9 := ⟨_, rfl⟩
                  replace hP : va_P D vwCl (RWd g0 g1 g2 g3 g4 g5 g6 cA cB s120) H := by rw [← t120]; exact hP
                  replace hD : va_D A (RWd g0 g1 g2 g3 g4 g5 g6 cA cB s120) := by rw [← t120]; exact hD
                  refine tpi (fun v121 e121 => ?_)
                  refine lv_if_ne (tgt := 289) hx hb dX1_transfer_281 (by decide) (fun c122 => ?_) (fun c122 => ?_)
                  · refine lv_iload hx hb dX1_transfer_289 (lv_at hl 2 rfl) ?_
                    refine lv_if_eq (tgt := 298) hx hb dX1_transfer_291 (by decide) (fun c0 => absurd c0 (by decide)) (fun _ => ?_)
                    refine lv_iconst (v := 1) hx hb dX1_transfer_294 (by decide) ?_
                    refine lv_goto (tgt := 299) hx hb dX1_transfer_295 (by decide) ?_
                    have fin : r_transfer f t a st = (1, s120) := by
                      clear hP hD hS; subst e1; subst e3; subst e7; subst e8; subst e9; subst e10; subst e11; subst e12; subst e13; subst e14; subst e15; subst e16; subst e17; subst e18; subst e32; subst e46; subst e60; subst t74; subst t76; subst t78; subst t80; subst e82; subst e83; subst e84; subst e85; subst e86; subst t87; subst e89; subst e90; subst e91; subst t92; subst e94; subst e95; subst e96; subst t97; subst e99; subst e100; subst t101; subst e103; subst e104; subst e105; subst e106; subst t107; subst e109; subst e110; subst e111; subst e112; subst t113; subst e115; subst e116; subst t117; subst f119; subst t120; subst e121; simp only [r_transfer, r_trB, r_trAcc, r_trL, r_trS, r_doL, r_doS, r_end, r_zero, bI, c2, c4, c5, c6, c19, c33, c47, c61, c122, ↓reduceIte, not_true_eq_false, not_false_eq_true, and_self, and_true, true_and, and_false, false_and, eq_self, i10]
                    exact cM_reti (Wd := RWd g0 g1 g2 g3 g4 g5 g6 cA cB) (st := s120) (st' := (r_transfer f t a st).2) hx hb hr hlocks dX1_transfer_299 hS hP hD (congrArg Prod.fst fin).symm (congrArg Prod.snd fin).symm
                  · refine lv_bipush (v := (-2)) hx hb dX1_transfer_284 (by decide) ?_
                    refine lv_goto (tgt := 299) hx hb dX1_transfer_286 (by decide) ?_
                    have fin : r_transfer f t a st = ((-2), s120) := by
                      clear hP hD hS; subst e1; subst e3; subst e7; subst e8; subst e9; subst e10; subst e11; subst e12; subst e13; subst e14; subst e15; subst e16; subst e17; subst e18; subst e32; subst e46; subst e60; subst t74; subst t76; subst t78; subst t80; subst e82; subst e83; subst e84; subst e85; subst e86; subst t87; subst e89; subst e90; subst e91; subst t92; subst e94; subst e95; subst e96; subst t97; subst e99; subst e100; subst t101; subst e103; subst e104; subst e105; subst e106; subst t107; subst e109; subst e110; subst e111; subst e112; subst t113; subst e115; subst e116; subst t117; subst f119; subst t120; subst e121; simp only [r_transfer, r_trB, r_trAcc, r_trL, r_trS, r_doL, r_doS, r_end, r_zero, bI, c2, c4, c5, c6, c19, c33, c47, c61, c122, ↓reduceIte, not_true_eq_false, not_false_eq_true, and_self, and_true, true_and, and_false, false_and, eq_self, i10]
                    exact cM_reti (Wd := RWd g0 g1 g2 g3 g4 g5 g6 cA cB) (st := s120) (st' := (r_transfer f t a st).2) hx hb hr hlocks dX1_transfer_299 hS hP hD (congrArg Prod.fst fin).symm (congrArg Prod.snd fin).symm
        · refine lv_iconst (v := (-1)) hx hb dX1_transfer_23 (by decide) ?_
          have fin : r_transfer f t a st = ((-1), st) := by
            clear hP hD hS; subst e1; subst e3; simp only [r_transfer, r_trB, r_trAcc, r_trL, r_trS, r_doL, r_doS, r_end, r_zero, bI, c2, c4, c5, c6, ↓reduceIte, not_true_eq_false, not_false_eq_true, and_self, and_true, true_and, and_false, false_and, eq_self, i10]
          exact cM_reti (Wd := RWd g0 g1 g2 g3 g4 g5 g6 cA cB) (st := st) (st' := (r_transfer f t a st).2) hx hb hr hlocks dX1_transfer_24 hS hP hD (congrArg Prod.fst fin).symm (congrArg Prod.snd fin).symm
abbrev rmX1_failAfter : Room := { frames := 0, cells := 0, slots := 0, locals := 0 }
-- failAfter
set_option maxHeartbeats 400000 in
set_option maxRecDepth 100000 in
theorem c_X1_failAfter (l : Launch) (D : va_G) (g0 g1 g2 g3 g4 g5 g6 : Nat) (cA cB : ClassId) (st : RS) (n : Int32)  : cM l D vwCl (FT cA cB) (RWd g0 g1 g2 g3 g4 g5 g6 cA cB) yX1_failAfter wsX1_failAfter rmX1_failAfter [.ref g0, .int n] st (some (.int (r_failAfter n st).1)) (r_failAfter n st).2 := by
  refine cM_in (cc := cX1_failAfter) (maxL := 2) (ret := (some .boolean)) (by decide) rfl (Nat.le_of_ble_eq_true rfl) ?_
  intro p e s m below meth c ls A hx hb hr hlocks hml hown hts hA hK hP hD hS hl
  have hown : s.vm.findClass RX1 = some m.cls := hown
  have hl : lv_has ls 2 [(0, .ref g0), (1, .int n)] := hl
  -- walk
  refine lv_iload_n hx hb dX1_failAfter_0 rfl (lv_at hl 1 rfl) ?_
  refine lv_if_ge (tgt := 6) hx hb dX1_failAfter_1 (by decide) (fun c1 => ?_) (fun c1 => ?_)
  · refine lv_aload_n hx hb dX1_failAfter_6 rfl (lv_at hl 0 rfl) ?_
    refine lv_iload_n hx hb dX1_failAfter_7 rfl (lv_at hl 1 rfl) ?_
    refine va_put (D := D) (ci := 1) (v := .int n) (ty := .int) (C := RX1) (T := TX1) (N := 11) hx hb hts (by decide +kernel) tyX1 tyX1_ok nmX1 hown hK hP hD hS 0 rfl rfl 3 (by decide) (hts (.fieldLink RX1 21 "FadeLedgerModel" "left" "I") (by decide +kernel)) (fun _ h9 => h9) rfl (by decide +kernel) rfl rfl (Nat.le_of_ble_eq_true rfl) dX1_failAfter_8 (fun H locs hP hD hS => ?_)
    obtain ⟨s2, t2⟩ : ∃ y9 : RS, (((st.1.1, st.1.2.1, st.1.2.2.1, n, st.1.2.2.2.2.1, st.1.2.2.2.2.2), st.2) : RS) = y9 := ⟨_, rfl⟩
    replace hP : va_P D vwCl (RWd g0 g1 g2 g3 g4 g5 g6 cA cB s2) H := by rw [← t2]; exact hP
    replace hD : va_D A (RWd g0 g1 g2 g3 g4 g5 g6 cA cB s2) := by rw [← t2]; exact hD
    refine lv_iconst (v := 1) hx hb dX1_failAfter_11 (by decide) ?_
    have fin : r_failAfter n st = (1, s2) := by
      clear hP hD hS; subst t2; simp only [r_failAfter, c1, ↓reduceIte, not_true_eq_false, not_false_eq_true, and_self, and_true, true_and, and_false, false_and, eq_self, i10]
    exact cM_retz (Wd := RWd g0 g1 g2 g3 g4 g5 g6 cA cB) (st := s2) (st' := (r_failAfter n st).2) hx hb hr hlocks dX1_failAfter_12 hS hP hD rfl (congrArg Prod.fst fin).symm (congrArg Prod.snd fin).symm
  · refine lv_iconst (v := 0) hx hb dX1_failAfter_4 (by decide) ?_
    have fin : r_failAfter n st = (0, st) := by
      clear hP hD hS; simp only [r_failAfter, c1, ↓reduceIte, not_true_eq_false, not_false_eq_true, and_self, and_true, true_and, and_false, false_and, eq_self, i10]
    exact cM_retz (Wd := RWd g0 g1 g2 g3 g4 g5 g6 cA cB) (st := st) (st' := (r_failAfter n st).2) hx hb hr hlocks dX1_failAfter_5 hS hP hD rfl (congrArg Prod.fst fin).symm (congrArg Prod.snd fin).symm
abbrev rmX1_fail : Room := { frames := 0, cells := 0, slots := 0, locals := 0 }
-- fail
set_option maxHeartbeats 400000 in
set_option maxRecDepth 100000 in
theorem c_X1_fail (l : Launch) (D : va_G) (g0 g1 g2 g3 g4 g5 g6 : Nat) (cA cB : ClassId) (st : RS)   : cM l D vwCl (FT cA cB) (RWd g0 g1 g2 g3 g4 g5 g6 cA cB) yX1_fail wsX1_fail rmX1_fail [.ref g0] st (some (.int (r_fail st).1)) (r_fail st).2 := by
  refine cM_in (cc := cX1_fail) (maxL := 1) (ret := (some .boolean)) (by decide) rfl (Nat.le_of_ble_eq_true rfl) ?_
  intro p e s m below meth c ls A hx hb hr hlocks hml hown hts hA hK hP hD hS hl
  have hown : s.vm.findClass RX1 = some m.cls := hown
  have hl : lv_has ls 1 [(0, .ref g0)] := hl
  -- walk
  refine lv_aload_n hx hb dX1_fail_0 rfl (lv_at hl 0 rfl) ?_
  refine va_get (D := D) (ci := 1) (v := .int st.1.2.2.1) (C := RX1) (T := TX1) (N := 11) hx hb hts (by decide +kernel) hown hK hP 0 rfl rfl 2 (by decide) (hts (.fieldLink RX1 17 "FadeLedgerModel" "power" "Z") (by decide +kernel)) (fun _ h9 => h9) rfl dX1_fail_1 ?_
  refine tpi (fun v1 e1 => ?_)
  refine lv_if_ne (tgt := 9) hx hb dX1_fail_4 (by decide) (fun c2 => ?_) (fun c2 => ?_)
  · refine lv_aload_n hx hb dX1_fail_9 rfl (lv_at hl 0 rfl) ?_
    refine lv_iconst (v := 0) hx hb dX1_fail_10 (by decide) ?_
    refine va_put (D := D) (ci := 1) (v := .int 0) (ty := .boolean) (C := RX1) (T := TX1) (N := 11) hx hb hts (by decide +kernel) tyX1 tyX1_ok nmX1 hown hK hP hD hS 0 rfl rfl 2 (by decide) (hts (.fieldLink RX1 17 "FadeLedgerModel" "power" "Z") (by decide +kernel)) (fun _ h9 => h9) rfl (by decide +kernel) rfl rfl (Nat.le_of_ble_eq_true rfl) dX1_fail_11 (fun H locs hP hD hS => ?_)
    obtain ⟨s3, t3⟩ : ∃ y9 : RS, (((st.1.1, st.1.2.1, 0, st.1.2.2.2.1, st.1.2.2.2.2.1, st.1.2.2.2.2.2), st.2) : RS) = y9 := ⟨_, rfl⟩
    replace hP : va_P D vwCl (RWd g0 g1 g2 g3 g4 g5 g6 cA cB s3) H := by rw [← t3]; exact hP
    replace hD : va_D A (RWd g0 g1 g2 g3 g4 g5 g6 cA cB s3) := by rw [← t3]; exact hD
    refine lv_aload_n hx hb dX1_fail_14 rfl (lv_at hl 0 rfl) ?_
    refine lv_iconst (v := (-1)) hx hb dX1_fail_15 (by decide) ?_
    refine va_put (D := D) (ci := 1) (v := .int (-1)) (ty := .int) (C := RX1) (T := TX1) (N := 11) hx hb hts (by decide +kernel) tyX1 tyX1_ok nmX1 hown hK hP hD hS 0 rfl rfl 3 (by decide) (hts (.fieldLink RX1 21 "FadeLedgerModel" "left" "I") (by decide +kernel)) (fun _ h9 => h9) rfl (by decide +kernel) rfl rfl (Nat.le_of_ble_eq_true rfl) dX1_fail_16 (fun H locs hP hD hS => ?_)
    obtain ⟨s4, t4⟩ : ∃ y9 : RS, (((s3.1.1, s3.1.2.1, s3.1.2.2.1, (-1), s3.1.2.2.2.2.1, s3.1.2.2.2.2.2), s3.2) : RS) = y9 := ⟨_, rfl⟩
    replace hP : va_P D vwCl (RWd g0 g1 g2 g3 g4 g5 g6 cA cB s4) H := by rw [← t4]; exact hP
    replace hD : va_D A (RWd g0 g1 g2 g3 g4 g5 g6 cA cB s4) := by rw [← t4]; exact hD
    refine lv_iconst (v := 1) hx hb dX1_fail_19 (by decide) ?_
    have fin : r_fail st = (1, s4) := by
      clear hP hD hS; subst e1; subst t3; subst t4; simp only [r_fail, c2, ↓reduceIte, not_true_eq_false, not_false_eq_true, and_self, and_true, true_and, and_false, false_and, eq_self, i10]
    exact cM_retz (Wd := RWd g0 g1 g2 g3 g4 g5 g6 cA cB) (st := s4) (st' := (r_fail st).2) hx hb hr hlocks dX1_fail_20 hS hP hD rfl (congrArg Prod.fst fin).symm (congrArg Prod.snd fin).symm
  · refine lv_iconst (v := 0) hx hb dX1_fail_7 (by decide) ?_
    have fin : r_fail st = (0, st) := by
      clear hP hD hS; subst e1; simp only [r_fail, c2, ↓reduceIte, not_true_eq_false, not_false_eq_true, and_self, and_true, true_and, and_false, false_and, eq_self, i10]
    exact cM_retz (Wd := RWd g0 g1 g2 g3 g4 g5 g6 cA cB) (st := st) (st' := (r_fail st).2) hx hb hr hlocks dX1_fail_8 hS hP hD rfl (congrArg Prod.fst fin).symm (congrArg Prod.snd fin).symm
abbrev rmX1_on : Room := { frames := 0, cells := 0, slots := 0, locals := 0 }
-- on
set_option maxHeartbeats 400000 in
set_option maxRecDepth 100000 in
theorem c_X1_on (l : Launch) (D : va_G) (g0 g1 g2 g3 g4 g5 g6 : Nat) (cA cB : ClassId) (st : RS)  (ho : st.1.2.2.1 = 0 ∨ st.1.2.2.1 = 1) : cM l D vwCl (FT cA cB) (RWd g0 g1 g2 g3 g4 g5 g6 cA cB) yX1_on wsX1_on rmX1_on [.ref g0] st (some (.int (r_on st))) st := by
  refine cM_in (cc := cX1_on) (maxL := 1) (ret := (some .boolean)) (by decide) rfl (Nat.le_of_ble_eq_true rfl) ?_
  intro p e s m below meth c ls A hx hb hr hlocks hml hown hts hA hK hP hD hS hl
  have hown : s.vm.findClass RX1 = some m.cls := hown
  have hl : lv_has ls 1 [(0, .ref g0)] := hl
  -- walk
  refine lv_aload_n hx hb dX1_on_0 rfl (lv_at hl 0 rfl) ?_
  refine va_get (D := D) (ci := 1) (v := .int st.1.2.2.1) (C := RX1) (T := TX1) (N := 11) hx hb hts (by decide +kernel) hown hK hP 0 rfl rfl 2 (by decide) (hts (.fieldLink RX1 17 "FadeLedgerModel" "power" "Z") (by decide +kernel)) (fun _ h9 => h9) rfl dX1_on_1 ?_
  refine tpi (fun v1 e1 => ?_)
  have fin : (r_on st, st) = (v1, st) := by
    clear hP hD hS; subst e1; simp only [r_on]
  exact cM_retz (Wd := RWd g0 g1 g2 g3 g4 g5 g6 cA cB) (st := st) (st' := st) hx hb hr hlocks dX1_on_4 hS hP hD (by subst e1; exact on_nar ho) (congrArg Prod.fst fin).symm (congrArg Prod.snd fin).symm
abbrev rmX1_lost : Room := { frames := 0, cells := 0, slots := 0, locals := 0 }
-- lost
set_option maxHeartbeats 400000 in
set_option maxRecDepth 100000 in
theorem c_X1_lost (l : Launch) (D : va_G) (g0 g1 g2 g3 g4 g5 g6 : Nat) (cA cB : ClassId) (st : RS) (a : Int32)  : cM l D vwCl (FT cA cB) (RWd g0 g1 g2 g3 g4 g5 g6 cA cB) yX1_lost wsX1_lost rmX1_lost [.ref g0, .int a] st (some (.int (r_lost a st))) st := by
  refine cM_in (cc := cX1_lost) (maxL := 2) (ret := (some .int)) (by decide) rfl (Nat.le_of_ble_eq_true rfl) ?_
  intro p e s m below meth c ls A hx hb hr hlocks hml hown hts hA hK hP hD hS hl
  have hown : s.vm.findClass RX1 = some m.cls := hown
  have hl : lv_has ls 2 [(0, .ref g0), (1, .int a)] := hl
  -- walk
  refine lv_iload_n hx hb dX1_lost_0 rfl (lv_at hl 1 rfl) ?_
  refine lv_if_lt (tgt := 19) hx hb dX1_lost_1 (by decide) (fun c1 => ?_) (fun c1 => ?_)
  · refine lv_iconst (v := 0) hx hb dX1_lost_19 (by decide) ?_
    have fin : (r_lost a st, st) = (0, st) := by
      clear hP hD hS; simp only [r_lost, c1, ↓reduceIte, not_true_eq_false, not_false_eq_true, and_self, and_true, true_and, and_false, false_and, eq_self, i10]
    exact cM_reti (Wd := RWd g0 g1 g2 g3 g4 g5 g6 cA cB) (st := st) (st' := st) hx hb hr hlocks dX1_lost_20 hS hP hD (congrArg Prod.fst fin).symm (congrArg Prod.snd fin).symm
  · refine lv_iload_n hx hb dX1_lost_4 rfl (lv_at hl 1 rfl) ?_
    refine lv_bipush (v := 20) hx hb dX1_lost_5 (by decide) ?_
    refine lv_icmp_ge (tgt := 19) hx hb dX1_lost_7 (by decide) (fun c2 => ?_) (fun c2 => ?_)
    · refine lv_iconst (v := 0) hx hb dX1_lost_19 (by decide) ?_
      have fin : (r_lost a st, st) = (0, st) := by
        clear hP hD hS; simp only [r_lost, c1, c2, ↓reduceIte, not_true_eq_false, not_false_eq_true, and_self, and_true, true_and, and_false, false_and, eq_self, i10]
      exact cM_reti (Wd := RWd g0 g1 g2 g3 g4 g5 g6 cA cB) (st := st) (st' := st) hx hb hr hlocks dX1_lost_20 hS hP hD (congrArg Prod.fst fin).symm (congrArg Prod.snd fin).symm
    · refine lv_aload_n hx hb dX1_lost_10 rfl (lv_at hl 0 rfl) ?_
      refine va_get (D := D) (ci := 1) (v := .ref g2) (C := RX1) (T := TX1) (N := 11) hx hb hts (by decide +kernel) hown hK hP 0 rfl rfl 1 (by decide) (hts (.fieldLink RX1 13 "FadeLedgerModel" "losses" "[I") (by decide +kernel)) (fun _ h9 => h9) rfl dX1_lost_11 ?_
      refine lv_iload_n hx hb dX1_lost_14 rfl (lv_at hl 1 rfl) ?_
      refine va_iald hx hb hK hP 2 1 rfl rfl (in_of (n := 20) rfl c1 c2) dX1_lost_15 ?_
      refine tpi (fun v3 e3 => ?_)
      refine lv_goto (tgt := 20) hx hb dX1_lost_16 (by decide) ?_
      have fin : (r_lost a st, st) = (v3, st) := by
        clear hP hD hS; subst e3; simp only [r_lost, c1, c2, ↓reduceIte, not_true_eq_false, not_false_eq_true, and_self, and_true, true_and, and_false, false_and, eq_self, i10]
      exact cM_reti (Wd := RWd g0 g1 g2 g3 g4 g5 g6 cA cB) (st := st) (st' := st) hx hb hr hlocks dX1_lost_20 hS hP hD (congrArg Prod.fst fin).symm (congrArg Prod.snd fin).symm
abbrev rmX1_word : Room := { frames := 0, cells := 0, slots := 0, locals := 0 }
-- word
set_option maxHeartbeats 400000 in
set_option maxRecDepth 100000 in
theorem c_X1_word (l : Launch) (D : va_G) (g0 g1 g2 g3 g4 g5 g6 : Nat) (cA cB : ClassId) (st : RS) (i : Int32) (j : Int32)  : cM l D vwCl (FT cA cB) (RWd g0 g1 g2 g3 g4 g5 g6 cA cB) yX1_word wsX1_word rmX1_word [.ref g0, .int i, .int j] st (some (.long (r_word i j st))) st := by
  refine cM_in (cc := cX1_word) (maxL := 3) (ret := (some .long)) (by decide) rfl (Nat.le_of_ble_eq_true rfl) ?_
  intro p e s m below meth c ls A hx hb hr hlocks hml hown hts hA hK hP hD hS hl
  have hown : s.vm.findClass RX1 = some m.cls := hown
  have hl : lv_has ls 3 [(0, .ref g0), (1, .int i), (2, .int j)] := hl
  -- walk
  refine lv_iload_n hx hb dX1_word_0 rfl (lv_at hl 1 rfl) ?_
  refine lv_if_lt (tgt := 33) hx hb dX1_word_1 (by decide) (fun c1 => ?_) (fun c1 => ?_)
  · refine lv_lconst (v := 0) hx hb dX1_word_33 (by decide) ?_
    have fin : (r_word i j st, st) = (0, st) := by
      clear hP hD hS; simp only [r_word, r_place, c1, ↓reduceIte, not_true_eq_false, not_false_eq_true, and_self, and_true, true_and, and_false, false_and, eq_self, i10]
    exact cM_retl (Wd := RWd g0 g1 g2 g3 g4 g5 g6 cA cB) (st := st) (st' := st) hx hb hr hlocks dX1_word_34 hS hP hD (congrArg Prod.fst fin).symm (congrArg Prod.snd fin).symm
  · refine lv_iload_n hx hb dX1_word_4 rfl (lv_at hl 1 rfl) ?_
    refine lv_iconst (v := 4) hx hb dX1_word_5 (by decide) ?_
    refine lv_icmp_ge (tgt := 33) hx hb dX1_word_6 (by decide) (fun c2 => ?_) (fun c2 => ?_)
    · refine lv_lconst (v := 0) hx hb dX1_word_33 (by decide) ?_
      have fin : (r_word i j st, st) = (0, st) := by
        clear hP hD hS; simp only [r_word, r_place, c1, c2, ↓reduceIte, not_true_eq_false, not_false_eq_true, and_self, and_true, true_and, and_false, false_and, eq_self, i10]
      exact cM_retl (Wd := RWd g0 g1 g2 g3 g4 g5 g6 cA cB) (st := st) (st' := st) hx hb hr hlocks dX1_word_34 hS hP hD (congrArg Prod.fst fin).symm (congrArg Prod.snd fin).symm
    · refine lv_iload_n hx hb dX1_word_9 rfl (lv_at hl 2 rfl) ?_
      refine lv_if_lt (tgt := 33) hx hb dX1_word_10 (by decide) (fun c3 => ?_) (fun c3 => ?_)
      · refine lv_lconst (v := 0) hx hb dX1_word_33 (by decide) ?_
        have fin : (r_word i j st, st) = (0, st) := by
          clear hP hD hS; simp only [r_word, r_place, c1, c2, c3, ↓reduceIte, not_true_eq_false, not_false_eq_true, and_self, and_true, true_and, and_false, false_and, eq_self, i10]
        exact cM_retl (Wd := RWd g0 g1 g2 g3 g4 g5 g6 cA cB) (st := st) (st' := st) hx hb hr hlocks dX1_word_34 hS hP hD (congrArg Prod.fst fin).symm (congrArg Prod.snd fin).symm
      · refine lv_iload_n hx hb dX1_word_13 rfl (lv_at hl 2 rfl) ?_
        refine lv_bipush (v := 20) hx hb dX1_word_14 (by decide) ?_
        refine lv_icmp_ge (tgt := 33) hx hb dX1_word_16 (by decide) (fun c4 => ?_) (fun c4 => ?_)
        · refine lv_lconst (v := 0) hx hb dX1_word_33 (by decide) ?_
          have fin : (r_word i j st, st) = (0, st) := by
            clear hP hD hS; simp only [r_word, r_place, c1, c2, c3, c4, ↓reduceIte, not_true_eq_false, not_false_eq_true, and_self, and_true, true_and, and_false, false_and, eq_self, i10]
          exact cM_retl (Wd := RWd g0 g1 g2 g3 g4 g5 g6 cA cB) (st := st) (st' := st) hx hb hr hlocks dX1_word_34 hS hP hD (congrArg Prod.fst fin).symm (congrArg Prod.snd fin).symm
        · refine lv_aload_n hx hb dX1_word_19 rfl (lv_at hl 0 rfl) ?_
          refine va_get (D := D) (ci := 1) (v := .ref g1) (C := RX1) (T := TX1) (N := 11) hx hb hts (by decide +kernel) hown hK hP 0 rfl rfl 0 (by decide) (hts (.fieldLink RX1 7 "FadeLedgerModel" "words" "[J") (by decide +kernel)) (fun _ h9 => h9) rfl dX1_word_20 ?_
          refine lv_bipush (v := 20) hx hb dX1_word_23 (by decide) ?_
          refine lv_iload_n hx hb dX1_word_25 rfl (lv_at hl 1 rfl) ?_
          refine lv_imul hx hb dX1_word_26 ?_
          refine tpi (fun v5 e5 => ?_)
          refine lv_iload_n hx hb dX1_word_27 rfl (lv_at hl 2 rfl) ?_
          refine lv_iadd hx hb dX1_word_28 ?_
          refine tpi (fun v6 e6 => ?_)
          refine va_lald hx hb hK hP 1 0 rfl rfl (by subst e5; subst e6; exact place_in (in_of (n := 4) rfl c1 c2) (in_of (n := 20) rfl c3 c4)) dX1_word_29 ?_
          refine tpl (fun v7 e7 => ?_)
          refine lv_goto (tgt := 34) hx hb dX1_word_30 (by decide) ?_
          have fin : (r_word i j st, st) = (v7, st) := by
            clear hP hD hS; subst e5; subst e6; subst e7; simp only [r_word, r_place, c1, c2, c3, c4, ↓reduceIte, not_true_eq_false, not_false_eq_true, and_self, and_true, true_and, and_false, false_and, eq_self, i10]
          exact cM_retl (Wd := RWd g0 g1 g2 g3 g4 g5 g6 cA cB) (st := st) (st' := st) hx hb hr hlocks dX1_word_34 hS hP hD (congrArg Prod.fst fin).symm (congrArg Prod.snd fin).symm
abbrev rmX1_done : Room := { frames := 0, cells := 0, slots := 0, locals := 0 }
-- done
set_option maxHeartbeats 400000 in
set_option maxRecDepth 100000 in
theorem c_X1_done (l : Launch) (D : va_G) (g0 g1 g2 g3 g4 g5 g6 : Nat) (cA cB : ClassId) (st : RS) (a : Int32)  : cM l D vwCl (FT cA cB) (RWd g0 g1 g2 g3 g4 g5 g6 cA cB) yX1_done wsX1_done rmX1_done [.ref g0, .int a] st (some (.int (r_done a st))) st := by
  refine cM_in (cc := cX1_done) (maxL := 2) (ret := (some .int)) (by decide) rfl (Nat.le_of_ble_eq_true rfl) ?_
  intro p e s m below meth c ls A hx hb hr hlocks hml hown hts hA hK hP hD hS hl
  have hown : s.vm.findClass RX1 = some m.cls := hown
  have hl : lv_has ls 2 [(0, .ref g0), (1, .int a)] := hl
  -- walk
  refine lv_iload_n hx hb dX1_done_0 rfl (lv_at hl 1 rfl) ?_
  refine lv_if_ne (tgt := 11) hx hb dX1_done_1 (by decide) (fun c1 => ?_) (fun c1 => ?_)
  · refine lv_iload_n hx hb dX1_done_11 rfl (lv_at hl 1 rfl) ?_
    refine lv_iconst (v := 1) hx hb dX1_done_12 (by decide) ?_
    refine lv_icmp_ne (tgt := 23) hx hb dX1_done_13 (by decide) (fun c2 => ?_) (fun c2 => ?_)
    · refine lv_iconst (v := (-1)) hx hb dX1_done_23 (by decide) ?_
      have fin : (r_done a st, st) = ((-1), st) := by
        clear hP hD hS; simp only [r_done, c1, c2, ↓reduceIte, not_true_eq_false, not_false_eq_true, and_self, and_true, true_and, and_false, false_and, eq_self, i10]
      exact cM_reti (Wd := RWd g0 g1 g2 g3 g4 g5 g6 cA cB) (st := st) (st' := st) hx hb hr hlocks dX1_done_24 hS hP hD (congrArg Prod.fst fin).symm (congrArg Prod.snd fin).symm
    · refine lv_aload_n hx hb dX1_done_16 rfl (lv_at hl 0 rfl) ?_
      refine va_get (D := D) (ci := 1) (v := .int st.1.2.2.2.2.2) (C := RX1) (T := TX1) (N := 11) hx hb hts (by decide +kernel) hown hK hP 0 rfl rfl 5 (by decide) (hts (.fieldLink RX1 73 "FadeLedgerModel" "writes" "I") (by decide +kernel)) (fun _ h9 => h9) rfl dX1_done_17 ?_
      refine tpi (fun v3 e3 => ?_)
      refine lv_goto (tgt := 24) hx hb dX1_done_20 (by decide) ?_
      have fin : (r_done a st, st) = (v3, st) := by
        clear hP hD hS; subst e3; simp only [r_done, c1, c2, ↓reduceIte, not_true_eq_false, not_false_eq_true, and_self, and_true, true_and, and_false, false_and, eq_self, i10]
      exact cM_reti (Wd := RWd g0 g1 g2 g3 g4 g5 g6 cA cB) (st := st) (st' := st) hx hb hr hlocks dX1_done_24 hS hP hD (congrArg Prod.fst fin).symm (congrArg Prod.snd fin).symm
  · refine lv_aload_n hx hb dX1_done_4 rfl (lv_at hl 0 rfl) ?_
    refine va_get (D := D) (ci := 1) (v := .int st.1.2.2.2.2.1) (C := RX1) (T := TX1) (N := 11) hx hb hts (by decide +kernel) hown hK hP 0 rfl rfl 4 (by decide) (hts (.fieldLink RX1 70 "FadeLedgerModel" "reads" "I") (by decide +kernel)) (fun _ h9 => h9) rfl dX1_done_5 ?_
    refine tpi (fun v4 e4 => ?_)
    refine lv_goto (tgt := 24) hx hb dX1_done_8 (by decide) ?_
    have fin : (r_done a st, st) = (v4, st) := by
      clear hP hD hS; subst e4; simp only [r_done, c1, ↓reduceIte, not_true_eq_false, not_false_eq_true, and_self, and_true, true_and, and_false, false_and, eq_self, i10]
    exact cM_reti (Wd := RWd g0 g1 g2 g3 g4 g5 g6 cA cB) (st := st) (st' := st) hx hb hr hlocks dX1_done_24 hS hP hD (congrArg Prod.fst fin).symm (congrArg Prod.snd fin).symm
