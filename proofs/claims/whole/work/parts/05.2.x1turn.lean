abbrev rmX1_turn : Room := { frames := 0, cells := 0, slots := 0, locals := 0 }
-- turn
set_option maxHeartbeats 400000 in
set_option maxRecDepth 100000 in
theorem c_X1_turn (l : Launch) (D : va_G) (g0 g1 g2 g3 g4 g5 g6 : Nat) (cA cB : ClassId) (st : RS) (a : Int32) (b : Int32) (d : Int32) (v : Int64) (ht : vp_in st.2.2.2.2.1 256) : cM l D vwCl (FT cA cB) (RWd g0 g1 g2 g3 g4 g5 g6 cA cB) yX1_turn wsX1_turn rmX1_turn [.ref g0, .int a, .int b, .int d, .long v] st none (r_turn a b d v st) := by
  refine cM_in (cc := cX1_turn) (maxL := 6) (ret := none) (by decide) rfl (Nat.le_of_ble_eq_true rfl) ?_
  intro p e s m below meth c ls A hx hb hr hlocks hml hown hts hA hK hP hD hS hl
  have hown : s.vm.findClass RX1 = some m.cls := hown
  have hl : lv_has ls 6 [(0, .ref g0), (1, .int a), (2, .int b), (3, .int d), (4, .long v)] := hl
  -- walk
  refine lv_aload_n hx hb dX1_turn_0 rfl (lv_at hl 0 rfl) ?_
  refine va_get (D := D) (ci := 1) (v := .ref g3) (C := RX1) (T := TX1) (N := 11) hx hb hts (by decide +kernel) hown hK hP 0 rfl rfl 6 (by decide) (hts (.fieldLink RX1 25 "FadeLedgerModel" "kinds" "[I") (by decide +kernel)) (fun _ h9 => h9) rfl dX1_turn_1 ?_
  refine lv_aload_n hx hb dX1_turn_4 rfl (lv_at hl 0 rfl) ?_
  refine va_get (D := D) (ci := 1) (v := .int st.2.2.2.2.1) (C := RX1) (T := TX1) (N := 11) hx hb hts (by decide +kernel) hown hK hP 0 rfl rfl 9 (by decide) (hts (.fieldLink RX1 63 "FadeLedgerModel" "turns" "I") (by decide +kernel)) (fun _ h9 => h9) rfl dX1_turn_5 ?_
  refine tpi (fun v1 e1 => ?_)
  refine lv_iload_n hx hb dX1_turn_8 rfl (lv_at hl 1 rfl) ?_
  refine va_iast hx hb hK hP hD hS 3 1 rfl rfl (by clear hP hD hS; subst e1; exact ht) dX1_turn_9 (fun H locs hP hD hS => ?_)
  obtain ⟨s2, t2⟩ : ∃ y9 : RS, ((st.1, (upd st.2.1 v1.toNatClampNeg a), st.2.2.1, st.2.2.2.1, st.2.2.2.2.1, st.2.2.2.2.2) : RS) = y9 := ⟨_, rfl⟩
  replace hP : va_P D vwCl (RWd g0 g1 g2 g3 g4 g5 g6 cA cB s2) H := by rw [← t2]; exact hP
  replace hD : va_D A (RWd g0 g1 g2 g3 g4 g5 g6 cA cB s2) := by rw [← t2]; exact hD
  refine lv_aload_n hx hb dX1_turn_10 rfl (lv_at hl 0 rfl) ?_
  refine va_get (D := D) (ci := 1) (v := .ref g4) (C := RX1) (T := TX1) (N := 11) hx hb hts (by decide +kernel) hown hK hP 0 rfl rfl 7 (by decide) (hts (.fieldLink RX1 28 "FadeLedgerModel" "places" "[I") (by decide +kernel)) (fun _ h9 => h9) rfl dX1_turn_11 ?_
  refine lv_aload_n hx hb dX1_turn_14 rfl (lv_at hl 0 rfl) ?_
  refine va_get (D := D) (ci := 1) (v := .int s2.2.2.2.2.1) (C := RX1) (T := TX1) (N := 11) hx hb hts (by decide +kernel) hown hK hP 0 rfl rfl 9 (by decide) (hts (.fieldLink RX1 63 "FadeLedgerModel" "turns" "I") (by decide +kernel)) (fun _ h9 => h9) rfl dX1_turn_15 ?_
  refine tpi (fun v3 e3 => ?_)
  refine lv_bipush (v := 20) hx hb dX1_turn_18 (by decide) ?_
  refine lv_iload_n hx hb dX1_turn_20 rfl (lv_at hl 2 rfl) ?_
  refine lv_imul hx hb dX1_turn_21 ?_
  refine tpi (fun v4 e4 => ?_)
  refine lv_iload_n hx hb dX1_turn_22 rfl (lv_at hl 3 rfl) ?_
  refine lv_iadd hx hb dX1_turn_23 ?_
  refine tpi (fun v5 e5 => ?_)
  refine va_iast hx hb hK hP hD hS 4 1 rfl rfl (by clear hP hD hS; subst e1; subst t2; subst e3; subst e4; subst e5; exact ht) dX1_turn_24 (fun H locs hP hD hS => ?_)
  obtain ⟨s6, t6⟩ : ∃ y9 : RS, ((s2.1, s2.2.1, (upd s2.2.2.1 v3.toNatClampNeg v5), s2.2.2.2.1, s2.2.2.2.2.1, s2.2.2.2.2.2) : RS) = y9 := ⟨_, rfl⟩
  replace hP : va_P D vwCl (RWd g0 g1 g2 g3 g4 g5 g6 cA cB s6) H := by rw [← t6]; exact hP
  replace hD : va_D A (RWd g0 g1 g2 g3 g4 g5 g6 cA cB s6) := by rw [← t6]; exact hD
  refine lv_aload_n hx hb dX1_turn_25 rfl (lv_at hl 0 rfl) ?_
  refine va_get (D := D) (ci := 1) (v := .ref g5) (C := RX1) (T := TX1) (N := 11) hx hb hts (by decide +kernel) hown hK hP 0 rfl rfl 8 (by decide) (hts (.fieldLink RX1 31 "FadeLedgerModel" "puts" "[J") (by decide +kernel)) (fun _ h9 => h9) rfl dX1_turn_26 ?_
  refine lv_aload_n hx hb dX1_turn_29 rfl (lv_at hl 0 rfl) ?_
  refine va_get (D := D) (ci := 1) (v := .int s6.2.2.2.2.1) (C := RX1) (T := TX1) (N := 11) hx hb hts (by decide +kernel) hown hK hP 0 rfl rfl 9 (by decide) (hts (.fieldLink RX1 63 "FadeLedgerModel" "turns" "I") (by decide +kernel)) (fun _ h9 => h9) rfl dX1_turn_30 ?_
  refine tpi (fun v7 e7 => ?_)
  refine lv_lload hx hb dX1_turn_33 (lv_at hl 4 rfl) ?_
  refine va_last hx hb hK hP hD hS 5 0 rfl rfl (by clear hP hD hS; subst e1; subst t2; subst e3; subst e4; subst e5; subst t6; subst e7; exact ht) dX1_turn_35 (fun H locs hP hD hS => ?_)
  obtain ⟨s8, t8⟩ : ∃ y9 : RS, ((s6.1, s6.2.1, s6.2.2.1, (vp_updL s6.2.2.2.1 v7.toNatClampNeg v), s6.2.2.2.2.1, s6.2.2.2.2.2) : RS) = y9 := ⟨_, rfl⟩
  replace hP : va_P D vwCl (RWd g0 g1 g2 g3 g4 g5 g6 cA cB s8) H := by rw [← t8]; exact hP
  replace hD : va_D A (RWd g0 g1 g2 g3 g4 g5 g6 cA cB s8) := by rw [← t8]; exact hD
  refine lv_aload_n hx hb dX1_turn_36 rfl (lv_at hl 0 rfl) ?_
  refine lv_dup hx hb dX1_turn_37 rfl ?_
  refine va_get (D := D) (ci := 1) (v := .int s8.2.2.2.2.1) (C := RX1) (T := TX1) (N := 11) hx hb hts (by decide +kernel) hown hK hP 0 rfl rfl 9 (by decide) (hts (.fieldLink RX1 63 "FadeLedgerModel" "turns" "I") (by decide +kernel)) (fun _ h9 => h9) rfl dX1_turn_38 ?_
  refine tpi (fun v9 e9 => ?_)
  refine lv_iconst (v := 1) hx hb dX1_turn_41 (by decide) ?_
  refine lv_iadd hx hb dX1_turn_42 ?_
  refine tpi (fun v10 e10 => ?_)
  refine va_put (D := D) (ci := 1) (v := .int v10) (ty := .int) (C := RX1) (T := TX1) (N := 11) hx hb hts (by decide +kernel) tyX1 tyX1_ok nmX1 hown hK hP hD hS 0 rfl rfl 9 (by decide) (hts (.fieldLink RX1 63 "FadeLedgerModel" "turns" "I") (by decide +kernel)) (fun _ h9 => h9) rfl (by decide +kernel) rfl rfl (Nat.le_of_ble_eq_true rfl) dX1_turn_43 (fun H locs hP hD hS => ?_)
  obtain ⟨s11, t11⟩ : ∃ y9 : RS, ((s8.1, s8.2.1, s8.2.2.1, s8.2.2.2.1, v10, s8.2.2.2.2.2) : RS) = y9 := ⟨_, rfl⟩
  replace hP : va_P D vwCl (RWd g0 g1 g2 g3 g4 g5 g6 cA cB s11) H := by rw [← t11]; exact hP
  replace hD : va_D A (RWd g0 g1 g2 g3 g4 g5 g6 cA cB s11) := by rw [← t11]; exact hD
  have fin : (r_turn a b d v st) = s11 := by clear hP hD hS; subst e1; subst t2; subst e3; subst e4; subst e5; subst t6; subst e7; subst t8; subst e9; subst e10; subst t11; simp only [r_turn, r_place]
  exact cM_retv (Wd := RWd g0 g1 g2 g3 g4 g5 g6 cA cB) (st := s11) (st' := (r_turn a b d v st)) hx hb hr hlocks dX1_turn_46 hS hP hD fin.symm
abbrev rmX1_look : Room := { frames := 1, cells := 0, slots := 0, locals := 25 }
-- look
set_option maxHeartbeats 400000 in
set_option maxRecDepth 100000 in
theorem c_X1_look (l : Launch) (D : va_G) (g0 g1 g2 g3 g4 g5 g6 : Nat) (cA cB : ClassId) (st : RS) (a : Int32) (hc : vp_in a 20) (n : Nat) (hn : st.2.2.2.2.1 = nI n) (h : n + 2 ≤ 256) : cM l D vwCl (FT cA cB) (RWd g0 g1 g2 g3 g4 g5 g6 cA cB) yX1_look wsX1_look rmX1_look [.ref g0, .int a] st none (r_look a st) := by
  refine cM_in (cc := cX1_look) (maxL := 2) (ret := none) (by decide) rfl (Nat.le_of_ble_eq_true rfl) ?_
  intro p e s m below meth c ls A hx hb hr hlocks hml hown hts hA hK hP hD hS hl
  have hown : s.vm.findClass RX1 = some m.cls := hown
  have hl : lv_has ls 2 [(0, .ref g0), (1, .int a)] := hl
  -- walk
  refine lv_aload_n hx hb dX1_look_0 rfl (lv_at hl 0 rfl) ?_
  refine lv_iconst (v := 0) hx hb dX1_look_1 (by decide) ?_
  refine lv_iconst (v := 0) hx hb dX1_look_2 (by decide) ?_
  refine lv_iload_n hx hb dX1_look_3 rfl (lv_at hl 1 rfl) ?_
  refine lv_lconst (v := 0) hx hb dX1_look_4 (by decide) ?_
  refine cM_this (Wd := RWd g0 g1 g2 g3 g4 g5 g6 cA cB) (ci := 1) (q0 := 0) (n := 4) (as := [.int 0, .int 0, .int a, .long 0]) (rest := []) ⟨hx, hb, hml, hown, hts⟩ (c_X1_turn l D g0 g1 g2 g3 g4 g5 g6 cA cB st 0 0 a 0 (t_in hn (by omega))) gX1_look_X1_turn rfl rfl rfl (by decide +kernel) ⟨Nat.le_of_ble_eq_true rfl, Nat.le_of_ble_eq_true rfl⟩ hK hP hD hS hA rfl rfl rfl hl.1 rfl rfl (Nat.le_of_ble_eq_true rfl) dX1_look_5 ⟨Nat.zero_le _, Nat.zero_le _⟩ (fun H locs hP hD hS => ?_)
  refine W.eq (g2 := F0 m 8 ls []) rfl ?_
  obtain ⟨s1, t1⟩ : ∃ y9 : RS, r_turn 0 0 a 0 st = y9 := ⟨_, rfl⟩
  replace hP : va_P D vwCl (RWd g0 g1 g2 g3 g4 g5 g6 cA cB s1) H := by rw [← t1]; exact hP
  replace hD : va_D A (RWd g0 g1 g2 g3 g4 g5 g6 cA cB s1) := by rw [← t1]; exact hD
  refine lv_aload_n hx hb dX1_look_8 rfl (lv_at hl 0 rfl) ?_
  refine lv_iconst (v := 1) hx hb dX1_look_9 (by decide) ?_
  refine lv_iconst (v := 0) hx hb dX1_look_10 (by decide) ?_
  refine lv_iload_n hx hb dX1_look_11 rfl (lv_at hl 1 rfl) ?_
  refine lv_aload_n hx hb dX1_look_12 rfl (lv_at hl 0 rfl) ?_
  refine va_get (D := D) (ci := 1) (v := .ref g1) (C := RX1) (T := TX1) (N := 11) hx hb hts (by decide +kernel) hown hK hP 0 rfl rfl 0 (by decide) (hts (.fieldLink RX1 7 "FadeLedgerModel" "words" "[J") (by decide +kernel)) (fun _ h9 => h9) rfl dX1_look_13 ?_
  refine lv_iload_n hx hb dX1_look_16 rfl (lv_at hl 1 rfl) ?_
  refine va_lald hx hb hK hP 1 0 rfl rfl (in_up hc (by decide)) dX1_look_17 ?_
  refine tpl (fun v2 e2 => ?_)
  refine cM_this (Wd := RWd g0 g1 g2 g3 g4 g5 g6 cA cB) (ci := 1) (q0 := 0) (n := 4) (as := [.int 1, .int 0, .int a, .long v2]) (rest := []) ⟨hx, hb, hml, hown, hts⟩ (c_X1_turn l D g0 g1 g2 g3 g4 g5 g6 cA cB s1 1 0 a v2 (by rw [← t1]; exact t_in (turn_t hn) (by omega))) gX1_look_X1_turn rfl rfl rfl (by decide +kernel) ⟨Nat.le_of_ble_eq_true rfl, Nat.le_of_ble_eq_true rfl⟩ hK hP hD hS hA rfl rfl rfl hl.1 rfl rfl (Nat.le_of_ble_eq_true rfl) dX1_look_18 ⟨Nat.zero_le _, Nat.zero_le _⟩ (fun H locs hP hD hS => ?_)
  refine W.eq (g2 := F0 m 21 ls []) rfl ?_
  obtain ⟨s3, t3⟩ : ∃ y9 : RS, r_turn 1 0 a v2 s1 = y9 := ⟨_, rfl⟩
  replace hP : va_P D vwCl (RWd g0 g1 g2 g3 g4 g5 g6 cA cB s3) H := by rw [← t3]; exact hP
  replace hD : va_D A (RWd g0 g1 g2 g3 g4 g5 g6 cA cB s3) := by rw [← t3]; exact hD
  have fin : (r_look a st) = s3 := by clear hP hD hS; subst t1; subst e2; subst t3; exact rfl
  exact cM_retv (Wd := RWd g0 g1 g2 g3 g4 g5 g6 cA cB) (st := s3) (st' := (r_look a st)) hx hb hr hlocks dX1_look_21 hS hP hD fin.symm
abbrev rmX1_putAll : Room := { frames := 1, cells := 0, slots := 0, locals := 25 }
-- putAll
set_option maxHeartbeats 400000 in
set_option maxRecDepth 100000 in
theorem c_X1_putAll (l : Launch) (D : va_G) (g0 g1 g2 g3 g4 g5 g6 : Nat) (cA cB : ClassId) (st : RS) (a : Int32) (v : Int64) (n : Nat) (hn : st.2.2.2.2.1 = nI n) (h : n + 4 ≤ 256) : cM l D vwCl (FT cA cB) (RWd g0 g1 g2 g3 g4 g5 g6 cA cB) yX1_putAll wsX1_putAll rmX1_putAll [.ref g0, .int a, .long v] st none (r_put a v st) := by
  refine cM_in (cc := cX1_putAll) (maxL := 5) (ret := none) (by decide) rfl (Nat.le_of_ble_eq_true rfl) ?_
  intro p e s m below meth c ls A hx hb hr hlocks hml hown hts hA hK hP hD hS hl
  have hown : s.vm.findClass RX1 = some m.cls := hown
  have hl : lv_has ls 5 [(0, .ref g0), (1, .int a), (2, .long v)] := hl
  -- walk
  refine lv_iconst (v := 0) hx hb dX1_putAll_0 (by decide) ?_
  refine lv_istore (lv' := [(4, .int 0), (0, .ref g0), (1, .int a), (2, .long v)]) hx hb dX1_putAll_1 hl (by decide) rfl (fun ls hl => ?_)
  refine lv_iload hx hb dX1_putAll_3 (lv_at hl 0 rfl) ?_
  refine lv_iconst (v := 4) hx hb dX1_putAll_5 (by decide) ?_
  refine lv_icmp_ge (tgt := 24) hx hb dX1_putAll_6 (by decide) (fun c0 => absurd c0 (by decide)) (fun _ => ?_)
  refine lv_aload_n hx hb dX1_putAll_9 rfl (lv_at hl 1 rfl) ?_
  refine lv_iconst (v := 1) hx hb dX1_putAll_10 (by decide) ?_
  refine lv_iload hx hb dX1_putAll_11 (lv_at hl 0 rfl) ?_
  refine lv_iload_n hx hb dX1_putAll_13 rfl (lv_at hl 2 rfl) ?_
  refine lv_lload_n hx hb dX1_putAll_14 rfl (lv_at hl 3 rfl) ?_
  refine cM_this (Wd := RWd g0 g1 g2 g3 g4 g5 g6 cA cB) (ci := 1) (q0 := 0) (n := 4) (as := [.int 1, .int 0, .int a, .long v]) (rest := []) ⟨hx, hb, hml, hown, hts⟩ (c_X1_turn l D g0 g1 g2 g3 g4 g5 g6 cA cB st 1 0 a v (by clear hP hD hS; exact t_in hn (by omega))) gX1_putAll_X1_turn rfl rfl rfl (by decide +kernel) ⟨Nat.le_of_ble_eq_true rfl, Nat.le_of_ble_eq_true rfl⟩ hK hP hD hS hA rfl rfl rfl hl.1 rfl rfl (Nat.le_of_ble_eq_true rfl) dX1_putAll_15 ⟨Nat.zero_le _, Nat.zero_le _⟩ (fun H locs hP hD hS => ?_)
  refine W.eq (g2 := F0 m 18 ls []) rfl ?_
  obtain ⟨s1, t1⟩ : ∃ y9 : RS, r_turn 1 0 a v st = y9 := ⟨_, rfl⟩
  replace hP : va_P D vwCl (RWd g0 g1 g2 g3 g4 g5 g6 cA cB s1) H := by rw [← t1]; exact hP
  replace hD : va_D A (RWd g0 g1 g2 g3 g4 g5 g6 cA cB s1) := by rw [← t1]; exact hD
  refine lv_iinc (v := 1) (lv' := [(4, .int 1), (0, .ref g0), (1, .int a), (2, .long v)]) hx hb dX1_putAll_18 hl (k := 0) rfl (by decide) (by decide) rfl (fun ls hl => ?_)
  refine lv_goto (tgt := 3) hx hb dX1_putAll_21 (by decide) ?_
  refine lv_iload hx hb dX1_putAll_3 (lv_at hl 0 rfl) ?_
  refine lv_iconst (v := 4) hx hb dX1_putAll_5 (by decide) ?_
  refine lv_icmp_ge (tgt := 24) hx hb dX1_putAll_6 (by decide) (fun c0 => absurd c0 (by decide)) (fun _ => ?_)
  refine lv_aload_n hx hb dX1_putAll_9 rfl (lv_at hl 1 rfl) ?_
  refine lv_iconst (v := 1) hx hb dX1_putAll_10 (by decide) ?_
  refine lv_iload hx hb dX1_putAll_11 (lv_at hl 0 rfl) ?_
  refine lv_iload_n hx hb dX1_putAll_13 rfl (lv_at hl 2 rfl) ?_
  refine lv_lload_n hx hb dX1_putAll_14 rfl (lv_at hl 3 rfl) ?_
  refine cM_this (Wd := RWd g0 g1 g2 g3 g4 g5 g6 cA cB) (ci := 1) (q0 := 0) (n := 4) (as := [.int 1, .int 1, .int a, .long v]) (rest := []) ⟨hx, hb, hml, hown, hts⟩ (c_X1_turn l D g0 g1 g2 g3 g4 g5 g6 cA cB s1 1 1 a v (by clear hP hD hS; subst t1; exact t_in (turn_t hn) (by omega))) gX1_putAll_X1_turn rfl rfl rfl (by decide +kernel) ⟨Nat.le_of_ble_eq_true rfl, Nat.le_of_ble_eq_true rfl⟩ hK hP hD hS hA rfl rfl rfl hl.1 rfl rfl (Nat.le_of_ble_eq_true rfl) dX1_putAll_15 ⟨Nat.zero_le _, Nat.zero_le _⟩ (fun H locs hP hD hS => ?_)
  refine W.eq (g2 := F0 m 18 ls []) rfl ?_
  obtain ⟨s2, t2⟩ : ∃ y9 : RS, r_turn 1 1 a v s1 = y9 := ⟨_, rfl⟩
  replace hP : va_P D vwCl (RWd g0 g1 g2 g3 g4 g5 g6 cA cB s2) H := by rw [← t2]; exact hP
  replace hD : va_D A (RWd g0 g1 g2 g3 g4 g5 g6 cA cB s2) := by rw [← t2]; exact hD
  refine lv_iinc (v := 2) (lv' := [(4, .int 2), (0, .ref g0), (1, .int a), (2, .long v)]) hx hb dX1_putAll_18 hl (k := 0) rfl (by decide) (by decide) rfl (fun ls hl => ?_)
  refine lv_goto (tgt := 3) hx hb dX1_putAll_21 (by decide) ?_
  refine lv_iload hx hb dX1_putAll_3 (lv_at hl 0 rfl) ?_
  refine lv_iconst (v := 4) hx hb dX1_putAll_5 (by decide) ?_
  refine lv_icmp_ge (tgt := 24) hx hb dX1_putAll_6 (by decide) (fun c0 => absurd c0 (by decide)) (fun _ => ?_)
  refine lv_aload_n hx hb dX1_putAll_9 rfl (lv_at hl 1 rfl) ?_
  refine lv_iconst (v := 1) hx hb dX1_putAll_10 (by decide) ?_
  refine lv_iload hx hb dX1_putAll_11 (lv_at hl 0 rfl) ?_
  refine lv_iload_n hx hb dX1_putAll_13 rfl (lv_at hl 2 rfl) ?_
  refine lv_lload_n hx hb dX1_putAll_14 rfl (lv_at hl 3 rfl) ?_
  refine cM_this (Wd := RWd g0 g1 g2 g3 g4 g5 g6 cA cB) (ci := 1) (q0 := 0) (n := 4) (as := [.int 1, .int 2, .int a, .long v]) (rest := []) ⟨hx, hb, hml, hown, hts⟩ (c_X1_turn l D g0 g1 g2 g3 g4 g5 g6 cA cB s2 1 2 a v (by clear hP hD hS; subst t1; subst t2; exact t_in (turn_t (turn_t hn)) (by omega))) gX1_putAll_X1_turn rfl rfl rfl (by decide +kernel) ⟨Nat.le_of_ble_eq_true rfl, Nat.le_of_ble_eq_true rfl⟩ hK hP hD hS hA rfl rfl rfl hl.1 rfl rfl (Nat.le_of_ble_eq_true rfl) dX1_putAll_15 ⟨Nat.zero_le _, Nat.zero_le _⟩ (fun H locs hP hD hS => ?_)
  refine W.eq (g2 := F0 m 18 ls []) rfl ?_
  obtain ⟨s3, t3⟩ : ∃ y9 : RS, r_turn 1 2 a v s2 = y9 := ⟨_, rfl⟩
  replace hP : va_P D vwCl (RWd g0 g1 g2 g3 g4 g5 g6 cA cB s3) H := by rw [← t3]; exact hP
  replace hD : va_D A (RWd g0 g1 g2 g3 g4 g5 g6 cA cB s3) := by rw [← t3]; exact hD
  refine lv_iinc (v := 3) (lv' := [(4, .int 3), (0, .ref g0), (1, .int a), (2, .long v)]) hx hb dX1_putAll_18 hl (k := 0) rfl (by decide) (by decide) rfl (fun ls hl => ?_)
  refine lv_goto (tgt := 3) hx hb dX1_putAll_21 (by decide) ?_
  refine lv_iload hx hb dX1_putAll_3 (lv_at hl 0 rfl) ?_
  refine lv_iconst (v := 4) hx hb dX1_putAll_5 (by decide) ?_
  refine lv_icmp_ge (tgt := 24) hx hb dX1_putAll_6 (by decide) (fun c0 => absurd c0 (by decide)) (fun _ => ?_)
  refine lv_aload_n hx hb dX1_putAll_9 rfl (lv_at hl 1 rfl) ?_
  refine lv_iconst (v := 1) hx hb dX1_putAll_10 (by decide) ?_
  refine lv_iload hx hb dX1_putAll_11 (lv_at hl 0 rfl) ?_
  refine lv_iload_n hx hb dX1_putAll_13 rfl (lv_at hl 2 rfl) ?_
  refine lv_lload_n hx hb dX1_putAll_14 rfl (lv_at hl 3 rfl) ?_
  refine cM_this (Wd := RWd g0 g1 g2 g3 g4 g5 g6 cA cB) (ci := 1) (q0 := 0) (n := 4) (as := [.int 1, .int 3, .int a, .long v]) (rest := []) ⟨hx, hb, hml, hown, hts⟩ (c_X1_turn l D g0 g1 g2 g3 g4 g5 g6 cA cB s3 1 3 a v (by clear hP hD hS; subst t1; subst t2; subst t3; exact t_in (turn_t (turn_t (turn_t hn))) (by omega))) gX1_putAll_X1_turn rfl rfl rfl (by decide +kernel) ⟨Nat.le_of_ble_eq_true rfl, Nat.le_of_ble_eq_true rfl⟩ hK hP hD hS hA rfl rfl rfl hl.1 rfl rfl (Nat.le_of_ble_eq_true rfl) dX1_putAll_15 ⟨Nat.zero_le _, Nat.zero_le _⟩ (fun H locs hP hD hS => ?_)
  refine W.eq (g2 := F0 m 18 ls []) rfl ?_
  obtain ⟨s4, t4⟩ : ∃ y9 : RS, r_turn 1 3 a v s3 = y9 := ⟨_, rfl⟩
  replace hP : va_P D vwCl (RWd g0 g1 g2 g3 g4 g5 g6 cA cB s4) H := by rw [← t4]; exact hP
  replace hD : va_D A (RWd g0 g1 g2 g3 g4 g5 g6 cA cB s4) := by rw [← t4]; exact hD
  refine lv_iinc (v := 4) (lv' := [(4, .int 4), (0, .ref g0), (1, .int a), (2, .long v)]) hx hb dX1_putAll_18 hl (k := 0) rfl (by decide) (by decide) rfl (fun ls hl => ?_)
  refine lv_goto (tgt := 3) hx hb dX1_putAll_21 (by decide) ?_
  refine lv_iload hx hb dX1_putAll_3 (lv_at hl 0 rfl) ?_
  refine lv_iconst (v := 4) hx hb dX1_putAll_5 (by decide) ?_
  refine lv_icmp_ge (tgt := 24) hx hb dX1_putAll_6 (by decide) (fun _ => ?_) (fun c0 => absurd c0 (by decide))
  have fin : (r_put a v st) = s4 := by clear hP hD hS; subst t1; subst t2; subst t3; subst t4; simp only [r_put]
  exact cM_retv (Wd := RWd g0 g1 g2 g3 g4 g5 g6 cA cB) (st := s4) (st' := (r_put a v st)) hx hb hr hlocks dX1_putAll_24 hS hP hD fin.symm
