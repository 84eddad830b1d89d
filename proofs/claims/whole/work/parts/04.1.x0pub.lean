abbrev rmX0_open : Room := { frames := 4, cells := 0, slots := 0, locals := 88 }
-- open
set_option maxHeartbeats 400000 in
set_option maxRecDepth 100000 in
theorem c_X0_open (l : Launch) (D : va_G) (h0 h1 h2 : Nat) (cA cB : ClassId) (st : FS) (a : Int32) (b : Int32)  : cM l D vwCl (FT cA cB) (FWd h0 h1 h2 cA cB) yX0_open wsX0_open rmX0_open [.ref h0, .int a, .int b] st (some (.int (f_open a b st).1)) (f_open a b st).2 := by
  refine cM_in (cc := cX0_open) (maxL := 6) (ret := (some .int)) (by decide) rfl (Nat.le_of_ble_eq_true rfl) ?_
  intro p e s m below meth c ls A hx hb hr hlocks hml hown hts hA hK hP hD hS hl
  have hown : s.vm.findClass RX0 = some m.cls := hown
  have hl : lv_has ls 6 [(0, .ref h0), (1, .int a), (2, .int b)] := hl
  -- walk
  refine lv_iload_n hx hb dX0_open_0 rfl (lv_at hl 1 rfl) ?_
  refine cS_call (n := 1) (as := [.int a]) (rest := []) ⟨hx, hb, hml, hown, hts⟩ (c_X0_isAccount l a) gX0_open_X0_isAccount rfl rfl rfl (by decide +kernel) ⟨Nat.le_of_ble_eq_true rfl, Nat.le_of_ble_eq_true rfl⟩ hl.1 rfl rfl (Nat.le_of_ble_eq_true rfl) dX0_open_1 ⟨Nat.zero_le _, Nat.zero_le _⟩ ?_
  refine tpi (fun v1 e1 => ?_)
  refine lv_if_ne (tgt := 9) hx hb dX0_open_4 (by decide) (fun c2 => ?_) (fun c2 => ?_)
  · have hc : vp_in a 20 := acct_in20 (by rw [e1]; exact c2)
    refine lv_aload_n hx hb dX0_open_9 rfl (lv_at hl 0 rfl) ?_
    refine lv_iconst (v := 0) hx hb dX0_open_10 (by decide) ?_
    refine lv_iload_n hx hb dX0_open_11 rfl (lv_at hl 1 rfl) ?_
    refine cM_this (Wd := FWd h0 h1 h2 cA cB) (ci := 0) (q0 := 0) (n := 2) (as := [.int 0, .int a]) (rest := []) ⟨hx, hb, hml, hown, hts⟩ (c_X0_readTurn l D h0 h1 h2 cA cB st 0 a in4_0 hc) gX0_open_X0_readTurn rfl rfl rfl (by decide +kernel) ⟨Nat.le_of_ble_eq_true rfl, Nat.le_of_ble_eq_true rfl⟩ hK hP hD hS hA rfl rfl rfl hl.1 rfl rfl (Nat.le_of_ble_eq_true rfl) dX0_open_12 ⟨Nat.zero_le _, Nat.zero_le _⟩ (fun H locs hP hD hS => ?_)
    obtain ⟨s3, t3⟩ : ∃ y9 : FS, (f_read 0 a st).2 = y9 := ⟨_, rfl⟩
    replace hP : va_P D vwCl (FWd h0 h1 h2 cA cB s3) H := by rw [← t3]; exact hP
    replace hD : va_D A (FWd h0 h1 h2 cA cB s3) := by rw [← t3]; exact hD
    refine tpl (fun v4 e4 => ?_)
    refine lv_lstore_n (lv' := [(3, .long v4), (0, .ref h0), (1, .int a), (2, .int b)]) hx hb dX0_open_15 rfl hl (by decide) rfl (fun ls hl => ?_)
    refine lv_lload_n hx hb dX0_open_16 rfl (lv_at hl 0 rfl) ?_
    refine cS_call (n := 1) (as := [.long v4]) (rest := []) ⟨hx, hb, hml, hown, hts⟩ (c_X0_isUnopened l v4) gX0_open_X0_isUnopened rfl rfl rfl (by decide +kernel) ⟨Nat.le_of_ble_eq_true rfl, Nat.le_of_ble_eq_true rfl⟩ hl.1 rfl rfl (Nat.le_of_ble_eq_true rfl) dX0_open_17 ⟨Nat.zero_le _, Nat.zero_le _⟩ ?_
    refine tpi (fun v5 e5 => ?_)
    refine lv_istore (lv' := [(5, .int v5), (3, .long v4), (0, .ref h0), (1, .int a), (2, .int b)]) hx hb dX0_open_20 hl (by decide) rfl (fun ls hl => ?_)
    refine lv_iload hx hb dX0_open_22 (lv_at hl 0 rfl) ?_
    refine lv_if_eq (tgt := 40) hx hb dX0_open_24 (by decide) (fun c6 => ?_) (fun c6 => ?_)
    · refine lv_aload_n hx hb dX0_open_40 rfl (lv_at hl 2 rfl) ?_
      refine lv_iconst (v := 0) hx hb dX0_open_41 (by decide) ?_
      refine lv_iload_n hx hb dX0_open_42 rfl (lv_at hl 3 rfl) ?_
      refine lv_lload_n hx hb dX0_open_43 rfl (lv_at hl 1 rfl) ?_
      refine cM_this (Wd := FWd h0 h1 h2 cA cB) (ci := 0) (q0 := 0) (n := 3) (as := [.int 0, .int a, .long v4]) (rest := []) ⟨hx, hb, hml, hown, hts⟩ (c_X0_writeTurn l D h0 h1 h2 cA cB s3 0 a v4 in4_0 hc) gX0_open_X0_writeTurn rfl rfl rfl (by decide +kernel) ⟨Nat.le_of_ble_eq_true rfl, Nat.le_of_ble_eq_true rfl⟩ hK hP hD hS hA rfl rfl rfl hl.1 rfl rfl (Nat.le_of_ble_eq_true rfl) dX0_open_44 ⟨Nat.zero_le _, Nat.zero_le _⟩ (fun H locs hP hD hS => ?_)
      refine W.eq (g2 := F0 m 47 ls []) rfl ?_
      obtain ⟨s7, t7⟩ : ∃ y9 : FS, f_write 0 a v4 s3 = y9 := ⟨_, rfl⟩
      replace hP : va_P D vwCl (FWd h0 h1 h2 cA cB s7) H := by rw [← t7]; exact hP
      replace hD : va_D A (FWd h0 h1 h2 cA cB s7) := by rw [← t7]; exact hD
      refine lv_aload_n hx hb dX0_open_47 rfl (lv_at hl 2 rfl) ?_
      refine lv_iload hx hb dX0_open_48 (lv_at hl 0 rfl) ?_
      refine cM_this (Wd := FWd h0 h1 h2 cA cB) (ci := 0) (q0 := 0) (n := 1) (as := [.int v5]) (rest := []) ⟨hx, hb, hml, hown, hts⟩ (c_X0_answerOf l D h0 h1 h2 cA cB s7 v5) gX0_open_X0_answerOf rfl rfl rfl (by decide +kernel) ⟨Nat.le_of_ble_eq_true rfl, Nat.le_of_ble_eq_true rfl⟩ hK hP hD hS hA rfl rfl rfl hl.1 rfl rfl (Nat.le_of_ble_eq_true rfl) dX0_open_50 ⟨Nat.zero_le _, Nat.zero_le _⟩ (fun H locs hP hD hS => ?_)
      refine tpi (fun v8 e8 => ?_)
      have fin : f_open a b st = (v8, s7) := by
        clear hP hD hS; subst e1; subst t3; subst e4; subst e5; subst t7; subst e8; simp only [f_open, f_an2, c2, c6, ↓reduceIte, not_true_eq_false, not_false_eq_true, and_self, and_true, true_and, and_false, false_and, eq_self, i10]
      exact cM_reti (Wd := FWd h0 h1 h2 cA cB) (st := s7) (st' := (f_open a b st).2) hx hb hr hlocks dX0_open_53 hS hP hD (congrArg Prod.fst fin).symm (congrArg Prod.snd fin).symm
    · refine lv_aload_n hx hb dX0_open_27 rfl (lv_at hl 2 rfl) ?_
      refine lv_iload_n hx hb dX0_open_28 rfl (lv_at hl 3 rfl) ?_
      refine lv_iload_n hx hb dX0_open_29 rfl (lv_at hl 4 rfl) ?_
      refine lv_iconst (v := 1) hx hb dX0_open_30 (by decide) ?_
      refine cS_call (n := 2) (as := [.int b, .int 1]) (rest := [.int a, .ref h0]) ⟨hx, hb, hml, hown, hts⟩ (c_X0_makeWord l b 1) gX0_open_X0_makeWord rfl rfl rfl (by decide +kernel) ⟨Nat.le_of_ble_eq_true rfl, Nat.le_of_ble_eq_true rfl⟩ hl.1 rfl rfl (Nat.le_of_ble_eq_true rfl) dX0_open_31 ⟨Nat.zero_le _, Nat.zero_le _⟩ ?_
      refine tpl (fun v9 e9 => ?_)
      refine cM_this (Wd := FWd h0 h1 h2 cA cB) (ci := 0) (q0 := 0) (n := 2) (as := [.int a, .long v9]) (rest := []) ⟨hx, hb, hml, hown, hts⟩ (c_X0_put l D h0 h1 h2 cA cB s3 a v9 hc) gX0_open_X0_put rfl rfl rfl (by decide +kernel) ⟨Nat.le_of_ble_eq_true rfl, Nat.le_of_ble_eq_true rfl⟩ hK hP hD hS hA rfl rfl rfl hl.1 rfl rfl (Nat.le_of_ble_eq_true rfl) dX0_open_34 ⟨Nat.zero_le _, Nat.zero_le _⟩ (fun H locs hP hD hS => ?_)
      refine W.eq (g2 := F0 m 37 ls []) rfl ?_
      obtain ⟨s10, t10⟩ : ∃ y9 : FS, f_put a v9 s3 = y9 := ⟨_, rfl⟩
      replace hP : va_P D vwCl (FWd h0 h1 h2 cA cB s10) H := by rw [← t10]; exact hP
      replace hD : va_D A (FWd h0 h1 h2 cA cB s10) := by rw [← t10]; exact hD
      refine lv_goto (tgt := 47) hx hb dX0_open_37 (by decide) ?_
      refine lv_aload_n hx hb dX0_open_47 rfl (lv_at hl 2 rfl) ?_
      refine lv_iload hx hb dX0_open_48 (lv_at hl 0 rfl) ?_
      refine cM_this (Wd := FWd h0 h1 h2 cA cB) (ci := 0) (q0 := 0) (n := 1) (as := [.int v5]) (rest := []) ⟨hx, hb, hml, hown, hts⟩ (c_X0_answerOf l D h0 h1 h2 cA cB s10 v5) gX0_open_X0_answerOf rfl rfl rfl (by decide +kernel) ⟨Nat.le_of_ble_eq_true rfl, Nat.le_of_ble_eq_true rfl⟩ hK hP hD hS hA rfl rfl rfl hl.1 rfl rfl (Nat.le_of_ble_eq_true rfl) dX0_open_50 ⟨Nat.zero_le _, Nat.zero_le _⟩ (fun H locs hP hD hS => ?_)
      refine tpi (fun v11 e11 => ?_)
      have fin : f_open a b st = (v11, s10) := by
        clear hP hD hS; subst e1; subst t3; subst e4; subst e5; subst e9; subst t10; subst e11; simp only [f_open, f_an2, c2, c6, ↓reduceIte, not_true_eq_false, not_false_eq_true, and_self, and_true, true_and, and_false, false_and, eq_self, i10]
      exact cM_reti (Wd := FWd h0 h1 h2 cA cB) (st := s10) (st' := (f_open a b st).2) hx hb hr hlocks dX0_open_53 hS hP hD (congrArg Prod.fst fin).symm (congrArg Prod.snd fin).symm
  · refine lv_iconst (v := (-1)) hx hb dX0_open_7 (by decide) ?_
    have fin : f_open a b st = ((-1), st) := by
      clear hP hD hS; subst e1; simp only [f_open, f_an2, c2, ↓reduceIte, not_true_eq_false, not_false_eq_true, and_self, and_true, true_and, and_false, false_and, eq_self, i10]
    exact cM_reti (Wd := FWd h0 h1 h2 cA cB) (st := st) (st' := (f_open a b st).2) hx hb hr hlocks dX0_open_8 hS hP hD (congrArg Prod.fst fin).symm (congrArg Prod.snd fin).symm
abbrev rmX0_balance : Room := { frames := 4, cells := 0, slots := 0, locals := 88 }
-- balance
set_option maxHeartbeats 400000 in
set_option maxRecDepth 100000 in
theorem c_X0_balance (l : Launch) (D : va_G) (h0 h1 h2 : Nat) (cA cB : ClassId) (st : FS) (a : Int32)  : cM l D vwCl (FT cA cB) (FWd h0 h1 h2 cA cB) yX0_balance wsX0_balance rmX0_balance [.ref h0, .int a] st (some (.long (f_balance a st).1)) (f_balance a st).2 := by
  refine cM_in (cc := cX0_balance) (maxL := 4) (ret := (some .long)) (by decide) rfl (Nat.le_of_ble_eq_true rfl) ?_
  intro p e s m below meth c ls A hx hb hr hlocks hml hown hts hA hK hP hD hS hl
  have hown : s.vm.findClass RX0 = some m.cls := hown
  have hl : lv_has ls 4 [(0, .ref h0), (1, .int a)] := hl
  -- walk
  refine lv_iload_n hx hb dX0_balance_0 rfl (lv_at hl 1 rfl) ?_
  refine cS_call (n := 1) (as := [.int a]) (rest := []) ⟨hx, hb, hml, hown, hts⟩ (c_X0_isAccount l a) gX0_balance_X0_isAccount rfl rfl rfl (by decide +kernel) ⟨Nat.le_of_ble_eq_true rfl, Nat.le_of_ble_eq_true rfl⟩ hl.1 rfl rfl (Nat.le_of_ble_eq_true rfl) dX0_balance_1 ⟨Nat.zero_le _, Nat.zero_le _⟩ ?_
  refine tpi (fun v1 e1 => ?_)
  refine lv_if_ne (tgt := 11) hx hb dX0_balance_4 (by decide) (fun c2 => ?_) (fun c2 => ?_)
  · have hc : vp_in a 20 := acct_in20 (by rw [e1]; exact c2)
    refine lv_aload_n hx hb dX0_balance_11 rfl (lv_at hl 0 rfl) ?_
    refine lv_iload_n hx hb dX0_balance_12 rfl (lv_at hl 1 rfl) ?_
    refine cM_this (Wd := FWd h0 h1 h2 cA cB) (ci := 0) (q0 := 0) (n := 1) (as := [.int a]) (rest := []) ⟨hx, hb, hml, hown, hts⟩ (c_X0_look l D h0 h1 h2 cA cB st a hc) gX0_balance_X0_look rfl rfl rfl (by decide +kernel) ⟨Nat.le_of_ble_eq_true rfl, Nat.le_of_ble_eq_true rfl⟩ hK hP hD hS hA rfl rfl rfl hl.1 rfl rfl (Nat.le_of_ble_eq_true rfl) dX0_balance_13 ⟨Nat.zero_le _, Nat.zero_le _⟩ (fun H locs hP hD hS => ?_)
    obtain ⟨s3, t3⟩ : ∃ y9 : FS, (f_look a st).2 = y9 := ⟨_, rfl⟩
    replace hP : va_P D vwCl (FWd h0 h1 h2 cA cB s3) H := by rw [← t3]; exact hP
    replace hD : va_D A (FWd h0 h1 h2 cA cB s3) := by rw [← t3]; exact hD
    refine tpl (fun v4 e4 => ?_)
    refine lv_lstore_n (lv' := [(2, .long v4), (0, .ref h0), (1, .int a)]) hx hb dX0_balance_16 rfl hl (by decide) rfl (fun ls hl => ?_)
    refine lv_aload_n hx hb dX0_balance_17 rfl (lv_at hl 1 rfl) ?_
    refine va_get (D := D) (ci := 0) (v := .int s3.2.2.1) (C := RX0) (T := TX0) (N := 6) hx hb hts (by decide +kernel) hown hK hP 0 rfl rfl 2 (by decide) (hts (.fieldLink RX0 17 "FadeLedger" "powered" "Z") (by decide +kernel)) (fun _ h9 => h9) rfl dX0_balance_18 ?_
    refine tpi (fun v5 e5 => ?_)
    refine lv_if_ne (tgt := 28) hx hb dX0_balance_21 (by decide) (fun c6 => ?_) (fun c6 => ?_)
    · refine lv_lload_n hx hb dX0_balance_28 rfl (lv_at hl 0 rfl) ?_
      refine cS_call (n := 1) (as := [.long v4]) (rest := []) ⟨hx, hb, hml, hown, hts⟩ (c_X0_isValid l v4) gX0_balance_X0_isValid rfl rfl rfl (by decide +kernel) ⟨Nat.le_of_ble_eq_true rfl, Nat.le_of_ble_eq_true rfl⟩ hl.1 rfl rfl (Nat.le_of_ble_eq_true rfl) dX0_balance_29 ⟨Nat.zero_le _, Nat.zero_le _⟩ ?_
      refine tpi (fun v7 e7 => ?_)
      refine lv_if_ne (tgt := 39) hx hb dX0_balance_32 (by decide) (fun c8 => ?_) (fun c8 => ?_)
      · refine lv_lload_n hx hb dX0_balance_39 rfl (lv_at hl 0 rfl) ?_
        refine cS_call (n := 1) (as := [.long v4]) (rest := []) ⟨hx, hb, hml, hown, hts⟩ (c_X0_isUnopened l v4) gX0_balance_X0_isUnopened rfl rfl rfl (by decide +kernel) ⟨Nat.le_of_ble_eq_true rfl, Nat.le_of_ble_eq_true rfl⟩ hl.1 rfl rfl (Nat.le_of_ble_eq_true rfl) dX0_balance_40 ⟨Nat.zero_le _, Nat.zero_le _⟩ ?_
        refine tpi (fun v9 e9 => ?_)
        refine lv_if_eq (tgt := 52) hx hb dX0_balance_43 (by decide) (fun c10 => ?_) (fun c10 => ?_)
        · refine lv_lload_n hx hb dX0_balance_52 rfl (lv_at hl 0 rfl) ?_
          refine cS_call (n := 1) (as := [.long v4]) (rest := []) ⟨hx, hb, hml, hown, hts⟩ (c_X0_balanceOf l v4) gX0_balance_X0_balanceOf rfl rfl rfl (by decide +kernel) ⟨Nat.le_of_ble_eq_true rfl, Nat.le_of_ble_eq_true rfl⟩ hl.1 rfl rfl (Nat.le_of_ble_eq_true rfl) dX0_balance_53 ⟨Nat.zero_le _, Nat.zero_le _⟩ ?_
          refine tpi (fun v11 e11 => ?_)
          refine lv_i2l hx hb dX0_balance_56 rfl ?_
          refine tpl (fun v12 e12 => ?_)
          have fin : f_balance a st = (v12, s3) := by
            clear hP hD hS; subst e1; subst t3; subst e4; subst e5; subst e7; subst e9; subst e11; subst e12; simp only [f_balance, c2, c6, c8, c10, ↓reduceIte, not_true_eq_false, not_false_eq_true, and_self, and_true, true_and, and_false, false_and, eq_self, i10]
          exact cM_retl (Wd := FWd h0 h1 h2 cA cB) (st := s3) (st' := (f_balance a st).2) hx hb hr hlocks dX0_balance_57 hS hP hD (congrArg Prod.fst fin).symm (congrArg Prod.snd fin).symm
        · refine lv_ldc2 (v := 1099511627776) hx hb hown (hts (.constantLong RX0 65 1099511627776) (by decide +kernel)) dX0_balance_46 ?_
          refine lv_goto (tgt := 57) hx hb dX0_balance_49 (by decide) ?_
          have fin : f_balance a st = (1099511627776, s3) := by
            clear hP hD hS; subst e1; subst t3; subst e4; subst e5; subst e7; subst e9; simp only [f_balance, c2, c6, c8, c10, ↓reduceIte, not_true_eq_false, not_false_eq_true, and_self, and_true, true_and, and_false, false_and, eq_self, i10]
          exact cM_retl (Wd := FWd h0 h1 h2 cA cB) (st := s3) (st' := (f_balance a st).2) hx hb hr hlocks dX0_balance_57 hS hP hD (congrArg Prod.fst fin).symm (congrArg Prod.snd fin).symm
      · refine lv_ldc2 (v := 2199023255552) hx hb hown (hts (.constantLong RX0 63 2199023255552) (by decide +kernel)) dX0_balance_35 ?_
        have fin : f_balance a st = (2199023255552, s3) := by
          clear hP hD hS; subst e1; subst t3; subst e4; subst e5; subst e7; simp only [f_balance, c2, c6, c8, ↓reduceIte, not_true_eq_false, not_false_eq_true, and_self, and_true, true_and, and_false, false_and, eq_self, i10]
        exact cM_retl (Wd := FWd h0 h1 h2 cA cB) (st := s3) (st' := (f_balance a st).2) hx hb hr hlocks dX0_balance_38 hS hP hD (congrArg Prod.fst fin).symm (congrArg Prod.snd fin).symm
    · refine lv_ldc2 (v := 4398046511104) hx hb hown (hts (.constantLong RX0 58 4398046511104) (by decide +kernel)) dX0_balance_24 ?_
      have fin : f_balance a st = (4398046511104, s3) := by
        clear hP hD hS; subst e1; subst t3; subst e4; subst e5; simp only [f_balance, c2, c6, ↓reduceIte, not_true_eq_false, not_false_eq_true, and_self, and_true, true_and, and_false, false_and, eq_self, i10]
      exact cM_retl (Wd := FWd h0 h1 h2 cA cB) (st := s3) (st' := (f_balance a st).2) hx hb hr hlocks dX0_balance_27 hS hP hD (congrArg Prod.fst fin).symm (congrArg Prod.snd fin).symm
  · refine lv_ldc2 (v := 8796093022208) hx hb hown (hts (.constantLong RX0 52 8796093022208) (by decide +kernel)) dX0_balance_7 ?_
    have fin : f_balance a st = (8796093022208, st) := by
      clear hP hD hS; subst e1; simp only [f_balance, c2, ↓reduceIte, not_true_eq_false, not_false_eq_true, and_self, and_true, true_and, and_false, false_and, eq_self, i10]
    exact cM_retl (Wd := FWd h0 h1 h2 cA cB) (st := st) (st' := (f_balance a st).2) hx hb hr hlocks dX0_balance_10 hS hP hD (congrArg Prod.fst fin).symm (congrArg Prod.snd fin).symm
abbrev rmX0_post : Room := { frames := 4, cells := 0, slots := 0, locals := 88 }
-- post
set_option maxHeartbeats 400000 in
set_option maxRecDepth 100000 in
theorem c_X0_post (l : Launch) (D : va_G) (h0 h1 h2 : Nat) (cA cB : ClassId) (st : FS) (a : Int32) (k : Int32)  : cM l D vwCl (FT cA cB) (FWd h0 h1 h2 cA cB) yX0_post wsX0_post rmX0_post [.ref h0, .int a, .int k] st (some (.int (f_post a k st).1)) (f_post a k st).2 := by
  refine cM_in (cc := cX0_post) (maxL := 8) (ret := (some .int)) (by decide) rfl (Nat.le_of_ble_eq_true rfl) ?_
  intro p e s m below meth c ls A hx hb hr hlocks hml hown hts hA hK hP hD hS hl
  have hown : s.vm.findClass RX0 = some m.cls := hown
  have hl : lv_has ls 8 [(0, .ref h0), (1, .int a), (2, .int k)] := hl
  -- walk
  refine lv_iload_n hx hb dX0_post_0 rfl (lv_at hl 1 rfl) ?_
  refine cS_call (n := 1) (as := [.int a]) (rest := []) ⟨hx, hb, hml, hown, hts⟩ (c_X0_isAccount l a) gX0_post_X0_isAccount rfl rfl rfl (by decide +kernel) ⟨Nat.le_of_ble_eq_true rfl, Nat.le_of_ble_eq_true rfl⟩ hl.1 rfl rfl (Nat.le_of_ble_eq_true rfl) dX0_post_1 ⟨Nat.zero_le _, Nat.zero_le _⟩ ?_
  refine tpi (fun v1 e1 => ?_)
  refine lv_if_ne (tgt := 9) hx hb dX0_post_4 (by decide) (fun c2 => ?_) (fun c2 => ?_)
  · have hc : vp_in a 20 := acct_in20 (by rw [e1]; exact c2)
    refine lv_aload_n hx hb dX0_post_9 rfl (lv_at hl 0 rfl) ?_
    refine lv_iconst (v := 0) hx hb dX0_post_10 (by decide) ?_
    refine lv_iload_n hx hb dX0_post_11 rfl (lv_at hl 1 rfl) ?_
    refine cM_this (Wd := FWd h0 h1 h2 cA cB) (ci := 0) (q0 := 0) (n := 2) (as := [.int 0, .int a]) (rest := []) ⟨hx, hb, hml, hown, hts⟩ (c_X0_readTurn l D h0 h1 h2 cA cB st 0 a in4_0 hc) gX0_post_X0_readTurn rfl rfl rfl (by decide +kernel) ⟨Nat.le_of_ble_eq_true rfl, Nat.le_of_ble_eq_true rfl⟩ hK hP hD hS hA rfl rfl rfl hl.1 rfl rfl (Nat.le_of_ble_eq_true rfl) dX0_post_12 ⟨Nat.zero_le _, Nat.zero_le _⟩ (fun H locs hP hD hS => ?_)
    obtain ⟨s3, t3⟩ : ∃ y9 : FS, (f_read 0 a st).2 = y9 := ⟨_, rfl⟩
    replace hP : va_P D vwCl (FWd h0 h1 h2 cA cB s3) H := by rw [← t3]; exact hP
    replace hD : va_D A (FWd h0 h1 h2 cA cB s3) := by rw [← t3]; exact hD
    refine tpl (fun v4 e4 => ?_)
    refine lv_lstore_n (lv' := [(3, .long v4), (0, .ref h0), (1, .int a), (2, .int k)]) hx hb dX0_post_15 rfl hl (by decide) rfl (fun ls hl => ?_)
    refine lv_lload_n hx hb dX0_post_16 rfl (lv_at hl 0 rfl) ?_
    refine cS_call (n := 1) (as := [.long v4]) (rest := []) ⟨hx, hb, hml, hown, hts⟩ (c_X0_balanceOf l v4) gX0_post_X0_balanceOf rfl rfl rfl (by decide +kernel) ⟨Nat.le_of_ble_eq_true rfl, Nat.le_of_ble_eq_true rfl⟩ hl.1 rfl rfl (Nat.le_of_ble_eq_true rfl) dX0_post_17 ⟨Nat.zero_le _, Nat.zero_le _⟩ ?_
    refine tpi (fun v5 e5 => ?_)
    refine lv_i2l hx hb dX0_post_20 rfl ?_
    refine tpl (fun v6 e6 => ?_)
    refine lv_iload_n hx hb dX0_post_21 rfl (lv_at hl 3 rfl) ?_
    refine lv_i2l hx hb dX0_post_22 rfl ?_
    refine tpl (fun v7 e7 => ?_)
    refine lv_ladd hx hb dX0_post_23 ?_
    refine tpl (fun v8 e8 => ?_)
    refine lv_lstore (lv' := [(5, .long v8), (3, .long v4), (0, .ref h0), (1, .int a), (2, .int k)]) hx hb dX0_post_24 hl (by decide) rfl (fun ls hl => ?_)
    refine lv_lload_n hx hb dX0_post_26 rfl (lv_at hl 1 rfl) ?_
    refine cS_call (n := 1) (as := [.long v4]) (rest := []) ⟨hx, hb, hml, hown, hts⟩ (c_X0_isOpen l v4) gX0_post_X0_isOpen rfl rfl rfl (by decide +kernel) ⟨Nat.le_of_ble_eq_true rfl, Nat.le_of_ble_eq_true rfl⟩ hl.1 rfl rfl (Nat.le_of_ble_eq_true rfl) dX0_post_27 ⟨Nat.zero_le _, Nat.zero_le _⟩ ?_
    refine tpi (fun v9 e9 => ?_)
    refine lv_if_eq (tgt := 52) hx hb dX0_post_30 (by decide) (fun c10 => ?_) (fun c10 => ?_)
    · refine lv_iconst (v := 0) hx hb dX0_post_52 (by decide) ?_
      refine lv_istore (lv' := [(7, .int 0), (5, .long v8), (3, .long v4), (0, .ref h0), (1, .int a), (2, .int k)]) hx hb dX0_post_53 hl (by decide) rfl (fun ls hl => ?_)
      refine lv_iload hx hb dX0_post_55 (lv_at hl 0 rfl) ?_
      refine lv_if_eq (tgt := 80) hx hb dX0_post_57 (by decide) (fun _ => ?_) (fun c0 => absurd c0 (by decide))
      refine lv_aload_n hx hb dX0_post_80 rfl (lv_at hl 3 rfl) ?_
      refine lv_iconst (v := 0) hx hb dX0_post_81 (by decide) ?_
      refine lv_iload_n hx hb dX0_post_82 rfl (lv_at hl 4 rfl) ?_
      refine lv_lload_n hx hb dX0_post_83 rfl (lv_at hl 2 rfl) ?_
      refine cM_this (Wd := FWd h0 h1 h2 cA cB) (ci := 0) (q0 := 0) (n := 3) (as := [.int 0, .int a, .long v4]) (rest := []) ⟨hx, hb, hml, hown, hts⟩ (c_X0_writeTurn l D h0 h1 h2 cA cB s3 0 a v4 in4_0 hc) gX0_post_X0_writeTurn rfl rfl rfl (by decide +kernel) ⟨Nat.le_of_ble_eq_true rfl, Nat.le_of_ble_eq_true rfl⟩ hK hP hD hS hA rfl rfl rfl hl.1 rfl rfl (Nat.le_of_ble_eq_true rfl) dX0_post_84 ⟨Nat.zero_le _, Nat.zero_le _⟩ (fun H locs hP hD hS => ?_)
      refine W.eq (g2 := F0 m 87 ls []) rfl ?_
      obtain ⟨s11, t11⟩ : ∃ y9 : FS, f_write 0 a v4 s3 = y9 := ⟨_, rfl⟩
      replace hP : va_P D vwCl (FWd h0 h1 h2 cA cB s11) H := by rw [← t11]; exact hP
      replace hD : va_D A (FWd h0 h1 h2 cA cB s11) := by rw [← t11]; exact hD
      refine lv_aload_n hx hb dX0_post_87 rfl (lv_at hl 3 rfl) ?_
      refine lv_iload hx hb dX0_post_88 (lv_at hl 0 rfl) ?_
      refine cM_this (Wd := FWd h0 h1 h2 cA cB) (ci := 0) (q0 := 0) (n := 1) (as := [.int 0]) (rest := []) ⟨hx, hb, hml, hown, hts⟩ (c_X0_answerOf l D h0 h1 h2 cA cB s11 0) gX0_post_X0_answerOf rfl rfl rfl (by decide +kernel) ⟨Nat.le_of_ble_eq_true rfl, Nat.le_of_ble_eq_true rfl⟩ hK hP hD hS hA rfl rfl rfl hl.1 rfl rfl (Nat.le_of_ble_eq_true rfl) dX0_post_90 ⟨Nat.zero_le _, Nat.zero_le _⟩ (fun H locs hP hD hS => ?_)
      refine tpi (fun v12 e12 => ?_)
      have fin : f_post a k st = (v12, s11) := by
        clear hP hD hS; subst e1; subst t3; subst e4; subst e5; subst e6; subst e7; subst e8; subst e9; subst t11; subst e12; simp only [f_post, f_postB, f_postAcc, f_an2, bI, c2, c10, ↓reduceIte, not_true_eq_false, not_false_eq_true, and_self, and_true, true_and, and_false, false_and, eq_self, i10]
      exact cM_reti (Wd := FWd h0 h1 h2 cA cB) (st := s11) (st' := (f_post a k st).2) hx hb hr hlocks dX0_post_93 hS hP hD (congrArg Prod.fst fin).symm (congrArg Prod.snd fin).symm
    · refine lv_lload_n hx hb dX0_post_33 rfl (lv_at hl 1 rfl) ?_
      refine cS_call (n := 1) (as := [.long v4]) (rest := []) ⟨hx, hb, hml, hown, hts⟩ (c_X0_hasNextNumber l v4) gX0_post_X0_hasNextNumber rfl rfl rfl (by decide +kernel) ⟨Nat.le_of_ble_eq_true rfl, Nat.le_of_ble_eq_true rfl⟩ hl.1 rfl rfl (Nat.le_of_ble_eq_true rfl) dX0_post_34 ⟨Nat.zero_le _, Nat.zero_le _⟩ ?_
      refine tpi (fun v13 e13 => ?_)
      refine lv_if_eq (tgt := 52) hx hb dX0_post_37 (by decide) (fun c14 => ?_) (fun c14 => ?_)
      · refine lv_iconst (v := 0) hx hb dX0_post_52 (by decide) ?_
        refine lv_istore (lv' := [(7, .int 0), (5, .long v8), (3, .long v4), (0, .ref h0), (1, .int a), (2, .int k)]) hx hb dX0_post_53 hl (by decide) rfl (fun ls hl => ?_)
        refine lv_iload hx hb dX0_post_55 (lv_at hl 0 rfl) ?_
        refine lv_if_eq (tgt := 80) hx hb dX0_post_57 (by decide) (fun _ => ?_) (fun c0 => absurd c0 (by decide))
        refine lv_aload_n hx hb dX0_post_80 rfl (lv_at hl 3 rfl) ?_
        refine lv_iconst (v := 0) hx hb dX0_post_81 (by decide) ?_
        refine lv_iload_n hx hb dX0_post_82 rfl (lv_at hl 4 rfl) ?_
        refine lv_lload_n hx hb dX0_post_83 rfl (lv_at hl 2 rfl) ?_
        refine cM_this (Wd := FWd h0 h1 h2 cA cB) (ci := 0) (q0 := 0) (n := 3) (as := [.int 0, .int a, .long v4]) (rest := []) ⟨hx, hb, hml, hown, hts⟩ (c_X0_writeTurn l D h0 h1 h2 cA cB s3 0 a v4 in4_0 hc) gX0_post_X0_writeTurn rfl rfl rfl (by decide +kernel) ⟨Nat.le_of_ble_eq_true rfl, Nat.le_of_ble_eq_true rfl⟩ hK hP hD hS hA rfl rfl rfl hl.1 rfl rfl (Nat.le_of_ble_eq_true rfl) dX0_post_84 ⟨Nat.zero_le _, Nat.zero_le _⟩ (fun H locs hP hD hS => ?_)
        refine W.eq (g2 := F0 m 87 ls []) rfl ?_
        obtain ⟨s15, t15⟩ : ∃ y9 : FS, f_write 0 a v4 s3 = y9 := ⟨_, rfl⟩
        replace hP : va_P D vwCl (FWd h0 h1 h2 cA cB s15) H := by rw [← t15]; exact hP
        replace hD : va_D A (FWd h0 h1 h2 cA cB s15) := by rw [← t15]; exact hD
        refine lv_aload_n hx hb dX0_post_87 rfl (lv_at hl 3 rfl) ?_
        refine lv_iload hx hb dX0_post_88 (lv_at hl 0 rfl) ?_
        refine cM_this (Wd := FWd h0 h1 h2 cA cB) (ci := 0) (q0 := 0) (n := 1) (as := [.int 0]) (rest := []) ⟨hx, hb, hml, hown, hts⟩ (c_X0_answerOf l D h0 h1 h2 cA cB s15 0) gX0_post_X0_answerOf rfl rfl rfl (by decide +kernel) ⟨Nat.le_of_ble_eq_true rfl, Nat.le_of_ble_eq_true rfl⟩ hK hP hD hS hA rfl rfl rfl hl.1 rfl rfl (Nat.le_of_ble_eq_true rfl) dX0_post_90 ⟨Nat.zero_le _, Nat.zero_le _⟩ (fun H locs hP hD hS => ?_)
        refine tpi (fun v16 e16 => ?_)
        have fin : f_post a k st = (v16, s15) := by
          clear hP hD hS; subst e1; subst t3; subst e4; subst e5; subst e6; subst e7; subst e8; subst e9; subst e13; subst t15; subst e16; simp only [f_post, f_postB, f_postAcc, f_an2, bI, c2, c10, c14, ↓reduceIte, not_true_eq_false, not_false_eq_true, and_self, and_true, true_and, and_false, false_and, eq_self, i10]
        exact cM_reti (Wd := FWd h0 h1 h2 cA cB) (st := s15) (st' := (f_post a k st).2) hx hb hr hlocks dX0_post_93 hS hP hD (congrArg Prod.fst fin).symm (congrArg Prod.snd fin).symm
      · refine lv_lload hx hb dX0_post_40 (lv_at hl 0 rfl) ?_
        refine cS_call (n := 1) (as := [.long v8]) (rest := []) ⟨hx, hb, hml, hown, hts⟩ (c_X0_isInt l v8) gX0_post_X0_isInt rfl rfl rfl (by decide +kernel) ⟨Nat.le_of_ble_eq_true rfl, Nat.le_of_ble_eq_true rfl⟩ hl.1 rfl rfl (Nat.le_of_ble_eq_true rfl) dX0_post_42 ⟨Nat.zero_le _, Nat.zero_le _⟩ ?_
        refine tpi (fun v17 e17 => ?_)
        refine lv_if_eq (tgt := 52) hx hb dX0_post_45 (by decide) (fun c18 => ?_) (fun c18 => ?_)
        · refine lv_iconst (v := 0) hx hb dX0_post_52 (by decide) ?_
          refine lv_istore (lv' := [(7, .int 0), (5, .long v8), (3, .long v4), (0, .ref h0), (1, .int a), (2, .int k)]) hx hb dX0_post_53 hl (by decide) rfl (fun ls hl => ?_)
          refine lv_iload hx hb dX0_post_55 (lv_at hl 0 rfl) ?_
          refine lv_if_eq (tgt := 80) hx hb dX0_post_57 (by decide) (fun _ => ?_) (fun c0 => absurd c0 (by decide))
          refine lv_aload_n hx hb dX0_post_80 rfl (lv_at hl 3 rfl) ?_
          refine lv_iconst (v := 0) hx hb dX0_post_81 (by decide) ?_
          refine lv_iload_n hx hb dX0_post_82 rfl (lv_at hl 4 rfl) ?_
          refine lv_lload_n hx hb dX0_post_83 rfl (lv_at hl 2 rfl) ?_
          refine cM_this (Wd := FWd h0 h1 h2 cA cB) (ci := 0) (q0 := 0) (n := 3) (as := [.int 0, .int a, .long v4]) (rest := []) ⟨hx, hb, hml, hown, hts⟩ (c_X0_writeTurn l D h0 h1 h2 cA cB s3 0 a v4 in4_0 hc) gX0_post_X0_writeTurn rfl rfl rfl (by decide +kernel) ⟨Nat.le_of_ble_eq_true rfl, Nat.le_of_ble_eq_true rfl⟩ hK hP hD hS hA rfl rfl rfl hl.1 rfl rfl (Nat.le_of_ble_eq_true rfl) dX0_post_84 ⟨Nat.zero_le _, Nat.zero_le _⟩ (fun H locs hP hD hS => ?_)
          refine W.eq (g2 := F0 m 87 ls []) rfl ?_
          obtain ⟨s19, t19⟩ : ∃ y9 : FS, f_write 0 a v4 s3 = y9 := ⟨_, rfl⟩
          replace hP : va_P D vwCl (FWd h0 h1 h2 cA cB s19) H := by rw [← t19]; exact hP
          replace hD : va_D A (FWd h0 h1 h2 cA cB s19) := by rw [← t19]; exact hD
          refine lv_aload_n hx hb dX0_post_87 rfl (lv_at hl 3 rfl) ?_
          refine lv_iload hx hb dX0_post_88 (lv_at hl 0 rfl) ?_
          refine cM_this (Wd := FWd h0 h1 h2 cA cB) (ci := 0) (q0 := 0) (n := 1) (as := [.int 0]) (rest := []) ⟨hx, hb, hml, hown, hts⟩ (c_X0_answerOf l D h0 h1 h2 cA cB s19 0) gX0_post_X0_answerOf rfl rfl rfl (by decide +kernel) ⟨Nat.le_of_ble_eq_true rfl, Nat.le_of_ble_eq_true rfl⟩ hK hP hD hS hA rfl rfl rfl hl.1 rfl rfl (Nat.le_of_ble_eq_true rfl) dX0_post_90 ⟨Nat.zero_le _, Nat.zero_le _⟩ (fun H locs hP hD hS => ?_)
          refine tpi (fun v20 e20 => ?_)
          have fin : f_post a k st = (v20, s19) := by
            clear hP hD hS; subst e1; subst t3; subst e4; subst e5; subst e6; subst e7; subst e8; subst e9; subst e13; subst e17; subst t19; subst e20; simp only [f_post, f_postB, f_postAcc, f_an2, bI, c2, c10, c14, c18, ↓reduceIte, not_true_eq_false, not_false_eq_true, and_self, and_true, true_and, and_false, false_and, eq_self, i10]
          exact cM_reti (Wd := FWd h0 h1 h2 cA cB) (st := s19) (st' := (f_post a k st).2) hx hb hr hlocks dX0_post_93 hS hP hD (congrArg Prod.fst fin).symm (congrArg Prod.snd fin).symm
        · refine lv_iconst (v := 1) hx hb dX0_post_48 (by decide) ?_
          refine lv_goto (tgt := 53) hx hb dX0_post_49 (by decide) ?_
          refine lv_istore (lv' := [(7, .int 1), (5, .long v8), (3, .long v4), (0, .ref h0), (1, .int a), (2, .int k)]) hx hb dX0_post_53 hl (by decide) rfl (fun ls hl => ?_)
          refine lv_iload hx hb dX0_post_55 (lv_at hl 0 rfl) ?_
          refine lv_if_eq (tgt := 80) hx hb dX0_post_57 (by decide) (fun c0 => absurd c0 (by decide)) (fun _ => ?_)
          refine lv_aload_n hx hb dX0_post_60 rfl (lv_at hl 3 rfl) ?_
          refine lv_iload_n hx hb dX0_post_61 rfl (lv_at hl 4 rfl) ?_
          refine lv_lload hx hb dX0_post_62 (lv_at hl 1 rfl) ?_
          refine lv_l2i hx hb dX0_post_64 rfl ?_
          refine tpi (fun v21 e21 => ?_)
          refine lv_lload_n hx hb dX0_post_65 rfl (lv_at hl 2 rfl) ?_
          refine cS_call (n := 1) (as := [.long v4]) (rest := [.int v21, .int a, .ref h0]) ⟨hx, hb, hml, hown, hts⟩ (c_X0_numberOf l v4) gX0_post_X0_numberOf rfl rfl rfl (by decide +kernel) ⟨Nat.le_of_ble_eq_true rfl, Nat.le_of_ble_eq_true rfl⟩ hl.1 rfl rfl (Nat.le_of_ble_eq_true rfl) dX0_post_66 ⟨Nat.zero_le _, Nat.zero_le _⟩ ?_
          refine tpi (fun v22 e22 => ?_)
          refine lv_iconst (v := 1) hx hb dX0_post_69 (by decide) ?_
          refine lv_iadd hx hb dX0_post_70 ?_
          refine tpi (fun v23 e23 => ?_)
          refine cS_call (n := 2) (as := [.int v21, .int v23]) (rest := [.int a, .ref h0]) ⟨hx, hb, hml, hown, hts⟩ (c_X0_makeWord l v21 v23) gX0_post_X0_makeWord rfl rfl rfl (by decide +kernel) ⟨Nat.le_of_ble_eq_true rfl, Nat.le_of_ble_eq_true rfl⟩ hl.1 rfl rfl (Nat.le_of_ble_eq_true rfl) dX0_post_71 ⟨Nat.zero_le _, Nat.zero_le _⟩ ?_
          refine tpl (fun v24 e24 => ?_)
          refine cM_this (Wd := FWd h0 h1 h2 cA cB) (ci := 0) (q0 := 0) (n := 2) (as := [.int a, .long v24]) (rest := []) ⟨hx, hb, hml, hown, hts⟩ (c_X0_put l D h0 h1 h2 cA cB s3 a v24 hc) gX0_post_X0_put rfl rfl rfl (by decide +kernel) ⟨Nat.le_of_ble_eq_true rfl, Nat.le_of_ble_eq_true rfl⟩ hK hP hD hS hA rfl rfl rfl hl.1 rfl rfl (Nat.le_of_ble_eq_true rfl) dX0_post_74 ⟨Nat.zero_le _, Nat.zero_le _⟩ (fun H locs hP hD hS => ?_)
          refine W.eq (g2 := F0 m 77 ls []) rfl ?_
          obtain ⟨s25, t25⟩ : ∃ y9 : FS, f_put a v24 s3 = y9 := ⟨_, rfl⟩
          replace hP : va_P D vwCl (FWd h0 h1 h2 cA cB s25) H := by rw [← t25]; exact hP
          replace hD : va_D A (FWd h0 h1 h2 cA cB s25) := by rw [← t25]; exact hD
          refine lv_goto (tgt := 87) hx hb dX0_post_77 (by decide) ?_
          refine lv_aload_n hx hb dX0_post_87 rfl (lv_at hl 3 rfl) ?_
          refine lv_iload hx hb dX0_post_88 (lv_at hl 0 rfl) ?_
          refine cM_this (Wd := FWd h0 h1 h2 cA cB) (ci := 0) (q0 := 0) (n := 1) (as := [.int 1]) (rest := []) ⟨hx, hb, hml, hown, hts⟩ (c_X0_answerOf l D h0 h1 h2 cA cB s25 1) gX0_post_X0_answerOf rfl rfl rfl (by decide +kernel) ⟨Nat.le_of_ble_eq_true rfl, Nat.le_of_ble_eq_true rfl⟩ hK hP hD hS hA rfl rfl rfl hl.1 rfl rfl (Nat.le_of_ble_eq_true rfl) dX0_post_90 ⟨Nat.zero_le _, Nat.zero_le _⟩ (fun H locs hP hD hS => ?_)
          refine tpi (fun v26 e26 => ?_)
          have fin : f_post a k st = (v26, s25) := by
            clear hP hD hS; subst e1; subst t3; subst e4; subst e5; subst e6; subst e7; subst e8; subst e9; subst e13; subst e17; subst e21; subst e22; subst e23; subst e24; subst t25; subst e26; simp only [f_post, f_postB, f_postAcc, f_an2, bI, c2, c10, c14, c18, ↓reduceIte, not_true_eq_false, not_false_eq_true, and_self, and_true, true_and, and_false, false_and, eq_self, i10]
          exact cM_reti (Wd := FWd h0 h1 h2 cA cB) (st := s25) (st' := (f_post a k st).2) hx hb hr hlocks dX0_post_93 hS hP hD (congrArg Prod.fst fin).symm (congrArg Prod.snd fin).symm
  · refine lv_iconst (v := (-1)) hx hb dX0_post_7 (by decide) ?_
    have fin : f_post a k st = ((-1), st) := by
      clear hP hD hS; subst e1; simp only [f_post, f_postB, f_postAcc, f_an2, bI, c2, ↓reduceIte, not_true_eq_false, not_false_eq_true, and_self, and_true, true_and, and_false, false_and, eq_self, i10]
    exact cM_reti (Wd := FWd h0 h1 h2 cA cB) (st := st) (st' := (f_post a k st).2) hx hb hr hlocks dX0_post_8 hS hP hD (congrArg Prod.fst fin).symm (congrArg Prod.snd fin).symm
abbrev rmX0_number : Room := { frames := 4, cells := 0, slots := 0, locals := 88 }
-- number
set_option maxHeartbeats 400000 in
set_option maxRecDepth 100000 in
theorem c_X0_number (l : Launch) (D : va_G) (h0 h1 h2 : Nat) (cA cB : ClassId) (st : FS) (a : Int32)  : cM l D vwCl (FT cA cB) (FWd h0 h1 h2 cA cB) yX0_number wsX0_number rmX0_number [.ref h0, .int a] st (some (.int (f_number a st).1)) (f_number a st).2 := by
  refine cM_in (cc := cX0_number) (maxL := 4) (ret := (some .int)) (by decide) rfl (Nat.le_of_ble_eq_true rfl) ?_
  intro p e s m below meth c ls A hx hb hr hlocks hml hown hts hA hK hP hD hS hl
  have hown : s.vm.findClass RX0 = some m.cls := hown
  have hl : lv_has ls 4 [(0, .ref h0), (1, .int a)] := hl
  -- walk
  refine lv_iload_n hx hb dX0_number_0 rfl (lv_at hl 1 rfl) ?_
  refine cS_call (n := 1) (as := [.int a]) (rest := []) ⟨hx, hb, hml, hown, hts⟩ (c_X0_isAccount l a) gX0_number_X0_isAccount rfl rfl rfl (by decide +kernel) ⟨Nat.le_of_ble_eq_true rfl, Nat.le_of_ble_eq_true rfl⟩ hl.1 rfl rfl (Nat.le_of_ble_eq_true rfl) dX0_number_1 ⟨Nat.zero_le _, Nat.zero_le _⟩ ?_
  refine tpi (fun v1 e1 => ?_)
  refine lv_if_ne (tgt := 9) hx hb dX0_number_4 (by decide) (fun c2 => ?_) (fun c2 => ?_)
  · have hc : vp_in a 20 := acct_in20 (by rw [e1]; exact c2)
    refine lv_aload_n hx hb dX0_number_9 rfl (lv_at hl 0 rfl) ?_
    refine lv_iload_n hx hb dX0_number_10 rfl (lv_at hl 1 rfl) ?_
    refine cM_this (Wd := FWd h0 h1 h2 cA cB) (ci := 0) (q0 := 0) (n := 1) (as := [.int a]) (rest := []) ⟨hx, hb, hml, hown, hts⟩ (c_X0_look l D h0 h1 h2 cA cB st a hc) gX0_number_X0_look rfl rfl rfl (by decide +kernel) ⟨Nat.le_of_ble_eq_true rfl, Nat.le_of_ble_eq_true rfl⟩ hK hP hD hS hA rfl rfl rfl hl.1 rfl rfl (Nat.le_of_ble_eq_true rfl) dX0_number_11 ⟨Nat.zero_le _, Nat.zero_le _⟩ (fun H locs hP hD hS => ?_)
    obtain ⟨s3, t3⟩ : ∃ y9 : FS, (f_look a st).2 = y9 := ⟨_, rfl⟩
    replace hP : va_P D vwCl (FWd h0 h1 h2 cA cB s3) H := by rw [← t3]; exact hP
    replace hD : va_D A (FWd h0 h1 h2 cA cB s3) := by rw [← t3]; exact hD
    refine tpl (fun v4 e4 => ?_)
    refine lv_lstore_n (lv' := [(2, .long v4), (0, .ref h0), (1, .int a)]) hx hb dX0_number_14 rfl hl (by decide) rfl (fun ls hl => ?_)
    refine lv_aload_n hx hb dX0_number_15 rfl (lv_at hl 1 rfl) ?_
    refine va_get (D := D) (ci := 0) (v := .int s3.2.2.1) (C := RX0) (T := TX0) (N := 6) hx hb hts (by decide +kernel) hown hK hP 0 rfl rfl 2 (by decide) (hts (.fieldLink RX0 17 "FadeLedger" "powered" "Z") (by decide +kernel)) (fun _ h9 => h9) rfl dX0_number_16 ?_
    refine tpi (fun v5 e5 => ?_)
    refine lv_if_ne (tgt := 25) hx hb dX0_number_19 (by decide) (fun c6 => ?_) (fun c6 => ?_)
    · refine lv_lload_n hx hb dX0_number_25 rfl (lv_at hl 0 rfl) ?_
      refine cS_call (n := 1) (as := [.long v4]) (rest := []) ⟨hx, hb, hml, hown, hts⟩ (c_X0_isValid l v4) gX0_number_X0_isValid rfl rfl rfl (by decide +kernel) ⟨Nat.le_of_ble_eq_true rfl, Nat.le_of_ble_eq_true rfl⟩ hl.1 rfl rfl (Nat.le_of_ble_eq_true rfl) dX0_number_26 ⟨Nat.zero_le _, Nat.zero_le _⟩ ?_
      refine tpi (fun v7 e7 => ?_)
      refine lv_if_eq (tgt := 39) hx hb dX0_number_29 (by decide) (fun c8 => ?_) (fun c8 => ?_)
      · refine lv_iconst (v := (-1)) hx hb dX0_number_39 (by decide) ?_
        have fin : f_number a st = ((-1), s3) := by
          clear hP hD hS; subst e1; subst t3; subst e4; subst e5; subst e7; simp only [f_number, c2, c6, c8, ↓reduceIte, not_true_eq_false, not_false_eq_true, and_self, and_true, true_and, and_false, false_and, eq_self, i10]
        exact cM_reti (Wd := FWd h0 h1 h2 cA cB) (st := s3) (st' := (f_number a st).2) hx hb hr hlocks dX0_number_40 hS hP hD (congrArg Prod.fst fin).symm (congrArg Prod.snd fin).symm
      · refine lv_lload_n hx hb dX0_number_32 rfl (lv_at hl 0 rfl) ?_
        refine cS_call (n := 1) (as := [.long v4]) (rest := []) ⟨hx, hb, hml, hown, hts⟩ (c_X0_numberOf l v4) gX0_number_X0_numberOf rfl rfl rfl (by decide +kernel) ⟨Nat.le_of_ble_eq_true rfl, Nat.le_of_ble_eq_true rfl⟩ hl.1 rfl rfl (Nat.le_of_ble_eq_true rfl) dX0_number_33 ⟨Nat.zero_le _, Nat.zero_le _⟩ ?_
        refine tpi (fun v9 e9 => ?_)
        refine lv_goto (tgt := 40) hx hb dX0_number_36 (by decide) ?_
        have fin : f_number a st = (v9, s3) := by
          clear hP hD hS; subst e1; subst t3; subst e4; subst e5; subst e7; subst e9; simp only [f_number, c2, c6, c8, ↓reduceIte, not_true_eq_false, not_false_eq_true, and_self, and_true, true_and, and_false, false_and, eq_self, i10]
        exact cM_reti (Wd := FWd h0 h1 h2 cA cB) (st := s3) (st' := (f_number a st).2) hx hb hr hlocks dX0_number_40 hS hP hD (congrArg Prod.fst fin).symm (congrArg Prod.snd fin).symm
    · refine lv_bipush (v := (-2)) hx hb dX0_number_22 (by decide) ?_
      have fin : f_number a st = ((-2), s3) := by
        clear hP hD hS; subst e1; subst t3; subst e4; subst e5; simp only [f_number, c2, c6, ↓reduceIte, not_true_eq_false, not_false_eq_true, and_self, and_true, true_and, and_false, false_and, eq_self, i10]
      exact cM_reti (Wd := FWd h0 h1 h2 cA cB) (st := s3) (st' := (f_number a st).2) hx hb hr hlocks dX0_number_24 hS hP hD (congrArg Prod.fst fin).symm (congrArg Prod.snd fin).symm
  · refine lv_iconst (v := (-1)) hx hb dX0_number_7 (by decide) ?_
    have fin : f_number a st = ((-1), st) := by
      clear hP hD hS; subst e1; simp only [f_number, c2, ↓reduceIte, not_true_eq_false, not_false_eq_true, and_self, and_true, true_and, and_false, false_and, eq_self, i10]
    exact cM_reti (Wd := FWd h0 h1 h2 cA cB) (st := st) (st' := (f_number a st).2) hx hb hr hlocks dX0_number_8 hS hP hD (congrArg Prod.fst fin).symm (congrArg Prod.snd fin).symm
abbrev rmX0_failAfter : Room := { frames := 0, cells := 0, slots := 0, locals := 0 }
-- failAfter
set_option maxHeartbeats 400000 in
set_option maxRecDepth 100000 in
theorem c_X0_failAfter (l : Launch) (D : va_G) (h0 h1 h2 : Nat) (cA cB : ClassId) (st : FS) (n : Int32)  : cM l D vwCl (FT cA cB) (FWd h0 h1 h2 cA cB) yX0_failAfter wsX0_failAfter rmX0_failAfter [.ref h0, .int n] st (some (.int (f_failAfter n st).1)) (f_failAfter n st).2 := by
  refine cM_in (cc := cX0_failAfter) (maxL := 2) (ret := (some .boolean)) (by decide) rfl (Nat.le_of_ble_eq_true rfl) ?_
  intro p e s m below meth c ls A hx hb hr hlocks hml hown hts hA hK hP hD hS hl
  have hown : s.vm.findClass RX0 = some m.cls := hown
  have hl : lv_has ls 2 [(0, .ref h0), (1, .int n)] := hl
  -- walk
  refine lv_iload_n hx hb dX0_failAfter_0 rfl (lv_at hl 1 rfl) ?_
  refine lv_if_ge (tgt := 6) hx hb dX0_failAfter_1 (by decide) (fun c1 => ?_) (fun c1 => ?_)
  · refine lv_aload_n hx hb dX0_failAfter_6 rfl (lv_at hl 0 rfl) ?_
    refine lv_iload_n hx hb dX0_failAfter_7 rfl (lv_at hl 1 rfl) ?_
    refine va_put (D := D) (ci := 0) (v := .int n) (ty := .int) (C := RX0) (T := TX0) (N := 6) hx hb hts (by decide +kernel) tyX0 tyX0_ok nmX0 hown hK hP hD hS 0 rfl rfl 3 (by decide) (hts (.fieldLink RX0 21 "FadeLedger" "turnsLeft" "I") (by decide +kernel)) (fun _ h9 => h9) rfl (by decide +kernel) rfl rfl (Nat.le_of_ble_eq_true rfl) dX0_failAfter_8 (fun H locs hP hD hS => ?_)
    obtain ⟨s2, t2⟩ : ∃ y9 : FS, ((st.1, st.2.1, st.2.2.1, n, st.2.2.2.2.1, st.2.2.2.2.2) : FS) = y9 := ⟨_, rfl⟩
    replace hP : va_P D vwCl (FWd h0 h1 h2 cA cB s2) H := by rw [← t2]; exact hP
    replace hD : va_D A (FWd h0 h1 h2 cA cB s2) := by rw [← t2]; exact hD
    refine lv_iconst (v := 1) hx hb dX0_failAfter_11 (by decide) ?_
    have fin : f_failAfter n st = (1, s2) := by
      clear hP hD hS; subst t2; simp only [f_failAfter, c1, ↓reduceIte, not_true_eq_false, not_false_eq_true, and_self, and_true, true_and, and_false, false_and, eq_self, i10]
    exact cM_retz (Wd := FWd h0 h1 h2 cA cB) (st := s2) (st' := (f_failAfter n st).2) hx hb hr hlocks dX0_failAfter_12 hS hP hD rfl (congrArg Prod.fst fin).symm (congrArg Prod.snd fin).symm
  · refine lv_iconst (v := 0) hx hb dX0_failAfter_4 (by decide) ?_
    have fin : f_failAfter n st = (0, st) := by
      clear hP hD hS; simp only [f_failAfter, c1, ↓reduceIte, not_true_eq_false, not_false_eq_true, and_self, and_true, true_and, and_false, false_and, eq_self, i10]
    exact cM_retz (Wd := FWd h0 h1 h2 cA cB) (st := st) (st' := (f_failAfter n st).2) hx hb hr hlocks dX0_failAfter_5 hS hP hD rfl (congrArg Prod.fst fin).symm (congrArg Prod.snd fin).symm
abbrev rmX0_fail : Room := { frames := 1, cells := 0, slots := 0, locals := 20 }
-- fail
set_option maxHeartbeats 400000 in
set_option maxRecDepth 100000 in
theorem c_X0_fail (l : Launch) (D : va_G) (h0 h1 h2 : Nat) (cA cB : ClassId) (st : FS)   : cM l D vwCl (FT cA cB) (FWd h0 h1 h2 cA cB) yX0_fail wsX0_fail rmX0_fail [.ref h0] st (some (.int (f_fail st).1)) (f_fail st).2 := by
  refine cM_in (cc := cX0_fail) (maxL := 1) (ret := (some .boolean)) (by decide) rfl (Nat.le_of_ble_eq_true rfl) ?_
  intro p e s m below meth c ls A hx hb hr hlocks hml hown hts hA hK hP hD hS hl
  have hown : s.vm.findClass RX0 = some m.cls := hown
  have hl : lv_has ls 1 [(0, .ref h0)] := hl
  -- walk
  refine lv_aload_n hx hb dX0_fail_0 rfl (lv_at hl 0 rfl) ?_
  refine va_get (D := D) (ci := 0) (v := .int st.2.2.1) (C := RX0) (T := TX0) (N := 6) hx hb hts (by decide +kernel) hown hK hP 0 rfl rfl 2 (by decide) (hts (.fieldLink RX0 17 "FadeLedger" "powered" "Z") (by decide +kernel)) (fun _ h9 => h9) rfl dX0_fail_1 ?_
  refine tpi (fun v1 e1 => ?_)
  refine lv_if_ne (tgt := 9) hx hb dX0_fail_4 (by decide) (fun c2 => ?_) (fun c2 => ?_)
  · refine lv_aload_n hx hb dX0_fail_9 rfl (lv_at hl 0 rfl) ?_
    refine cM_this (Wd := FWd h0 h1 h2 cA cB) (ci := 0) (q0 := 0) (n := 0) (as := []) (rest := []) ⟨hx, hb, hml, hown, hts⟩ (c_X0_losePower l D h0 h1 h2 cA cB st) gX0_fail_X0_losePower rfl rfl rfl (by decide +kernel) ⟨Nat.le_of_ble_eq_true rfl, Nat.le_of_ble_eq_true rfl⟩ hK hP hD hS hA rfl rfl rfl hl.1 rfl rfl (Nat.le_of_ble_eq_true rfl) dX0_fail_10 ⟨Nat.zero_le _, Nat.zero_le _⟩ (fun H locs hP hD hS => ?_)
    refine W.eq (g2 := F0 m 13 ls []) rfl ?_
    obtain ⟨s3, t3⟩ : ∃ y9 : FS, f_lose st = y9 := ⟨_, rfl⟩
    replace hP : va_P D vwCl (FWd h0 h1 h2 cA cB s3) H := by rw [← t3]; exact hP
    replace hD : va_D A (FWd h0 h1 h2 cA cB s3) := by rw [← t3]; exact hD
    refine lv_iconst (v := 1) hx hb dX0_fail_13 (by decide) ?_
    have fin : f_fail st = (1, s3) := by
      clear hP hD hS; subst e1; subst t3; simp only [f_fail, c2, ↓reduceIte, not_true_eq_false, not_false_eq_true, and_self, and_true, true_and, and_false, false_and, eq_self, i10]
    exact cM_retz (Wd := FWd h0 h1 h2 cA cB) (st := s3) (st' := (f_fail st).2) hx hb hr hlocks dX0_fail_14 hS hP hD rfl (congrArg Prod.fst fin).symm (congrArg Prod.snd fin).symm
  · refine lv_iconst (v := 0) hx hb dX0_fail_7 (by decide) ?_
    have fin : f_fail st = (0, st) := by
      clear hP hD hS; subst e1; simp only [f_fail, c2, ↓reduceIte, not_true_eq_false, not_false_eq_true, and_self, and_true, true_and, and_false, false_and, eq_self, i10]
    exact cM_retz (Wd := FWd h0 h1 h2 cA cB) (st := st) (st' := (f_fail st).2) hx hb hr hlocks dX0_fail_8 hS hP hD rfl (congrArg Prod.fst fin).symm (congrArg Prod.snd fin).symm
abbrev rmX0_on : Room := { frames := 0, cells := 0, slots := 0, locals := 0 }
-- on
set_option maxHeartbeats 400000 in
set_option maxRecDepth 100000 in
theorem c_X0_on (l : Launch) (D : va_G) (h0 h1 h2 : Nat) (cA cB : ClassId) (st : FS)  (ho : st.2.2.1 = 0 ∨ st.2.2.1 = 1) : cM l D vwCl (FT cA cB) (FWd h0 h1 h2 cA cB) yX0_on wsX0_on rmX0_on [.ref h0] st (some (.int (f_on st))) st := by
  refine cM_in (cc := cX0_on) (maxL := 1) (ret := (some .boolean)) (by decide) rfl (Nat.le_of_ble_eq_true rfl) ?_
  intro p e s m below meth c ls A hx hb hr hlocks hml hown hts hA hK hP hD hS hl
  have hown : s.vm.findClass RX0 = some m.cls := hown
  have hl : lv_has ls 1 [(0, .ref h0)] := hl
  -- walk
  refine lv_aload_n hx hb dX0_on_0 rfl (lv_at hl 0 rfl) ?_
  refine va_get (D := D) (ci := 0) (v := .int st.2.2.1) (C := RX0) (T := TX0) (N := 6) hx hb hts (by decide +kernel) hown hK hP 0 rfl rfl 2 (by decide) (hts (.fieldLink RX0 17 "FadeLedger" "powered" "Z") (by decide +kernel)) (fun _ h9 => h9) rfl dX0_on_1 ?_
  refine tpi (fun v1 e1 => ?_)
  have fin : (f_on st, st) = (v1, st) := by
    clear hP hD hS; subst e1; simp only [f_on]
  exact cM_retz (Wd := FWd h0 h1 h2 cA cB) (st := st) (st' := st) hx hb hr hlocks dX0_on_4 hS hP hD (by subst e1; exact on_nar ho) (congrArg Prod.fst fin).symm (congrArg Prod.snd fin).symm
abbrev rmX0_lost : Room := { frames := 1, cells := 0, slots := 0, locals := 20 }
-- lost
set_option maxHeartbeats 400000 in
set_option maxRecDepth 100000 in
theorem c_X0_lost (l : Launch) (D : va_G) (h0 h1 h2 : Nat) (cA cB : ClassId) (st : FS) (a : Int32)  : cM l D vwCl (FT cA cB) (FWd h0 h1 h2 cA cB) yX0_lost wsX0_lost rmX0_lost [.ref h0, .int a] st (some (.int (f_lost a st))) st := by
  refine cM_in (cc := cX0_lost) (maxL := 2) (ret := (some .int)) (by decide) rfl (Nat.le_of_ble_eq_true rfl) ?_
  intro p e s m below meth c ls A hx hb hr hlocks hml hown hts hA hK hP hD hS hl
  have hown : s.vm.findClass RX0 = some m.cls := hown
  have hl : lv_has ls 2 [(0, .ref h0), (1, .int a)] := hl
  -- walk
  refine lv_iload_n hx hb dX0_lost_0 rfl (lv_at hl 1 rfl) ?_
  refine cS_call (n := 1) (as := [.int a]) (rest := []) ⟨hx, hb, hml, hown, hts⟩ (c_X0_isCell l a) gX0_lost_X0_isCell rfl rfl rfl (by decide +kernel) ⟨Nat.le_of_ble_eq_true rfl, Nat.le_of_ble_eq_true rfl⟩ hl.1 rfl rfl (Nat.le_of_ble_eq_true rfl) dX0_lost_1 ⟨Nat.zero_le _, Nat.zero_le _⟩ ?_
  refine tpi (fun v1 e1 => ?_)
  refine lv_if_eq (tgt := 16) hx hb dX0_lost_4 (by decide) (fun c2 => ?_) (fun c2 => ?_)
  · refine lv_iconst (v := 0) hx hb dX0_lost_16 (by decide) ?_
    have fin : (f_lost a st, st) = (0, st) := by
      clear hP hD hS; subst e1; simp only [f_lost, c2, ↓reduceIte, not_true_eq_false, not_false_eq_true, and_self, and_true, true_and, and_false, false_and, eq_self, i10]
    exact cM_reti (Wd := FWd h0 h1 h2 cA cB) (st := st) (st' := st) hx hb hr hlocks dX0_lost_17 hS hP hD (congrArg Prod.fst fin).symm (congrArg Prod.snd fin).symm
  · refine lv_aload_n hx hb dX0_lost_7 rfl (lv_at hl 0 rfl) ?_
    refine va_get (D := D) (ci := 0) (v := .ref h2) (C := RX0) (T := TX0) (N := 6) hx hb hts (by decide +kernel) hown hK hP 0 rfl rfl 1 (by decide) (hts (.fieldLink RX0 13 "FadeLedger" "invalidPlanes" "[I") (by decide +kernel)) (fun _ h9 => h9) rfl dX0_lost_8 ?_
    refine lv_iload_n hx hb dX0_lost_11 rfl (lv_at hl 1 rfl) ?_
    refine va_iald hx hb hK hP 2 1 rfl rfl (cell_in (by rw [e1]; exact c2)) dX0_lost_12 ?_
    refine tpi (fun v3 e3 => ?_)
    refine lv_goto (tgt := 17) hx hb dX0_lost_13 (by decide) ?_
    have fin : (f_lost a st, st) = (v3, st) := by
      clear hP hD hS; subst e1; subst e3; simp only [f_lost, c2, ↓reduceIte, not_true_eq_false, not_false_eq_true, and_self, and_true, true_and, and_false, false_and, eq_self, i10]
    exact cM_reti (Wd := FWd h0 h1 h2 cA cB) (st := st) (st' := st) hx hb hr hlocks dX0_lost_17 hS hP hD (congrArg Prod.fst fin).symm (congrArg Prod.snd fin).symm
abbrev rmX0_word : Room := { frames := 1, cells := 0, slots := 0, locals := 21 }
-- word
set_option maxHeartbeats 400000 in
set_option maxRecDepth 100000 in
theorem c_X0_word (l : Launch) (D : va_G) (h0 h1 h2 : Nat) (cA cB : ClassId) (st : FS) (i : Int32) (j : Int32)  : cM l D vwCl (FT cA cB) (FWd h0 h1 h2 cA cB) yX0_word wsX0_word rmX0_word [.ref h0, .int i, .int j] st (some (.long (f_word i j st))) st := by
  refine cM_in (cc := cX0_word) (maxL := 3) (ret := (some .long)) (by decide) rfl (Nat.le_of_ble_eq_true rfl) ?_
  intro p e s m below meth c ls A hx hb hr hlocks hml hown hts hA hK hP hD hS hl
  have hown : s.vm.findClass RX0 = some m.cls := hown
  have hl : lv_has ls 3 [(0, .ref h0), (1, .int i), (2, .int j)] := hl
  -- walk
  refine lv_iload_n hx hb dX0_word_0 rfl (lv_at hl 1 rfl) ?_
  refine lv_if_lt (tgt := 16) hx hb dX0_word_1 (by decide) (fun c1 => ?_) (fun c1 => ?_)
  · refine lv_lconst (v := 0) hx hb dX0_word_16 (by decide) ?_
    have fin : (f_word i j st, st) = (0, st) := by
      clear hP hD hS; simp only [f_word, c1, ↓reduceIte, not_true_eq_false, not_false_eq_true, and_self, and_true, true_and, and_false, false_and, eq_self, i10]
    exact cM_retl (Wd := FWd h0 h1 h2 cA cB) (st := st) (st' := st) hx hb hr hlocks dX0_word_17 hS hP hD (congrArg Prod.fst fin).symm (congrArg Prod.snd fin).symm
  · refine lv_iload_n hx hb dX0_word_4 rfl (lv_at hl 1 rfl) ?_
    refine lv_iconst (v := 4) hx hb dX0_word_5 (by decide) ?_
    refine lv_icmp_ge (tgt := 16) hx hb dX0_word_6 (by decide) (fun c2 => ?_) (fun c2 => ?_)
    · refine lv_lconst (v := 0) hx hb dX0_word_16 (by decide) ?_
      have fin : (f_word i j st, st) = (0, st) := by
        clear hP hD hS; simp only [f_word, c1, c2, ↓reduceIte, not_true_eq_false, not_false_eq_true, and_self, and_true, true_and, and_false, false_and, eq_self, i10]
      exact cM_retl (Wd := FWd h0 h1 h2 cA cB) (st := st) (st' := st) hx hb hr hlocks dX0_word_17 hS hP hD (congrArg Prod.fst fin).symm (congrArg Prod.snd fin).symm
    · refine lv_iload_n hx hb dX0_word_9 rfl (lv_at hl 2 rfl) ?_
      refine cS_call (n := 1) (as := [.int j]) (rest := []) ⟨hx, hb, hml, hown, hts⟩ (c_X0_isCell l j) gX0_word_X0_isCell rfl rfl rfl (by decide +kernel) ⟨Nat.le_of_ble_eq_true rfl, Nat.le_of_ble_eq_true rfl⟩ hl.1 rfl rfl (Nat.le_of_ble_eq_true rfl) dX0_word_10 ⟨Nat.zero_le _, Nat.zero_le _⟩ ?_
      refine tpi (fun v3 e3 => ?_)
      refine lv_if_ne (tgt := 18) hx hb dX0_word_13 (by decide) (fun c4 => ?_) (fun c4 => ?_)
      · refine lv_aload_n hx hb dX0_word_18 rfl (lv_at hl 0 rfl) ?_
        refine va_get (D := D) (ci := 0) (v := .ref h1) (C := RX0) (T := TX0) (N := 6) hx hb hts (by decide +kernel) hown hK hP 0 rfl rfl 0 (by decide) (hts (.fieldLink RX0 9 "FadeLedger" "memory" "[J") (by decide +kernel)) (fun _ h9 => h9) rfl dX0_word_19 ?_
        refine lv_iload_n hx hb dX0_word_22 rfl (lv_at hl 1 rfl) ?_
        refine lv_iload_n hx hb dX0_word_23 rfl (lv_at hl 2 rfl) ?_
        refine cS_call (n := 2) (as := [.int i, .int j]) (rest := [.ref h1]) ⟨hx, hb, hml, hown, hts⟩ (c_X0_slot l i j) gX0_word_X0_slot rfl rfl rfl (by decide +kernel) ⟨Nat.le_of_ble_eq_true rfl, Nat.le_of_ble_eq_true rfl⟩ hl.1 rfl rfl (Nat.le_of_ble_eq_true rfl) dX0_word_24 ⟨Nat.zero_le _, Nat.zero_le _⟩ ?_
        refine tpi (fun v5 e5 => ?_)
        refine va_lald hx hb hK hP 1 0 rfl rfl (by rw [← e5]; exact slot_in (in_of (n := 4) rfl c1 c2) (cell_in (by rw [e3]; exact c4))) dX0_word_27 ?_
        refine tpl (fun v6 e6 => ?_)
        have fin : (f_word i j st, st) = (v6, st) := by
          clear hP hD hS; subst e3; subst e5; subst e6; simp only [f_word, c1, c2, c4, ↓reduceIte, not_true_eq_false, not_false_eq_true, and_self, and_true, true_and, and_false, false_and, eq_self, i10]
        exact cM_retl (Wd := FWd h0 h1 h2 cA cB) (st := st) (st' := st) hx hb hr hlocks dX0_word_28 hS hP hD (congrArg Prod.fst fin).symm (congrArg Prod.snd fin).symm
      · refine lv_lconst (v := 0) hx hb dX0_word_16 (by decide) ?_
        have fin : (f_word i j st, st) = (0, st) := by
          clear hP hD hS; subst e3; simp only [f_word, c1, c2, c4, ↓reduceIte, not_true_eq_false, not_false_eq_true, and_self, and_true, true_and, and_false, false_and, eq_self, i10]
        exact cM_retl (Wd := FWd h0 h1 h2 cA cB) (st := st) (st' := st) hx hb hr hlocks dX0_word_17 hS hP hD (congrArg Prod.fst fin).symm (congrArg Prod.snd fin).symm
abbrev rmX0_done : Room := { frames := 0, cells := 0, slots := 0, locals := 0 }
-- done
set_option maxHeartbeats 400000 in
set_option maxRecDepth 100000 in
theorem c_X0_done (l : Launch) (D : va_G) (h0 h1 h2 : Nat) (cA cB : ClassId) (st : FS) (a : Int32)  : cM l D vwCl (FT cA cB) (FWd h0 h1 h2 cA cB) yX0_done wsX0_done rmX0_done [.ref h0, .int a] st (some (.int (f_done a st))) st := by
  refine cM_in (cc := cX0_done) (maxL := 2) (ret := (some .int)) (by decide) rfl (Nat.le_of_ble_eq_true rfl) ?_
  intro p e s m below meth c ls A hx hb hr hlocks hml hown hts hA hK hP hD hS hl
  have hown : s.vm.findClass RX0 = some m.cls := hown
  have hl : lv_has ls 2 [(0, .ref h0), (1, .int a)] := hl
  -- walk
  refine lv_iload_n hx hb dX0_done_0 rfl (lv_at hl 1 rfl) ?_
  refine lv_if_ne (tgt := 9) hx hb dX0_done_1 (by decide) (fun c1 => ?_) (fun c1 => ?_)
  · refine lv_iload_n hx hb dX0_done_9 rfl (lv_at hl 1 rfl) ?_
    refine lv_iconst (v := 1) hx hb dX0_done_10 (by decide) ?_
    refine lv_icmp_ne (tgt := 21) hx hb dX0_done_11 (by decide) (fun c2 => ?_) (fun c2 => ?_)
    · refine lv_iconst (v := (-1)) hx hb dX0_done_21 (by decide) ?_
      have fin : (f_done a st, st) = ((-1), st) := by
        clear hP hD hS; simp only [f_done, c1, c2, ↓reduceIte, not_true_eq_false, not_false_eq_true, and_self, and_true, true_and, and_false, false_and, eq_self, i10]
      exact cM_reti (Wd := FWd h0 h1 h2 cA cB) (st := st) (st' := st) hx hb hr hlocks dX0_done_22 hS hP hD (congrArg Prod.fst fin).symm (congrArg Prod.snd fin).symm
    · refine lv_aload_n hx hb dX0_done_14 rfl (lv_at hl 0 rfl) ?_
      refine va_get (D := D) (ci := 0) (v := .int st.2.2.2.2.2) (C := RX0) (T := TX0) (N := 6) hx hb hts (by decide +kernel) hown hK hP 0 rfl rfl 5 (by decide) (hts (.fieldLink RX0 117 "FadeLedger" "writes" "I") (by decide +kernel)) (fun _ h9 => h9) rfl dX0_done_15 ?_
      refine tpi (fun v3 e3 => ?_)
      refine lv_goto (tgt := 22) hx hb dX0_done_18 (by decide) ?_
      have fin : (f_done a st, st) = (v3, st) := by
        clear hP hD hS; subst e3; simp only [f_done, c1, c2, ↓reduceIte, not_true_eq_false, not_false_eq_true, and_self, and_true, true_and, and_false, false_and, eq_self, i10]
      exact cM_reti (Wd := FWd h0 h1 h2 cA cB) (st := st) (st' := st) hx hb hr hlocks dX0_done_22 hS hP hD (congrArg Prod.fst fin).symm (congrArg Prod.snd fin).symm
  · refine lv_aload_n hx hb dX0_done_4 rfl (lv_at hl 0 rfl) ?_
    refine va_get (D := D) (ci := 0) (v := .int st.2.2.2.2.1) (C := RX0) (T := TX0) (N := 6) hx hb hts (by decide +kernel) hown hK hP 0 rfl rfl 4 (by decide) (hts (.fieldLink RX0 114 "FadeLedger" "reads" "I") (by decide +kernel)) (fun _ h9 => h9) rfl dX0_done_5 ?_
    refine tpi (fun v4 e4 => ?_)
    have fin : (f_done a st, st) = (v4, st) := by
      clear hP hD hS; subst e4; simp only [f_done, c1, ↓reduceIte, not_true_eq_false, not_false_eq_true, and_self, and_true, true_and, and_false, false_and, eq_self, i10]
    exact cM_reti (Wd := FWd h0 h1 h2 cA cB) (st := st) (st' := st) hx hb hr hlocks dX0_done_8 hS hP hD (congrArg Prod.fst fin).symm (congrArg Prod.snd fin).symm
abbrev rmX0_transfer : Room := { frames := 4, cells := 0, slots := 0, locals := 90 }
-- transfer
set_option maxHeartbeats 400000 in
set_option maxRecDepth 100000 in
theorem c_X0_transfer (l : Launch) (D : va_G) (h0 h1 h2 : Nat) (cA cB : ClassId) (st : FS) (f : Int32) (t : Int32) (a : Int32)  : cM l D vwCl (FT cA cB) (FWd h0 h1 h2 cA cB) yX0_transfer wsX0_transfer rmX0_transfer [.ref h0, .int f, .int t, .int a] st (some (.int (f_transfer f t a st).1)) (f_transfer f t a st).2 := by
  refine cM_in (cc := cX0_transfer) (maxL := 17) (ret := (some .int)) (by decide) rfl (Nat.le_of_ble_eq_true rfl) ?_
  intro p e s m below meth c ls A hx hb hr hlocks hml hown hts hA hK hP hD hS hl
  have hown : s.vm.findClass RX0 = some m.cls := hown
  have hl : lv_has ls 17 [(0, .ref h0), (1, .int f), (2, .int t), (3, .int a)] := hl
  -- walk
  refine lv_iload_n hx hb dX0_transfer_0 rfl (lv_at hl 1 rfl) ?_
  refine cS_call (n := 1) (as := [.int f]) (rest := []) ⟨hx, hb, hml, hown, hts⟩ (c_X0_isAccount l f) gX0_transfer_X0_isAccount rfl rfl rfl (by decide +kernel) ⟨Nat.le_of_ble_eq_true rfl, Nat.le_of_ble_eq_true rfl⟩ hl.1 rfl rfl (Nat.le_of_ble_eq_true rfl) dX0_transfer_1 ⟨Nat.zero_le _, Nat.zero_le _⟩ ?_
  refine tpi (fun v1 e1 => ?_)
  refine lv_if_eq (tgt := 23) hx hb dX0_transfer_4 (by decide) (fun c2 => ?_) (fun c2 => ?_)
  · refine lv_iconst (v := (-1)) hx hb dX0_transfer_23 (by decide) ?_
    have fin : f_transfer f t a st = ((-1), st) := by
      clear hP hD hS; subst e1; simp only [f_transfer, f_trB, f_trAcc, f_doTr, f_an2, bI, c2, ↓reduceIte, not_true_eq_false, not_false_eq_true, and_self, and_true, true_and, and_false, false_and, eq_self, i10]
    exact cM_reti (Wd := FWd h0 h1 h2 cA cB) (st := st) (st' := (f_transfer f t a st).2) hx hb hr hlocks dX0_transfer_24 hS hP hD (congrArg Prod.fst fin).symm (congrArg Prod.snd fin).symm
  · refine lv_iload_n hx hb dX0_transfer_7 rfl (lv_at hl 2 rfl) ?_
    refine cS_call (n := 1) (as := [.int t]) (rest := []) ⟨hx, hb, hml, hown, hts⟩ (c_X0_isAccount l t) gX0_transfer_X0_isAccount rfl rfl rfl (by decide +kernel) ⟨Nat.le_of_ble_eq_true rfl, Nat.le_of_ble_eq_true rfl⟩ hl.1 rfl rfl (Nat.le_of_ble_eq_true rfl) dX0_transfer_8 ⟨Nat.zero_le _, Nat.zero_le _⟩ ?_
    refine tpi (fun v3 e3 => ?_)
    refine lv_if_eq (tgt := 23) hx hb dX0_transfer_11 (by decide) (fun c4 => ?_) (fun c4 => ?_)
    · refine lv_iconst (v := (-1)) hx hb dX0_transfer_23 (by decide) ?_
      have fin : f_transfer f t a st = ((-1), st) := by
        clear hP hD hS; subst e1; subst e3; simp only [f_transfer, f_trB, f_trAcc, f_doTr, f_an2, bI, c2, c4, ↓reduceIte, not_true_eq_false, not_false_eq_true, and_self, and_true, true_and, and_false, false_and, eq_self, i10]
      exact cM_reti (Wd := FWd h0 h1 h2 cA cB) (st := st) (st' := (f_transfer f t a st).2) hx hb hr hlocks dX0_transfer_24 hS hP hD (congrArg Prod.fst fin).symm (congrArg Prod.snd fin).symm
    · refine lv_iload_n hx hb dX0_transfer_14 rfl (lv_at hl 1 rfl) ?_
      refine lv_iload_n hx hb dX0_transfer_15 rfl (lv_at hl 2 rfl) ?_
      refine lv_icmp_eq (tgt := 23) hx hb dX0_transfer_16 (by decide) (fun c5 => ?_) (fun c5 => ?_)
      · refine lv_iconst (v := (-1)) hx hb dX0_transfer_23 (by decide) ?_
        have fin : f_transfer f t a st = ((-1), st) := by
          clear hP hD hS; subst e1; subst e3; simp only [f_transfer, f_trB, f_trAcc, f_doTr, f_an2, bI, c2, c4, c5, ↓reduceIte, not_true_eq_false, not_false_eq_true, and_self, and_true, true_and, and_false, false_and, eq_self, i10]
        exact cM_reti (Wd := FWd h0 h1 h2 cA cB) (st := st) (st' := (f_transfer f t a st).2) hx hb hr hlocks dX0_transfer_24 hS hP hD (congrArg Prod.fst fin).symm (congrArg Prod.snd fin).symm
      · refine lv_iload_n hx hb dX0_transfer_19 rfl (lv_at hl 3 rfl) ?_
        refine lv_if_ge (tgt := 25) hx hb dX0_transfer_20 (by decide) (fun c6 => ?_) (fun c6 => ?_)
        · have hf : vp_in f 20 := acct_in20 (by rw [e1]; exact c2)
          have ht : vp_in t 20 := acct_in20 (by rw [e3]; exact c4)
          refine lv_aload_n hx hb dX0_transfer_25 rfl (lv_at hl 0 rfl) ?_
          refine lv_iload_n hx hb dX0_transfer_26 rfl (lv_at hl 1 rfl) ?_
          refine cM_this (Wd := FWd h0 h1 h2 cA cB) (ci := 0) (q0 := 0) (n := 1) (as := [.int f]) (rest := []) ⟨hx, hb, hml, hown, hts⟩ (c_X0_look l D h0 h1 h2 cA cB st f hf) gX0_transfer_X0_look rfl rfl rfl (by decide +kernel) ⟨Nat.le_of_ble_eq_true rfl, Nat.le_of_ble_eq_true rfl⟩ hK hP hD hS hA rfl rfl rfl hl.1 rfl rfl (Nat.le_of_ble_eq_true rfl) dX0_transfer_27 ⟨Nat.zero_le _, Nat.zero_le _⟩ (fun H locs hP hD hS => ?_)
          obtain ⟨s7, t7⟩ : ∃ y9 : FS, (f_look f st).2 = y9 := ⟨_, rfl⟩
          replace hP : va_P D vwCl (FWd h0 h1 h2 cA cB s7) H := by rw [← t7]; exact hP
          replace hD : va_D A (FWd h0 h1 h2 cA cB s7) := by rw [← t7]; exact hD
          refine tpl (fun v8 e8 => ?_)
          refine lv_lstore (lv' := [(4, .long v8), (0, .ref h0), (1, .int f), (2, .int t), (3, .int a)]) hx hb dX0_transfer_30 hl (by decide) rfl (fun ls hl => ?_)
          refine lv_aload_n hx hb dX0_transfer_32 rfl (lv_at hl 1 rfl) ?_
          refine lv_iload_n hx hb dX0_transfer_33 rfl (lv_at hl 3 rfl) ?_
          refine cM_this (Wd := FWd h0 h1 h2 cA cB) (ci := 0) (q0 := 0) (n := 1) (as := [.int t]) (rest := []) ⟨hx, hb, hml, hown, hts⟩ (c_X0_look l D h0 h1 h2 cA cB s7 t ht) gX0_transfer_X0_look rfl rfl rfl (by decide +kernel) ⟨Nat.le_of_ble_eq_true rfl, Nat.le_of_ble_eq_true rfl⟩ hK hP hD hS hA rfl rfl rfl hl.1 rfl rfl (Nat.le_of_ble_eq_true rfl) dX0_transfer_34 ⟨Nat.zero_le _, Nat.zero_le _⟩ (fun H locs hP hD hS => ?_)
          obtain ⟨s9, t9⟩ : ∃ y9 : FS, (f_look t s7).2 = y9 := ⟨_, rfl⟩
          replace hP : va_P D vwCl (FWd h0 h1 h2 cA cB s9) H := by rw [← t9]; exact hP
          replace hD : va_D A (FWd h0 h1 h2 cA cB s9) := by rw [← t9]; exact hD
          refine tpl (fun v10 e10 => ?_)
          refine lv_lstore (lv' := [(6, .long v10), (4, .long v8), (0, .ref h0), (1, .int f), (2, .int t), (3, .int a)]) hx hb dX0_transfer_37 hl (by decide) rfl (fun ls hl => ?_)
          refine lv_aload_n hx hb dX0_transfer_39 rfl (lv_at hl 2 rfl) ?_
          refine lv_bipush (v := 16) hx hb dX0_transfer_40 (by decide) ?_
          refine cM_this (Wd := FWd h0 h1 h2 cA cB) (ci := 0) (q0 := 0) (n := 1) (as := [.int 16]) (rest := []) ⟨hx, hb, hml, hown, hts⟩ (c_X0_look l D h0 h1 h2 cA cB s9 16 in20_16) gX0_transfer_X0_look rfl rfl rfl (by decide +kernel) ⟨Nat.le_of_ble_eq_true rfl, Nat.le_of_ble_eq_true rfl⟩ hK hP hD hS hA rfl rfl rfl hl.1 rfl rfl (Nat.le_of_ble_eq_true rfl) dX0_transfer_42 ⟨Nat.zero_le _, Nat.zero_le _⟩ (fun H locs hP hD hS => ?_)
          obtain ⟨s11, t11⟩ : ∃ y9 : FS, (f_look 16 s9).2 = y9 := ⟨_, rfl⟩
          replace hP : va_P D vwCl (FWd h0 h1 h2 cA cB s11) H := by rw [← t11]; exact hP
          replace hD : va_D A (FWd h0 h1 h2 cA cB s11) := by rw [← t11]; exact hD
          refine tpl (fun v12 e12 => ?_)
          refine lv_lstore (lv' := [(8, .long v12), (6, .long v10), (4, .long v8), (0, .ref h0), (1, .int f), (2, .int t), (3, .int a)]) hx hb dX0_transfer_45 hl (by decide) rfl (fun ls hl => ?_)
          refine lv_lload hx hb dX0_transfer_47 (lv_at hl 2 rfl) ?_
          refine lv_iload_n hx hb dX0_transfer_49 rfl (lv_at hl 6 rfl) ?_
          refine lv_i2l hx hb dX0_transfer_50 rfl ?_
          refine tpl (fun v13 e13 => ?_)
          refine lv_lneg hx hb dX0_transfer_51 ?_
          refine tpl (fun v14 e14 => ?_)
          refine cS_call (n := 2) (as := [.long v8, .long v14]) (rest := []) ⟨hx, hb, hml, hown, hts⟩ (c_X0_canTake l v8 v14) gX0_transfer_X0_canTake rfl rfl rfl (by decide +kernel) ⟨Nat.le_of_ble_eq_true rfl, Nat.le_of_ble_eq_true rfl⟩ hl.1 rfl rfl (Nat.le_of_ble_eq_true rfl) dX0_transfer_52 ⟨Nat.zero_le _, Nat.zero_le _⟩ ?_
          refine tpi (fun v15 e15 => ?_)
          refine lv_if_eq (tgt := 88) hx hb dX0_transfer_55 (by decide) (fun c16 => ?_) (fun c16 => ?_)
          · refine lv_iconst (v := 0) hx hb dX0_transfer_88 (by decide) ?_
            refine lv_istore (lv' := [(10, .int 0), (8, .long v12), (6, .long v10), (4, .long v8), (0, .ref h0), (1, .int f), (2, .int t), (3, .int a)]) hx hb dX0_transfer_89 hl (by decide) rfl (fun ls hl => ?_)
            refine lv_iload hx hb dX0_transfer_91 (lv_at hl 0 rfl) ?_
            refine lv_if_eq (tgt := 221) hx hb dX0_transfer_93 (by decide) (fun _ => ?_) (fun c0 => absurd c0 (by decide))
            refine lv_aload_n hx hb dX0_transfer_221 rfl (lv_at hl 4 rfl) ?_
            refine lv_iload hx hb dX0_transfer_222 (lv_at hl 0 rfl) ?_
            refine cM_this (Wd := FWd h0 h1 h2 cA cB) (ci := 0) (q0 := 0) (n := 1) (as := [.int 0]) (rest := []) ⟨hx, hb, hml, hown, hts⟩ (c_X0_answerOf l D h0 h1 h2 cA cB s11 0) gX0_transfer_X0_answerOf rfl rfl rfl (by decide +kernel) ⟨Nat.le_of_ble_eq_true rfl, Nat.le_of_ble_eq_true rfl⟩ hK hP hD hS hA rfl rfl rfl hl.1 rfl rfl (Nat.le_of_ble_eq_true rfl) dX0_transfer_224 ⟨Nat.zero_le _, Nat.zero_le _⟩ (fun H locs hP hD hS => ?_)
            refine tpi (fun v17 e17 => ?_)
            have fin : f_transfer f t a st = (v17, s11) := by
              clear hP hD hS; subst e1; subst e3; subst t7; subst e8; subst t9; subst e10; subst t11; subst e12; subst e13; subst e14; subst e15; subst e17; simp only [f_transfer, f_trB, f_trAcc, f_doTr, f_an2, bI, c2, c4, c5, c6, c16, ↓reduceIte, not_true_eq_false, not_false_eq_true, and_self, and_true, true_and, and_false, false_and, eq_self, i10]
            exact cM_reti (Wd := FWd h0 h1 h2 cA cB) (st := s11) (st' := (f_transfer f t a st).2) hx hb hr hlocks dX0_transfer_227 hS hP hD (congrArg Prod.fst fin).symm (congrArg Prod.snd fin).symm
          · refine lv_lload hx hb dX0_transfer_58 (lv_at hl 1 rfl) ?_
            refine lv_iload_n hx hb dX0_transfer_60 rfl (lv_at hl 6 rfl) ?_
            refine lv_i2l hx hb dX0_transfer_61 rfl ?_
            refine tpl (fun v18 e18 => ?_)
            refine cS_call (n := 2) (as := [.long v10, .long v18]) (rest := []) ⟨hx, hb, hml, hown, hts⟩ (c_X0_canTake l v10 v18) gX0_transfer_X0_canTake rfl rfl rfl (by decide +kernel) ⟨Nat.le_of_ble_eq_true rfl, Nat.le_of_ble_eq_true rfl⟩ hl.1 rfl rfl (Nat.le_of_ble_eq_true rfl) dX0_transfer_62 ⟨Nat.zero_le _, Nat.zero_le _⟩ ?_
            refine tpi (fun v19 e19 => ?_)
            refine lv_if_eq (tgt := 88) hx hb dX0_transfer_65 (by decide) (fun c20 => ?_) (fun c20 => ?_)
            · refine lv_iconst (v := 0) hx hb dX0_transfer_88 (by decide) ?_
              refine lv_istore (lv' := [(10, .int 0), (8, .long v12), (6, .long v10), (4, .long v8), (0, .ref h0), (1, .int f), (2, .int t), (3, .int a)]) hx hb dX0_transfer_89 hl (by decide) rfl (fun ls hl => ?_)
              refine lv_iload hx hb dX0_transfer_91 (lv_at hl 0 rfl) ?_
              refine lv_if_eq (tgt := 221) hx hb dX0_transfer_93 (by decide) (fun _ => ?_) (fun c0 => absurd c0 (by decide))
              refine lv_aload_n hx hb dX0_transfer_221 rfl (lv_at hl 4 rfl) ?_
              refine lv_iload hx hb dX0_transfer_222 (lv_at hl 0 rfl) ?_
              refine cM_this (Wd := FWd h0 h1 h2 cA cB) (ci := 0) (q0 := 0) (n := 1) (as := [.int 0]) (rest := []) ⟨hx, hb, hml, hown, hts⟩ (c_X0_answerOf l D h0 h1 h2 cA cB s11 0) gX0_transfer_X0_answerOf rfl rfl rfl (by decide +kernel) ⟨Nat.le_of_ble_eq_true rfl, Nat.le_of_ble_eq_true rfl⟩ hK hP hD hS hA rfl rfl rfl hl.1 rfl rfl (Nat.le_of_ble_eq_true rfl) dX0_transfer_224 ⟨Nat.zero_le _, Nat.zero_le _⟩ (fun H locs hP hD hS => ?_)
              refine tpi (fun v21 e21 => ?_)
              have fin : f_transfer f t a st = (v21, s11) := by
                clear hP hD hS; subst e1; subst e3; subst t7; subst e8; subst t9; subst e10; subst t11; subst e12; subst e13; subst e14; subst e15; subst e18; subst e19; subst e21; simp only [f_transfer, f_trB, f_trAcc, f_doTr, f_an2, bI, c2, c4, c5, c6, c16, c20, ↓reduceIte, not_true_eq_false, not_false_eq_true, and_self, and_true, true_and, and_false, false_and, eq_self, i10]
              exact cM_reti (Wd := FWd h0 h1 h2 cA cB) (st := s11) (st' := (f_transfer f t a st).2) hx hb hr hlocks dX0_transfer_227 hS hP hD (congrArg Prod.fst fin).symm (congrArg Prod.snd fin).symm
            · refine lv_lload hx hb dX0_transfer_68 (lv_at hl 0 rfl) ?_
              refine cS_call (n := 1) (as := [.long v12]) (rest := []) ⟨hx, hb, hml, hown, hts⟩ (c_X0_isValid l v12) gX0_transfer_X0_isValid rfl rfl rfl (by decide +kernel) ⟨Nat.le_of_ble_eq_true rfl, Nat.le_of_ble_eq_true rfl⟩ hl.1 rfl rfl (Nat.le_of_ble_eq_true rfl) dX0_transfer_70 ⟨Nat.zero_le _, Nat.zero_le _⟩ ?_
              refine tpi (fun v22 e22 => ?_)
              refine lv_if_eq (tgt := 88) hx hb dX0_transfer_73 (by decide) (fun c23 => ?_) (fun c23 => ?_)
              · refine lv_iconst (v := 0) hx hb dX0_transfer_88 (by decide) ?_
                refine lv_istore (lv' := [(10, .int 0), (8, .long v12), (6, .long v10), (4, .long v8), (0, .ref h0), (1, .int f), (2, .int t), (3, .int a)]) hx hb dX0_transfer_89 hl (by decide) rfl (fun ls hl => ?_)
                refine lv_iload hx hb dX0_transfer_91 (lv_at hl 0 rfl) ?_
                refine lv_if_eq (tgt := 221) hx hb dX0_transfer_93 (by decide) (fun _ => ?_) (fun c0 => absurd c0 (by decide))
                refine lv_aload_n hx hb dX0_transfer_221 rfl (lv_at hl 4 rfl) ?_
                refine lv_iload hx hb dX0_transfer_222 (lv_at hl 0 rfl) ?_
                refine cM_this (Wd := FWd h0 h1 h2 cA cB) (ci := 0) (q0 := 0) (n := 1) (as := [.int 0]) (rest := []) ⟨hx, hb, hml, hown, hts⟩ (c_X0_answerOf l D h0 h1 h2 cA cB s11 0) gX0_transfer_X0_answerOf rfl rfl rfl (by decide +kernel) ⟨Nat.le_of_ble_eq_true rfl, Nat.le_of_ble_eq_true rfl⟩ hK hP hD hS hA rfl rfl rfl hl.1 rfl rfl (Nat.le_of_ble_eq_true rfl) dX0_transfer_224 ⟨Nat.zero_le _, Nat.zero_le _⟩ (fun H locs hP hD hS => ?_)
                refine tpi (fun v24 e24 => ?_)
                have fin : f_transfer f t a st = (v24, s11) := by
                  clear hP hD hS; subst e1; subst e3; subst t7; subst e8; subst t9; subst e10; subst t11; subst e12; subst e13; subst e14; subst e15; subst e18; subst e19; subst e22; subst e24; simp only [f_transfer, f_trB, f_trAcc, f_doTr, f_an2, bI, c2, c4, c5, c6, c16, c20, c23, ↓reduceIte, not_true_eq_false, not_false_eq_true, and_self, and_true, true_and, and_false, false_and, eq_self, i10]
                exact cM_reti (Wd := FWd h0 h1 h2 cA cB) (st := s11) (st' := (f_transfer f t a st).2) hx hb hr hlocks dX0_transfer_227 hS hP hD (congrArg Prod.fst fin).symm (congrArg Prod.snd fin).symm
              · refine lv_lload hx hb dX0_transfer_76 (lv_at hl 0 rfl) ?_
                refine cS_call (n := 1) (as := [.long v12]) (rest := []) ⟨hx, hb, hml, hown, hts⟩ (c_X0_hasNextNumber l v12) gX0_transfer_X0_hasNextNumber rfl rfl rfl (by decide +kernel) ⟨Nat.le_of_ble_eq_true rfl, Nat.le_of_ble_eq_true rfl⟩ hl.1 rfl rfl (Nat.le_of_ble_eq_true rfl) dX0_transfer_78 ⟨Nat.zero_le _, Nat.zero_le _⟩ ?_
                refine tpi (fun v25 e25 => ?_)
                refine lv_if_eq (tgt := 88) hx hb dX0_transfer_81 (by decide) (fun c26 => ?_) (fun c26 => ?_)
                · refine lv_iconst (v := 0) hx hb dX0_transfer_88 (by decide) ?_
                  refine lv_istore (lv' := [(10, .int 0), (8, .long v12), (6, .long v10), (4, .long v8), (0, .ref h0), (1, .int f), (2, .int t), (3, .int a)]) hx hb dX0_transfer_89 hl (by decide) rfl (fun ls hl => ?_)
                  refine lv_iload hx hb dX0_transfer_91 (lv_at hl 0 rfl) ?_
                  refine lv_if_eq (tgt := 221) hx hb dX0_transfer_93 (by decide) (fun _ => ?_) (fun c0 => absurd c0 (by decide))
                  refine lv_aload_n hx hb dX0_transfer_221 rfl (lv_at hl 4 rfl) ?_
                  refine lv_iload hx hb dX0_transfer_222 (lv_at hl 0 rfl) ?_
                  refine cM_this (Wd := FWd h0 h1 h2 cA cB) (ci := 0) (q0 := 0) (n := 1) (as := [.int 0]) (rest := []) ⟨hx, hb, hml, hown, hts⟩ (c_X0_answerOf l D h0 h1 h2 cA cB s11 0) gX0_transfer_X0_answerOf rfl rfl rfl (by decide +kernel) ⟨Nat.le_of_ble_eq_true rfl, Nat.le_of_ble_eq_true rfl⟩ hK hP hD hS hA rfl rfl rfl hl.1 rfl rfl (Nat.le_of_ble_eq_true rfl) dX0_transfer_224 ⟨Nat.zero_le _, Nat.zero_le _⟩ (fun H locs hP hD hS => ?_)
                  refine tpi (fun v27 e27 => ?_)
                  have fin : f_transfer f t a st = (v27, s11) := by
                    clear hP hD hS; subst e1; subst e3; subst t7; subst e8; subst t9; subst e10; subst t11; subst e12; subst e13; subst e14; subst e15; subst e18; subst e19; subst e22; subst e25; subst e27; simp only [f_transfer, f_trB, f_trAcc, f_doTr, f_an2, bI, c2, c4, c5, c6, c16, c20, c23, c26, ↓reduceIte, not_true_eq_false, not_false_eq_true, and_self, and_true, true_and, and_false, false_and, eq_self, i10]
                  exact cM_reti (Wd := FWd h0 h1 h2 cA cB) (st := s11) (st' := (f_transfer f t a st).2) hx hb hr hlocks dX0_transfer_227 hS hP hD (congrArg Prod.fst fin).symm (congrArg Prod.snd fin).symm
                · refine lv_iconst (v := 1) hx hb dX0_transfer_84 (by decide) ?_
                  refine lv_goto (tgt := 89) hx hb dX0_transfer_85 (by decide) ?_
                  refine lv_istore (lv' := [(10, .int 1), (8, .long v12), (6, .long v10), (4, .long v8), (0, .ref h0), (1, .int f), (2, .int t), (3, .int a)]) hx hb dX0_transfer_89 hl (by decide) rfl (fun ls hl => ?_)
                  refine lv_iload hx hb dX0_transfer_91 (lv_at hl 0 rfl) ?_
                  refine lv_if_eq (tgt := 221) hx hb dX0_transfer_93 (by decide) (fun c0 => absurd c0 (by decide)) (fun _ => ?_)
                  refine lv_lload hx hb dX0_transfer_96 (lv_at hl 3 rfl) ?_
                  refine lv_iload_n hx hb dX0_transfer_98 rfl (lv_at hl 7 rfl) ?_
                  refine lv_ineg hx hb dX0_transfer_99 ?_
                  refine tpi (fun v28 e28 => ?_)
                  refine cS_call (n := 2) (as := [.long v8, .int v28]) (rest := []) ⟨hx, hb, hml, hown, hts⟩ (c_X0_nextWord l v8 v28) gX0_transfer_X0_nextWord rfl rfl rfl (by decide +kernel) ⟨Nat.le_of_ble_eq_true rfl, Nat.le_of_ble_eq_true rfl⟩ hl.1 rfl rfl (Nat.le_of_ble_eq_true rfl) dX0_transfer_100 ⟨Nat.zero_le _, Nat.zero_le _⟩ ?_
                  refine tpl (fun v29 e29 => ?_)
                  refine lv_lstore (lv' := [(11, .long v29), (10, .int 1), (8, .long v12), (6, .long v10), (4, .long v8), (0, .ref h0), (1, .int f), (2, .int t), (3, .int a)]) hx hb dX0_transfer_103 hl (by decide) rfl (fun ls hl => ?_)
                  refine lv_lload hx hb dX0_transfer_105 (lv_at hl 3 rfl) ?_
                  refine lv_iload_n hx hb dX0_transfer_107 rfl (lv_at hl 8 rfl) ?_
                  refine cS_call (n := 2) (as := [.long v10, .int a]) (rest := []) ⟨hx, hb, hml, hown, hts⟩ (c_X0_nextWord l v10 a) gX0_transfer_X0_nextWord rfl rfl rfl (by decide +kernel) ⟨Nat.le_of_ble_eq_true rfl, Nat.le_of_ble_eq_true rfl⟩ hl.1 rfl rfl (Nat.le_of_ble_eq_true rfl) dX0_transfer_108 ⟨Nat.zero_le _, Nat.zero_le _⟩ ?_
                  refine tpl (fun v30 e30 => ?_)
                  refine lv_lstore (lv' := [(13, .long v30), (11, .long v29), (10, .int 1), (8, .long v12), (6, .long v10), (4, .long v8), (0, .ref h0), (1, .int f), (2, .int t), (3, .int a)]) hx hb dX0_transfer_111 hl (by decide) rfl (fun ls hl => ?_)
                  refine lv_lload hx hb dX0_transfer_113 (lv_at hl 3 rfl) ?_
                  refine cS_call (n := 1) (as := [.long v12]) (rest := []) ⟨hx, hb, hml, hown, hts⟩ (c_X0_numberOf l v12) gX0_transfer_X0_numberOf rfl rfl rfl (by decide +kernel) ⟨Nat.le_of_ble_eq_true rfl, Nat.le_of_ble_eq_true rfl⟩ hl.1 rfl rfl (Nat.le_of_ble_eq_true rfl) dX0_transfer_115 ⟨Nat.zero_le _, Nat.zero_le _⟩ ?_
                  refine tpi (fun v31 e31 => ?_)
                  refine lv_iconst (v := 1) hx hb dX0_transfer_118 (by decide) ?_
                  refine lv_iadd hx hb dX0_transfer_119 ?_
                  refine tpi (fun v32 e32 => ?_)
                  refine lv_istore (lv' := [(15, .int v32), (13, .long v30), (11, .long v29), (10, .int 1), (8, .long v12), (6, .long v10), (4, .long v8), (0, .ref h0), (1, .int f), (2, .int t), (3, .int a)]) hx hb dX0_transfer_120 hl (by decide) rfl (fun ls hl => ?_)
                  refine lv_iload_n hx hb dX0_transfer_122 rfl (lv_at hl 8 rfl) ?_
                  refine lv_sipush (v := 256) hx hb dX0_transfer_123 (by decide) ?_
                  refine lv_imul hx hb dX0_transfer_126 ?_
                  refine tpi (fun v33 e33 => ?_)
                  refine lv_iload_n hx hb dX0_transfer_127 rfl (lv_at hl 9 rfl) ?_
                  refine lv_iadd hx hb dX0_transfer_128 ?_
                  refine tpi (fun v34 e34 => ?_)
                  refine lv_istore (lv' := [(16, .int v34), (15, .int v32), (13, .long v30), (11, .long v29), (10, .int 1), (8, .long v12), (6, .long v10), (4, .long v8), (0, .ref h0), (1, .int f), (2, .int t), (3, .int a)]) hx hb dX0_transfer_129 hl (by decide) rfl (fun ls hl => ?_)
                  refine lv_aload_n hx hb dX0_transfer_131 rfl (lv_at hl 8 rfl) ?_
                  refine lv_bipush (v := 16) hx hb dX0_transfer_132 (by decide) ?_
                  refine lv_iload_n hx hb dX0_transfer_134 rfl (lv_at hl 11 rfl) ?_
                  refine lv_iload hx hb dX0_transfer_135 (lv_at hl 1 rfl) ?_
                  refine cS_call (n := 2) (as := [.int a, .int v32]) (rest := [.int 16, .ref h0]) ⟨hx, hb, hml, hown, hts⟩ (c_X0_makeWord l a v32) gX0_transfer_X0_makeWord rfl rfl rfl (by decide +kernel) ⟨Nat.le_of_ble_eq_true rfl, Nat.le_of_ble_eq_true rfl⟩ hl.1 rfl rfl (Nat.le_of_ble_eq_true rfl) dX0_transfer_137 ⟨Nat.zero_le _, Nat.zero_le _⟩ ?_
                  refine tpl (fun v35 e35 => ?_)
                  refine cM_this (Wd := FWd h0 h1 h2 cA cB) (ci := 0) (q0 := 0) (n := 2) (as := [.int 16, .long v35]) (rest := []) ⟨hx, hb, hml, hown, hts⟩ (c_X0_put l D h0 h1 h2 cA cB s11 16 v35 in20_16) gX0_transfer_X0_put rfl rfl rfl (by decide +kernel) ⟨Nat.le_of_ble_eq_true rfl, Nat.le_of_ble_eq_true rfl⟩ hK hP hD hS hA rfl rfl rfl hl.1 rfl rfl (Nat.le_of_ble_eq_true rfl) dX0_transfer_140 ⟨Nat.zero_le _, Nat.zero_le _⟩ (fun H locs hP hD hS => ?_)
                  refine W.eq (g2 := F0 m 143 ls []) rfl ?_
                  obtain ⟨s36, t36⟩ : ∃ y9 : FS, f_put 16 v35 s11 = y9 := ⟨_, rfl⟩
                  replace hP : va_P D vwCl (FWd h0 h1 h2 cA cB s36) H := by rw [← t36]; exact hP
                  replace hD : va_D A (FWd h0 h1 h2 cA cB s36) := by rw [← t36]; exact hD
                  refine lv_aload_n hx hb dX0_transfer_143 rfl (lv_at hl 8 rfl) ?_
                  refine lv_bipush (v := 17) hx hb dX0_transfer_144 (by decide) ?_
                  refine lv_lload hx hb dX0_transfer_146 (lv_at hl 3 rfl) ?_
                  refine cS_call (n := 1) (as := [.long v29]) (rest := [.int 17, .ref h0]) ⟨hx, hb, hml, hown, hts⟩ (c_X0_numberOf l v29) gX0_transfer_X0_numberOf rfl rfl rfl (by decide +kernel) ⟨Nat.le_of_ble_eq_true rfl, Nat.le_of_ble_eq_true rfl⟩ hl.1 rfl rfl (Nat.le_of_ble_eq_true rfl) dX0_transfer_148 ⟨Nat.zero_le _, Nat.zero_le _⟩ ?_
                  refine tpi (fun v37 e37 => ?_)
                  refine lv_iload hx hb dX0_transfer_151 (lv_at hl 1 rfl) ?_
                  refine cS_call (n := 2) (as := [.int v37, .int v32]) (rest := [.int 17, .ref h0]) ⟨hx, hb, hml, hown, hts⟩ (c_X0_makeWord l v37 v32) gX0_transfer_X0_makeWord rfl rfl rfl (by decide +kernel) ⟨Nat.le_of_ble_eq_true rfl, Nat.le_of_ble_eq_true rfl⟩ hl.1 rfl rfl (Nat.le_of_ble_eq_true rfl) dX0_transfer_153 ⟨Nat.zero_le _, Nat.zero_le _⟩ ?_
                  refine tpl (fun v38 e38 => ?_)
                  refine cM_this (Wd := FWd h0 h1 h2 cA cB) (ci := 0) (q0 := 0) (n := 2) (as := [.int 17, .long v38]) (rest := []) ⟨hx, hb, hml, hown, hts⟩ (c_X0_put l D h0 h1 h2 cA cB s36 17 v38 in20_17) gX0_transfer_X0_put rfl rfl rfl (by decide +kernel) ⟨Nat.le_of_ble_eq_true rfl, Nat.le_of_ble_eq_true rfl⟩ hK hP hD hS hA rfl rfl rfl hl.1 rfl rfl (Nat.le_of_ble_eq_true rfl) dX0_transfer_156 ⟨Nat.zero_le _, Nat.zero_le _⟩ (fun H locs hP hD hS => ?_)
                  refine W.eq (g2 := F0 m 159 ls []) rfl ?_
                  obtain ⟨s39, t39⟩ : ∃ y9 : FS, f_put 17 v38 s36 = y9 := ⟨_, rfl⟩
                  replace hP : va_P D vwCl (FWd h0 h1 h2 cA cB s39) H := by rw [← t39]; exact hP
                  replace hD : va_D A (FWd h0 h1 h2 cA cB s39) := by rw [← t39]; exact hD
                  refine lv_aload_n hx hb dX0_transfer_159 rfl (lv_at hl 8 rfl) ?_
                  refine lv_bipush (v := 18) hx hb dX0_transfer_160 (by decide) ?_
                  refine lv_lload hx hb dX0_transfer_162 (lv_at hl 2 rfl) ?_
                  refine cS_call (n := 1) (as := [.long v30]) (rest := [.int 18, .ref h0]) ⟨hx, hb, hml, hown, hts⟩ (c_X0_numberOf l v30) gX0_transfer_X0_numberOf rfl rfl rfl (by decide +kernel) ⟨Nat.le_of_ble_eq_true rfl, Nat.le_of_ble_eq_true rfl⟩ hl.1 rfl rfl (Nat.le_of_ble_eq_true rfl) dX0_transfer_164 ⟨Nat.zero_le _, Nat.zero_le _⟩ ?_
                  refine tpi (fun v40 e40 => ?_)
                  refine lv_iload hx hb dX0_transfer_167 (lv_at hl 1 rfl) ?_
                  refine cS_call (n := 2) (as := [.int v40, .int v32]) (rest := [.int 18, .ref h0]) ⟨hx, hb, hml, hown, hts⟩ (c_X0_makeWord l v40 v32) gX0_transfer_X0_makeWord rfl rfl rfl (by decide +kernel) ⟨Nat.le_of_ble_eq_true rfl, Nat.le_of_ble_eq_true rfl⟩ hl.1 rfl rfl (Nat.le_of_ble_eq_true rfl) dX0_transfer_169 ⟨Nat.zero_le _, Nat.zero_le _⟩ ?_
                  refine tpl (fun v41 e41 => ?_)
                  refine cM_this (Wd := FWd h0 h1 h2 cA cB) (ci := 0) (q0 := 0) (n := 2) (as := [.int 18, .long v41]) (rest := []) ⟨hx, hb, hml, hown, hts⟩ (c_X0_put l D h0 h1 h2 cA cB s39 18 v41 in20_18) gX0_transfer_X0_put rfl rfl rfl (by decide +kernel) ⟨Nat.le_of_ble_eq_true rfl, Nat.le_of_ble_eq_true rfl⟩ hK hP hD hS hA rfl rfl rfl hl.1 rfl rfl (Nat.le_of_ble_eq_true rfl) dX0_transfer_172 ⟨Nat.zero_le _, Nat.zero_le _⟩ (fun H locs hP hD hS => ?_)
                  refine W.eq (g2 := F0 m 175 ls []) rfl ?_
                  obtain ⟨s42, t42⟩ : ∃ y9 : FS, f_put 18 v41 s39 = y9 := ⟨_, rfl⟩
                  replace hP : va_P D vwCl (FWd h0 h1 h2 cA cB s42) H := by rw [← t42]; exact hP
                  replace hD : va_D A (FWd h0 h1 h2 cA cB s42) := by rw [← t42]; exact hD
                  refine lv_aload_n hx hb dX0_transfer_175 rfl (lv_at hl 8 rfl) ?_
                  refine lv_bipush (v := 19) hx hb dX0_transfer_176 (by decide) ?_
                  refine lv_iload hx hb dX0_transfer_178 (lv_at hl 0 rfl) ?_
                  refine lv_ldc (v := 65536) hx hb hown (hts (.constant RX0 91 65536) (by decide +kernel)) dX0_transfer_180 ?_
                  refine lv_iadd hx hb dX0_transfer_182 ?_
                  refine tpi (fun v43 e43 => ?_)
                  refine lv_iload hx hb dX0_transfer_183 (lv_at hl 1 rfl) ?_
                  refine cS_call (n := 2) (as := [.int v43, .int v32]) (rest := [.int 19, .ref h0]) ⟨hx, hb, hml, hown, hts⟩ (c_X0_makeWord l v43 v32) gX0_transfer_X0_makeWord rfl rfl rfl (by decide +kernel) ⟨Nat.le_of_ble_eq_true rfl, Nat.le_of_ble_eq_true rfl⟩ hl.1 rfl rfl (Nat.le_of_ble_eq_true rfl) dX0_transfer_185 ⟨Nat.zero_le _, Nat.zero_le _⟩ ?_
                  refine tpl (fun v44 e44 => ?_)
                  refine cM_this (Wd := FWd h0 h1 h2 cA cB) (ci := 0) (q0 := 0) (n := 2) (as := [.int 19, .long v44]) (rest := []) ⟨hx, hb, hml, hown, hts⟩ (c_X0_put l D h0 h1 h2 cA cB s42 19 v44 in20_19) gX0_transfer_X0_put rfl rfl rfl (by decide +kernel) ⟨Nat.le_of_ble_eq_true rfl, Nat.le_of_ble_eq_true rfl⟩ hK hP hD hS hA rfl rfl rfl hl.1 rfl rfl (Nat.le_of_ble_eq_true rfl) dX0_transfer_188 ⟨Nat.zero_le _, Nat.zero_le _⟩ (fun H locs hP hD hS => ?_)
                  refine W.eq (g2 := F0 m 191 ls []) rfl ?_
                  obtain ⟨s45, t45⟩ : ∃ y9 : FS, f_put 19 v44 s42 = y9 := ⟨_, rfl⟩
                  replace hP : va_P D vwCl (FWd h0 h1 h2 cA cB s45) H := by rw [← t45]; exact hP
                  replace hD : va_D A (FWd h0 h1 h2 cA cB s45) := by rw [← t45]; exact hD
                  refine lv_aload_n hx hb dX0_transfer_191 rfl (lv_at hl 8 rfl) ?_
                  refine lv_iload_n hx hb dX0_transfer_192 rfl (lv_at hl 9 rfl) ?_
                  refine lv_lload hx hb dX0_transfer_193 (lv_at hl 3 rfl) ?_
                  refine cM_this (Wd := FWd h0 h1 h2 cA cB) (ci := 0) (q0 := 0) (n := 2) (as := [.int f, .long v29]) (rest := []) ⟨hx, hb, hml, hown, hts⟩ (c_X0_put l D h0 h1 h2 cA cB s45 f v29 hf) gX0_transfer_X0_put rfl rfl rfl (by decide +kernel) ⟨Nat.le_of_ble_eq_true rfl, Nat.le_of_ble_eq_true rfl⟩ hK hP hD hS hA rfl rfl rfl hl.1 rfl rfl (Nat.le_of_ble_eq_true rfl) dX0_transfer_195 ⟨Nat.zero_le _, Nat.zero_le _⟩ (fun H locs hP hD hS => ?_)
                  refine W.eq (g2 := F0 m 198 ls []) rfl ?_
                  obtain ⟨s46, t46⟩ : ∃ y9 : FS, f_put f v29 s45 = y9 := ⟨_, rfl⟩
                  replace hP : va_P D vwCl (FWd h0 h1 h2 cA cB s46) H := by rw [← t46]; exact hP
                  replace hD : va_D A (FWd h0 h1 h2 cA cB s46) := by rw [← t46]; exact hD
                  refine lv_aload_n hx hb dX0_transfer_198 rfl (lv_at hl 8 rfl) ?_
                  refine lv_iload_n hx hb dX0_transfer_199 rfl (lv_at hl 10 rfl) ?_
                  refine lv_lload hx hb dX0_transfer_200 (lv_at hl 2 rfl) ?_
                  refine cM_this (Wd := FWd h0 h1 h2 cA cB) (ci := 0) (q0 := 0) (n := 2) (as := [.int t, .long v30]) (rest := []) ⟨hx, hb, hml, hown, hts⟩ (c_X0_put l D h0 h1 h2 cA cB s46 t v30 ht) gX0_transfer_X0_put rfl rfl rfl (by decide +kernel) ⟨Nat.le_of_ble_eq_true rfl, Nat.le_of_ble_eq_true rfl⟩ hK hP hD hS hA rfl rfl rfl hl.1 rfl rfl (Nat.le_of_ble_eq_true rfl) dX0_transfer_202 ⟨Nat.zero_le _, Nat.zero_le _⟩ (fun H locs hP hD hS => ?_)
                  refine W.eq (g2 := F0 m 205 ls []) rfl ?_
                  obtain ⟨s47, t47⟩ : ∃ y9 : FS, f_put t v30 s46 = y9 := ⟨_, rfl⟩
                  replace hP : va_P D vwCl (FWd h0 h1 h2 cA cB s47) H := by rw [← t47]; exact hP
                  replace hD : va_D A (FWd h0 h1 h2 cA cB s47) := by rw [← t47]; exact hD
                  refine lv_aload_n hx hb dX0_transfer_205 rfl (lv_at hl 8 rfl) ?_
                  refine lv_bipush (v := 19) hx hb dX0_transfer_206 (by decide) ?_
                  refine lv_iload hx hb dX0_transfer_208 (lv_at hl 0 rfl) ?_
                  refine lv_ldc (v := 131072) hx hb hown (hts (.constant RX0 92 131072) (by decide +kernel)) dX0_transfer_210 ?_
                  refine lv_iadd hx hb dX0_transfer_212 ?_
                  refine tpi (fun v48 e48 => ?_)
                  refine lv_iload hx hb dX0_transfer_213 (lv_at hl 1 rfl) ?_
                  refine cS_call (n := 2) (as := [.int v48, .int v32]) (rest := [.int 19, .ref h0]) ⟨hx, hb, hml, hown, hts⟩ (c_X0_makeWord l v48 v32) gX0_transfer_X0_makeWord rfl rfl rfl (by decide +kernel) ⟨Nat.le_of_ble_eq_true rfl, Nat.le_of_ble_eq_true rfl⟩ hl.1 rfl rfl (Nat.le_of_ble_eq_true rfl) dX0_transfer_215 ⟨Nat.zero_le _, Nat.zero_le _⟩ ?_
                  refine tpl (fun v49 e49 => ?_)
                  refine cM_this (Wd := FWd h0 h1 h2 cA cB) (ci := 0) (q0 := 0) (n := 2) (as := [.int 19, .long v49]) (rest := []) ⟨hx, hb, hml, hown, hts⟩ (c_X0_put l D h0 h1 h2 cA cB s47 19 v49 in20_19) gX0_transfer_X0_put rfl rfl rfl (by decide +kernel) ⟨Nat.le_of_ble_eq_true rfl, Nat.le_of_ble_eq_true rfl⟩ hK hP hD hS hA rfl rfl rfl hl.1 rfl rfl (Nat.le_of_ble_eq_true rfl) dX0_transfer_218 ⟨Nat.zero_le _, Nat.zero_le _⟩ (fun H locs hP hD hS => ?_)
                  refine W.eq (g2 := F0 m 221 ls []) rfl ?_
                  obtain ⟨s50, t50⟩ : ∃ y9 : FS, f_put 19 v49 s47 = y9 := ⟨_, rfl⟩
                  replace hP : va_P D vwCl (FWd h0 h1 h2 cA cB s50) H := by rw [← t50]; exact hP
                  replace hD : va_D A (FWd h0 h1 h2 cA cB s50) := by rw [← t50]; exact hD
                  refine lv_aload_n hx hb dX0_transfer_221 rfl (lv_at hl 8 rfl) ?_
                  refine lv_iload hx hb dX0_transfer_222 (lv_at hl 4 rfl) ?_
                  refine cM_this (Wd := FWd h0 h1 h2 cA cB) (ci := 0) (q0 := 0) (n := 1) (as := [.int 1]) (rest := []) ⟨hx, hb, hml, hown, hts⟩ (c_X0_answerOf l D h0 h1 h2 cA cB s50 1) gX0_transfer_X0_answerOf rfl rfl rfl (by decide +kernel) ⟨Nat.le_of_ble_eq_true rfl, Nat.le_of_ble_eq_true rfl⟩ hK hP hD hS hA rfl rfl rfl hl.1 rfl rfl (Nat.le_of_ble_eq_true rfl) dX0_transfer_224 ⟨Nat.zero_le _, Nat.zero_le _⟩ (fun H locs hP hD hS => ?_)
                  refine tpi (fun v51 e51 => ?_)
                  have fin : f_transfer f t a st = (v51, s50) := by
                    clear hP hD hS; subst e1; subst e3; subst t7; subst e8; subst t9; subst e10; subst t11; subst e12; subst e13; subst e14; subst e15; subst e18; subst e19; subst e22; subst e25; subst e28; subst e29; subst e30; subst e31; subst e32; subst e33; subst e34; subst e35; subst t36; subst e37; subst e38; subst t39; subst e40; subst e41; subst t42; subst e43; subst e44; subst t45; subst t46; subst t47; subst e48; subst e49; subst t50; subst e51; simp only [f_transfer, f_trB, f_trAcc, f_doTr, f_an2, bI, c2, c4, c5, c6, c16, c20, c23, c26, ↓reduceIte, not_true_eq_false, not_false_eq_true, and_self, and_true, true_and, and_false, false_and, eq_self, i10]
                  exact cM_reti (Wd := FWd h0 h1 h2 cA cB) (st := s50) (st' := (f_transfer f t a st).2) hx hb hr hlocks dX0_transfer_227 hS hP hD (congrArg Prod.fst fin).symm (congrArg Prod.snd fin).symm
        · refine lv_iconst (v := (-1)) hx hb dX0_transfer_23 (by decide) ?_
          have fin : f_transfer f t a st = ((-1), st) := by
            clear hP hD hS; subst e1; subst e3; simp only [f_transfer, f_trB, f_trAcc, f_doTr, f_an2, bI, c2, c4, c5, c6, ↓reduceIte, not_true_eq_false, not_false_eq_true, and_self, and_true, true_and, and_false, false_and, eq_self, i10]
          exact cM_reti (Wd := FWd h0 h1 h2 cA cB) (st := st) (st' := (f_transfer f t a st).2) hx hb hr hlocks dX0_transfer_24 hS hP hD (congrArg Prod.fst fin).symm (congrArg Prod.snd fin).symm
