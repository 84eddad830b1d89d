abbrev rmX0_losePower : Room := { frames := 0, cells := 0, slots := 0, locals := 0 }
-- losePower
set_option maxHeartbeats 400000 in
set_option maxRecDepth 100000 in
theorem c_X0_losePower (l : Launch) (D : va_G) (h0 h1 h2 : Nat) (cA cB : ClassId) (st : FS)   : cM l D vwCl (FT cA cB) (FWd h0 h1 h2 cA cB) yX0_losePower wsX0_losePower rmX0_losePower [.ref h0] st none (f_lose st) := by
  refine cM_in (cc := cX0_losePower) (maxL := 1) (ret := none) (by decide) rfl (Nat.le_of_ble_eq_true rfl) ?_
  intro p e s m below meth c ls A hx hb hr hlocks hml hown hts hA hK hP hD hS hl
  have hown : s.vm.findClass RX0 = some m.cls := hown
  have hl : lv_has ls 1 [(0, .ref h0)] := hl
  -- walk
  refine lv_aload_n hx hb dX0_losePower_0 rfl (lv_at hl 0 rfl) ?_
  refine lv_iconst (v := 0) hx hb dX0_losePower_1 (by decide) ?_
  refine va_put (D := D) (ci := 0) (v := .int 0) (ty := .boolean) (C := RX0) (T := TX0) (N := 6) hx hb hts (by decide +kernel) tyX0 tyX0_ok nmX0 hown hK hP hD hS 0 rfl rfl 2 (by decide) (hts (.fieldLink RX0 17 "FadeLedger" "powered" "Z") (by decide +kernel)) (fun _ h9 => h9) rfl (by decide +kernel) rfl rfl (Nat.le_of_ble_eq_true rfl) dX0_losePower_2 (fun H locs hP hD hS => ?_)
  obtain ⟨s1, t1⟩ : ∃ y9 : FS, ((st.1, st.2.1, 0, st.2.2.2.1, st.2.2.2.2.1, st.2.2.2.2.2) : FS) = y9 := ⟨_, rfl⟩
  replace hP : va_P D vwCl (FWd h0 h1 h2 cA cB s1) H := by rw [← t1]; exact hP
  replace hD : va_D A (FWd h0 h1 h2 cA cB s1) := by rw [← t1]; exact hD
  refine lv_aload_n hx hb dX0_losePower_5 rfl (lv_at hl 0 rfl) ?_
  refine lv_iconst (v := (-1)) hx hb dX0_losePower_6 (by decide) ?_
  refine va_put (D := D) (ci := 0) (v := .int (-1)) (ty := .int) (C := RX0) (T := TX0) (N := 6) hx hb hts (by decide +kernel) tyX0 tyX0_ok nmX0 hown hK hP hD hS 0 rfl rfl 3 (by decide) (hts (.fieldLink RX0 21 "FadeLedger" "turnsLeft" "I") (by decide +kernel)) (fun _ h9 => h9) rfl (by decide +kernel) rfl rfl (Nat.le_of_ble_eq_true rfl) dX0_losePower_7 (fun H locs hP hD hS => ?_)
  obtain ⟨s2, t2⟩ : ∃ y9 : FS, ((s1.1, s1.2.1, s1.2.2.1, (-1), s1.2.2.2.2.1, s1.2.2.2.2.2) : FS) = y9 := ⟨_, rfl⟩
  replace hP : va_P D vwCl (FWd h0 h1 h2 cA cB s2) H := by rw [← t2]; exact hP
  replace hD : va_D A (FWd h0 h1 h2 cA cB s2) := by rw [← t2]; exact hD
  have fin : (f_lose st) = s2 := by clear hP hD hS; subst t1; subst t2; simp only [f_lose]
  exact cM_retv (Wd := FWd h0 h1 h2 cA cB) (st := s2) (st' := (f_lose st)) hx hb hr hlocks dX0_losePower_10 hS hP hD fin.symm
abbrev rmX0_takeTurn : Room := { frames := 1, cells := 0, slots := 0, locals := 20 }
-- takeTurn
set_option maxHeartbeats 400000 in
set_option maxRecDepth 100000 in
theorem c_X0_takeTurn (l : Launch) (D : va_G) (h0 h1 h2 : Nat) (cA cB : ClassId) (st : FS)   : cM l D vwCl (FT cA cB) (FWd h0 h1 h2 cA cB) yX0_takeTurn wsX0_takeTurn rmX0_takeTurn [.ref h0] st (some (.int (f_take st).1)) (f_take st).2 := by
  refine cM_in (cc := cX0_takeTurn) (maxL := 1) (ret := (some .boolean)) (by decide) rfl (Nat.le_of_ble_eq_true rfl) ?_
  intro p e s m below meth c ls A hx hb hr hlocks hml hown hts hA hK hP hD hS hl
  have hown : s.vm.findClass RX0 = some m.cls := hown
  have hl : lv_has ls 1 [(0, .ref h0)] := hl
  -- walk
  refine lv_aload_n hx hb dX0_takeTurn_0 rfl (lv_at hl 0 rfl) ?_
  refine va_get (D := D) (ci := 0) (v := .int st.2.2.1) (C := RX0) (T := TX0) (N := 6) hx hb hts (by decide +kernel) hown hK hP 0 rfl rfl 2 (by decide) (hts (.fieldLink RX0 17 "FadeLedger" "powered" "Z") (by decide +kernel)) (fun _ h9 => h9) rfl dX0_takeTurn_1 ?_
  refine tpi (fun v1 e1 => ?_)
  refine lv_if_ne (tgt := 9) hx hb dX0_takeTurn_4 (by decide) (fun c2 => ?_) (fun c2 => ?_)
  · refine lv_aload_n hx hb dX0_takeTurn_9 rfl (lv_at hl 0 rfl) ?_
    refine va_get (D := D) (ci := 0) (v := .int st.2.2.2.1) (C := RX0) (T := TX0) (N := 6) hx hb hts (by decide +kernel) hown hK hP 0 rfl rfl 3 (by decide) (hts (.fieldLink RX0 21 "FadeLedger" "turnsLeft" "I") (by decide +kernel)) (fun _ h9 => h9) rfl dX0_takeTurn_10 ?_
    refine tpi (fun v3 e3 => ?_)
    refine lv_if_ne (tgt := 22) hx hb dX0_takeTurn_13 (by decide) (fun c4 => ?_) (fun c4 => ?_)
    · refine lv_aload_n hx hb dX0_takeTurn_22 rfl (lv_at hl 0 rfl) ?_
      refine va_get (D := D) (ci := 0) (v := .int st.2.2.2.1) (C := RX0) (T := TX0) (N := 6) hx hb hts (by decide +kernel) hown hK hP 0 rfl rfl 3 (by decide) (hts (.fieldLink RX0 21 "FadeLedger" "turnsLeft" "I") (by decide +kernel)) (fun _ h9 => h9) rfl dX0_takeTurn_23 ?_
      refine tpi (fun v5 e5 => ?_)
      refine lv_if_le (tgt := 39) hx hb dX0_takeTurn_26 (by decide) (fun c6 => ?_) (fun c6 => ?_)
      · refine lv_iconst (v := 1) hx hb dX0_takeTurn_39 (by decide) ?_
        have fin : f_take st = (1, st) := by
          clear hP hD hS; subst e1; subst e3; subst e5; simp only [f_take, c2, c4, c6, ↓reduceIte, not_true_eq_false, not_false_eq_true, and_self, and_true, true_and, and_false, false_and, eq_self, i10]
        exact cM_retz (Wd := FWd h0 h1 h2 cA cB) (st := st) (st' := (f_take st).2) hx hb hr hlocks dX0_takeTurn_40 hS hP hD rfl (congrArg Prod.fst fin).symm (congrArg Prod.snd fin).symm
      · refine lv_aload_n hx hb dX0_takeTurn_29 rfl (lv_at hl 0 rfl) ?_
        refine lv_dup hx hb dX0_takeTurn_30 rfl ?_
        refine va_get (D := D) (ci := 0) (v := .int st.2.2.2.1) (C := RX0) (T := TX0) (N := 6) hx hb hts (by decide +kernel) hown hK hP 0 rfl rfl 3 (by decide) (hts (.fieldLink RX0 21 "FadeLedger" "turnsLeft" "I") (by decide +kernel)) (fun _ h9 => h9) rfl dX0_takeTurn_31 ?_
        refine tpi (fun v7 e7 => ?_)
        refine lv_iconst (v := 1) hx hb dX0_takeTurn_34 (by decide) ?_
        refine lv_isub hx hb dX0_takeTurn_35 ?_
        refine tpi (fun v8 e8 => ?_)
        refine va_put (D := D) (ci := 0) (v := .int v8) (ty := .int) (C := RX0) (T := TX0) (N := 6) hx hb hts (by decide +kernel) tyX0 tyX0_ok nmX0 hown hK hP hD hS 0 rfl rfl 3 (by decide) (hts (.fieldLink RX0 21 "FadeLedger" "turnsLeft" "I") (by decide +kernel)) (fun _ h9 => h9) rfl (by decide +kernel) rfl rfl (Nat.le_of_ble_eq_true rfl) dX0_takeTurn_36 (fun H locs hP hD hS => ?_)
        obtain ⟨s9, t9⟩ : ∃ y9 : FS, ((st.1, st.2.1, st.2.2.1, v8, st.2.2.2.2.1, st.2.2.2.2.2) : FS) = y9 := ⟨_, rfl⟩
        replace hP : va_P D vwCl (FWd h0 h1 h2 cA cB s9) H := by rw [← t9]; exact hP
        replace hD : va_D A (FWd h0 h1 h2 cA cB s9) := by rw [← t9]; exact hD
        refine lv_iconst (v := 1) hx hb dX0_takeTurn_39 (by decide) ?_
        have fin : f_take st = (1, s9) := by
          clear hP hD hS; subst e1; subst e3; subst e5; subst e7; subst e8; subst t9; simp only [f_take, c2, c4, c6, ↓reduceIte, not_true_eq_false, not_false_eq_true, and_self, and_true, true_and, and_false, false_and, eq_self, i10]
        exact cM_retz (Wd := FWd h0 h1 h2 cA cB) (st := s9) (st' := (f_take st).2) hx hb hr hlocks dX0_takeTurn_40 hS hP hD rfl (congrArg Prod.fst fin).symm (congrArg Prod.snd fin).symm
    · refine lv_aload_n hx hb dX0_takeTurn_16 rfl (lv_at hl 0 rfl) ?_
      refine cM_this (Wd := FWd h0 h1 h2 cA cB) (ci := 0) (q0 := 0) (n := 0) (as := []) (rest := []) ⟨hx, hb, hml, hown, hts⟩ (c_X0_losePower l D h0 h1 h2 cA cB st) gX0_takeTurn_X0_losePower rfl rfl rfl (by decide +kernel) ⟨Nat.le_of_ble_eq_true rfl, Nat.le_of_ble_eq_true rfl⟩ hK hP hD hS hA rfl rfl rfl hl.1 rfl rfl (Nat.le_of_ble_eq_true rfl) dX0_takeTurn_17 ⟨Nat.zero_le _, Nat.zero_le _⟩ (fun H locs hP hD hS => ?_)
      refine W.eq (g2 := F0 m 20 ls []) rfl ?_
      obtain ⟨s10, t10⟩ : ∃ y9 : FS, f_lose st = y9 := ⟨_, rfl⟩
      replace hP : va_P D vwCl (FWd h0 h1 h2 cA cB s10) H := by rw [← t10]; exact hP
      replace hD : va_D A (FWd h0 h1 h2 cA cB s10) := by rw [← t10]; exact hD
      refine lv_iconst (v := 0) hx hb dX0_takeTurn_20 (by decide) ?_
      have fin : f_take st = (0, s10) := by
        clear hP hD hS; subst e1; subst e3; subst t10; simp only [f_take, c2, c4, ↓reduceIte, not_true_eq_false, not_false_eq_true, and_self, and_true, true_and, and_false, false_and, eq_self, i10]
      exact cM_retz (Wd := FWd h0 h1 h2 cA cB) (st := s10) (st' := (f_take st).2) hx hb hr hlocks dX0_takeTurn_21 hS hP hD rfl (congrArg Prod.fst fin).symm (congrArg Prod.snd fin).symm
  · refine lv_iconst (v := 0) hx hb dX0_takeTurn_7 (by decide) ?_
    have fin : f_take st = (0, st) := by
      clear hP hD hS; subst e1; simp only [f_take, c2, ↓reduceIte, not_true_eq_false, not_false_eq_true, and_self, and_true, true_and, and_false, false_and, eq_self, i10]
    exact cM_retz (Wd := FWd h0 h1 h2 cA cB) (st := st) (st' := (f_take st).2) hx hb hr hlocks dX0_takeTurn_8 hS hP hD rfl (congrArg Prod.fst fin).symm (congrArg Prod.snd fin).symm
abbrev rmX0_readTurn : Room := { frames := 2, cells := 0, slots := 0, locals := 40 }
-- readTurn
set_option maxHeartbeats 400000 in
set_option maxRecDepth 100000 in
theorem c_X0_readTurn (l : Launch) (D : va_G) (h0 h1 h2 : Nat) (cA cB : ClassId) (st : FS) (a : Int32) (b : Int32) (hp : vp_in a 4) (hc : vp_in b 20) : cM l D vwCl (FT cA cB) (FWd h0 h1 h2 cA cB) yX0_readTurn wsX0_readTurn rmX0_readTurn [.ref h0, .int a, .int b] st (some (.long (f_read a b st).1)) (f_read a b st).2 := by
  refine cM_in (cc := cX0_readTurn) (maxL := 6) (ret := (some .long)) (by decide) rfl (Nat.le_of_ble_eq_true rfl) ?_
  intro p e s m below meth c ls A hx hb hr hlocks hml hown hts hA hK hP hD hS hl
  have hown : s.vm.findClass RX0 = some m.cls := hown
  have hl : lv_has ls 6 [(0, .ref h0), (1, .int a), (2, .int b)] := hl
  -- walk
  refine lv_aload_n hx hb dX0_readTurn_0 rfl (lv_at hl 0 rfl) ?_
  refine cM_this (Wd := FWd h0 h1 h2 cA cB) (ci := 0) (q0 := 0) (n := 0) (as := []) (rest := []) ⟨hx, hb, hml, hown, hts⟩ (c_X0_takeTurn l D h0 h1 h2 cA cB st) gX0_readTurn_X0_takeTurn rfl rfl rfl (by decide +kernel) ⟨Nat.le_of_ble_eq_true rfl, Nat.le_of_ble_eq_true rfl⟩ hK hP hD hS hA rfl rfl rfl hl.1 rfl rfl (Nat.le_of_ble_eq_true rfl) dX0_readTurn_1 ⟨Nat.zero_le _, Nat.zero_le _⟩ (fun H locs hP hD hS => ?_)
  obtain ⟨s1, t1⟩ : ∃ y9 : FS, (f_take st).2 = y9 := ⟨_, rfl⟩
  replace hP : va_P D vwCl (FWd h0 h1 h2 cA cB s1) H := by rw [← t1]; exact hP
  replace hD : va_D A (FWd h0 h1 h2 cA cB s1) := by rw [← t1]; exact hD
  refine tpi (fun v2 e2 => ?_)
  refine lv_if_ne (tgt := 9) hx hb dX0_readTurn_4 (by decide) (fun c3 => ?_) (fun c3 => ?_)
  · refine lv_aload_n hx hb dX0_readTurn_9 rfl (lv_at hl 0 rfl) ?_
    refine lv_dup hx hb dX0_readTurn_10 rfl ?_
    refine va_get (D := D) (ci := 0) (v := .int s1.2.2.2.2.1) (C := RX0) (T := TX0) (N := 6) hx hb hts (by decide +kernel) hown hK hP 0 rfl rfl 4 (by decide) (hts (.fieldLink RX0 114 "FadeLedger" "reads" "I") (by decide +kernel)) (fun _ h9 => h9) rfl dX0_readTurn_11 ?_
    refine tpi (fun v4 e4 => ?_)
    refine lv_iconst (v := 1) hx hb dX0_readTurn_14 (by decide) ?_
    refine lv_iadd hx hb dX0_readTurn_15 ?_
    refine tpi (fun v5 e5 => ?_)
    refine va_put (D := D) (ci := 0) (v := .int v5) (ty := .int) (C := RX0) (T := TX0) (N := 6) hx hb hts (by decide +kernel) tyX0 tyX0_ok nmX0 hown hK hP hD hS 0 rfl rfl 4 (by decide) (hts (.fieldLink RX0 114 "FadeLedger" "reads" "I") (by decide +kernel)) (fun _ h9 => h9) rfl (by decide +kernel) rfl rfl (Nat.le_of_ble_eq_true rfl) dX0_readTurn_16 (fun H locs hP hD hS => ?_)
    obtain ⟨s6, t6⟩ : ∃ y9 : FS, ((s1.1, s1.2.1, s1.2.2.1, s1.2.2.2.1, v5, s1.2.2.2.2.2) : FS) = y9 := ⟨_, rfl⟩
    replace hP : va_P D vwCl (FWd h0 h1 h2 cA cB s6) H := by rw [← t6]; exact hP
    replace hD : va_D A (FWd h0 h1 h2 cA cB s6) := by rw [← t6]; exact hD
    refine lv_iload_n hx hb dX0_readTurn_19 rfl (lv_at hl 1 rfl) ?_
    refine lv_iload_n hx hb dX0_readTurn_20 rfl (lv_at hl 2 rfl) ?_
    refine cS_call (n := 2) (as := [.int a, .int b]) (rest := []) ⟨hx, hb, hml, hown, hts⟩ (c_X0_slot l a b) gX0_readTurn_X0_slot rfl rfl rfl (by decide +kernel) ⟨Nat.le_of_ble_eq_true rfl, Nat.le_of_ble_eq_true rfl⟩ hl.1 rfl rfl (Nat.le_of_ble_eq_true rfl) dX0_readTurn_21 ⟨Nat.zero_le _, Nat.zero_le _⟩ ?_
    refine tpi (fun v7 e7 => ?_)
    refine lv_istore_n (lv' := [(3, .int v7), (0, .ref h0), (1, .int a), (2, .int b)]) hx hb dX0_readTurn_24 rfl hl (by decide) rfl (fun ls hl => ?_)
    refine lv_aload_n hx hb dX0_readTurn_25 rfl (lv_at hl 1 rfl) ?_
    refine va_get (D := D) (ci := 0) (v := .ref h1) (C := RX0) (T := TX0) (N := 6) hx hb hts (by decide +kernel) hown hK hP 0 rfl rfl 0 (by decide) (hts (.fieldLink RX0 9 "FadeLedger" "memory" "[J") (by decide +kernel)) (fun _ h9 => h9) rfl dX0_readTurn_26 ?_
    refine lv_iload_n hx hb dX0_readTurn_29 rfl (lv_at hl 0 rfl) ?_
    refine va_lald hx hb hK hP 1 0 rfl rfl (by subst e2; subst e4; subst e5; subst e7; exact slot_in hp hc) dX0_readTurn_30 ?_
    refine tpl (fun v8 e8 => ?_)
    refine lv_lstore (lv' := [(4, .long v8), (3, .int v7), (0, .ref h0), (1, .int a), (2, .int b)]) hx hb dX0_readTurn_31 hl (by decide) rfl (fun ls hl => ?_)
    refine lv_aload_n hx hb dX0_readTurn_33 rfl (lv_at hl 2 rfl) ?_
    refine va_get (D := D) (ci := 0) (v := .ref h1) (C := RX0) (T := TX0) (N := 6) hx hb hts (by decide +kernel) hown hK hP 0 rfl rfl 0 (by decide) (hts (.fieldLink RX0 9 "FadeLedger" "memory" "[J") (by decide +kernel)) (fun _ h9 => h9) rfl dX0_readTurn_34 ?_
    refine lv_iload_n hx hb dX0_readTurn_37 rfl (lv_at hl 1 rfl) ?_
    refine lv_lconst (v := 0) hx hb dX0_readTurn_38 (by decide) ?_
    refine va_last hx hb hK hP hD hS 1 0 rfl rfl (by subst e2; subst e4; subst e5; subst e7; subst e8; exact slot_in hp hc) dX0_readTurn_39 (fun H locs hP hD hS => ?_)
    obtain ⟨s9, t9⟩ : ∃ y9 : FS, ((vp_updL s6.1 v7.toNatClampNeg 0, s6.2.1, s6.2.2.1, s6.2.2.2.1, s6.2.2.2.2.1, s6.2.2.2.2.2) : FS) = y9 := ⟨_, rfl⟩
    replace hP : va_P D vwCl (FWd h0 h1 h2 cA cB s9) H := by rw [← t9]; exact hP
    replace hD : va_D A (FWd h0 h1 h2 cA cB s9) := by rw [← t9]; exact hD
    refine lv_lload hx hb dX0_readTurn_40 (lv_at hl 0 rfl) ?_
    have fin : f_read a b st = (v8, s9) := by
      clear hP hD hS; subst t1; subst e2; subst e4; subst e5; subst t6; subst e7; subst e8; subst t9; simp only [f_read, f_readT, c3, ↓reduceIte, not_true_eq_false, not_false_eq_true, and_self, and_true, true_and, and_false, false_and, eq_self, i10]
    exact cM_retl (Wd := FWd h0 h1 h2 cA cB) (st := s9) (st' := (f_read a b st).2) hx hb hr hlocks dX0_readTurn_42 hS hP hD (congrArg Prod.fst fin).symm (congrArg Prod.snd fin).symm
  · refine lv_lconst (v := 0) hx hb dX0_readTurn_7 (by decide) ?_
    have fin : f_read a b st = (0, s1) := by
      clear hP hD hS; subst t1; subst e2; simp only [f_read, f_readT, c3, ↓reduceIte, not_true_eq_false, not_false_eq_true, and_self, and_true, true_and, and_false, false_and, eq_self, i10]
    exact cM_retl (Wd := FWd h0 h1 h2 cA cB) (st := s1) (st' := (f_read a b st).2) hx hb hr hlocks dX0_readTurn_8 hS hP hD (congrArg Prod.fst fin).symm (congrArg Prod.snd fin).symm
abbrev rmX0_writeTurn : Room := { frames := 2, cells := 0, slots := 0, locals := 40 }
-- writeTurn
set_option maxHeartbeats 400000 in
set_option maxRecDepth 100000 in
theorem c_X0_writeTurn (l : Launch) (D : va_G) (h0 h1 h2 : Nat) (cA cB : ClassId) (st : FS) (a : Int32) (b : Int32) (v : Int64) (hp : vp_in a 4) (hc : vp_in b 20) : cM l D vwCl (FT cA cB) (FWd h0 h1 h2 cA cB) yX0_writeTurn wsX0_writeTurn rmX0_writeTurn [.ref h0, .int a, .int b, .long v] st none (f_write a b v st) := by
  refine cM_in (cc := cX0_writeTurn) (maxL := 5) (ret := none) (by decide) rfl (Nat.le_of_ble_eq_true rfl) ?_
  intro p e s m below meth c ls A hx hb hr hlocks hml hown hts hA hK hP hD hS hl
  have hown : s.vm.findClass RX0 = some m.cls := hown
  have hl : lv_has ls 5 [(0, .ref h0), (1, .int a), (2, .int b), (3, .long v)] := hl
  -- walk
  refine lv_aload_n hx hb dX0_writeTurn_0 rfl (lv_at hl 0 rfl) ?_
  refine cM_this (Wd := FWd h0 h1 h2 cA cB) (ci := 0) (q0 := 0) (n := 0) (as := []) (rest := []) ⟨hx, hb, hml, hown, hts⟩ (c_X0_takeTurn l D h0 h1 h2 cA cB st) gX0_writeTurn_X0_takeTurn rfl rfl rfl (by decide +kernel) ⟨Nat.le_of_ble_eq_true rfl, Nat.le_of_ble_eq_true rfl⟩ hK hP hD hS hA rfl rfl rfl hl.1 rfl rfl (Nat.le_of_ble_eq_true rfl) dX0_writeTurn_1 ⟨Nat.zero_le _, Nat.zero_le _⟩ (fun H locs hP hD hS => ?_)
  obtain ⟨s1, t1⟩ : ∃ y9 : FS, (f_take st).2 = y9 := ⟨_, rfl⟩
  replace hP : va_P D vwCl (FWd h0 h1 h2 cA cB s1) H := by rw [← t1]; exact hP
  replace hD : va_D A (FWd h0 h1 h2 cA cB s1) := by rw [← t1]; exact hD
  refine tpi (fun v2 e2 => ?_)
  refine lv_if_eq (tgt := 28) hx hb dX0_writeTurn_4 (by decide) (fun c3 => ?_) (fun c3 => ?_)
  · have fin : (f_write a b v st) = s1 := by clear hP hD hS; subst t1; subst e2; simp only [f_write, f_writeT, c3, ↓reduceIte, not_true_eq_false, not_false_eq_true, and_self, and_true, true_and, and_false, false_and, eq_self]
    exact cM_retv (Wd := FWd h0 h1 h2 cA cB) (st := s1) (st' := (f_write a b v st)) hx hb hr hlocks dX0_writeTurn_28 hS hP hD fin.symm
  · refine lv_aload_n hx hb dX0_writeTurn_7 rfl (lv_at hl 0 rfl) ?_
    refine lv_dup hx hb dX0_writeTurn_8 rfl ?_
    refine va_get (D := D) (ci := 0) (v := .int s1.2.2.2.2.2) (C := RX0) (T := TX0) (N := 6) hx hb hts (by decide +kernel) hown hK hP 0 rfl rfl 5 (by decide) (hts (.fieldLink RX0 117 "FadeLedger" "writes" "I") (by decide +kernel)) (fun _ h9 => h9) rfl dX0_writeTurn_9 ?_
    refine tpi (fun v4 e4 => ?_)
    refine lv_iconst (v := 1) hx hb dX0_writeTurn_12 (by decide) ?_
    refine lv_iadd hx hb dX0_writeTurn_13 ?_
    refine tpi (fun v5 e5 => ?_)
    refine va_put (D := D) (ci := 0) (v := .int v5) (ty := .int) (C := RX0) (T := TX0) (N := 6) hx hb hts (by decide +kernel) tyX0 tyX0_ok nmX0 hown hK hP hD hS 0 rfl rfl 5 (by decide) (hts (.fieldLink RX0 117 "FadeLedger" "writes" "I") (by decide +kernel)) (fun _ h9 => h9) rfl (by decide +kernel) rfl rfl (Nat.le_of_ble_eq_true rfl) dX0_writeTurn_14 (fun H locs hP hD hS => ?_)
    obtain ⟨s6, t6⟩ : ∃ y9 : FS, ((s1.1, s1.2.1, s1.2.2.1, s1.2.2.2.1, s1.2.2.2.2.1, v5) : FS) = y9 := ⟨_, rfl⟩
    replace hP : va_P D vwCl (FWd h0 h1 h2 cA cB s6) H := by rw [← t6]; exact hP
    replace hD : va_D A (FWd h0 h1 h2 cA cB s6) := by rw [← t6]; exact hD
    refine lv_aload_n hx hb dX0_writeTurn_17 rfl (lv_at hl 0 rfl) ?_
    refine va_get (D := D) (ci := 0) (v := .ref h1) (C := RX0) (T := TX0) (N := 6) hx hb hts (by decide +kernel) hown hK hP 0 rfl rfl 0 (by decide) (hts (.fieldLink RX0 9 "FadeLedger" "memory" "[J") (by decide +kernel)) (fun _ h9 => h9) rfl dX0_writeTurn_18 ?_
    refine lv_iload_n hx hb dX0_writeTurn_21 rfl (lv_at hl 1 rfl) ?_
    refine lv_iload_n hx hb dX0_writeTurn_22 rfl (lv_at hl 2 rfl) ?_
    refine cS_call (n := 2) (as := [.int a, .int b]) (rest := [.ref h1]) ⟨hx, hb, hml, hown, hts⟩ (c_X0_slot l a b) gX0_writeTurn_X0_slot rfl rfl rfl (by decide +kernel) ⟨Nat.le_of_ble_eq_true rfl, Nat.le_of_ble_eq_true rfl⟩ hl.1 rfl rfl (Nat.le_of_ble_eq_true rfl) dX0_writeTurn_23 ⟨Nat.zero_le _, Nat.zero_le _⟩ ?_
    refine tpi (fun v7 e7 => ?_)
    refine lv_lload_n hx hb dX0_writeTurn_26 rfl (lv_at hl 3 rfl) ?_
    refine va_last hx hb hK hP hD hS 1 0 rfl rfl (by subst e2; subst e4; subst e5; subst e7; exact slot_in hp hc) dX0_writeTurn_27 (fun H locs hP hD hS => ?_)
    obtain ⟨s8, t8⟩ : ∃ y9 : FS, ((vp_updL s6.1 v7.toNatClampNeg v, s6.2.1, s6.2.2.1, s6.2.2.2.1, s6.2.2.2.2.1, s6.2.2.2.2.2) : FS) = y9 := ⟨_, rfl⟩
    replace hP : va_P D vwCl (FWd h0 h1 h2 cA cB s8) H := by rw [← t8]; exact hP
    replace hD : va_D A (FWd h0 h1 h2 cA cB s8) := by rw [← t8]; exact hD
    have fin : (f_write a b v st) = s8 := by clear hP hD hS; subst t1; subst e2; subst e4; subst e5; subst t6; subst e7; subst t8; simp only [f_write, f_writeT, c3, ↓reduceIte, not_true_eq_false, not_false_eq_true, and_self, and_true, true_and, and_false, false_and, eq_self]
    exact cM_retv (Wd := FWd h0 h1 h2 cA cB) (st := s8) (st' := (f_write a b v st)) hx hb hr hlocks dX0_writeTurn_28 hS hP hD fin.symm
abbrev rmX0_put : Room := { frames := 3, cells := 0, slots := 0, locals := 64 }
-- put
set_option maxHeartbeats 400000 in
set_option maxRecDepth 100000 in
theorem c_X0_put (l : Launch) (D : va_G) (h0 h1 h2 : Nat) (cA cB : ClassId) (st : FS) (a : Int32) (v : Int64) (hc : vp_in a 20) : cM l D vwCl (FT cA cB) (FWd h0 h1 h2 cA cB) yX0_put wsX0_put rmX0_put [.ref h0, .int a, .long v] st none (f_put a v st) := by
  refine cM_in (cc := cX0_put) (maxL := 5) (ret := none) (by decide) rfl (Nat.le_of_ble_eq_true rfl) ?_
  intro p e s m below meth c ls A hx hb hr hlocks hml hown hts hA hK hP hD hS hl
  have hown : s.vm.findClass RX0 = some m.cls := hown
  have hl : lv_has ls 5 [(0, .ref h0), (1, .int a), (2, .long v)] := hl
  -- walk
  refine lv_iconst (v := 0) hx hb dX0_put_0 (by decide) ?_
  refine lv_istore (lv' := [(4, .int 0), (0, .ref h0), (1, .int a), (2, .long v)]) hx hb dX0_put_1 hl (by decide) rfl (fun ls hl => ?_)
  refine lv_iload hx hb dX0_put_3 (lv_at hl 0 rfl) ?_
  refine lv_iconst (v := 4) hx hb dX0_put_5 (by decide) ?_
  refine lv_icmp_ge (tgt := 23) hx hb dX0_put_6 (by decide) (fun c0 => absurd c0 (by decide)) (fun _ => ?_)
  refine lv_aload_n hx hb dX0_put_9 rfl (lv_at hl 1 rfl) ?_
  refine lv_iload hx hb dX0_put_10 (lv_at hl 0 rfl) ?_
  refine lv_iload_n hx hb dX0_put_12 rfl (lv_at hl 2 rfl) ?_
  refine lv_lload_n hx hb dX0_put_13 rfl (lv_at hl 3 rfl) ?_
  refine cM_this (Wd := FWd h0 h1 h2 cA cB) (ci := 0) (q0 := 0) (n := 3) (as := [.int 0, .int a, .long v]) (rest := []) ⟨hx, hb, hml, hown, hts⟩ (c_X0_writeTurn l D h0 h1 h2 cA cB st 0 a v in4_0 hc) gX0_put_X0_writeTurn rfl rfl rfl (by decide +kernel) ⟨Nat.le_of_ble_eq_true rfl, Nat.le_of_ble_eq_true rfl⟩ hK hP hD hS hA rfl rfl rfl hl.1 rfl rfl (Nat.le_of_ble_eq_true rfl) dX0_put_14 ⟨Nat.zero_le _, Nat.zero_le _⟩ (fun H locs hP hD hS => ?_)
  refine W.eq (g2 := F0 m 17 ls []) rfl ?_
  obtain ⟨s1, t1⟩ : ∃ y9 : FS, f_write 0 a v st = y9 := ⟨_, rfl⟩
  replace hP : va_P D vwCl (FWd h0 h1 h2 cA cB s1) H := by rw [← t1]; exact hP
  replace hD : va_D A (FWd h0 h1 h2 cA cB s1) := by rw [← t1]; exact hD
  refine lv_iinc (v := 1) (lv' := [(4, .int 1), (0, .ref h0), (1, .int a), (2, .long v)]) hx hb dX0_put_17 hl (k := 0) rfl (by decide) (by decide) rfl (fun ls hl => ?_)
  refine lv_goto (tgt := 3) hx hb dX0_put_20 (by decide) ?_
  refine lv_iload hx hb dX0_put_3 (lv_at hl 0 rfl) ?_
  refine lv_iconst (v := 4) hx hb dX0_put_5 (by decide) ?_
  refine lv_icmp_ge (tgt := 23) hx hb dX0_put_6 (by decide) (fun c0 => absurd c0 (by decide)) (fun _ => ?_)
  refine lv_aload_n hx hb dX0_put_9 rfl (lv_at hl 1 rfl) ?_
  refine lv_iload hx hb dX0_put_10 (lv_at hl 0 rfl) ?_
  refine lv_iload_n hx hb dX0_put_12 rfl (lv_at hl 2 rfl) ?_
  refine lv_lload_n hx hb dX0_put_13 rfl (lv_at hl 3 rfl) ?_
  refine cM_this (Wd := FWd h0 h1 h2 cA cB) (ci := 0) (q0 := 0) (n := 3) (as := [.int 1, .int a, .long v]) (rest := []) ⟨hx, hb, hml, hown, hts⟩ (c_X0_writeTurn l D h0 h1 h2 cA cB s1 1 a v in4_1 hc) gX0_put_X0_writeTurn rfl rfl rfl (by decide +kernel) ⟨Nat.le_of_ble_eq_true rfl, Nat.le_of_ble_eq_true rfl⟩ hK hP hD hS hA rfl rfl rfl hl.1 rfl rfl (Nat.le_of_ble_eq_true rfl) dX0_put_14 ⟨Nat.zero_le _, Nat.zero_le _⟩ (fun H locs hP hD hS => ?_)
  refine W.eq (g2 := F0 m 17 ls []) rfl ?_
  obtain ⟨s2, t2⟩ : ∃ y9 : FS, f_write 1 a v s1 = y9 := ⟨_, rfl⟩
  replace hP : va_P D vwCl (FWd h0 h1 h2 cA cB s2) H := by rw [← t2]; exact hP
  replace hD : va_D A (FWd h0 h1 h2 cA cB s2) := by rw [← t2]; exact hD
  refine lv_iinc (v := 2) (lv' := [(4, .int 2), (0, .ref h0), (1, .int a), (2, .long v)]) hx hb dX0_put_17 hl (k := 0) rfl (by decide) (by decide) rfl (fun ls hl => ?_)
  refine lv_goto (tgt := 3) hx hb dX0_put_20 (by decide) ?_
  refine lv_iload hx hb dX0_put_3 (lv_at hl 0 rfl) ?_
  refine lv_iconst (v := 4) hx hb dX0_put_5 (by decide) ?_
  refine lv_icmp_ge (tgt := 23) hx hb dX0_put_6 (by decide) (fun c0 => absurd c0 (by decide)) (fun _ => ?_)
  refine lv_aload_n hx hb dX0_put_9 rfl (lv_at hl 1 rfl) ?_
  refine lv_iload hx hb dX0_put_10 (lv_at hl 0 rfl) ?_
  refine lv_iload_n hx hb dX0_put_12 rfl (lv_at hl 2 rfl) ?_
  refine lv_lload_n hx hb dX0_put_13 rfl (lv_at hl 3 rfl) ?_
  refine cM_this (Wd := FWd h0 h1 h2 cA cB) (ci := 0) (q0 := 0) (n := 3) (as := [.int 2, .int a, .long v]) (rest := []) ⟨hx, hb, hml, hown, hts⟩ (c_X0_writeTurn l D h0 h1 h2 cA cB s2 2 a v in4_2 hc) gX0_put_X0_writeTurn rfl rfl rfl (by decide +kernel) ⟨Nat.le_of_ble_eq_true rfl, Nat.le_of_ble_eq_true rfl⟩ hK hP hD hS hA rfl rfl rfl hl.1 rfl rfl (Nat.le_of_ble_eq_true rfl) dX0_put_14 ⟨Nat.zero_le _, Nat.zero_le _⟩ (fun H locs hP hD hS => ?_)
  refine W.eq (g2 := F0 m 17 ls []) rfl ?_
  obtain ⟨s3, t3⟩ : ∃ y9 : FS, f_write 2 a v s2 = y9 := ⟨_, rfl⟩
  replace hP : va_P D vwCl (FWd h0 h1 h2 cA cB s3) H := by rw [← t3]; exact hP
  replace hD : va_D A (FWd h0 h1 h2 cA cB s3) := by rw [← t3]; exact hD
  refine lv_iinc (v := 3) (lv' := [(4, .int 3), (0, .ref h0), (1, .int a), (2, .long v)]) hx hb dX0_put_17 hl (k := 0) rfl (by decide) (by decide) rfl (fun ls hl => ?_)
  refine lv_goto (tgt := 3) hx hb dX0_put_20 (by decide) ?_
  refine lv_iload hx hb dX0_put_3 (lv_at hl 0 rfl) ?_
  refine lv_iconst (v := 4) hx hb dX0_put_5 (by decide) ?_
  refine lv_icmp_ge (tgt := 23) hx hb dX0_put_6 (by decide) (fun c0 => absurd c0 (by decide)) (fun _ => ?_)
  refine lv_aload_n hx hb dX0_put_9 rfl (lv_at hl 1 rfl) ?_
  refine lv_iload hx hb dX0_put_10 (lv_at hl 0 rfl) ?_
  refine lv_iload_n hx hb dX0_put_12 rfl (lv_at hl 2 rfl) ?_
  refine lv_lload_n hx hb dX0_put_13 rfl (lv_at hl 3 rfl) ?_
  refine cM_this (Wd := FWd h0 h1 h2 cA cB) (ci := 0) (q0 := 0) (n := 3) (as := [.int 3, .int a, .long v]) (rest := []) ⟨hx, hb, hml, hown, hts⟩ (c_X0_writeTurn l D h0 h1 h2 cA cB s3 3 a v in4_3 hc) gX0_put_X0_writeTurn rfl rfl rfl (by decide +kernel) ⟨Nat.le_of_ble_eq_true rfl, Nat.le_of_ble_eq_true rfl⟩ hK hP hD hS hA rfl rfl rfl hl.1 rfl rfl (Nat.le_of_ble_eq_true rfl) dX0_put_14 ⟨Nat.zero_le _, Nat.zero_le _⟩ (fun H locs hP hD hS => ?_)
  refine W.eq (g2 := F0 m 17 ls []) rfl ?_
  obtain ⟨s4, t4⟩ : ∃ y9 : FS, f_write 3 a v s3 = y9 := ⟨_, rfl⟩
  replace hP : va_P D vwCl (FWd h0 h1 h2 cA cB s4) H := by rw [← t4]; exact hP
  replace hD : va_D A (FWd h0 h1 h2 cA cB s4) := by rw [← t4]; exact hD
  refine lv_iinc (v := 4) (lv' := [(4, .int 4), (0, .ref h0), (1, .int a), (2, .long v)]) hx hb dX0_put_17 hl (k := 0) rfl (by decide) (by decide) rfl (fun ls hl => ?_)
  refine lv_goto (tgt := 3) hx hb dX0_put_20 (by decide) ?_
  refine lv_iload hx hb dX0_put_3 (lv_at hl 0 rfl) ?_
  refine lv_iconst (v := 4) hx hb dX0_put_5 (by decide) ?_
  refine lv_icmp_ge (tgt := 23) hx hb dX0_put_6 (by decide) (fun _ => ?_) (fun c0 => absurd c0 (by decide))
  have fin : (f_put a v st) = s4 := by clear hP hD hS; subst t1; subst t2; subst t3; subst t4; simp only [f_put]
  exact cM_retv (Wd := FWd h0 h1 h2 cA cB) (st := s4) (st' := (f_put a v st)) hx hb hr hlocks dX0_put_23 hS hP hD fin.symm
abbrev rmX0_look : Room := { frames := 3, cells := 0, slots := 0, locals := 65 }
-- look
set_option maxHeartbeats 400000 in
set_option maxRecDepth 100000 in
theorem c_X0_look (l : Launch) (D : va_G) (h0 h1 h2 : Nat) (cA cB : ClassId) (st : FS) (a : Int32) (hc : vp_in a 20) : cM l D vwCl (FT cA cB) (FWd h0 h1 h2 cA cB) yX0_look wsX0_look rmX0_look [.ref h0, .int a] st (some (.long (f_look a st).1)) (f_look a st).2 := by
  refine cM_in (cc := cX0_look) (maxL := 4) (ret := (some .long)) (by decide) rfl (Nat.le_of_ble_eq_true rfl) ?_
  intro p e s m below meth c ls A hx hb hr hlocks hml hown hts hA hK hP hD hS hl
  have hown : s.vm.findClass RX0 = some m.cls := hown
  have hl : lv_has ls 4 [(0, .ref h0), (1, .int a)] := hl
  -- walk
  refine lv_aload_n hx hb dX0_look_0 rfl (lv_at hl 0 rfl) ?_
  refine lv_iconst (v := 0) hx hb dX0_look_1 (by decide) ?_
  refine lv_iload_n hx hb dX0_look_2 rfl (lv_at hl 1 rfl) ?_
  refine cM_this (Wd := FWd h0 h1 h2 cA cB) (ci := 0) (q0 := 0) (n := 2) (as := [.int 0, .int a]) (rest := []) ⟨hx, hb, hml, hown, hts⟩ (c_X0_readTurn l D h0 h1 h2 cA cB st 0 a in4_0 hc) gX0_look_X0_readTurn rfl rfl rfl (by decide +kernel) ⟨Nat.le_of_ble_eq_true rfl, Nat.le_of_ble_eq_true rfl⟩ hK hP hD hS hA rfl rfl rfl hl.1 rfl rfl (Nat.le_of_ble_eq_true rfl) dX0_look_3 ⟨Nat.zero_le _, Nat.zero_le _⟩ (fun H locs hP hD hS => ?_)
  obtain ⟨s1, t1⟩ : ∃ y9 : FS, (f_read 0 a st).2 = y9 := ⟨_, rfl⟩
  replace hP : va_P D vwCl (FWd h0 h1 h2 cA cB s1) H := by rw [← t1]; exact hP
  replace hD : va_D A (FWd h0 h1 h2 cA cB s1) := by rw [← t1]; exact hD
  refine tpl (fun v2 e2 => ?_)
  refine lv_lstore_n (lv' := [(2, .long v2), (0, .ref h0), (1, .int a)]) hx hb dX0_look_6 rfl hl (by decide) rfl (fun ls hl => ?_)
  refine lv_aload_n hx hb dX0_look_7 rfl (lv_at hl 1 rfl) ?_
  refine lv_iconst (v := 0) hx hb dX0_look_8 (by decide) ?_
  refine lv_iload_n hx hb dX0_look_9 rfl (lv_at hl 2 rfl) ?_
  refine lv_lload_n hx hb dX0_look_10 rfl (lv_at hl 0 rfl) ?_
  refine cM_this (Wd := FWd h0 h1 h2 cA cB) (ci := 0) (q0 := 0) (n := 3) (as := [.int 0, .int a, .long v2]) (rest := []) ⟨hx, hb, hml, hown, hts⟩ (c_X0_writeTurn l D h0 h1 h2 cA cB s1 0 a v2 in4_0 hc) gX0_look_X0_writeTurn rfl rfl rfl (by decide +kernel) ⟨Nat.le_of_ble_eq_true rfl, Nat.le_of_ble_eq_true rfl⟩ hK hP hD hS hA rfl rfl rfl hl.1 rfl rfl (Nat.le_of_ble_eq_true rfl) dX0_look_11 ⟨Nat.zero_le _, Nat.zero_le _⟩ (fun H locs hP hD hS => ?_)
  refine W.eq (g2 := F0 m 14 ls []) rfl ?_
  obtain ⟨s3, t3⟩ : ∃ y9 : FS, f_write 0 a v2 s1 = y9 := ⟨_, rfl⟩
  replace hP : va_P D vwCl (FWd h0 h1 h2 cA cB s3) H := by rw [← t3]; exact hP
  replace hD : va_D A (FWd h0 h1 h2 cA cB s3) := by rw [← t3]; exact hD
  refine lv_lload_n hx hb dX0_look_14 rfl (lv_at hl 0 rfl) ?_
  have fin : f_look a st = (v2, s3) := by
    clear hP hD hS; subst t1; subst e2; subst t3; simp only [f_look]
  exact cM_retl (Wd := FWd h0 h1 h2 cA cB) (st := s3) (st' := (f_look a st).2) hx hb hr hlocks dX0_look_15 hS hP hD (congrArg Prod.fst fin).symm (congrArg Prod.snd fin).symm
abbrev rmX0_foundIn : Room := { frames := 1, cells := 0, slots := 0, locals := 21 }
-- foundIn
set_option maxHeartbeats 400000 in
set_option maxRecDepth 100000 in
theorem c_X0_foundIn (l : Launch) (D : va_G) (h0 h1 h2 : Nat) (cA cB : ClassId) (st : FS) (a : Int32) (hc : vp_in a 20) : cM l D vwCl (FT cA cB) (FWd h0 h1 h2 cA cB) yX0_foundIn wsX0_foundIn rmX0_foundIn [.ref h0, .int a] st (some (.long (f_found a st))) st := by
  refine cM_in (cc := cX0_foundIn) (maxL := 2) (ret := (some .long)) (by decide) rfl (Nat.le_of_ble_eq_true rfl) ?_
  intro p e s m below meth c ls A hx hb hr hlocks hml hown hts hA hK hP hD hS hl
  have hown : s.vm.findClass RX0 = some m.cls := hown
  have hl : lv_has ls 2 [(0, .ref h0), (1, .int a)] := hl
  -- walk
  refine lv_aload_n hx hb dX0_foundIn_0 rfl (lv_at hl 0 rfl) ?_
  refine va_get (D := D) (ci := 0) (v := .ref h1) (C := RX0) (T := TX0) (N := 6) hx hb hts (by decide +kernel) hown hK hP 0 rfl rfl 0 (by decide) (hts (.fieldLink RX0 9 "FadeLedger" "memory" "[J") (by decide +kernel)) (fun _ h9 => h9) rfl dX0_foundIn_1 ?_
  refine lv_iconst (v := 0) hx hb dX0_foundIn_4 (by decide) ?_
  refine lv_iload_n hx hb dX0_foundIn_5 rfl (lv_at hl 1 rfl) ?_
  refine cS_call (n := 2) (as := [.int 0, .int a]) (rest := [.ref h1]) ⟨hx, hb, hml, hown, hts⟩ (c_X0_slot l 0 a) gX0_foundIn_X0_slot rfl rfl rfl (by decide +kernel) ⟨Nat.le_of_ble_eq_true rfl, Nat.le_of_ble_eq_true rfl⟩ hl.1 rfl rfl (Nat.le_of_ble_eq_true rfl) dX0_foundIn_6 ⟨Nat.zero_le _, Nat.zero_le _⟩ ?_
  refine tpi (fun v1 e1 => ?_)
  refine va_lald hx hb hK hP 1 0 rfl rfl (by subst e1; exact slot_in in4_0 hc) dX0_foundIn_9 ?_
  refine tpl (fun v2 e2 => ?_)
  have fin : (f_found a st, st) = (v2, st) := by
    clear hP hD hS; subst e1; subst e2; simp only [f_found]
  exact cM_retl (Wd := FWd h0 h1 h2 cA cB) (st := st) (st' := st) hx hb hr hlocks dX0_foundIn_10 hS hP hD (congrArg Prod.fst fin).symm (congrArg Prod.snd fin).symm
abbrev rmX0_answerOf : Room := { frames := 0, cells := 0, slots := 0, locals := 0 }
-- answerOf
set_option maxHeartbeats 400000 in
set_option maxRecDepth 100000 in
theorem c_X0_answerOf (l : Launch) (D : va_G) (h0 h1 h2 : Nat) (cA cB : ClassId) (st : FS) (a : Int32)  : cM l D vwCl (FT cA cB) (FWd h0 h1 h2 cA cB) yX0_answerOf wsX0_answerOf rmX0_answerOf [.ref h0, .int a] st (some (.int (f_ans a st))) st := by
  refine cM_in (cc := cX0_answerOf) (maxL := 2) (ret := (some .int)) (by decide) rfl (Nat.le_of_ble_eq_true rfl) ?_
  intro p e s m below meth c ls A hx hb hr hlocks hml hown hts hA hK hP hD hS hl
  have hown : s.vm.findClass RX0 = some m.cls := hown
  have hl : lv_has ls 2 [(0, .ref h0), (1, .int a)] := hl
  -- walk
  refine lv_aload_n hx hb dX0_answerOf_0 rfl (lv_at hl 0 rfl) ?_
  refine va_get (D := D) (ci := 0) (v := .int st.2.2.1) (C := RX0) (T := TX0) (N := 6) hx hb hts (by decide +kernel) hown hK hP 0 rfl rfl 2 (by decide) (hts (.fieldLink RX0 17 "FadeLedger" "powered" "Z") (by decide +kernel)) (fun _ h9 => h9) rfl dX0_answerOf_1 ?_
  refine tpi (fun v1 e1 => ?_)
  refine lv_if_ne (tgt := 10) hx hb dX0_answerOf_4 (by decide) (fun c2 => ?_) (fun c2 => ?_)
  · refine lv_iload_n hx hb dX0_answerOf_10 rfl (lv_at hl 1 rfl) ?_
    refine lv_if_eq (tgt := 18) hx hb dX0_answerOf_11 (by decide) (fun c3 => ?_) (fun c3 => ?_)
    · refine lv_iconst (v := (-1)) hx hb dX0_answerOf_18 (by decide) ?_
      have fin : (f_ans a st, st) = ((-1), st) := by
        clear hP hD hS; subst e1; simp only [f_ans, c2, c3, ↓reduceIte, not_true_eq_false, not_false_eq_true, and_self, and_true, true_and, and_false, false_and, eq_self, i10]
      exact cM_reti (Wd := FWd h0 h1 h2 cA cB) (st := st) (st' := st) hx hb hr hlocks dX0_answerOf_19 hS hP hD (congrArg Prod.fst fin).symm (congrArg Prod.snd fin).symm
    · refine lv_iconst (v := 1) hx hb dX0_answerOf_14 (by decide) ?_
      refine lv_goto (tgt := 19) hx hb dX0_answerOf_15 (by decide) ?_
      have fin : (f_ans a st, st) = (1, st) := by
        clear hP hD hS; subst e1; simp only [f_ans, c2, c3, ↓reduceIte, not_true_eq_false, not_false_eq_true, and_self, and_true, true_and, and_false, false_and, eq_self, i10]
      exact cM_reti (Wd := FWd h0 h1 h2 cA cB) (st := st) (st' := st) hx hb hr hlocks dX0_answerOf_19 hS hP hD (congrArg Prod.fst fin).symm (congrArg Prod.snd fin).symm
  · refine lv_bipush (v := (-2)) hx hb dX0_answerOf_7 (by decide) ?_
    have fin : (f_ans a st, st) = ((-2), st) := by
      clear hP hD hS; subst e1; simp only [f_ans, c2, ↓reduceIte, not_true_eq_false, not_false_eq_true, and_self, and_true, true_and, and_false, false_and, eq_self, i10]
    exact cM_reti (Wd := FWd h0 h1 h2 cA cB) (st := st) (st' := st) hx hb hr hlocks dX0_answerOf_9 hS hP hD (congrArg Prod.fst fin).symm (congrArg Prod.snd fin).symm
