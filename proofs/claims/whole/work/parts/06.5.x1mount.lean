abbrev rmX1_settle : Room := { frames := 2, cells := 0, slots := 0, locals := 49 }
-- settle
set_option maxHeartbeats 400000 in
set_option maxRecDepth 100000 in
theorem c_X1_settle (l : Launch) (D : va_G) (g0 g1 g2 g3 g4 g5 g6 : Nat) (cA cB : ClassId) (st : RS) (a : Int32) (b : Int32) (d : Int32) (ha : vp_in a 20) (hb2 : vp_in b 20) (M : Nat) (hM : r_tb st M) (hM2 : M + 4 ≤ 256) : cM l D vwCl (FT cA cB) (RWd g0 g1 g2 g3 g4 g5 g6 cA cB) yX1_settle wsX1_settle rmX1_settle [.ref g0, .int a, .int b, .int d] st none (r_settle a b d st) := by
  refine cM_in (cc := cX1_settle) (maxL := 6) (ret := none) (by decide) rfl (Nat.le_of_ble_eq_true rfl) ?_
  intro p e s m below meth c ls A hx hb hr hlocks hml hown hts hA hK hP hD hS hl
  have hown : s.vm.findClass RX1 = some m.cls := hown
  have hl : lv_has ls 6 [(0, .ref g0), (1, .int a), (2, .int b), (3, .int d)] := hl
  -- walk
  obtain ⟨n, hnM, hn⟩ := hM
  refine lv_aload_n hx hb dX1_settle_0 rfl (lv_at hl 0 rfl) ?_
  refine va_get (D := D) (ci := 1) (v := .ref g6) (C := RX1) (T := TX1) (N := 11) hx hb hts (by decide +kernel) hown hK hP 0 rfl rfl 10 (by decide) (hts (.fieldLink RX1 34 "FadeLedgerModel" "bests" "[J") (by decide +kernel)) (fun _ h9 => h9) rfl dX1_settle_1 ?_
  refine lv_iload_n hx hb dX1_settle_4 rfl (lv_at hl 1 rfl) ?_
  refine va_lald hx hb hK hP 6 0 rfl rfl ha dX1_settle_5 ?_
  refine tpl (fun v1 e1 => ?_)
  refine lv_lstore (lv' := [(4, .long v1), (0, .ref g0), (1, .int a), (2, .int b), (3, .int d)]) hx hb dX1_settle_6 hl (by decide) rfl (fun ls hl => ?_)
  refine lv_lload hx hb dX1_settle_8 (lv_at hl 0 rfl) ?_
  refine lv_lconst (v := 0) hx hb dX1_settle_10 (by decide) ?_
  refine W.lcmp hx hb dX1_settle_11 ?_
  refine tpi (fun v2 e2 => ?_)
  refine lv_if_eq (tgt := 32) hx hb dX1_settle_12 (by decide) (fun c3 => ?_) (fun c3 => ?_)
  · have fin : (r_settle a b d st) = st := by clear hP hD hS; subst e1; subst e2; (try simp only [lg_cmp_eq] at c3); simp only [r_settle, c3, ↓reduceIte, not_true_eq_false, not_false_eq_true, and_self, and_true, true_and, and_false, false_and, eq_self]
    exact cM_retv (Wd := RWd g0 g1 g2 g3 g4 g5 g6 cA cB) (st := st) (st' := (r_settle a b d st)) hx hb hr hlocks dX1_settle_32 hS hP hD fin.symm
  · refine lv_lload hx hb dX1_settle_15 (lv_at hl 0 rfl) ?_
    refine cS_call (n := 1) (as := [.long v1]) (rest := []) ⟨hx, hb, hml, hown, hts⟩ (c_X1_numberOf l v1) gX1_settle_X1_numberOf rfl rfl rfl (by decide +kernel) ⟨Nat.le_of_ble_eq_true rfl, Nat.le_of_ble_eq_true rfl⟩ hl.1 rfl rfl (Nat.le_of_ble_eq_true rfl) dX1_settle_17 ⟨Nat.zero_le _, Nat.zero_le _⟩ ?_
    refine tpi (fun v4 e4 => ?_)
    refine lv_aload_n hx hb dX1_settle_20 rfl (lv_at hl 1 rfl) ?_
    refine va_get (D := D) (ci := 1) (v := .ref g6) (C := RX1) (T := TX1) (N := 11) hx hb hts (by decide +kernel) hown hK hP 0 rfl rfl 10 (by decide) (hts (.fieldLink RX1 34 "FadeLedgerModel" "bests" "[J") (by decide +kernel)) (fun _ h9 => h9) rfl dX1_settle_21 ?_
    refine lv_iload_n hx hb dX1_settle_24 rfl (lv_at hl 3 rfl) ?_
    refine va_lald hx hb hK hP 6 0 rfl rfl hb2 dX1_settle_25 ?_
    refine tpl (fun v5 e5 => ?_)
    refine cS_call (n := 1) (as := [.long v5]) (rest := [.int v4]) ⟨hx, hb, hml, hown, hts⟩ (c_X1_balanceOf l v5) gX1_settle_X1_balanceOf rfl rfl rfl (by decide +kernel) ⟨Nat.le_of_ble_eq_true rfl, Nat.le_of_ble_eq_true rfl⟩ hl.1 rfl rfl (Nat.le_of_ble_eq_true rfl) dX1_settle_26 ⟨Nat.zero_le _, Nat.zero_le _⟩ ?_
    refine tpi (fun v6 e6 => ?_)
    refine lv_icmp_lt (tgt := 33) hx hb dX1_settle_29 (by decide) (fun c7 => ?_) (fun c7 => ?_)
    · refine lv_aload_n hx hb dX1_settle_33 rfl (lv_at hl 1 rfl) ?_
      refine lv_iload_n hx hb dX1_settle_34 rfl (lv_at hl 2 rfl) ?_
      refine lv_lload hx hb dX1_settle_35 (lv_at hl 0 rfl) ?_
      refine cS_call (n := 1) (as := [.long v1]) (rest := [.int a, .ref g0]) ⟨hx, hb, hml, hown, hts⟩ (c_X1_balanceOf l v1) gX1_settle_X1_balanceOf rfl rfl rfl (by decide +kernel) ⟨Nat.le_of_ble_eq_true rfl, Nat.le_of_ble_eq_true rfl⟩ hl.1 rfl rfl (Nat.le_of_ble_eq_true rfl) dX1_settle_37 ⟨Nat.zero_le _, Nat.zero_le _⟩ ?_
      refine tpi (fun v8 e8 => ?_)
      refine lv_iload_n hx hb dX1_settle_40 rfl (lv_at hl 4 rfl) ?_
      refine lv_iadd hx hb dX1_settle_41 ?_
      refine tpi (fun v9 e9 => ?_)
      refine lv_aload_n hx hb dX1_settle_42 rfl (lv_at hl 1 rfl) ?_
      refine va_get (D := D) (ci := 1) (v := .ref g6) (C := RX1) (T := TX1) (N := 11) hx hb hts (by decide +kernel) hown hK hP 0 rfl rfl 10 (by decide) (hts (.fieldLink RX1 34 "FadeLedgerModel" "bests" "[J") (by decide +kernel)) (fun _ h9 => h9) rfl dX1_settle_43 ?_
      refine lv_iload_n hx hb dX1_settle_46 rfl (lv_at hl 3 rfl) ?_
      refine va_lald hx hb hK hP 6 0 rfl rfl hb2 dX1_settle_47 ?_
      refine tpl (fun v10 e10 => ?_)
      refine cS_call (n := 1) (as := [.long v10]) (rest := [.int v9, .int a, .ref g0]) ⟨hx, hb, hml, hown, hts⟩ (c_X1_balanceOf l v10) gX1_settle_X1_balanceOf rfl rfl rfl (by decide +kernel) ⟨Nat.le_of_ble_eq_true rfl, Nat.le_of_ble_eq_true rfl⟩ hl.1 rfl rfl (Nat.le_of_ble_eq_true rfl) dX1_settle_48 ⟨Nat.zero_le _, Nat.zero_le _⟩ ?_
      refine tpi (fun v11 e11 => ?_)
      refine cS_call (n := 2) (as := [.int v9, .int v11]) (rest := [.int a, .ref g0]) ⟨hx, hb, hml, hown, hts⟩ (c_X1_wordOf l v9 v11) gX1_settle_X1_wordOf rfl rfl rfl (by decide +kernel) ⟨Nat.le_of_ble_eq_true rfl, Nat.le_of_ble_eq_true rfl⟩ hl.1 rfl rfl (Nat.le_of_ble_eq_true rfl) dX1_settle_51 ⟨Nat.zero_le _, Nat.zero_le _⟩ ?_
      refine tpl (fun v12 e12 => ?_)
      refine cM_this (Wd := RWd g0 g1 g2 g3 g4 g5 g6 cA cB) (ci := 1) (q0 := 0) (n := 2) (as := [.int a, .long v12]) (rest := []) ⟨hx, hb, hml, hown, hts⟩ (c_X1_putAll l D g0 g1 g2 g3 g4 g5 g6 cA cB st a v12 n hn (by omega)) gX1_settle_X1_putAll rfl rfl rfl (by decide +kernel) ⟨Nat.le_of_ble_eq_true rfl, Nat.le_of_ble_eq_true rfl⟩ hK hP hD hS hA rfl rfl rfl hl.1 rfl rfl (Nat.le_of_ble_eq_true rfl) dX1_settle_54 ⟨Nat.zero_le _, Nat.zero_le _⟩ (fun H locs hP hD hS => ?_)
      refine W.eq (g2 := F0 m 57 ls []) rfl ?_
      obtain ⟨s13, t13⟩ : ∃ y9 : RS, r_put a v12 st = y9 := ⟨_, rfl⟩
      replace hP : va_P D vwCl (RWd g0 g1 g2 g3 g4 g5 g6 cA cB s13) H := by rw [← t13]; exact hP
      replace hD : va_D A (RWd g0 g1 g2 g3 g4 g5 g6 cA cB s13) := by rw [← t13]; exact hD
      have fin : (r_settle a b d st) = s13 := by clear hP hD hS; subst e1; subst e2; subst e4; subst e5; subst e6; subst e8; subst e9; subst e10; subst e11; subst e12; subst t13; (try simp only [lg_cmp_eq] at c3 c7); simp only [r_settle, c3, c7, ↓reduceIte, not_true_eq_false, not_false_eq_true, and_self, and_true, true_and, and_false, false_and, eq_self]
      exact cM_retv (Wd := RWd g0 g1 g2 g3 g4 g5 g6 cA cB) (st := s13) (st' := (r_settle a b d st)) hx hb hr hlocks dX1_settle_57 hS hP hD fin.symm
    · have fin : (r_settle a b d st) = st := by clear hP hD hS; subst e1; subst e2; subst e4; subst e5; subst e6; (try simp only [lg_cmp_eq] at c3 c7); simp only [r_settle, c3, c7, ↓reduceIte, not_true_eq_false, not_false_eq_true, and_self, and_true, true_and, and_false, false_and, eq_self]
      exact cM_retv (Wd := RWd g0 g1 g2 g3 g4 g5 g6 cA cB) (st := st) (st' := (r_settle a b d st)) hx hb hr hlocks dX1_settle_32 hS hP hD fin.symm
abbrev rmX1_mount : Room := { frames := 4, cells := 0, slots := 0, locals := 95 }
-- mount
set_option maxHeartbeats 400000 in
set_option maxRecDepth 100000 in
theorem c_X1_mount (l : Launch) (D : va_G) (g0 g1 g2 g3 g4 g5 g6 : Nat) (cA cB : ClassId) (st : RS)   : cM l D vwCl (FT cA cB) (RWd g0 g1 g2 g3 g4 g5 g6 cA cB) yX1_mount wsX1_mount rmX1_mount [.ref g0] st (some (.int (r_mount st).1)) (r_mount st).2 := by
  refine cM_in (cc := cX1_mount) (maxL := 6) (ret := (some .int)) (by decide) rfl (Nat.le_of_ble_eq_true rfl) ?_
  intro p e s m below meth c ls A hx hb hr hlocks hml hown hts hA hK hP hD hS hl
  have hown : s.vm.findClass RX1 = some m.cls := hown
  have hl : lv_has ls 6 [(0, .ref g0)] := hl
  -- walk
  have B : ∀ (Q : State → Prop) (k k' : Int32) (i0 : Int32) (s0 : RS) (H : Heap) (locs : List Loc) (ls : Array Slot), vp_in k 20 → k + 1 = k' → va_P D vwCl (RWd g0 g1 g2 g3 g4 g5 g6 cA cB s0) H → va_D A (RWd g0 g1 g2 g3 g4 g5 g6 cA cB s0) → va_S A s.heap H locs → lv_has ls 6 [(0, .ref g0), (1, .int i0), (2, .int k)] → (∀ (i : Int32) (H : Heap) (locs : List Loc) (ls : Array Slot), g_slip1 s0.2.2.2.2.2 k i0 = i → va_P D vwCl (RWd g0 g1 g2 g3 g4 g5 g6 cA cB s0) H → va_D A (RWd g0 g1 g2 g3 g4 g5 g6 cA cB s0) → va_S A s.heap H locs → lv_has ls 6 [(0, .ref g0), (1, .int i), (2, .int k')] → W p l e rmX1_mount s m ([.ref g0] : List Value).toArray below meth c H locs 0 0 Q (F0 m 34 ls [])) → W p l e rmX1_mount s m ([.ref g0] : List Value).toArray below meth c H locs 0 0 Q (F0 m 40 ls []) := by
    intro Q k k' i0 s0 H locs ls hk hk2 hP hD hS hl K
    refine lv_iload_n hx hb dX1_mount_40 rfl (lv_at hl 1 rfl) ?_
    refine lv_if_eq (tgt := 81) hx hb dX1_mount_41 (by decide) (fun c1 => ?_) (fun c1 => ?_)
    · refine lv_iconst (v := 0) hx hb dX1_mount_81 (by decide) ?_
      refine lv_istore_n (lv' := [(1, .int 0), (0, .ref g0), (2, .int k)]) hx hb dX1_mount_82 rfl hl (by decide) rfl (fun ls hl => ?_)
      refine lv_iinc (v := k') (lv' := [(2, .int k'), (1, .int 0), (0, .ref g0)]) hx hb dX1_mount_83 hl (k := 2) rfl (by rw [← hk2]; rfl) (by decide) rfl (fun ls hl => ?_)
      refine lv_goto (tgt := 34) hx hb dX1_mount_86 (by decide) ?_
      exact K 0 _ _ _ (by clear hP hD hS; (try simp only [lg_cmp_eq] at c1); simp only [g_slip1, bI, c1, ↓reduceIte, not_true_eq_false, not_false_eq_true, and_self, and_true, true_and, and_false, false_and, eq_self]) hP hD hS (lv_sub hl [2, 1, 0] rfl)
    · refine lv_aload_n hx hb dX1_mount_44 rfl (lv_at hl 0 rfl) ?_
      refine va_get (D := D) (ci := 1) (v := .ref g6) (C := RX1) (T := TX1) (N := 11) hx hb hts (by decide +kernel) hown hK hP 0 rfl rfl 10 (by decide) (hts (.fieldLink RX1 34 "FadeLedgerModel" "bests" "[J") (by decide +kernel)) (fun _ h9 => h9) rfl dX1_mount_45 ?_
      refine lv_iload_n hx hb dX1_mount_48 rfl (lv_at hl 2 rfl) ?_
      refine va_lald hx hb hK hP 6 0 rfl rfl hk dX1_mount_49 ?_
      refine tpl (fun v2 e2 => ?_)
      refine lv_lconst (v := 0) hx hb dX1_mount_50 (by decide) ?_
      refine W.lcmp hx hb dX1_mount_51 ?_
      refine tpi (fun v3 e3 => ?_)
      refine lv_if_eq (tgt := 81) hx hb dX1_mount_52 (by decide) (fun c4 => ?_) (fun c4 => ?_)
      · refine lv_iconst (v := 0) hx hb dX1_mount_81 (by decide) ?_
        refine lv_istore_n (lv' := [(1, .int 0), (0, .ref g0), (2, .int k)]) hx hb dX1_mount_82 rfl hl (by decide) rfl (fun ls hl => ?_)
        refine lv_iinc (v := k') (lv' := [(2, .int k'), (1, .int 0), (0, .ref g0)]) hx hb dX1_mount_83 hl (k := 2) rfl (by rw [← hk2]; rfl) (by decide) rfl (fun ls hl => ?_)
        refine lv_goto (tgt := 34) hx hb dX1_mount_86 (by decide) ?_
        exact K 0 _ _ _ (by clear hP hD hS; subst e2; subst e3; (try simp only [lg_cmp_eq] at c1 c4); simp only [g_slip1, bI, c1, c4, ↓reduceIte, not_true_eq_false, not_false_eq_true, and_self, and_true, true_and, and_false, false_and, eq_self]) hP hD hS (lv_sub hl [2, 1, 0] rfl)
      · refine lv_aload_n hx hb dX1_mount_55 rfl (lv_at hl 0 rfl) ?_
        refine va_get (D := D) (ci := 1) (v := .ref g6) (C := RX1) (T := TX1) (N := 11) hx hb hts (by decide +kernel) hown hK hP 0 rfl rfl 10 (by decide) (hts (.fieldLink RX1 34 "FadeLedgerModel" "bests" "[J") (by decide +kernel)) (fun _ h9 => h9) rfl dX1_mount_56 ?_
        refine lv_iload_n hx hb dX1_mount_59 rfl (lv_at hl 2 rfl) ?_
        refine va_lald hx hb hK hP 6 0 rfl rfl hk dX1_mount_60 ?_
        refine tpl (fun v5 e5 => ?_)
        refine cS_call (n := 1) (as := [.long v5]) (rest := []) ⟨hx, hb, hml, hown, hts⟩ (c_X1_numberOf l v5) gX1_mount_X1_numberOf rfl rfl rfl (by decide +kernel) ⟨Nat.le_of_ble_eq_true rfl, Nat.le_of_ble_eq_true rfl⟩ hl.1 rfl rfl (Nat.le_of_ble_eq_true rfl) dX1_mount_61 ⟨Nat.zero_le _, Nat.zero_le _⟩ ?_
        refine tpi (fun v6 e6 => ?_)
        refine lv_aload_n hx hb dX1_mount_64 rfl (lv_at hl 0 rfl) ?_
        refine va_get (D := D) (ci := 1) (v := .ref g6) (C := RX1) (T := TX1) (N := 11) hx hb hts (by decide +kernel) hown hK hP 0 rfl rfl 10 (by decide) (hts (.fieldLink RX1 34 "FadeLedgerModel" "bests" "[J") (by decide +kernel)) (fun _ h9 => h9) rfl dX1_mount_65 ?_
        refine lv_bipush (v := 19) hx hb dX1_mount_68 (by decide) ?_
        refine va_lald hx hb hK hP 6 0 rfl rfl in20_19 dX1_mount_70 ?_
        refine tpl (fun v7 e7 => ?_)
        refine cS_call (n := 1) (as := [.long v7]) (rest := [.int v6]) ⟨hx, hb, hml, hown, hts⟩ (c_X1_numberOf l v7) gX1_mount_X1_numberOf rfl rfl rfl (by decide +kernel) ⟨Nat.le_of_ble_eq_true rfl, Nat.le_of_ble_eq_true rfl⟩ hl.1 rfl rfl (Nat.le_of_ble_eq_true rfl) dX1_mount_71 ⟨Nat.zero_le _, Nat.zero_le _⟩ ?_
        refine tpi (fun v8 e8 => ?_)
        refine lv_icmp_ne (tgt := 81) hx hb dX1_mount_74 (by decide) (fun c9 => ?_) (fun c9 => ?_)
        · refine lv_iconst (v := 0) hx hb dX1_mount_81 (by decide) ?_
          refine lv_istore_n (lv' := [(1, .int 0), (0, .ref g0), (2, .int k)]) hx hb dX1_mount_82 rfl hl (by decide) rfl (fun ls hl => ?_)
          refine lv_iinc (v := k') (lv' := [(2, .int k'), (1, .int 0), (0, .ref g0)]) hx hb dX1_mount_83 hl (k := 2) rfl (by rw [← hk2]; rfl) (by decide) rfl (fun ls hl => ?_)
          refine lv_goto (tgt := 34) hx hb dX1_mount_86 (by decide) ?_
          exact K 0 _ _ _ (by clear hP hD hS; subst e2; subst e3; subst e5; subst e6; subst e7; subst e8; (try simp only [lg_cmp_eq] at c1 c4 c9); simp only [g_slip1, bI, c1, c4, c9, ↓reduceIte, not_true_eq_false, not_false_eq_true, and_self, and_true, true_and, and_false, false_and, eq_self]) hP hD hS (lv_sub hl [2, 1, 0] rfl)
        · refine lv_iconst (v := 1) hx hb dX1_mount_77 (by decide) ?_
          refine lv_goto (tgt := 82) hx hb dX1_mount_78 (by decide) ?_
          refine lv_istore_n (lv' := [(1, .int 1), (0, .ref g0), (2, .int k)]) hx hb dX1_mount_82 rfl hl (by decide) rfl (fun ls hl => ?_)
          refine lv_iinc (v := k') (lv' := [(2, .int k'), (1, .int 1), (0, .ref g0)]) hx hb dX1_mount_83 hl (k := 2) rfl (by rw [← hk2]; rfl) (by decide) rfl (fun ls hl => ?_)
          refine lv_goto (tgt := 34) hx hb dX1_mount_86 (by decide) ?_
          exact K 1 _ _ _ (by clear hP hD hS; subst e2; subst e3; subst e5; subst e6; subst e7; subst e8; (try simp only [lg_cmp_eq] at c1 c4 c9); simp only [g_slip1, bI, c1, c4, c9, ↓reduceIte, not_true_eq_false, not_false_eq_true, and_self, and_true, true_and, and_false, false_and, eq_self]) hP hD hS (lv_sub hl [2, 1, 0] rfl)
  refine lv_aload_n hx hb dX1_mount_0 rfl (lv_at hl 0 rfl) ?_
  refine lv_iconst (v := 1) hx hb dX1_mount_1 (by decide) ?_
  refine va_put (D := D) (ci := 1) (v := .int 1) (ty := .boolean) (C := RX1) (T := TX1) (N := 11) hx hb hts (by decide +kernel) tyX1 tyX1_ok nmX1 hown hK hP hD hS 0 rfl rfl 2 (by decide) (hts (.fieldLink RX1 17 "FadeLedgerModel" "power" "Z") (by decide +kernel)) (fun _ h9 => h9) rfl (by decide +kernel) rfl rfl (Nat.le_of_ble_eq_true rfl) dX1_mount_2 (fun H locs hP hD hS => ?_)
  obtain ⟨s1, t1⟩ : ∃ y9 : RS, (((st.1.1, st.1.2.1, 1, st.1.2.2.2.1, st.1.2.2.2.2.1, st.1.2.2.2.2.2), st.2) : RS) = y9 := ⟨_, rfl⟩
  replace hP : va_P D vwCl (RWd g0 g1 g2 g3 g4 g5 g6 cA cB s1) H := by rw [← t1]; exact hP
  replace hD : va_D A (RWd g0 g1 g2 g3 g4 g5 g6 cA cB s1) := by rw [← t1]; exact hD
  refine lv_aload_n hx hb dX1_mount_5 rfl (lv_at hl 0 rfl) ?_
  refine lv_iconst (v := 0) hx hb dX1_mount_6 (by decide) ?_
  refine va_put (D := D) (ci := 1) (v := .int 0) (ty := .int) (C := RX1) (T := TX1) (N := 11) hx hb hts (by decide +kernel) tyX1 tyX1_ok nmX1 hown hK hP hD hS 0 rfl rfl 9 (by decide) (hts (.fieldLink RX1 63 "FadeLedgerModel" "turns" "I") (by decide +kernel)) (fun _ h9 => h9) rfl (by decide +kernel) rfl rfl (Nat.le_of_ble_eq_true rfl) dX1_mount_7 (fun H locs hP hD hS => ?_)
  obtain ⟨s2, t2⟩ : ∃ y9 : RS, ((s1.1, s1.2.1, s1.2.2.1, s1.2.2.2.1, 0, s1.2.2.2.2.2) : RS) = y9 := ⟨_, rfl⟩
  replace hP : va_P D vwCl (RWd g0 g1 g2 g3 g4 g5 g6 cA cB s2) H := by rw [← t2]; exact hP
  replace hD : va_D A (RWd g0 g1 g2 g3 g4 g5 g6 cA cB s2) := by rw [← t2]; exact hD
  refine lv_iconst (v := 0) hx hb dX1_mount_10 (by decide) ?_
  refine lv_istore_n (lv' := [(1, .int 0), (0, .ref g0)]) hx hb dX1_mount_11 rfl hl (by decide) rfl (fun ls hl => ?_)
  refine lv_iload_n hx hb dX1_mount_12 rfl (lv_at hl 0 rfl) ?_
  refine lv_bipush (v := 20) hx hb dX1_mount_13 (by decide) ?_
  refine lv_icmp_ge (tgt := 29) hx hb dX1_mount_15 (by decide) (fun c0 => absurd c0 (by decide)) (fun _ => ?_)
  refine lv_aload_n hx hb dX1_mount_18 rfl (lv_at hl 1 rfl) ?_
  refine lv_iload_n hx hb dX1_mount_19 rfl (lv_at hl 0 rfl) ?_
  have hL0 : rpb s2 [] 0 := ⟨by rw [← t2]; exact plan_zero _, Nat.le_refl 0⟩
  have hf0 : s2.1.1 = st.1.1 := by subst t2; subst t1; rfl
  refine cM_this (Wd := RWd g0 g1 g2 g3 g4 g5 g6 cA cB) (ci := 1) (q0 := 0) (n := 1) (as := [.int 0]) (rest := []) ⟨hx, hb, hml, hown, hts⟩ (c_X1_mend l D g0 g1 g2 g3 g4 g5 g6 cA cB s2 0 in20_0 0 (rpb_tb hL0) (by decide)) gX1_mount_X1_mend rfl rfl rfl (by decide +kernel) ⟨Nat.le_of_ble_eq_true rfl, Nat.le_of_ble_eq_true rfl⟩ hK hP hD hS hA rfl rfl rfl hl.1 rfl rfl (Nat.le_of_ble_eq_true rfl) dX1_mount_20 ⟨Nat.zero_le _, Nat.zero_le _⟩ (fun H locs hP hD hS => ?_)
  refine W.eq (g2 := F0 m 23 ls []) rfl ?_
  obtain ⟨s3, t3⟩ : ∃ y9 : RS, r_mend 0 s2 = y9 := ⟨_, rfl⟩
  replace hP : va_P D vwCl (RWd g0 g1 g2 g3 g4 g5 g6 cA cB s3) H := by rw [← t3]; exact hP
  replace hD : va_D A (RWd g0 g1 g2 g3 g4 g5 g6 cA cB s3) := by rw [← t3]; exact hD
  obtain ⟨L4, f4⟩ : ∃ y9 : RPl, ([] : RPl) ++ p_mend 0 st.1.1 = y9 := ⟨_, rfl⟩
  have hL4 : rpb s3 L4 12 := by rw [← t3, ← f4]; exact rpb_mend 0 hL0 (by decide) in20_0 hf0
  have hf4 : s3.1.1 = st.1.1 := by rw [← t3, mend_1]; exact hf0
  refine lv_iinc (v := 1) (lv' := [(1, .int 1), (0, .ref g0)]) hx hb dX1_mount_23 hl (k := 0) rfl (by decide) (by decide) rfl (fun ls hl => ?_)
  refine lv_goto (tgt := 12) hx hb dX1_mount_26 (by decide) ?_
  refine lv_iload_n hx hb dX1_mount_12 rfl (lv_at hl 0 rfl) ?_
  refine lv_bipush (v := 20) hx hb dX1_mount_13 (by decide) ?_
  refine lv_icmp_ge (tgt := 29) hx hb dX1_mount_15 (by decide) (fun c0 => absurd c0 (by decide)) (fun _ => ?_)
  refine lv_aload_n hx hb dX1_mount_18 rfl (lv_at hl 1 rfl) ?_
  refine lv_iload_n hx hb dX1_mount_19 rfl (lv_at hl 0 rfl) ?_
  refine cM_this (Wd := RWd g0 g1 g2 g3 g4 g5 g6 cA cB) (ci := 1) (q0 := 0) (n := 1) (as := [.int 1]) (rest := []) ⟨hx, hb, hml, hown, hts⟩ (c_X1_mend l D g0 g1 g2 g3 g4 g5 g6 cA cB s3 1 in20_1 12 (rpb_tb hL4) (by decide)) gX1_mount_X1_mend rfl rfl rfl (by decide +kernel) ⟨Nat.le_of_ble_eq_true rfl, Nat.le_of_ble_eq_true rfl⟩ hK hP hD hS hA rfl rfl rfl hl.1 rfl rfl (Nat.le_of_ble_eq_true rfl) dX1_mount_20 ⟨Nat.zero_le _, Nat.zero_le _⟩ (fun H locs hP hD hS => ?_)
  refine W.eq (g2 := F0 m 23 ls []) rfl ?_
  obtain ⟨s5, t5⟩ : ∃ y9 : RS, r_mend 1 s3 = y9 := ⟨_, rfl⟩
  replace hP : va_P D vwCl (RWd g0 g1 g2 g3 g4 g5 g6 cA cB s5) H := by rw [← t5]; exact hP
  replace hD : va_D A (RWd g0 g1 g2 g3 g4 g5 g6 cA cB s5) := by rw [← t5]; exact hD
  obtain ⟨L6, f6⟩ : ∃ y9 : RPl, L4 ++ p_mend 1 st.1.1 = y9 := ⟨_, rfl⟩
  have hL6 : rpb s5 L6 24 := by rw [← t5, ← f6]; exact rpb_mend 1 hL4 (by decide) in20_1 hf4
  have hf6 : s5.1.1 = st.1.1 := by rw [← t5, mend_1]; exact hf4
  refine lv_iinc (v := 2) (lv' := [(1, .int 2), (0, .ref g0)]) hx hb dX1_mount_23 hl (k := 0) rfl (by decide) (by decide) rfl (fun ls hl => ?_)
  refine lv_goto (tgt := 12) hx hb dX1_mount_26 (by decide) ?_
  refine lv_iload_n hx hb dX1_mount_12 rfl (lv_at hl 0 rfl) ?_
  refine lv_bipush (v := 20) hx hb dX1_mount_13 (by decide) ?_
  refine lv_icmp_ge (tgt := 29) hx hb dX1_mount_15 (by decide) (fun c0 => absurd c0 (by decide)) (fun _ => ?_)
  refine lv_aload_n hx hb dX1_mount_18 rfl (lv_at hl 1 rfl) ?_
  refine lv_iload_n hx hb dX1_mount_19 rfl (lv_at hl 0 rfl) ?_
  refine cM_this (Wd := RWd g0 g1 g2 g3 g4 g5 g6 cA cB) (ci := 1) (q0 := 0) (n := 1) (as := [.int 2]) (rest := []) ⟨hx, hb, hml, hown, hts⟩ (c_X1_mend l D g0 g1 g2 g3 g4 g5 g6 cA cB s5 2 in20_2 24 (rpb_tb hL6) (by decide)) gX1_mount_X1_mend rfl rfl rfl (by decide +kernel) ⟨Nat.le_of_ble_eq_true rfl, Nat.le_of_ble_eq_true rfl⟩ hK hP hD hS hA rfl rfl rfl hl.1 rfl rfl (Nat.le_of_ble_eq_true rfl) dX1_mount_20 ⟨Nat.zero_le _, Nat.zero_le _⟩ (fun H locs hP hD hS => ?_)
  refine W.eq (g2 := F0 m 23 ls []) rfl ?_
  obtain ⟨s7, t7⟩ : ∃ y9 : RS, r_mend 2 s5 = y9 := ⟨_, rfl⟩
  replace hP : va_P D vwCl (RWd g0 g1 g2 g3 g4 g5 g6 cA cB s7) H := by rw [← t7]; exact hP
  replace hD : va_D A (RWd g0 g1 g2 g3 g4 g5 g6 cA cB s7) := by rw [← t7]; exact hD
  obtain ⟨L8, f8⟩ : ∃ y9 : RPl, L6 ++ p_mend 2 st.1.1 = y9 := ⟨_, rfl⟩
  have hL8 : rpb s7 L8 36 := by rw [← t7, ← f8]; exact rpb_mend 2 hL6 (by decide) in20_2 hf6
  have hf8 : s7.1.1 = st.1.1 := by rw [← t7, mend_1]; exact hf6
  refine lv_iinc (v := 3) (lv' := [(1, .int 3), (0, .ref g0)]) hx hb dX1_mount_23 hl (k := 0) rfl (by decide) (by decide) rfl (fun ls hl => ?_)
  refine lv_goto (tgt := 12) hx hb dX1_mount_26 (by decide) ?_
  refine lv_iload_n hx hb dX1_mount_12 rfl (lv_at hl 0 rfl) ?_
  refine lv_bipush (v := 20) hx hb dX1_mount_13 (by decide) ?_
  refine lv_icmp_ge (tgt := 29) hx hb dX1_mount_15 (by decide) (fun c0 => absurd c0 (by decide)) (fun _ => ?_)
  refine lv_aload_n hx hb dX1_mount_18 rfl (lv_at hl 1 rfl) ?_
  refine lv_iload_n hx hb dX1_mount_19 rfl (lv_at hl 0 rfl) ?_
  refine cM_this (Wd := RWd g0 g1 g2 g3 g4 g5 g6 cA cB) (ci := 1) (q0 := 0) (n := 1) (as := [.int 3]) (rest := []) ⟨hx, hb, hml, hown, hts⟩ (c_X1_mend l D g0 g1 g2 g3 g4 g5 g6 cA cB s7 3 in20_3 36 (rpb_tb hL8) (by decide)) gX1_mount_X1_mend rfl rfl rfl (by decide +kernel) ⟨Nat.le_of_ble_eq_true rfl, Nat.le_of_ble_eq_true rfl⟩ hK hP hD hS hA rfl rfl rfl hl.1 rfl rfl (Nat.le_of_ble_eq_true rfl) dX1_mount_20 ⟨Nat.zero_le _, Nat.zero_le _⟩ (fun H locs hP hD hS => ?_)
  refine W.eq (g2 := F0 m 23 ls []) rfl ?_
  obtain ⟨s9, t9⟩ : ∃ y9 : RS, r_mend 3 s7 = y9 := ⟨_, rfl⟩
  replace hP : va_P D vwCl (RWd g0 g1 g2 g3 g4 g5 g6 cA cB s9) H := by rw [← t9]; exact hP
  replace hD : va_D A (RWd g0 g1 g2 g3 g4 g5 g6 cA cB s9) := by rw [← t9]; exact hD
  obtain ⟨L10, f10⟩ : ∃ y9 : RPl, L8 ++ p_mend 3 st.1.1 = y9 := ⟨_, rfl⟩
  have hL10 : rpb s9 L10 48 := by rw [← t9, ← f10]; exact rpb_mend 3 hL8 (by decide) in20_3 hf8
  have hf10 : s9.1.1 = st.1.1 := by rw [← t9, mend_1]; exact hf8
  refine lv_iinc (v := 4) (lv' := [(1, .int 4), (0, .ref g0)]) hx hb dX1_mount_23 hl (k := 0) rfl (by decide) (by decide) rfl (fun ls hl => ?_)
  refine lv_goto (tgt := 12) hx hb dX1_mount_26 (by decide) ?_
  refine lv_iload_n hx hb dX1_mount_12 rfl (lv_at hl 0 rfl) ?_
  refine lv_bipush (v := 20) hx hb dX1_mount_13 (by decide) ?_
  refine lv_icmp_ge (tgt := 29) hx hb dX1_mount_15 (by decide) (fun c0 => absurd c0 (by decide)) (fun _ => ?_)
  refine lv_aload_n hx hb dX1_mount_18 rfl (lv_at hl 1 rfl) ?_
  refine lv_iload_n hx hb dX1_mount_19 rfl (lv_at hl 0 rfl) ?_
  refine cM_this (Wd := RWd g0 g1 g2 g3 g4 g5 g6 cA cB) (ci := 1) (q0 := 0) (n := 1) (as := [.int 4]) (rest := []) ⟨hx, hb, hml, hown, hts⟩ (c_X1_mend l D g0 g1 g2 g3 g4 g5 g6 cA cB s9 4 in20_4 48 (rpb_tb hL10) (by decide)) gX1_mount_X1_mend rfl rfl rfl (by decide +kernel) ⟨Nat.le_of_ble_eq_true rfl, Nat.le_of_ble_eq_true rfl⟩ hK hP hD hS hA rfl rfl rfl hl.1 rfl rfl (Nat.le_of_ble_eq_true rfl) dX1_mount_20 ⟨Nat.zero_le _, Nat.zero_le _⟩ (fun H locs hP hD hS => ?_)
  refine W.eq (g2 := F0 m 23 ls []) rfl ?_
  obtain ⟨s11, t11⟩ : ∃ y9 : RS, r_mend 4 s9 = y9 := ⟨_, rfl⟩
  replace hP : va_P D vwCl (RWd g0 g1 g2 g3 g4 g5 g6 cA cB s11) H := by rw [← t11]; exact hP
  replace hD : va_D A (RWd g0 g1 g2 g3 g4 g5 g6 cA cB s11) := by rw [← t11]; exact hD
  obtain ⟨L12, f12⟩ : ∃ y9 : RPl, L10 ++ p_mend 4 st.1.1 = y9 := ⟨_, rfl⟩
  have hL12 : rpb s11 L12 60 := by rw [← t11, ← f12]; exact rpb_mend 4 hL10 (by decide) in20_4 hf10
  have hf12 : s11.1.1 = st.1.1 := by rw [← t11, mend_1]; exact hf10
  refine lv_iinc (v := 5) (lv' := [(1, .int 5), (0, .ref g0)]) hx hb dX1_mount_23 hl (k := 0) rfl (by decide) (by decide) rfl (fun ls hl => ?_)
  refine lv_goto (tgt := 12) hx hb dX1_mount_26 (by decide) ?_
  refine lv_iload_n hx hb dX1_mount_12 rfl (lv_at hl 0 rfl) ?_
  refine lv_bipush (v := 20) hx hb dX1_mount_13 (by decide) ?_
  refine lv_icmp_ge (tgt := 29) hx hb dX1_mount_15 (by decide) (fun c0 => absurd c0 (by decide)) (fun _ => ?_)
  refine lv_aload_n hx hb dX1_mount_18 rfl (lv_at hl 1 rfl) ?_
  refine lv_iload_n hx hb dX1_mount_19 rfl (lv_at hl 0 rfl) ?_
  refine cM_this (Wd := RWd g0 g1 g2 g3 g4 g5 g6 cA cB) (ci := 1) (q0 := 0) (n := 1) (as := [.int 5]) (rest := []) ⟨hx, hb, hml, hown, hts⟩ (c_X1_mend l D g0 g1 g2 g3 g4 g5 g6 cA cB s11 5 in20_5 60 (rpb_tb hL12) (by decide)) gX1_mount_X1_mend rfl rfl rfl (by decide +kernel) ⟨Nat.le_of_ble_eq_true rfl, Nat.le_of_ble_eq_true rfl⟩ hK hP hD hS hA rfl rfl rfl hl.1 rfl rfl (Nat.le_of_ble_eq_true rfl) dX1_mount_20 ⟨Nat.zero_le _, Nat.zero_le _⟩ (fun H locs hP hD hS => ?_)
  refine W.eq (g2 := F0 m 23 ls []) rfl ?_
  obtain ⟨s13, t13⟩ : ∃ y9 : RS, r_mend 5 s11 = y9 := ⟨_, rfl⟩
  replace hP : va_P D vwCl (RWd g0 g1 g2 g3 g4 g5 g6 cA cB s13) H := by rw [← t13]; exact hP
  replace hD : va_D A (RWd g0 g1 g2 g3 g4 g5 g6 cA cB s13) := by rw [← t13]; exact hD
  obtain ⟨L14, f14⟩ : ∃ y9 : RPl, L12 ++ p_mend 5 st.1.1 = y9 := ⟨_, rfl⟩
  have hL14 : rpb s13 L14 72 := by rw [← t13, ← f14]; exact rpb_mend 5 hL12 (by decide) in20_5 hf12
  have hf14 : s13.1.1 = st.1.1 := by rw [← t13, mend_1]; exact hf12
  refine lv_iinc (v := 6) (lv' := [(1, .int 6), (0, .ref g0)]) hx hb dX1_mount_23 hl (k := 0) rfl (by decide) (by decide) rfl (fun ls hl => ?_)
  refine lv_goto (tgt := 12) hx hb dX1_mount_26 (by decide) ?_
  refine lv_iload_n hx hb dX1_mount_12 rfl (lv_at hl 0 rfl) ?_
  refine lv_bipush (v := 20) hx hb dX1_mount_13 (by decide) ?_
  refine lv_icmp_ge (tgt := 29) hx hb dX1_mount_15 (by decide) (fun c0 => absurd c0 (by decide)) (fun _ => ?_)
  refine lv_aload_n hx hb dX1_mount_18 rfl (lv_at hl 1 rfl) ?_
  refine lv_iload_n hx hb dX1_mount_19 rfl (lv_at hl 0 rfl) ?_
  refine cM_this (Wd := RWd g0 g1 g2 g3 g4 g5 g6 cA cB) (ci := 1) (q0 := 0) (n := 1) (as := [.int 6]) (rest := []) ⟨hx, hb, hml, hown, hts⟩ (c_X1_mend l D g0 g1 g2 g3 g4 g5 g6 cA cB s13 6 in20_6 72 (rpb_tb hL14) (by decide)) gX1_mount_X1_mend rfl rfl rfl (by decide +kernel) ⟨Nat.le_of_ble_eq_true rfl, Nat.le_of_ble_eq_true rfl⟩ hK hP hD hS hA rfl rfl rfl hl.1 rfl rfl (Nat.le_of_ble_eq_true rfl) dX1_mount_20 ⟨Nat.zero_le _, Nat.zero_le _⟩ (fun H locs hP hD hS => ?_)
  refine W.eq (g2 := F0 m 23 ls []) rfl ?_
  obtain ⟨s15, t15⟩ : ∃ y9 : RS, r_mend 6 s13 = y9 := ⟨_, rfl⟩
  replace hP : va_P D vwCl (RWd g0 g1 g2 g3 g4 g5 g6 cA cB s15) H := by rw [← t15]; exact hP
  replace hD : va_D A (RWd g0 g1 g2 g3 g4 g5 g6 cA cB s15) := by rw [← t15]; exact hD
  obtain ⟨L16, f16⟩ : ∃ y9 : RPl, L14 ++ p_mend 6 st.1.1 = y9 := ⟨_, rfl⟩
  have hL16 : rpb s15 L16 84 := by rw [← t15, ← f16]; exact rpb_mend 6 hL14 (by decide) in20_6 hf14
  have hf16 : s15.1.1 = st.1.1 := by rw [← t15, mend_1]; exact hf14
  refine lv_iinc (v := 7) (lv' := [(1, .int 7), (0, .ref g0)]) hx hb dX1_mount_23 hl (k := 0) rfl (by decide) (by decide) rfl (fun ls hl => ?_)
  refine lv_goto (tgt := 12) hx hb dX1_mount_26 (by decide) ?_
  refine lv_iload_n hx hb dX1_mount_12 rfl (lv_at hl 0 rfl) ?_
  refine lv_bipush (v := 20) hx hb dX1_mount_13 (by decide) ?_
  refine lv_icmp_ge (tgt := 29) hx hb dX1_mount_15 (by decide) (fun c0 => absurd c0 (by decide)) (fun _ => ?_)
  refine lv_aload_n hx hb dX1_mount_18 rfl (lv_at hl 1 rfl) ?_
  refine lv_iload_n hx hb dX1_mount_19 rfl (lv_at hl 0 rfl) ?_
  refine cM_this (Wd := RWd g0 g1 g2 g3 g4 g5 g6 cA cB) (ci := 1) (q0 := 0) (n := 1) (as := [.int 7]) (rest := []) ⟨hx, hb, hml, hown, hts⟩ (c_X1_mend l D g0 g1 g2 g3 g4 g5 g6 cA cB s15 7 in20_7 84 (rpb_tb hL16) (by decide)) gX1_mount_X1_mend rfl rfl rfl (by decide +kernel) ⟨Nat.le_of_ble_eq_true rfl, Nat.le_of_ble_eq_true rfl⟩ hK hP hD hS hA rfl rfl rfl hl.1 rfl rfl (Nat.le_of_ble_eq_true rfl) dX1_mount_20 ⟨Nat.zero_le _, Nat.zero_le _⟩ (fun H locs hP hD hS => ?_)
  refine W.eq (g2 := F0 m 23 ls []) rfl ?_
  obtain ⟨s17, t17⟩ : ∃ y9 : RS, r_mend 7 s15 = y9 := ⟨_, rfl⟩
  replace hP : va_P D vwCl (RWd g0 g1 g2 g3 g4 g5 g6 cA cB s17) H := by rw [← t17]; exact hP
  replace hD : va_D A (RWd g0 g1 g2 g3 g4 g5 g6 cA cB s17) := by rw [← t17]; exact hD
  obtain ⟨L18, f18⟩ : ∃ y9 : RPl, L16 ++ p_mend 7 st.1.1 = y9 := ⟨_, rfl⟩
  have hL18 : rpb s17 L18 96 := by rw [← t17, ← f18]; exact rpb_mend 7 hL16 (by decide) in20_7 hf16
  have hf18 : s17.1.1 = st.1.1 := by rw [← t17, mend_1]; exact hf16
  refine lv_iinc (v := 8) (lv' := [(1, .int 8), (0, .ref g0)]) hx hb dX1_mount_23 hl (k := 0) rfl (by decide) (by decide) rfl (fun ls hl => ?_)
  refine lv_goto (tgt := 12) hx hb dX1_mount_26 (by decide) ?_
  refine lv_iload_n hx hb dX1_mount_12 rfl (lv_at hl 0 rfl) ?_
  refine lv_bipush (v := 20) hx hb dX1_mount_13 (by decide) ?_
  refine lv_icmp_ge (tgt := 29) hx hb dX1_mount_15 (by decide) (fun c0 => absurd c0 (by decide)) (fun _ => ?_)
  refine lv_aload_n hx hb dX1_mount_18 rfl (lv_at hl 1 rfl) ?_
  refine lv_iload_n hx hb dX1_mount_19 rfl (lv_at hl 0 rfl) ?_
  refine cM_this (Wd := RWd g0 g1 g2 g3 g4 g5 g6 cA cB) (ci := 1) (q0 := 0) (n := 1) (as := [.int 8]) (rest := []) ⟨hx, hb, hml, hown, hts⟩ (c_X1_mend l D g0 g1 g2 g3 g4 g5 g6 cA cB s17 8 in20_8 96 (rpb_tb hL18) (by decide)) gX1_mount_X1_mend rfl rfl rfl (by decide +kernel) ⟨Nat.le_of_ble_eq_true rfl, Nat.le_of_ble_eq_true rfl⟩ hK hP hD hS hA rfl rfl rfl hl.1 rfl rfl (Nat.le_of_ble_eq_true rfl) dX1_mount_20 ⟨Nat.zero_le _, Nat.zero_le _⟩ (fun H locs hP hD hS => ?_)
  refine W.eq (g2 := F0 m 23 ls []) rfl ?_
  obtain ⟨s19, t19⟩ : ∃ y9 : RS, r_mend 8 s17 = y9 := ⟨_, rfl⟩
  replace hP : va_P D vwCl (RWd g0 g1 g2 g3 g4 g5 g6 cA cB s19) H := by rw [← t19]; exact hP
  replace hD : va_D A (RWd g0 g1 g2 g3 g4 g5 g6 cA cB s19) := by rw [← t19]; exact hD
  obtain ⟨L20, f20⟩ : ∃ y9 : RPl, L18 ++ p_mend 8 st.1.1 = y9 := ⟨_, rfl⟩
  have hL20 : rpb s19 L20 108 := by rw [← t19, ← f20]; exact rpb_mend 8 hL18 (by decide) in20_8 hf18
  have hf20 : s19.1.1 = st.1.1 := by rw [← t19, mend_1]; exact hf18
  refine lv_iinc (v := 9) (lv' := [(1, .int 9), (0, .ref g0)]) hx hb dX1_mount_23 hl (k := 0) rfl (by decide) (by decide) rfl (fun ls hl => ?_)
  refine lv_goto (tgt := 12) hx hb dX1_mount_26 (by decide) ?_
  refine lv_iload_n hx hb dX1_mount_12 rfl (lv_at hl 0 rfl) ?_
  refine lv_bipush (v := 20) hx hb dX1_mount_13 (by decide) ?_
  refine lv_icmp_ge (tgt := 29) hx hb dX1_mount_15 (by decide) (fun c0 => absurd c0 (by decide)) (fun _ => ?_)
  refine lv_aload_n hx hb dX1_mount_18 rfl (lv_at hl 1 rfl) ?_
  refine lv_iload_n hx hb dX1_mount_19 rfl (lv_at hl 0 rfl) ?_
  refine cM_this (Wd := RWd g0 g1 g2 g3 g4 g5 g6 cA cB) (ci := 1) (q0 := 0) (n := 1) (as := [.int 9]) (rest := []) ⟨hx, hb, hml, hown, hts⟩ (c_X1_mend l D g0 g1 g2 g3 g4 g5 g6 cA cB s19 9 in20_9 108 (rpb_tb hL20) (by decide)) gX1_mount_X1_mend rfl rfl rfl (by decide +kernel) ⟨Nat.le_of_ble_eq_true rfl, Nat.le_of_ble_eq_true rfl⟩ hK hP hD hS hA rfl rfl rfl hl.1 rfl rfl (Nat.le_of_ble_eq_true rfl) dX1_mount_20 ⟨Nat.zero_le _, Nat.zero_le _⟩ (fun H locs hP hD hS => ?_)
  refine W.eq (g2 := F0 m 23 ls []) rfl ?_
  obtain ⟨s21, t21⟩ : ∃ y9 : RS, r_mend 9 s19 = y9 := ⟨_, rfl⟩
  replace hP : va_P D vwCl (RWd g0 g1 g2 g3 g4 g5 g6 cA cB s21) H := by rw [← t21]; exact hP
  replace hD : va_D A (RWd g0 g1 g2 g3 g4 g5 g6 cA cB s21) := by rw [← t21]; exact hD
  obtain ⟨L22, f22⟩ : ∃ y9 : RPl, L20 ++ p_mend 9 st.1.1 = y9 := ⟨_, rfl⟩
  have hL22 : rpb s21 L22 120 := by rw [← t21, ← f22]; exact rpb_mend 9 hL20 (by decide) in20_9 hf20
  have hf22 : s21.1.1 = st.1.1 := by rw [← t21, mend_1]; exact hf20
  refine lv_iinc (v := 10) (lv' := [(1, .int 10), (0, .ref g0)]) hx hb dX1_mount_23 hl (k := 0) rfl (by decide) (by decide) rfl (fun ls hl => ?_)
  refine lv_goto (tgt := 12) hx hb dX1_mount_26 (by decide) ?_
  refine lv_iload_n hx hb dX1_mount_12 rfl (lv_at hl 0 rfl) ?_
  refine lv_bipush (v := 20) hx hb dX1_mount_13 (by decide) ?_
  refine lv_icmp_ge (tgt := 29) hx hb dX1_mount_15 (by decide) (fun c0 => absurd c0 (by decide)) (fun _ => ?_)
  refine lv_aload_n hx hb dX1_mount_18 rfl (lv_at hl 1 rfl) ?_
  refine lv_iload_n hx hb dX1_mount_19 rfl (lv_at hl 0 rfl) ?_
  refine cM_this (Wd := RWd g0 g1 g2 g3 g4 g5 g6 cA cB) (ci := 1) (q0 := 0) (n := 1) (as := [.int 10]) (rest := []) ⟨hx, hb, hml, hown, hts⟩ (c_X1_mend l D g0 g1 g2 g3 g4 g5 g6 cA cB s21 10 in20_10 120 (rpb_tb hL22) (by decide)) gX1_mount_X1_mend rfl rfl rfl (by decide +kernel) ⟨Nat.le_of_ble_eq_true rfl, Nat.le_of_ble_eq_true rfl⟩ hK hP hD hS hA rfl rfl rfl hl.1 rfl rfl (Nat.le_of_ble_eq_true rfl) dX1_mount_20 ⟨Nat.zero_le _, Nat.zero_le _⟩ (fun H locs hP hD hS => ?_)
  refine W.eq (g2 := F0 m 23 ls []) rfl ?_
  obtain ⟨s23, t23⟩ : ∃ y9 : RS, r_mend 10 s21 = y9 := ⟨_, rfl⟩
  replace hP : va_P D vwCl (RWd g0 g1 g2 g3 g4 g5 g6 cA cB s23) H := by rw [← t23]; exact hP
  replace hD : va_D A (RWd g0 g1 g2 g3 g4 g5 g6 cA cB s23) := by rw [← t23]; exact hD
  obtain ⟨L24, f24⟩ : ∃ y9 : RPl, L22 ++ p_mend 10 st.1.1 = y9 := ⟨_, rfl⟩
  have hL24 : rpb s23 L24 132 := by rw [← t23, ← f24]; exact rpb_mend 10 hL22 (by decide) in20_10 hf22
  have hf24 : s23.1.1 = st.1.1 := by rw [← t23, mend_1]; exact hf22
  refine lv_iinc (v := 11) (lv' := [(1, .int 11), (0, .ref g0)]) hx hb dX1_mount_23 hl (k := 0) rfl (by decide) (by decide) rfl (fun ls hl => ?_)
  refine lv_goto (tgt := 12) hx hb dX1_mount_26 (by decide) ?_
  refine lv_iload_n hx hb dX1_mount_12 rfl (lv_at hl 0 rfl) ?_
  refine lv_bipush (v := 20) hx hb dX1_mount_13 (by decide) ?_
  refine lv_icmp_ge (tgt := 29) hx hb dX1_mount_15 (by decide) (fun c0 => absurd c0 (by decide)) (fun _ => ?_)
  refine lv_aload_n hx hb dX1_mount_18 rfl (lv_at hl 1 rfl) ?_
  refine lv_iload_n hx hb dX1_mount_19 rfl (lv_at hl 0 rfl) ?_
  refine cM_this (Wd := RWd g0 g1 g2 g3 g4 g5 g6 cA cB) (ci := 1) (q0 := 0) (n := 1) (as := [.int 11]) (rest := []) ⟨hx, hb, hml, hown, hts⟩ (c_X1_mend l D g0 g1 g2 g3 g4 g5 g6 cA cB s23 11 in20_11 132 (rpb_tb hL24) (by decide)) gX1_mount_X1_mend rfl rfl rfl (by decide +kernel) ⟨Nat.le_of_ble_eq_true rfl, Nat.le_of_ble_eq_true rfl⟩ hK hP hD hS hA rfl rfl rfl hl.1 rfl rfl (Nat.le_of_ble_eq_true rfl) dX1_mount_20 ⟨Nat.zero_le _, Nat.zero_le _⟩ (fun H locs hP hD hS => ?_)
  refine W.eq (g2 := F0 m 23 ls []) rfl ?_
  obtain ⟨s25, t25⟩ : ∃ y9 : RS, r_mend 11 s23 = y9 := ⟨_, rfl⟩
  replace hP : va_P D vwCl (RWd g0 g1 g2 g3 g4 g5 g6 cA cB s25) H := by rw [← t25]; exact hP
  replace hD : va_D A (RWd g0 g1 g2 g3 g4 g5 g6 cA cB s25) := by rw [← t25]; exact hD
  obtain ⟨L26, f26⟩ : ∃ y9 : RPl, L24 ++ p_mend 11 st.1.1 = y9 := ⟨_, rfl⟩
  have hL26 : rpb s25 L26 144 := by rw [← t25, ← f26]; exact rpb_mend 11 hL24 (by decide) in20_11 hf24
  have hf26 : s25.1.1 = st.1.1 := by rw [← t25, mend_1]; exact hf24
  refine lv_iinc (v := 12) (lv' := [(1, .int 12), (0, .ref g0)]) hx hb dX1_mount_23 hl (k := 0) rfl (by decide) (by decide) rfl (fun ls hl => ?_)
  refine lv_goto (tgt := 12) hx hb dX1_mount_26 (by decide) ?_
  refine lv_iload_n hx hb dX1_mount_12 rfl (lv_at hl 0 rfl) ?_
  refine lv_bipush (v := 20) hx hb dX1_mount_13 (by decide) ?_
  refine lv_icmp_ge (tgt := 29) hx hb dX1_mount_15 (by decide) (fun c0 => absurd c0 (by decide)) (fun _ => ?_)
  refine lv_aload_n hx hb dX1_mount_18 rfl (lv_at hl 1 rfl) ?_
  refine lv_iload_n hx hb dX1_mount_19 rfl (lv_at hl 0 rfl) ?_
  refine cM_this (Wd := RWd g0 g1 g2 g3 g4 g5 g6 cA cB) (ci := 1) (q0 := 0) (n := 1) (as := [.int 12]) (rest := []) ⟨hx, hb, hml, hown, hts⟩ (c_X1_mend l D g0 g1 g2 g3 g4 g5 g6 cA cB s25 12 in20_12 144 (rpb_tb hL26) (by decide)) gX1_mount_X1_mend rfl rfl rfl (by decide +kernel) ⟨Nat.le_of_ble_eq_true rfl, Nat.le_of_ble_eq_true rfl⟩ hK hP hD hS hA rfl rfl rfl hl.1 rfl rfl (Nat.le_of_ble_eq_true rfl) dX1_mount_20 ⟨Nat.zero_le _, Nat.zero_le _⟩ (fun H locs hP hD hS => ?_)
  refine W.eq (g2 := F0 m 23 ls []) rfl ?_
  obtain ⟨s27, t27⟩ : ∃ y9 : RS, r_mend 12 s25 = y9 := ⟨_, rfl⟩
  replace hP : va_P D vwCl (RWd g0 g1 g2 g3 g4 g5 g6 cA cB s27) H := by rw [← t27]; exact hP
  replace hD : va_D A (RWd g0 g1 g2 g3 g4 g5 g6 cA cB s27) := by rw [← t27]; exact hD
  obtain ⟨L28, f28⟩ : ∃ y9 : RPl, L26 ++ p_mend 12 st.1.1 = y9 := ⟨_, rfl⟩
  have hL28 : rpb s27 L28 156 := by rw [← t27, ← f28]; exact rpb_mend 12 hL26 (by decide) in20_12 hf26
  have hf28 : s27.1.1 = st.1.1 := by rw [← t27, mend_1]; exact hf26
  refine lv_iinc (v := 13) (lv' := [(1, .int 13), (0, .ref g0)]) hx hb dX1_mount_23 hl (k := 0) rfl (by decide) (by decide) rfl (fun ls hl => ?_)
  refine lv_goto (tgt := 12) hx hb dX1_mount_26 (by decide) ?_
  refine lv_iload_n hx hb dX1_mount_12 rfl (lv_at hl 0 rfl) ?_
  refine lv_bipush (v := 20) hx hb dX1_mount_13 (by decide) ?_
  refine lv_icmp_ge (tgt := 29) hx hb dX1_mount_15 (by decide) (fun c0 => absurd c0 (by decide)) (fun _ => ?_)
  refine lv_aload_n hx hb dX1_mount_18 rfl (lv_at hl 1 rfl) ?_
  refine lv_iload_n hx hb dX1_mount_19 rfl (lv_at hl 0 rfl) ?_
  refine cM_this (Wd := RWd g0 g1 g2 g3 g4 g5 g6 cA cB) (ci := 1) (q0 := 0) (n := 1) (as := [.int 13]) (rest := []) ⟨hx, hb, hml, hown, hts⟩ (c_X1_mend l D g0 g1 g2 g3 g4 g5 g6 cA cB s27 13 in20_13 156 (rpb_tb hL28) (by decide)) gX1_mount_X1_mend rfl rfl rfl (by decide +kernel) ⟨Nat.le_of_ble_eq_true rfl, Nat.le_of_ble_eq_true rfl⟩ hK hP hD hS hA rfl rfl rfl hl.1 rfl rfl (Nat.le_of_ble_eq_true rfl) dX1_mount_20 ⟨Nat.zero_le _, Nat.zero_le _⟩ (fun H locs hP hD hS => ?_)
  refine W.eq (g2 := F0 m 23 ls []) rfl ?_
  obtain ⟨s29, t29⟩ : ∃ y9 : RS, r_mend 13 s27 = y9 := ⟨_, rfl⟩
  replace hP : va_P D vwCl (RWd g0 g1 g2 g3 g4 g5 g6 cA cB s29) H := by rw [← t29]; exact hP
  replace hD : va_D A (RWd g0 g1 g2 g3 g4 g5 g6 cA cB s29) := by rw [← t29]; exact hD
  obtain ⟨L30, f30⟩ : ∃ y9 : RPl, L28 ++ p_mend 13 st.1.1 = y9 := ⟨_, rfl⟩
  have hL30 : rpb s29 L30 168 := by rw [← t29, ← f30]; exact rpb_mend 13 hL28 (by decide) in20_13 hf28
  have hf30 : s29.1.1 = st.1.1 := by rw [← t29, mend_1]; exact hf28
  refine lv_iinc (v := 14) (lv' := [(1, .int 14), (0, .ref g0)]) hx hb dX1_mount_23 hl (k := 0) rfl (by decide) (by decide) rfl (fun ls hl => ?_)
  refine lv_goto (tgt := 12) hx hb dX1_mount_26 (by decide) ?_
  refine lv_iload_n hx hb dX1_mount_12 rfl (lv_at hl 0 rfl) ?_
  refine lv_bipush (v := 20) hx hb dX1_mount_13 (by decide) ?_
  refine lv_icmp_ge (tgt := 29) hx hb dX1_mount_15 (by decide) (fun c0 => absurd c0 (by decide)) (fun _ => ?_)
  refine lv_aload_n hx hb dX1_mount_18 rfl (lv_at hl 1 rfl) ?_
  refine lv_iload_n hx hb dX1_mount_19 rfl (lv_at hl 0 rfl) ?_
  refine cM_this (Wd := RWd g0 g1 g2 g3 g4 g5 g6 cA cB) (ci := 1) (q0 := 0) (n := 1) (as := [.int 14]) (rest := []) ⟨hx, hb, hml, hown, hts⟩ (c_X1_mend l D g0 g1 g2 g3 g4 g5 g6 cA cB s29 14 in20_14 168 (rpb_tb hL30) (by decide)) gX1_mount_X1_mend rfl rfl rfl (by decide +kernel) ⟨Nat.le_of_ble_eq_true rfl, Nat.le_of_ble_eq_true rfl⟩ hK hP hD hS hA rfl rfl rfl hl.1 rfl rfl (Nat.le_of_ble_eq_true rfl) dX1_mount_20 ⟨Nat.zero_le _, Nat.zero_le _⟩ (fun H locs hP hD hS => ?_)
  refine W.eq (g2 := F0 m 23 ls []) rfl ?_
  obtain ⟨s31, t31⟩ : ∃ y9 : RS, r_mend 14 s29 = y9 := ⟨_, rfl⟩
  replace hP : va_P D vwCl (RWd g0 g1 g2 g3 g4 g5 g6 cA cB s31) H := by rw [← t31]; exact hP
  replace hD : va_D A (RWd g0 g1 g2 g3 g4 g5 g6 cA cB s31) := by rw [← t31]; exact hD
  obtain ⟨L32, f32⟩ : ∃ y9 : RPl, L30 ++ p_mend 14 st.1.1 = y9 := ⟨_, rfl⟩
  have hL32 : rpb s31 L32 180 := by rw [← t31, ← f32]; exact rpb_mend 14 hL30 (by decide) in20_14 hf30
  have hf32 : s31.1.1 = st.1.1 := by rw [← t31, mend_1]; exact hf30
  refine lv_iinc (v := 15) (lv' := [(1, .int 15), (0, .ref g0)]) hx hb dX1_mount_23 hl (k := 0) rfl (by decide) (by decide) rfl (fun ls hl => ?_)
  refine lv_goto (tgt := 12) hx hb dX1_mount_26 (by decide) ?_
  refine lv_iload_n hx hb dX1_mount_12 rfl (lv_at hl 0 rfl) ?_
  refine lv_bipush (v := 20) hx hb dX1_mount_13 (by decide) ?_
  refine lv_icmp_ge (tgt := 29) hx hb dX1_mount_15 (by decide) (fun c0 => absurd c0 (by decide)) (fun _ => ?_)
  refine lv_aload_n hx hb dX1_mount_18 rfl (lv_at hl 1 rfl) ?_
  refine lv_iload_n hx hb dX1_mount_19 rfl (lv_at hl 0 rfl) ?_
  refine cM_this (Wd := RWd g0 g1 g2 g3 g4 g5 g6 cA cB) (ci := 1) (q0 := 0) (n := 1) (as := [.int 15]) (rest := []) ⟨hx, hb, hml, hown, hts⟩ (c_X1_mend l D g0 g1 g2 g3 g4 g5 g6 cA cB s31 15 in20_15 180 (rpb_tb hL32) (by decide)) gX1_mount_X1_mend rfl rfl rfl (by decide +kernel) ⟨Nat.le_of_ble_eq_true rfl, Nat.le_of_ble_eq_true rfl⟩ hK hP hD hS hA rfl rfl rfl hl.1 rfl rfl (Nat.le_of_ble_eq_true rfl) dX1_mount_20 ⟨Nat.zero_le _, Nat.zero_le _⟩ (fun H locs hP hD hS => ?_)
  refine W.eq (g2 := F0 m 23 ls []) rfl ?_
  obtain ⟨s33, t33⟩ : ∃ y9 : RS, r_mend 15 s31 = y9 := ⟨_, rfl⟩
  replace hP : va_P D vwCl (RWd g0 g1 g2 g3 g4 g5 g6 cA cB s33) H := by rw [← t33]; exact hP
  replace hD : va_D A (RWd g0 g1 g2 g3 g4 g5 g6 cA cB s33) := by rw [← t33]; exact hD
  obtain ⟨L34, f34⟩ : ∃ y9 : RPl, L32 ++ p_mend 15 st.1.1 = y9 := ⟨_, rfl⟩
  have hL34 : rpb s33 L34 192 := by rw [← t33, ← f34]; exact rpb_mend 15 hL32 (by decide) in20_15 hf32
  have hf34 : s33.1.1 = st.1.1 := by rw [← t33, mend_1]; exact hf32
  refine lv_iinc (v := 16) (lv' := [(1, .int 16), (0, .ref g0)]) hx hb dX1_mount_23 hl (k := 0) rfl (by decide) (by decide) rfl (fun ls hl => ?_)
  refine lv_goto (tgt := 12) hx hb dX1_mount_26 (by decide) ?_
  refine lv_iload_n hx hb dX1_mount_12 rfl (lv_at hl 0 rfl) ?_
  refine lv_bipush (v := 20) hx hb dX1_mount_13 (by decide) ?_
  refine lv_icmp_ge (tgt := 29) hx hb dX1_mount_15 (by decide) (fun c0 => absurd c0 (by decide)) (fun _ => ?_)
  refine lv_aload_n hx hb dX1_mount_18 rfl (lv_at hl 1 rfl) ?_
  refine lv_iload_n hx hb dX1_mount_19 rfl (lv_at hl 0 rfl) ?_
  refine cM_this (Wd := RWd g0 g1 g2 g3 g4 g5 g6 cA cB) (ci := 1) (q0 := 0) (n := 1) (as := [.int 16]) (rest := []) ⟨hx, hb, hml, hown, hts⟩ (c_X1_mend l D g0 g1 g2 g3 g4 g5 g6 cA cB s33 16 in20_16 192 (rpb_tb hL34) (by decide)) gX1_mount_X1_mend rfl rfl rfl (by decide +kernel) ⟨Nat.le_of_ble_eq_true rfl, Nat.le_of_ble_eq_true rfl⟩ hK hP hD hS hA rfl rfl rfl hl.1 rfl rfl (Nat.le_of_ble_eq_true rfl) dX1_mount_20 ⟨Nat.zero_le _, Nat.zero_le _⟩ (fun H locs hP hD hS => ?_)
  refine W.eq (g2 := F0 m 23 ls []) rfl ?_
  obtain ⟨s35, t35⟩ : ∃ y9 : RS, r_mend 16 s33 = y9 := ⟨_, rfl⟩
  replace hP : va_P D vwCl (RWd g0 g1 g2 g3 g4 g5 g6 cA cB s35) H := by rw [← t35]; exact hP
  replace hD : va_D A (RWd g0 g1 g2 g3 g4 g5 g6 cA cB s35) := by rw [← t35]; exact hD
  obtain ⟨L36, f36⟩ : ∃ y9 : RPl, L34 ++ p_mend 16 st.1.1 = y9 := ⟨_, rfl⟩
  have hL36 : rpb s35 L36 204 := by rw [← t35, ← f36]; exact rpb_mend 16 hL34 (by decide) in20_16 hf34
  have hf36 : s35.1.1 = st.1.1 := by rw [← t35, mend_1]; exact hf34
  refine lv_iinc (v := 17) (lv' := [(1, .int 17), (0, .ref g0)]) hx hb dX1_mount_23 hl (k := 0) rfl (by decide) (by decide) rfl (fun ls hl => ?_)
  refine lv_goto (tgt := 12) hx hb dX1_mount_26 (by decide) ?_
  refine lv_iload_n hx hb dX1_mount_12 rfl (lv_at hl 0 rfl) ?_
  refine lv_bipush (v := 20) hx hb dX1_mount_13 (by decide) ?_
  refine lv_icmp_ge (tgt := 29) hx hb dX1_mount_15 (by decide) (fun c0 => absurd c0 (by decide)) (fun _ => ?_)
  refine lv_aload_n hx hb dX1_mount_18 rfl (lv_at hl 1 rfl) ?_
  refine lv_iload_n hx hb dX1_mount_19 rfl (lv_at hl 0 rfl) ?_
  refine cM_this (Wd := RWd g0 g1 g2 g3 g4 g5 g6 cA cB) (ci := 1) (q0 := 0) (n := 1) (as := [.int 17]) (rest := []) ⟨hx, hb, hml, hown, hts⟩ (c_X1_mend l D g0 g1 g2 g3 g4 g5 g6 cA cB s35 17 in20_17 204 (rpb_tb hL36) (by decide)) gX1_mount_X1_mend rfl rfl rfl (by decide +kernel) ⟨Nat.le_of_ble_eq_true rfl, Nat.le_of_ble_eq_true rfl⟩ hK hP hD hS hA rfl rfl rfl hl.1 rfl rfl (Nat.le_of_ble_eq_true rfl) dX1_mount_20 ⟨Nat.zero_le _, Nat.zero_le _⟩ (fun H locs hP hD hS => ?_)
  refine W.eq (g2 := F0 m 23 ls []) rfl ?_
  obtain ⟨s37, t37⟩ : ∃ y9 : RS, r_mend 17 s35 = y9 := ⟨_, rfl⟩
  replace hP : va_P D vwCl (RWd g0 g1 g2 g3 g4 g5 g6 cA cB s37) H := by rw [← t37]; exact hP
  replace hD : va_D A (RWd g0 g1 g2 g3 g4 g5 g6 cA cB s37) := by rw [← t37]; exact hD
  obtain ⟨L38, f38⟩ : ∃ y9 : RPl, L36 ++ p_mend 17 st.1.1 = y9 := ⟨_, rfl⟩
  have hL38 : rpb s37 L38 216 := by rw [← t37, ← f38]; exact rpb_mend 17 hL36 (by decide) in20_17 hf36
  have hf38 : s37.1.1 = st.1.1 := by rw [← t37, mend_1]; exact hf36
  refine lv_iinc (v := 18) (lv' := [(1, .int 18), (0, .ref g0)]) hx hb dX1_mount_23 hl (k := 0) rfl (by decide) (by decide) rfl (fun ls hl => ?_)
  refine lv_goto (tgt := 12) hx hb dX1_mount_26 (by decide) ?_
  refine lv_iload_n hx hb dX1_mount_12 rfl (lv_at hl 0 rfl) ?_
  refine lv_bipush (v := 20) hx hb dX1_mount_13 (by decide) ?_
  refine lv_icmp_ge (tgt := 29) hx hb dX1_mount_15 (by decide) (fun c0 => absurd c0 (by decide)) (fun _ => ?_)
  refine lv_aload_n hx hb dX1_mount_18 rfl (lv_at hl 1 rfl) ?_
  refine lv_iload_n hx hb dX1_mount_19 rfl (lv_at hl 0 rfl) ?_
  refine cM_this (Wd := RWd g0 g1 g2 g3 g4 g5 g6 cA cB) (ci := 1) (q0 := 0) (n := 1) (as := [.int 18]) (rest := []) ⟨hx, hb, hml, hown, hts⟩ (c_X1_mend l D g0 g1 g2 g3 g4 g5 g6 cA cB s37 18 in20_18 216 (rpb_tb hL38) (by decide)) gX1_mount_X1_mend rfl rfl rfl (by decide +kernel) ⟨Nat.le_of_ble_eq_true rfl, Nat.le_of_ble_eq_true rfl⟩ hK hP hD hS hA rfl rfl rfl hl.1 rfl rfl (Nat.le_of_ble_eq_true rfl) dX1_mount_20 ⟨Nat.zero_le _, Nat.zero_le _⟩ (fun H locs hP hD hS => ?_)
  refine W.eq (g2 := F0 m 23 ls []) rfl ?_
  obtain ⟨s39, t39⟩ : ∃ y9 : RS, r_mend 18 s37 = y9 := ⟨_, rfl⟩
  replace hP : va_P D vwCl (RWd g0 g1 g2 g3 g4 g5 g6 cA cB s39) H := by rw [← t39]; exact hP
  replace hD : va_D A (RWd g0 g1 g2 g3 g4 g5 g6 cA cB s39) := by rw [← t39]; exact hD
  obtain ⟨L40, f40⟩ : ∃ y9 : RPl, L38 ++ p_mend 18 st.1.1 = y9 := ⟨_, rfl⟩
  have hL40 : rpb s39 L40 228 := by rw [← t39, ← f40]; exact rpb_mend 18 hL38 (by decide) in20_18 hf38
  have hf40 : s39.1.1 = st.1.1 := by rw [← t39, mend_1]; exact hf38
  refine lv_iinc (v := 19) (lv' := [(1, .int 19), (0, .ref g0)]) hx hb dX1_mount_23 hl (k := 0) rfl (by decide) (by decide) rfl (fun ls hl => ?_)
  refine lv_goto (tgt := 12) hx hb dX1_mount_26 (by decide) ?_
  refine lv_iload_n hx hb dX1_mount_12 rfl (lv_at hl 0 rfl) ?_
  refine lv_bipush (v := 20) hx hb dX1_mount_13 (by decide) ?_
  refine lv_icmp_ge (tgt := 29) hx hb dX1_mount_15 (by decide) (fun c0 => absurd c0 (by decide)) (fun _ => ?_)
  refine lv_aload_n hx hb dX1_mount_18 rfl (lv_at hl 1 rfl) ?_
  refine lv_iload_n hx hb dX1_mount_19 rfl (lv_at hl 0 rfl) ?_
  refine cM_this (Wd := RWd g0 g1 g2 g3 g4 g5 g6 cA cB) (ci := 1) (q0 := 0) (n := 1) (as := [.int 19]) (rest := []) ⟨hx, hb, hml, hown, hts⟩ (c_X1_mend l D g0 g1 g2 g3 g4 g5 g6 cA cB s39 19 in20_19 228 (rpb_tb hL40) (by decide)) gX1_mount_X1_mend rfl rfl rfl (by decide +kernel) ⟨Nat.le_of_ble_eq_true rfl, Nat.le_of_ble_eq_true rfl⟩ hK hP hD hS hA rfl rfl rfl hl.1 rfl rfl (Nat.le_of_ble_eq_true rfl) dX1_mount_20 ⟨Nat.zero_le _, Nat.zero_le _⟩ (fun H locs hP hD hS => ?_)
  refine W.eq (g2 := F0 m 23 ls []) rfl ?_
  obtain ⟨s41, t41⟩ : ∃ y9 : RS, r_mend 19 s39 = y9 := ⟨_, rfl⟩
  replace hP : va_P D vwCl (RWd g0 g1 g2 g3 g4 g5 g6 cA cB s41) H := by rw [← t41]; exact hP
  replace hD : va_D A (RWd g0 g1 g2 g3 g4 g5 g6 cA cB s41) := by rw [← t41]; exact hD
  obtain ⟨L42, f42⟩ : ∃ y9 : RPl, L40 ++ p_mend 19 st.1.1 = y9 := ⟨_, rfl⟩
  have hL42 : rpb s41 L42 240 := by rw [← t41, ← f42]; exact rpb_mend 19 hL40 (by decide) in20_19 hf40
  have hf42 : s41.1.1 = st.1.1 := by rw [← t41, mend_1]; exact hf40
  refine lv_iinc (v := 20) (lv' := [(1, .int 20), (0, .ref g0)]) hx hb dX1_mount_23 hl (k := 0) rfl (by decide) (by decide) rfl (fun ls hl => ?_)
  refine lv_goto (tgt := 12) hx hb dX1_mount_26 (by decide) ?_
  refine lv_iload_n hx hb dX1_mount_12 rfl (lv_at hl 0 rfl) ?_
  refine lv_bipush (v := 20) hx hb dX1_mount_13 (by decide) ?_
  refine lv_icmp_ge (tgt := 29) hx hb dX1_mount_15 (by decide) (fun _ => ?_) (fun c0 => absurd c0 (by decide))
  refine lv_iconst (v := 1) hx hb dX1_mount_29 (by decide) ?_
  refine lv_istore_n (lv' := [(1, .int 1), (0, .ref g0)]) hx hb dX1_mount_30 rfl hl (by decide) rfl (fun ls hl => ?_)
  refine lv_bipush (v := 16) hx hb dX1_mount_31 (by decide) ?_
  refine lv_istore_n (lv' := [(2, .int 16), (1, .int 1), (0, .ref g0)]) hx hb dX1_mount_33 rfl hl (by decide) rfl (fun ls hl => ?_)
  refine lv_iload_n hx hb dX1_mount_34 rfl (lv_at hl 0 rfl) ?_
  refine lv_bipush (v := 20) hx hb dX1_mount_35 (by decide) ?_
  refine lv_icmp_ge (tgt := 89) hx hb dX1_mount_37 (by decide) (fun c0 => absurd c0 (by decide)) (fun _ => ?_)
  refine B _ 16 17 1 s41 _ _ _ in20_16 (by decide) hP hD hS (lv_sub hl [2, 1, 0] rfl) (fun i43 H locs ls b43 hP hD hS hl => ?_)
  refine lv_iload_n hx hb dX1_mount_34 rfl (lv_at hl 2 rfl) ?_
  refine lv_bipush (v := 20) hx hb dX1_mount_35 (by decide) ?_
  refine lv_icmp_ge (tgt := 89) hx hb dX1_mount_37 (by decide) (fun c0 => absurd c0 (by decide)) (fun _ => ?_)
  refine B _ 17 18 i43 s41 _ _ _ in20_17 (by decide) hP hD hS (lv_sub hl [0, 1, 2] rfl) (fun i44 H locs ls b44 hP hD hS hl => ?_)
  refine lv_iload_n hx hb dX1_mount_34 rfl (lv_at hl 2 rfl) ?_
  refine lv_bipush (v := 20) hx hb dX1_mount_35 (by decide) ?_
  refine lv_icmp_ge (tgt := 89) hx hb dX1_mount_37 (by decide) (fun c0 => absurd c0 (by decide)) (fun _ => ?_)
  refine B _ 18 19 i44 s41 _ _ _ in20_18 (by decide) hP hD hS (lv_sub hl [0, 1, 2] rfl) (fun i45 H locs ls b45 hP hD hS hl => ?_)
  refine lv_iload_n hx hb dX1_mount_34 rfl (lv_at hl 2 rfl) ?_
  refine lv_bipush (v := 20) hx hb dX1_mount_35 (by decide) ?_
  refine lv_icmp_ge (tgt := 89) hx hb dX1_mount_37 (by decide) (fun c0 => absurd c0 (by decide)) (fun _ => ?_)
  refine B _ 19 20 i45 s41 _ _ _ in20_19 (by decide) hP hD hS (lv_sub hl [0, 1, 2] rfl) (fun i46 H locs ls b46 hP hD hS hl => ?_)
  refine lv_iload_n hx hb dX1_mount_34 rfl (lv_at hl 2 rfl) ?_
  refine lv_bipush (v := 20) hx hb dX1_mount_35 (by decide) ?_
  refine lv_icmp_ge (tgt := 89) hx hb dX1_mount_37 (by decide) (fun _ => ?_) (fun c0 => absurd c0 (by decide))
  refine lv_aload_n hx hb dX1_mount_89 rfl (lv_at hl 0 rfl) ?_
  refine va_get (D := D) (ci := 1) (v := .ref g6) (C := RX1) (T := TX1) (N := 11) hx hb hts (by decide +kernel) hown hK hP 0 rfl rfl 10 (by decide) (hts (.fieldLink RX1 34 "FadeLedgerModel" "bests" "[J") (by decide +kernel)) (fun _ h9 => h9) rfl dX1_mount_90 ?_
  refine lv_bipush (v := 19) hx hb dX1_mount_93 (by decide) ?_
  refine va_lald hx hb hK hP 6 0 rfl rfl in20_19 dX1_mount_95 ?_
  refine tpl (fun v47 e47 => ?_)
  refine cS_call (n := 1) (as := [.long v47]) (rest := []) ⟨hx, hb, hml, hown, hts⟩ (c_X1_balanceOf l v47) gX1_mount_X1_balanceOf rfl rfl rfl (by decide +kernel) ⟨Nat.le_of_ble_eq_true rfl, Nat.le_of_ble_eq_true rfl⟩ hl.1 rfl rfl (Nat.le_of_ble_eq_true rfl) dX1_mount_96 ⟨Nat.zero_le _, Nat.zero_le _⟩ ?_
  refine tpi (fun v48 e48 => ?_)
  refine lv_istore_n (lv' := [(2, .int v48), (0, .ref g0), (1, .int i46)]) hx hb dX1_mount_99 rfl hl (by decide) rfl (fun ls hl => ?_)
  refine lv_iload_n hx hb dX1_mount_100 rfl (lv_at hl 0 rfl) ?_
  refine lv_bipush (v := 8) hx hb dX1_mount_101 (by decide) ?_
  refine lv_ishr hx hb dX1_mount_103 ?_
  refine tpi (fun v49 e49 => ?_)
  refine lv_sipush (v := 255) hx hb dX1_mount_104 (by decide) ?_
  refine lv_iand hx hb dX1_mount_107 ?_
  refine tpi (fun v50 e50 => ?_)
  refine lv_istore_n (lv' := [(3, .int v50), (2, .int v48), (0, .ref g0), (1, .int i46)]) hx hb dX1_mount_108 rfl hl (by decide) rfl (fun ls hl => ?_)
  refine lv_iload_n hx hb dX1_mount_109 rfl (lv_at hl 1 rfl) ?_
  refine lv_sipush (v := 255) hx hb dX1_mount_110 (by decide) ?_
  refine lv_iand hx hb dX1_mount_113 ?_
  refine tpi (fun v51 e51 => ?_)
  refine lv_istore (lv' := [(4, .int v51), (3, .int v50), (2, .int v48), (0, .ref g0), (1, .int i46)]) hx hb dX1_mount_114 hl (by decide) rfl (fun ls hl => ?_)
  refine lv_iload_n hx hb dX1_mount_116 rfl (lv_at hl 4 rfl) ?_
  refine lv_if_eq (tgt := 200) hx hb dX1_mount_117 (by decide) (fun c52 => ?_) (fun c52 => ?_)
  · refine lv_aload_n hx hb dX1_mount_200 rfl (lv_at hl 3 rfl) ?_
    refine cM_this (Wd := RWd g0 g1 g2 g3 g4 g5 g6 cA cB) (ci := 1) (q0 := 0) (n := 0) (as := []) (rest := []) ⟨hx, hb, hml, hown, hts⟩ (c_X1_works l D g0 g1 g2 g3 g4 g5 g6 cA cB s41 L42 hL42.1) gX1_mount_X1_works rfl rfl rfl (by decide +kernel) ⟨Nat.le_of_ble_eq_true rfl, Nat.le_of_ble_eq_true rfl⟩ hK hP hD hS hA rfl rfl rfl hl.1 rfl rfl (Nat.le_of_ble_eq_true rfl) dX1_mount_201 ⟨Nat.zero_le _, Nat.zero_le _⟩ (fun H locs hP hD hS => ?_)
    obtain ⟨s53, t53⟩ : ∃ y9 : RS, (r_wk (L42) s41).2 = y9 := ⟨_, rfl⟩
    replace hP : va_P D vwCl (RWd g0 g1 g2 g3 g4 g5 g6 cA cB s53) H := by rw [← t53]; exact hP
    replace hD : va_D A (RWd g0 g1 g2 g3 g4 g5 g6 cA cB s53) := by rw [← t53]; exact hD
    refine tpi (fun v54 e54 => ?_)
    refine lv_if_eq (tgt := 211) hx hb dX1_mount_204 (by decide) (fun c55 => ?_) (fun c55 => ?_)
    · refine lv_bipush (v := (-2)) hx hb dX1_mount_211 (by decide) ?_
      have fin : r_mount st = ((-2), s53) := by
        clear hP hD hS; subst t1; subst t2; subst t3; subst f4; subst t5; subst f6; subst t7; subst f8; subst t9; subst f10; subst t11; subst f12; subst t13; subst f14; subst t15; subst f16; subst t17; subst f18; subst t19; subst f20; subst t21; subst f22; subst t23; subst f24; subst t25; subst f26; subst t27; subst f28; subst t29; subst f30; subst t31; subst f32; subst t33; subst f34; subst t35; subst f36; subst t37; subst f38; subst t39; subst f40; subst t41; subst f42; subst e47; subst e48; subst e49; subst e50; subst e51; subst t53; subst e54;  simp only [r_mount, r_mountB, r_mends, p_mends, f_cells, List.foldl, r_zero, r_on1, r_slip, r_told, r_end, f_from, f_to, r_finL, r_fin3, r_fin2, r_fin1, r_amt, b43, b44, b45, b46, c52, c55, ↓reduceIte, not_true_eq_false, not_false_eq_true, and_self, and_true, true_and, and_false, false_and, eq_self, i10]
      exact cM_reti (Wd := RWd g0 g1 g2 g3 g4 g5 g6 cA cB) (st := s53) (st' := (r_mount st).2) hx hb hr hlocks dX1_mount_213 hS hP hD (congrArg Prod.fst fin).symm (congrArg Prod.snd fin).symm
    · refine lv_iconst (v := 1) hx hb dX1_mount_207 (by decide) ?_
      refine lv_goto (tgt := 213) hx hb dX1_mount_208 (by decide) ?_
      have fin : r_mount st = (1, s53) := by
        clear hP hD hS; subst t1; subst t2; subst t3; subst f4; subst t5; subst f6; subst t7; subst f8; subst t9; subst f10; subst t11; subst f12; subst t13; subst f14; subst t15; subst f16; subst t17; subst f18; subst t19; subst f20; subst t21; subst f22; subst t23; subst f24; subst t25; subst f26; subst t27; subst f28; subst t29; subst f30; subst t31; subst f32; subst t33; subst f34; subst t35; subst f36; subst t37; subst f38; subst t39; subst f40; subst t41; subst f42; subst e47; subst e48; subst e49; subst e50; subst e51; subst t53; subst e54;  simp only [r_mount, r_mountB, r_mends, p_mends, f_cells, List.foldl, r_zero, r_on1, r_slip, r_told, r_end, f_from, f_to, r_finL, r_fin3, r_fin2, r_fin1, r_amt, b43, b44, b45, b46, c52, c55, ↓reduceIte, not_true_eq_false, not_false_eq_true, and_self, and_true, true_and, and_false, false_and, eq_self, i10]
      exact cM_reti (Wd := RWd g0 g1 g2 g3 g4 g5 g6 cA cB) (st := s53) (st' := (r_mount st).2) hx hb hr hlocks dX1_mount_213 hS hP hD (congrArg Prod.fst fin).symm (congrArg Prod.snd fin).symm
  · refine lv_iload_n hx hb dX1_mount_120 rfl (lv_at hl 2 rfl) ?_
    refine lv_bipush (v := 16) hx hb dX1_mount_121 (by decide) ?_
    refine lv_ishr hx hb dX1_mount_123 ?_
    refine tpi (fun v56 e56 => ?_)
    refine lv_iconst (v := 1) hx hb dX1_mount_124 (by decide) ?_
    refine lv_iand hx hb dX1_mount_125 ?_
    refine tpi (fun v57 e57 => ?_)
    refine lv_iconst (v := 1) hx hb dX1_mount_126 (by decide) ?_
    refine lv_icmp_ne (tgt := 200) hx hb dX1_mount_127 (by decide) (fun c58 => ?_) (fun c58 => ?_)
    · refine lv_aload_n hx hb dX1_mount_200 rfl (lv_at hl 3 rfl) ?_
      refine cM_this (Wd := RWd g0 g1 g2 g3 g4 g5 g6 cA cB) (ci := 1) (q0 := 0) (n := 0) (as := []) (rest := []) ⟨hx, hb, hml, hown, hts⟩ (c_X1_works l D g0 g1 g2 g3 g4 g5 g6 cA cB s41 L42 hL42.1) gX1_mount_X1_works rfl rfl rfl (by decide +kernel) ⟨Nat.le_of_ble_eq_true rfl, Nat.le_of_ble_eq_true rfl⟩ hK hP hD hS hA rfl rfl rfl hl.1 rfl rfl (Nat.le_of_ble_eq_true rfl) dX1_mount_201 ⟨Nat.zero_le _, Nat.zero_le _⟩ (fun H locs hP hD hS => ?_)
      obtain ⟨s59, t59⟩ : ∃ y9 : RS, (r_wk (L42) s41).2 = y9 := ⟨_, rfl⟩
      replace hP : va_P D vwCl (RWd g0 g1 g2 g3 g4 g5 g6 cA cB s59) H := by rw [← t59]; exact hP
      replace hD : va_D A (RWd g0 g1 g2 g3 g4 g5 g6 cA cB s59) := by rw [← t59]; exact hD
      refine tpi (fun v60 e60 => ?_)
      refine lv_if_eq (tgt := 211) hx hb dX1_mount_204 (by decide) (fun c61 => ?_) (fun c61 => ?_)
      · refine lv_bipush (v := (-2)) hx hb dX1_mount_211 (by decide) ?_
        have fin : r_mount st = ((-2), s59) := by
          clear hP hD hS; subst t1; subst t2; subst t3; subst f4; subst t5; subst f6; subst t7; subst f8; subst t9; subst f10; subst t11; subst f12; subst t13; subst f14; subst t15; subst f16; subst t17; subst f18; subst t19; subst f20; subst t21; subst f22; subst t23; subst f24; subst t25; subst f26; subst t27; subst f28; subst t29; subst f30; subst t31; subst f32; subst t33; subst f34; subst t35; subst f36; subst t37; subst f38; subst t39; subst f40; subst t41; subst f42; subst e47; subst e48; subst e49; subst e50; subst e51; subst e56; subst e57; subst t59; subst e60;  simp only [r_mount, r_mountB, r_mends, p_mends, f_cells, List.foldl, r_zero, r_on1, r_slip, r_told, r_end, f_from, f_to, r_finL, r_fin3, r_fin2, r_fin1, r_amt, b43, b44, b45, b46, c52, c58, c61, ↓reduceIte, not_true_eq_false, not_false_eq_true, and_self, and_true, true_and, and_false, false_and, eq_self, i10]
        exact cM_reti (Wd := RWd g0 g1 g2 g3 g4 g5 g6 cA cB) (st := s59) (st' := (r_mount st).2) hx hb hr hlocks dX1_mount_213 hS hP hD (congrArg Prod.fst fin).symm (congrArg Prod.snd fin).symm
      · refine lv_iconst (v := 1) hx hb dX1_mount_207 (by decide) ?_
        refine lv_goto (tgt := 213) hx hb dX1_mount_208 (by decide) ?_
        have fin : r_mount st = (1, s59) := by
          clear hP hD hS; subst t1; subst t2; subst t3; subst f4; subst t5; subst f6; subst t7; subst f8; subst t9; subst f10; subst t11; subst f12; subst t13; subst f14; subst t15; subst f16; subst t17; subst f18; subst t19; subst f20; subst t21; subst f22; subst t23; subst f24; subst t25; subst f26; subst t27; subst f28; subst t29; subst f30; subst t31; subst f32; subst t33; subst f34; subst t35; subst f36; subst t37; subst f38; subst t39; subst f40; subst t41; subst f42; subst e47; subst e48; subst e49; subst e50; subst e51; subst e56; subst e57; subst t59; subst e60;  simp only [r_mount, r_mountB, r_mends, p_mends, f_cells, List.foldl, r_zero, r_on1, r_slip, r_told, r_end, f_from, f_to, r_finL, r_fin3, r_fin2, r_fin1, r_amt, b43, b44, b45, b46, c52, c58, c61, ↓reduceIte, not_true_eq_false, not_false_eq_true, and_self, and_true, true_and, and_false, false_and, eq_self, i10]
        exact cM_reti (Wd := RWd g0 g1 g2 g3 g4 g5 g6 cA cB) (st := s59) (st' := (r_mount st).2) hx hb hr hlocks dX1_mount_213 hS hP hD (congrArg Prod.fst fin).symm (congrArg Prod.snd fin).symm
    · refine lv_iload_n hx hb dX1_mount_130 rfl (lv_at hl 1 rfl) ?_
      refine cS_call (n := 1) (as := [.int v50]) (rest := []) ⟨hx, hb, hml, hown, hts⟩ (c_X1_isAccount l v50) gX1_mount_X1_isAccount rfl rfl rfl (by decide +kernel) ⟨Nat.le_of_ble_eq_true rfl, Nat.le_of_ble_eq_true rfl⟩ hl.1 rfl rfl (Nat.le_of_ble_eq_true rfl) dX1_mount_131 ⟨Nat.zero_le _, Nat.zero_le _⟩ ?_
      refine tpi (fun v62 e62 => ?_)
      refine lv_if_eq (tgt := 200) hx hb dX1_mount_134 (by decide) (fun c63 => ?_) (fun c63 => ?_)
      · refine lv_aload_n hx hb dX1_mount_200 rfl (lv_at hl 3 rfl) ?_
        refine cM_this (Wd := RWd g0 g1 g2 g3 g4 g5 g6 cA cB) (ci := 1) (q0 := 0) (n := 0) (as := []) (rest := []) ⟨hx, hb, hml, hown, hts⟩ (c_X1_works l D g0 g1 g2 g3 g4 g5 g6 cA cB s41 L42 hL42.1) gX1_mount_X1_works rfl rfl rfl (by decide +kernel) ⟨Nat.le_of_ble_eq_true rfl, Nat.le_of_ble_eq_true rfl⟩ hK hP hD hS hA rfl rfl rfl hl.1 rfl rfl (Nat.le_of_ble_eq_true rfl) dX1_mount_201 ⟨Nat.zero_le _, Nat.zero_le _⟩ (fun H locs hP hD hS => ?_)
        obtain ⟨s64, t64⟩ : ∃ y9 : RS, (r_wk (L42) s41).2 = y9 := ⟨_, rfl⟩
        replace hP : va_P D vwCl (RWd g0 g1 g2 g3 g4 g5 g6 cA cB s64) H := by rw [← t64]; exact hP
        replace hD : va_D A (RWd g0 g1 g2 g3 g4 g5 g6 cA cB s64) := by rw [← t64]; exact hD
        refine tpi (fun v65 e65 => ?_)
        refine lv_if_eq (tgt := 211) hx hb dX1_mount_204 (by decide) (fun c66 => ?_) (fun c66 => ?_)
        · refine lv_bipush (v := (-2)) hx hb dX1_mount_211 (by decide) ?_
          have fin : r_mount st = ((-2), s64) := by
            clear hP hD hS; subst t1; subst t2; subst t3; subst f4; subst t5; subst f6; subst t7; subst f8; subst t9; subst f10; subst t11; subst f12; subst t13; subst f14; subst t15; subst f16; subst t17; subst f18; subst t19; subst f20; subst t21; subst f22; subst t23; subst f24; subst t25; subst f26; subst t27; subst f28; subst t29; subst f30; subst t31; subst f32; subst t33; subst f34; subst t35; subst f36; subst t37; subst f38; subst t39; subst f40; subst t41; subst f42; subst e47; subst e48; subst e49; subst e50; subst e51; subst e56; subst e57; subst e62; subst t64; subst e65;  simp only [r_mount, r_mountB, r_mends, p_mends, f_cells, List.foldl, r_zero, r_on1, r_slip, r_told, r_end, f_from, f_to, r_finL, r_fin3, r_fin2, r_fin1, r_amt, b43, b44, b45, b46, c52, c58, c63, c66, ↓reduceIte, not_true_eq_false, not_false_eq_true, and_self, and_true, true_and, and_false, false_and, eq_self, i10]
          exact cM_reti (Wd := RWd g0 g1 g2 g3 g4 g5 g6 cA cB) (st := s64) (st' := (r_mount st).2) hx hb hr hlocks dX1_mount_213 hS hP hD (congrArg Prod.fst fin).symm (congrArg Prod.snd fin).symm
        · refine lv_iconst (v := 1) hx hb dX1_mount_207 (by decide) ?_
          refine lv_goto (tgt := 213) hx hb dX1_mount_208 (by decide) ?_
          have fin : r_mount st = (1, s64) := by
            clear hP hD hS; subst t1; subst t2; subst t3; subst f4; subst t5; subst f6; subst t7; subst f8; subst t9; subst f10; subst t11; subst f12; subst t13; subst f14; subst t15; subst f16; subst t17; subst f18; subst t19; subst f20; subst t21; subst f22; subst t23; subst f24; subst t25; subst f26; subst t27; subst f28; subst t29; subst f30; subst t31; subst f32; subst t33; subst f34; subst t35; subst f36; subst t37; subst f38; subst t39; subst f40; subst t41; subst f42; subst e47; subst e48; subst e49; subst e50; subst e51; subst e56; subst e57; subst e62; subst t64; subst e65;  simp only [r_mount, r_mountB, r_mends, p_mends, f_cells, List.foldl, r_zero, r_on1, r_slip, r_told, r_end, f_from, f_to, r_finL, r_fin3, r_fin2, r_fin1, r_amt, b43, b44, b45, b46, c52, c58, c63, c66, ↓reduceIte, not_true_eq_false, not_false_eq_true, and_self, and_true, true_and, and_false, false_and, eq_self, i10]
          exact cM_reti (Wd := RWd g0 g1 g2 g3 g4 g5 g6 cA cB) (st := s64) (st' := (r_mount st).2) hx hb hr hlocks dX1_mount_213 hS hP hD (congrArg Prod.fst fin).symm (congrArg Prod.snd fin).symm
      · refine lv_iload hx hb dX1_mount_137 (lv_at hl 0 rfl) ?_
        refine cS_call (n := 1) (as := [.int v51]) (rest := []) ⟨hx, hb, hml, hown, hts⟩ (c_X1_isAccount l v51) gX1_mount_X1_isAccount rfl rfl rfl (by decide +kernel) ⟨Nat.le_of_ble_eq_true rfl, Nat.le_of_ble_eq_true rfl⟩ hl.1 rfl rfl (Nat.le_of_ble_eq_true rfl) dX1_mount_139 ⟨Nat.zero_le _, Nat.zero_le _⟩ ?_
        refine tpi (fun v67 e67 => ?_)
        refine lv_if_eq (tgt := 200) hx hb dX1_mount_142 (by decide) (fun c68 => ?_) (fun c68 => ?_)
        · refine lv_aload_n hx hb dX1_mount_200 rfl (lv_at hl 3 rfl) ?_
          refine cM_this (Wd := RWd g0 g1 g2 g3 g4 g5 g6 cA cB) (ci := 1) (q0 := 0) (n := 0) (as := []) (rest := []) ⟨hx, hb, hml, hown, hts⟩ (c_X1_works l D g0 g1 g2 g3 g4 g5 g6 cA cB s41 L42 hL42.1) gX1_mount_X1_works rfl rfl rfl (by decide +kernel) ⟨Nat.le_of_ble_eq_true rfl, Nat.le_of_ble_eq_true rfl⟩ hK hP hD hS hA rfl rfl rfl hl.1 rfl rfl (Nat.le_of_ble_eq_true rfl) dX1_mount_201 ⟨Nat.zero_le _, Nat.zero_le _⟩ (fun H locs hP hD hS => ?_)
          obtain ⟨s69, t69⟩ : ∃ y9 : RS, (r_wk (L42) s41).2 = y9 := ⟨_, rfl⟩
          replace hP : va_P D vwCl (RWd g0 g1 g2 g3 g4 g5 g6 cA cB s69) H := by rw [← t69]; exact hP
          replace hD : va_D A (RWd g0 g1 g2 g3 g4 g5 g6 cA cB s69) := by rw [← t69]; exact hD
          refine tpi (fun v70 e70 => ?_)
          refine lv_if_eq (tgt := 211) hx hb dX1_mount_204 (by decide) (fun c71 => ?_) (fun c71 => ?_)
          · refine lv_bipush (v := (-2)) hx hb dX1_mount_211 (by decide) ?_
            have fin : r_mount st = ((-2), s69) := by
              clear hP hD hS; subst t1; subst t2; subst t3; subst f4; subst t5; subst f6; subst t7; subst f8; subst t9; subst f10; subst t11; subst f12; subst t13; subst f14; subst t15; subst f16; subst t17; subst f18; subst t19; subst f20; subst t21; subst f22; subst t23; subst f24; subst t25; subst f26; subst t27; subst f28; subst t29; subst f30; subst t31; subst f32; subst t33; subst f34; subst t35; subst f36; subst t37; subst f38; subst t39; subst f40; subst t41; subst f42; subst e47; subst e48; subst e49; subst e50; subst e51; subst e56; subst e57; subst e62; subst e67; subst t69; subst e70;  simp only [r_mount, r_mountB, r_mends, p_mends, f_cells, List.foldl, r_zero, r_on1, r_slip, r_told, r_end, f_from, f_to, r_finL, r_fin3, r_fin2, r_fin1, r_amt, b43, b44, b45, b46, c52, c58, c63, c68, c71, ↓reduceIte, not_true_eq_false, not_false_eq_true, and_self, and_true, true_and, and_false, false_and, eq_self, i10]
            exact cM_reti (Wd := RWd g0 g1 g2 g3 g4 g5 g6 cA cB) (st := s69) (st' := (r_mount st).2) hx hb hr hlocks dX1_mount_213 hS hP hD (congrArg Prod.fst fin).symm (congrArg Prod.snd fin).symm
          · refine lv_iconst (v := 1) hx hb dX1_mount_207 (by decide) ?_
            refine lv_goto (tgt := 213) hx hb dX1_mount_208 (by decide) ?_
            have fin : r_mount st = (1, s69) := by
              clear hP hD hS; subst t1; subst t2; subst t3; subst f4; subst t5; subst f6; subst t7; subst f8; subst t9; subst f10; subst t11; subst f12; subst t13; subst f14; subst t15; subst f16; subst t17; subst f18; subst t19; subst f20; subst t21; subst f22; subst t23; subst f24; subst t25; subst f26; subst t27; subst f28; subst t29; subst f30; subst t31; subst f32; subst t33; subst f34; subst t35; subst f36; subst t37; subst f38; subst t39; subst f40; subst t41; subst f42; subst e47; subst e48; subst e49; subst e50; subst e51; subst e56; subst e57; subst e62; subst e67; subst t69; subst e70;  simp only [r_mount, r_mountB, r_mends, p_mends, f_cells, List.foldl, r_zero, r_on1, r_slip, r_told, r_end, f_from, f_to, r_finL, r_fin3, r_fin2, r_fin1, r_amt, b43, b44, b45, b46, c52, c58, c63, c68, c71, ↓reduceIte, not_true_eq_false, not_false_eq_true, and_self, and_true, true_and, and_false, false_and, eq_self, i10]
            exact cM_reti (Wd := RWd g0 g1 g2 g3 g4 g5 g6 cA cB) (st := s69) (st' := (r_mount st).2) hx hb hr hlocks dX1_mount_213 hS hP hD (congrArg Prod.fst fin).symm (congrArg Prod.snd fin).symm
        · refine lv_aload_n hx hb dX1_mount_145 rfl (lv_at hl 3 rfl) ?_
          refine va_get (D := D) (ci := 1) (v := .ref g6) (C := RX1) (T := TX1) (N := 11) hx hb hts (by decide +kernel) hown hK hP 0 rfl rfl 10 (by decide) (hts (.fieldLink RX1 34 "FadeLedgerModel" "bests" "[J") (by decide +kernel)) (fun _ h9 => h9) rfl dX1_mount_146 ?_
          refine lv_bipush (v := 16) hx hb dX1_mount_149 (by decide) ?_
          refine va_lald hx hb hK hP 6 0 rfl rfl in20_16 dX1_mount_151 ?_
          refine tpl (fun v72 e72 => ?_)
          refine cS_call (n := 1) (as := [.long v72]) (rest := []) ⟨hx, hb, hml, hown, hts⟩ (c_X1_balanceOf l v72) gX1_mount_X1_balanceOf rfl rfl rfl (by decide +kernel) ⟨Nat.le_of_ble_eq_true rfl, Nat.le_of_ble_eq_true rfl⟩ hl.1 rfl rfl (Nat.le_of_ble_eq_true rfl) dX1_mount_152 ⟨Nat.zero_le _, Nat.zero_le _⟩ ?_
          refine tpi (fun v73 e73 => ?_)
          refine lv_istore (lv' := [(5, .int v73), (4, .int v51), (3, .int v50), (2, .int v48), (0, .ref g0), (1, .int i46)]) hx hb dX1_mount_155 hl (by decide) rfl (fun ls hl => ?_)
          refine lv_aload_n hx hb dX1_mount_157 rfl (lv_at hl 4 rfl) ?_
          refine lv_iload_n hx hb dX1_mount_158 rfl (lv_at hl 2 rfl) ?_
          refine lv_bipush (v := 17) hx hb dX1_mount_159 (by decide) ?_
          refine lv_iload hx hb dX1_mount_161 (lv_at hl 0 rfl) ?_
          refine lv_ineg hx hb dX1_mount_163 ?_
          refine tpi (fun v74 e74 => ?_)
          refine cM_this (Wd := RWd g0 g1 g2 g3 g4 g5 g6 cA cB) (ci := 1) (q0 := 0) (n := 3) (as := [.int v50, .int 17, .int v74]) (rest := []) ⟨hx, hb, hml, hown, hts⟩ (c_X1_settle l D g0 g1 g2 g3 g4 g5 g6 cA cB s41 v50 17 v74 (acct_in20 (by rw [e62]; exact c63)) in20_17 240 (rpb_tb hL42) (by decide)) gX1_mount_X1_settle rfl rfl rfl (by decide +kernel) ⟨Nat.le_of_ble_eq_true rfl, Nat.le_of_ble_eq_true rfl⟩ hK hP hD hS hA rfl rfl rfl hl.1 rfl rfl (Nat.le_of_ble_eq_true rfl) dX1_mount_164 ⟨Nat.zero_le _, Nat.zero_le _⟩ (fun H locs hP hD hS => ?_)
          refine W.eq (g2 := F0 m 167 ls []) rfl ?_
          obtain ⟨s75, t75⟩ : ∃ y9 : RS, r_settle v50 17 v74 s41 = y9 := ⟨_, rfl⟩
          replace hP : va_P D vwCl (RWd g0 g1 g2 g3 g4 g5 g6 cA cB s75) H := by rw [← t75]; exact hP
          replace hD : va_D A (RWd g0 g1 g2 g3 g4 g5 g6 cA cB s75) := by rw [← t75]; exact hD
          obtain ⟨L76, f76⟩ : ∃ y9 : RPl, L42 ++ p_settle s41.2.2.2.2.2 v50 17 v74 = y9 := ⟨_, rfl⟩
          have hL76 : rpb s75 L76 244 := by rw [← t75, ← f76]; exact rpb_settle v50 17 v74 hL42 (by decide) (acct_in20 (by rw [e62]; exact c63))
          refine lv_aload_n hx hb dX1_mount_167 rfl (lv_at hl 4 rfl) ?_
          refine lv_iload hx hb dX1_mount_168 (lv_at hl 1 rfl) ?_
          refine lv_bipush (v := 18) hx hb dX1_mount_170 (by decide) ?_
          refine lv_iload hx hb dX1_mount_172 (lv_at hl 0 rfl) ?_
          refine cM_this (Wd := RWd g0 g1 g2 g3 g4 g5 g6 cA cB) (ci := 1) (q0 := 0) (n := 3) (as := [.int v51, .int 18, .int v73]) (rest := []) ⟨hx, hb, hml, hown, hts⟩ (c_X1_settle l D g0 g1 g2 g3 g4 g5 g6 cA cB s75 v51 18 v73 (acct_in20 (by rw [e67]; exact c68)) in20_18 244 (rpb_tb hL76) (by decide)) gX1_mount_X1_settle rfl rfl rfl (by decide +kernel) ⟨Nat.le_of_ble_eq_true rfl, Nat.le_of_ble_eq_true rfl⟩ hK hP hD hS hA rfl rfl rfl hl.1 rfl rfl (Nat.le_of_ble_eq_true rfl) dX1_mount_174 ⟨Nat.zero_le _, Nat.zero_le _⟩ (fun H locs hP hD hS => ?_)
          refine W.eq (g2 := F0 m 177 ls []) rfl ?_
          obtain ⟨s77, t77⟩ : ∃ y9 : RS, r_settle v51 18 v73 s75 = y9 := ⟨_, rfl⟩
          replace hP : va_P D vwCl (RWd g0 g1 g2 g3 g4 g5 g6 cA cB s77) H := by rw [← t77]; exact hP
          replace hD : va_D A (RWd g0 g1 g2 g3 g4 g5 g6 cA cB s77) := by rw [← t77]; exact hD
          obtain ⟨L78, f78⟩ : ∃ y9 : RPl, L76 ++ p_settle s75.2.2.2.2.2 v51 18 v73 = y9 := ⟨_, rfl⟩
          have hL78 : rpb s77 L78 248 := by rw [← t77, ← f78]; exact rpb_settle v51 18 v73 hL76 (by decide) (acct_in20 (by rw [e67]; exact c68))
          refine lv_aload_n hx hb dX1_mount_177 rfl (lv_at hl 4 rfl) ?_
          refine lv_bipush (v := 19) hx hb dX1_mount_178 (by decide) ?_
          refine lv_iload_n hx hb dX1_mount_180 rfl (lv_at hl 3 rfl) ?_
          refine lv_ldc (v := 65536) hx hb hown (hts (.constant RX1 114 65536) (by decide +kernel)) dX1_mount_181 ?_
          refine lv_iadd hx hb dX1_mount_183 ?_
          refine tpi (fun v79 e79 => ?_)
          refine lv_aload_n hx hb dX1_mount_184 rfl (lv_at hl 4 rfl) ?_
          refine va_get (D := D) (ci := 1) (v := .ref g6) (C := RX1) (T := TX1) (N := 11) hx hb hts (by decide +kernel) hown hK hP 0 rfl rfl 10 (by decide) (hts (.fieldLink RX1 34 "FadeLedgerModel" "bests" "[J") (by decide +kernel)) (fun _ h9 => h9) rfl dX1_mount_185 ?_
          refine lv_bipush (v := 19) hx hb dX1_mount_188 (by decide) ?_
          refine va_lald hx hb hK hP 6 0 rfl rfl in20_19 dX1_mount_190 ?_
          refine tpl (fun v80 e80 => ?_)
          refine cS_call (n := 1) (as := [.long v80]) (rest := [.int v79, .int 19, .ref g0]) ⟨hx, hb, hml, hown, hts⟩ (c_X1_numberOf l v80) gX1_mount_X1_numberOf rfl rfl rfl (by decide +kernel) ⟨Nat.le_of_ble_eq_true rfl, Nat.le_of_ble_eq_true rfl⟩ hl.1 rfl rfl (Nat.le_of_ble_eq_true rfl) dX1_mount_191 ⟨Nat.zero_le _, Nat.zero_le _⟩ ?_
          refine tpi (fun v81 e81 => ?_)
          refine cS_call (n := 2) (as := [.int v79, .int v81]) (rest := [.int 19, .ref g0]) ⟨hx, hb, hml, hown, hts⟩ (c_X1_wordOf l v79 v81) gX1_mount_X1_wordOf rfl rfl rfl (by decide +kernel) ⟨Nat.le_of_ble_eq_true rfl, Nat.le_of_ble_eq_true rfl⟩ hl.1 rfl rfl (Nat.le_of_ble_eq_true rfl) dX1_mount_194 ⟨Nat.zero_le _, Nat.zero_le _⟩ ?_
          refine tpl (fun v82 e82 => ?_)
          refine cM_this (Wd := RWd g0 g1 g2 g3 g4 g5 g6 cA cB) (ci := 1) (q0 := 0) (n := 2) (as := [.int 19, .long v82]) (rest := []) ⟨hx, hb, hml, hown, hts⟩ (c_X1_putAll l D g0 g1 g2 g3 g4 g5 g6 cA cB s77 19 v82 _ hL78.1.1 (by have := hL78.2; omega)) gX1_mount_X1_putAll rfl rfl rfl (by decide +kernel) ⟨Nat.le_of_ble_eq_true rfl, Nat.le_of_ble_eq_true rfl⟩ hK hP hD hS hA rfl rfl rfl hl.1 rfl rfl (Nat.le_of_ble_eq_true rfl) dX1_mount_197 ⟨Nat.zero_le _, Nat.zero_le _⟩ (fun H locs hP hD hS => ?_)
          refine W.eq (g2 := F0 m 200 ls []) rfl ?_
          obtain ⟨s83, t83⟩ : ∃ y9 : RS, r_put 19 v82 s77 = y9 := ⟨_, rfl⟩
          replace hP : va_P D vwCl (RWd g0 g1 g2 g3 g4 g5 g6 cA cB s83) H := by rw [← t83]; exact hP
          replace hD : va_D A (RWd g0 g1 g2 g3 g4 g5 g6 cA cB s83) := by rw [← t83]; exact hD
          obtain ⟨L84, f84⟩ : ∃ y9 : RPl, L78 ++ p_put 19 v82 = y9 := ⟨_, rfl⟩
          have hL84 : rpb s83 L84 252 := by rw [← t83, ← f84]; exact rpb_put 19 v82 hL78 (by decide) in20_19
          refine lv_aload_n hx hb dX1_mount_200 rfl (lv_at hl 4 rfl) ?_
          refine cM_this (Wd := RWd g0 g1 g2 g3 g4 g5 g6 cA cB) (ci := 1) (q0 := 0) (n := 0) (as := []) (rest := []) ⟨hx, hb, hml, hown, hts⟩ (c_X1_works l D g0 g1 g2 g3 g4 g5 g6 cA cB s83 L84 hL84.1) gX1_mount_X1_works rfl rfl rfl (by decide +kernel) ⟨Nat.le_of_ble_eq_true rfl, Nat.le_of_ble_eq_true rfl⟩ hK hP hD hS hA rfl rfl rfl hl.1 rfl rfl (Nat.le_of_ble_eq_true rfl) dX1_mount_201 ⟨Nat.zero_le _, Nat.zero_le _⟩ (fun H locs hP hD hS => ?_)
          obtain ⟨s85, t85⟩ : ∃ y9 : RS, (r_wk (L84) s83).2 = y9 := ⟨_, rfl⟩
          replace hP : va_P D vwCl (RWd g0 g1 g2 g3 g4 g5 g6 cA cB s85) H := by rw [← t85]; exact hP
          replace hD : va_D A (RWd g0 g1 g2 g3 g4 g5 g6 cA cB s85) := by rw [← t85]; exact hD
          refine tpi (fun v86 e86 => ?_)
          refine lv_if_eq (tgt := 211) hx hb dX1_mount_204 (by decide) (fun c87 => ?_) (fun c87 => ?_)
          · refine lv_bipush (v := (-2)) hx hb dX1_mount_211 (by decide) ?_
            have fin : r_mount st = ((-2), s85) := by
              clear hP hD hS; subst t1; subst t2; subst t3; subst f4; subst t5; subst f6; subst t7; subst f8; subst t9; subst f10; subst t11; subst f12; subst t13; subst f14; subst t15; subst f16; subst t17; subst f18; subst t19; subst f20; subst t21; subst f22; subst t23; subst f24; subst t25; subst f26; subst t27; subst f28; subst t29; subst f30; subst t31; subst f32; subst t33; subst f34; subst t35; subst f36; subst t37; subst f38; subst t39; subst f40; subst t41; subst f42; subst e47; subst e48; subst e49; subst e50; subst e51; subst e56; subst e57; subst e62; subst e67; subst e72; subst e73; subst e74; subst t75; subst f76; subst t77; subst f78; subst e79; subst e80; subst e81; subst e82; subst t83; subst f84; subst t85; subst e86;  simp only [r_mount, r_mountB, r_mends, p_mends, f_cells, List.foldl, r_zero, r_on1, r_slip, r_told, r_end, f_from, f_to, r_finL, r_fin3, r_fin2, r_fin1, r_amt, b43, b44, b45, b46, c52, c58, c63, c68, c87, ↓reduceIte, not_true_eq_false, not_false_eq_true, and_self, and_true, true_and, and_false, false_and, eq_self, i10]
            exact cM_reti (Wd := RWd g0 g1 g2 g3 g4 g5 g6 cA cB) (st := s85) (st' := (r_mount st).2) hx hb hr hlocks dX1_mount_213 hS hP hD (congrArg Prod.fst fin).symm (congrArg Prod.snd fin).symm
          · refine lv_iconst (v := 1) hx hb dX1_mount_207 (by decide) ?_
            refine lv_goto (tgt := 213) hx hb dX1_mount_208 (by decide) ?_
            have fin : r_mount st = (1, s85) := by
              clear hP hD hS; subst t1; subst t2; subst t3; subst f4; subst t5; subst f6; subst t7; subst f8; subst t9; subst f10; subst t11; subst f12; subst t13; subst f14; subst t15; subst f16; subst t17; subst f18; subst t19; subst f20; subst t21; subst f22; subst t23; subst f24; subst t25; subst f26; subst t27; subst f28; subst t29; subst f30; subst t31; subst f32; subst t33; subst f34; subst t35; subst f36; subst t37; subst f38; subst t39; subst f40; subst t41; subst f42; subst e47; subst e48; subst e49; subst e50; subst e51; subst e56; subst e57; subst e62; subst e67; subst e72; subst e73; subst e74; subst t75; subst f76; subst t77; subst f78; subst e79; subst e80; subst e81; subst e82; subst t83; subst f84; subst t85; subst e86;  simp only [r_mount, r_mountB, r_mends, p_mends, f_cells, List.foldl, r_zero, r_on1, r_slip, r_told, r_end, f_from, f_to, r_finL, r_fin3, r_fin2, r_fin1, r_amt, b43, b44, b45, b46, c52, c58, c63, c68, c87, ↓reduceIte, not_true_eq_false, not_false_eq_true, and_self, and_true, true_and, and_false, false_and, eq_self, i10]
            exact cM_reti (Wd := RWd g0 g1 g2 g3 g4 g5 g6 cA cB) (st := s85) (st' := (r_mount st).2) hx hb hr hlocks dX1_mount_213 hS hP hD (congrArg Prod.fst fin).symm (congrArg Prod.snd fin).symm
