abbrev rmX0_writeWhereOther : Room := { frames := 3, cells := 0, slots := 0, locals := 64 }
-- writeWhereOther
set_option maxHeartbeats 400000 in
set_option maxRecDepth 100000 in
theorem c_X0_writeWhereOther (l : Launch) (D : va_G) (h0 h1 h2 : Nat) (cA cB : ClassId) (st : FS) (a : Int32) (v : Int64) (hc : vp_in a 20) : cM l D vwCl (FT cA cB) (FWd h0 h1 h2 cA cB) yX0_writeWhereOther wsX0_writeWhereOther rmX0_writeWhereOther [.ref h0, .int a, .long v] st none (f_wo a v st) := by
  refine cM_in (cc := cX0_writeWhereOther) (maxL := 5) (ret := none) (by decide) rfl (Nat.le_of_ble_eq_true rfl) ?_
  intro p e s m below meth c ls A hx hb hr hlocks hml hown hts hA hK hP hD hS hl
  have hown : s.vm.findClass RX0 = some m.cls := hown
  have hl : lv_has ls 5 [(0, .ref h0), (1, .int a), (2, .long v)] := hl
  -- walk
  have B : ∀ (Q : State → Prop) (k k' : Int32) (s0 : FS) (H : Heap) (locs : List Loc) (ls : Array Slot), vp_in k 4 → k + 1 = k' → va_P D vwCl (FWd h0 h1 h2 cA cB s0) H → va_D A (FWd h0 h1 h2 cA cB s0) → va_S A s.heap H locs → lv_has ls 5 [(0, .ref h0), (1, .int a), (2, .long v), (4, .int k)] → (∀ (z : FS) (H : Heap) (locs : List Loc) (ls : Array Slot), f_wo1 a v k s0 = z → va_P D vwCl (FWd h0 h1 h2 cA cB z) H → va_D A (FWd h0 h1 h2 cA cB z) → va_S A s.heap H locs → lv_has ls 5 [(0, .ref h0), (1, .int a), (2, .long v), (4, .int k')] → W p l e rmX0_writeWhereOther s m ([.ref h0, .int a, .long v] : List Value).toArray below meth c H locs 0 0 Q (F0 m 3 ls [])) → W p l e rmX0_writeWhereOther s m ([.ref h0, .int a, .long v] : List Value).toArray below meth c H locs 0 0 Q (F0 m 9 ls []) := by
    intro Q k k' s0 H locs ls hk hk2 hP hD hS hl K
    refine lv_aload_n hx hb dX0_writeWhereOther_9 rfl (lv_at hl 0 rfl) ?_
    refine va_get (D := D) (ci := 0) (v := .ref h1) (C := RX0) (T := TX0) (N := 6) hx hb hts (by decide +kernel) hown hK hP 0 rfl rfl 0 (by decide) (hts (.fieldLink RX0 9 "FadeLedger" "memory" "[J") (by decide +kernel)) (fun _ h9 => h9) rfl dX0_writeWhereOther_10 ?_
    refine lv_iload hx hb dX0_writeWhereOther_13 (lv_at hl 3 rfl) ?_
    refine lv_iload_n hx hb dX0_writeWhereOther_15 rfl (lv_at hl 1 rfl) ?_
    refine cS_call (n := 2) (as := [.int k, .int a]) (rest := [.ref h1]) ⟨hx, hb, hml, hown, hts⟩ (c_X0_slot l k a) gX0_writeWhereOther_X0_slot rfl rfl rfl (by decide +kernel) ⟨Nat.le_of_ble_eq_true rfl, Nat.le_of_ble_eq_true rfl⟩ hl.1 rfl rfl (Nat.le_of_ble_eq_true rfl) dX0_writeWhereOther_16 ⟨Nat.zero_le _, Nat.zero_le _⟩ ?_
    refine tpi (fun v1 e1 => ?_)
    refine va_lald hx hb hK hP 1 0 rfl rfl (by rw [← e1]; exact slot_in hk hc) dX0_writeWhereOther_19 ?_
    refine tpl (fun v2 e2 => ?_)
    refine lv_lload_n hx hb dX0_writeWhereOther_20 rfl (lv_at hl 2 rfl) ?_
    refine W.lcmp hx hb dX0_writeWhereOther_21 ?_
    refine tpi (fun v3 e3 => ?_)
    refine lv_if_eq (tgt := 33) hx hb dX0_writeWhereOther_22 (by decide) (fun c4 => ?_) (fun c4 => ?_)
    · refine lv_iinc (v := k') (lv' := [(4, .int k'), (0, .ref h0), (1, .int a), (2, .long v)]) hx hb dX0_writeWhereOther_33 hl (k := 3) rfl (by rw [← hk2]; rfl) (by decide) rfl (fun ls hl => ?_)
      refine lv_goto (tgt := 3) hx hb dX0_writeWhereOther_36 (by decide) ?_
      exact K s0 _ _ _ (by clear hP hD hS; subst e1; subst e2; subst e3; simp only [lg_cmp_eq] at c4; simp only [f_wo1, c4, ↓reduceIte, not_true_eq_false, not_false_eq_true, and_self, and_true, true_and, and_false, false_and, eq_self]) hP hD hS (lv_sub hl [1, 2, 3, 0] rfl)
    · refine lv_aload_n hx hb dX0_writeWhereOther_25 rfl (lv_at hl 0 rfl) ?_
      refine lv_iload hx hb dX0_writeWhereOther_26 (lv_at hl 3 rfl) ?_
      refine lv_iload_n hx hb dX0_writeWhereOther_28 rfl (lv_at hl 1 rfl) ?_
      refine lv_lload_n hx hb dX0_writeWhereOther_29 rfl (lv_at hl 2 rfl) ?_
      refine cM_this (Wd := FWd h0 h1 h2 cA cB) (ci := 0) (q0 := 0) (n := 3) (as := [.int k, .int a, .long v]) (rest := []) ⟨hx, hb, hml, hown, hts⟩ (c_X0_writeTurn l D h0 h1 h2 cA cB s0 k a v hk hc) gX0_writeWhereOther_X0_writeTurn rfl rfl rfl (by decide +kernel) ⟨Nat.le_of_ble_eq_true rfl, Nat.le_of_ble_eq_true rfl⟩ hK hP hD hS hA rfl rfl rfl hl.1 rfl rfl (Nat.le_of_ble_eq_true rfl) dX0_writeWhereOther_30 ⟨Nat.zero_le _, Nat.zero_le _⟩ (fun H locs hP hD hS => ?_)
      refine W.eq (g2 := F0 m 33 ls []) rfl ?_
      obtain ⟨s5, t5⟩ : ∃ y9 : FS, f_write k a v s0 = y9 := ⟨_, rfl⟩
      replace hP : va_P D vwCl (FWd h0 h1 h2 cA cB s5) H := by rw [← t5]; exact hP
      replace hD : va_D A (FWd h0 h1 h2 cA cB s5) := by rw [← t5]; exact hD
      refine lv_iinc (v := k') (lv' := [(4, .int k'), (0, .ref h0), (1, .int a), (2, .long v)]) hx hb dX0_writeWhereOther_33 hl (k := 3) rfl (by rw [← hk2]; rfl) (by decide) rfl (fun ls hl => ?_)
      refine lv_goto (tgt := 3) hx hb dX0_writeWhereOther_36 (by decide) ?_
      exact K s5 _ _ _ (by clear hP hD hS; subst e1; subst e2; subst e3; subst t5; simp only [lg_cmp_eq] at c4; simp only [f_wo1, c4, ↓reduceIte, not_true_eq_false, not_false_eq_true, and_self, and_true, true_and, and_false, false_and, eq_self]) hP hD hS (lv_sub hl [1, 2, 3, 0] rfl)
  refine lv_iconst (v := 0) hx hb dX0_writeWhereOther_0 (by decide) ?_
  refine lv_istore (lv' := [(4, .int 0), (0, .ref h0), (1, .int a), (2, .long v)]) hx hb dX0_writeWhereOther_1 hl (by decide) rfl (fun ls hl => ?_)
  refine lv_iload hx hb dX0_writeWhereOther_3 (lv_at hl 0 rfl) ?_
  refine lv_iconst (v := 4) hx hb dX0_writeWhereOther_5 (by decide) ?_
  refine lv_icmp_ge (tgt := 39) hx hb dX0_writeWhereOther_6 (by decide) (fun c0 => absurd c0 (by decide)) (fun _ => ?_)
  refine B _ 0 1 st _ _ _ in4_0 (by decide) hP hD hS (lv_sub hl [1, 2, 3, 0] rfl) (fun z1 H locs ls b1 hP hD hS hl => ?_)
  refine lv_iload hx hb dX0_writeWhereOther_3 (lv_at hl 3 rfl) ?_
  refine lv_iconst (v := 4) hx hb dX0_writeWhereOther_5 (by decide) ?_
  refine lv_icmp_ge (tgt := 39) hx hb dX0_writeWhereOther_6 (by decide) (fun c0 => absurd c0 (by decide)) (fun _ => ?_)
  refine B _ 1 2 z1 _ _ _ in4_1 (by decide) hP hD hS (lv_sub hl [0, 1, 2, 3] rfl) (fun z2 H locs ls b2 hP hD hS hl => ?_)
  refine lv_iload hx hb dX0_writeWhereOther_3 (lv_at hl 3 rfl) ?_
  refine lv_iconst (v := 4) hx hb dX0_writeWhereOther_5 (by decide) ?_
  refine lv_icmp_ge (tgt := 39) hx hb dX0_writeWhereOther_6 (by decide) (fun c0 => absurd c0 (by decide)) (fun _ => ?_)
  refine B _ 2 3 z2 _ _ _ in4_2 (by decide) hP hD hS (lv_sub hl [0, 1, 2, 3] rfl) (fun z3 H locs ls b3 hP hD hS hl => ?_)
  refine lv_iload hx hb dX0_writeWhereOther_3 (lv_at hl 3 rfl) ?_
  refine lv_iconst (v := 4) hx hb dX0_writeWhereOther_5 (by decide) ?_
  refine lv_icmp_ge (tgt := 39) hx hb dX0_writeWhereOther_6 (by decide) (fun c0 => absurd c0 (by decide)) (fun _ => ?_)
  refine B _ 3 4 z3 _ _ _ in4_3 (by decide) hP hD hS (lv_sub hl [0, 1, 2, 3] rfl) (fun z4 H locs ls b4 hP hD hS hl => ?_)
  refine lv_iload hx hb dX0_writeWhereOther_3 (lv_at hl 3 rfl) ?_
  refine lv_iconst (v := 4) hx hb dX0_writeWhereOther_5 (by decide) ?_
  refine lv_icmp_ge (tgt := 39) hx hb dX0_writeWhereOther_6 (by decide) (fun _ => ?_) (fun c0 => absurd c0 (by decide))
  have fin : (f_wo a v st) = z4 := by clear hP hD hS; simp only [f_wo, b1, b2, b3, b4, ↓reduceIte, not_true_eq_false, not_false_eq_true, and_self, and_true, true_and, and_false, false_and, eq_self]
  exact cM_retv (Wd := FWd h0 h1 h2 cA cB) (st := z4) (st' := (f_wo a v st)) hx hb hr hlocks dX0_writeWhereOther_39 hS hP hD fin.symm
abbrev rmX0_restoreCell : Room := { frames := 4, cells := 0, slots := 0, locals := 88 }
-- restoreCell
set_option maxHeartbeats 400000 in
set_option maxRecDepth 100000 in
theorem c_X0_restoreCell (l : Launch) (D : va_G) (h0 h1 h2 : Nat) (cA cB : ClassId) (st : FS) (a : Int32) (hc : vp_in a 20) : cM l D vwCl (FT cA cB) (FWd h0 h1 h2 cA cB) yX0_restoreCell wsX0_restoreCell rmX0_restoreCell [.ref h0, .int a] st none (f_rest a st) := by
  refine cM_in (cc := cX0_restoreCell) (maxL := 8) (ret := none) (by decide) rfl (Nat.le_of_ble_eq_true rfl) ?_
  intro p e s m below meth c ls A hx hb hr hlocks hml hown hts hA hK hP hD hS hl
  have hown : s.vm.findClass RX0 = some m.cls := hown
  have hl : lv_has ls 8 [(0, .ref h0), (1, .int a)] := hl
  -- walk
  have B : ∀ (Q : State → Prop) (k k' : Int32) (i0 : Int32) (b0 : Int64) (s0 : FS) (H : Heap) (locs : List Loc) (ls : Array Slot), vp_in k 4 → k + 1 = k' → va_P D vwCl (FWd h0 h1 h2 cA cB s0) H → va_D A (FWd h0 h1 h2 cA cB s0) → va_S A s.heap H locs → lv_has ls 8 [(0, .ref h0), (1, .int a), (2, .int i0), (3, .long b0), (5, .int k)] → (∀ (i : Int32) (g : Int64) (z : FS) (H : Heap) (locs : List Loc) (ls : Array Slot), f_rest1 a k (i0, b0, s0) = (i, g, z) → va_P D vwCl (FWd h0 h1 h2 cA cB z) H → va_D A (FWd h0 h1 h2 cA cB z) → va_S A s.heap H locs → lv_has ls 8 [(0, .ref h0), (1, .int a), (2, .int i), (3, .long g), (5, .int k')] → W p l e rmX0_restoreCell s m ([.ref h0, .int a] : List Value).toArray below meth c H locs 0 0 Q (F0 m 7 ls [])) → W p l e rmX0_restoreCell s m ([.ref h0, .int a] : List Value).toArray below meth c H locs 0 0 Q (F0 m 13 ls []) := by
    intro Q k k' i0 b0 s0 H locs ls hk hk2 hP hD hS hl K
    refine lv_aload_n hx hb dX0_restoreCell_13 rfl (lv_at hl 0 rfl) ?_
    refine lv_iload hx hb dX0_restoreCell_14 (lv_at hl 4 rfl) ?_
    refine lv_iload_n hx hb dX0_restoreCell_16 rfl (lv_at hl 1 rfl) ?_
    refine cM_this (Wd := FWd h0 h1 h2 cA cB) (ci := 0) (q0 := 0) (n := 2) (as := [.int k, .int a]) (rest := []) ⟨hx, hb, hml, hown, hts⟩ (c_X0_readTurn l D h0 h1 h2 cA cB s0 k a hk hc) gX0_restoreCell_X0_readTurn rfl rfl rfl (by decide +kernel) ⟨Nat.le_of_ble_eq_true rfl, Nat.le_of_ble_eq_true rfl⟩ hK hP hD hS hA rfl rfl rfl hl.1 rfl rfl (Nat.le_of_ble_eq_true rfl) dX0_restoreCell_17 ⟨Nat.zero_le _, Nat.zero_le _⟩ (fun H locs hP hD hS => ?_)
    obtain ⟨s1, t1⟩ : ∃ y9 : FS, (f_read k a s0).2 = y9 := ⟨_, rfl⟩
    replace hP : va_P D vwCl (FWd h0 h1 h2 cA cB s1) H := by rw [← t1]; exact hP
    replace hD : va_D A (FWd h0 h1 h2 cA cB s1) := by rw [← t1]; exact hD
    refine tpl (fun v2 e2 => ?_)
    refine lv_lstore (lv' := [(6, .long v2), (0, .ref h0), (1, .int a), (2, .int i0), (3, .long b0), (5, .int k)]) hx hb dX0_restoreCell_20 hl (by decide) rfl (fun ls hl => ?_)
    refine lv_lload_n hx hb dX0_restoreCell_22 rfl (lv_at hl 4 rfl) ?_
    refine lv_lload hx hb dX0_restoreCell_23 (lv_at hl 0 rfl) ?_
    refine cS_call (n := 2) (as := [.long b0, .long v2]) (rest := []) ⟨hx, hb, hml, hown, hts⟩ (c_X0_betterOf l b0 v2) gX0_restoreCell_X0_betterOf rfl rfl rfl (by decide +kernel) ⟨Nat.le_of_ble_eq_true rfl, Nat.le_of_ble_eq_true rfl⟩ hl.1 rfl rfl (Nat.le_of_ble_eq_true rfl) dX0_restoreCell_25 ⟨Nat.zero_le _, Nat.zero_le _⟩ ?_
    refine tpl (fun v3 e3 => ?_)
    refine lv_lstore_n (lv' := [(3, .long v3), (6, .long v2), (0, .ref h0), (1, .int a), (2, .int i0), (5, .int k)]) hx hb dX0_restoreCell_28 rfl hl (by decide) rfl (fun ls hl => ?_)
    refine lv_lload hx hb dX0_restoreCell_29 (lv_at hl 1 rfl) ?_
    refine cS_call (n := 1) (as := [.long v2]) (rest := []) ⟨hx, hb, hml, hown, hts⟩ (c_X0_isValid l v2) gX0_restoreCell_X0_isValid rfl rfl rfl (by decide +kernel) ⟨Nat.le_of_ble_eq_true rfl, Nat.le_of_ble_eq_true rfl⟩ hl.1 rfl rfl (Nat.le_of_ble_eq_true rfl) dX0_restoreCell_31 ⟨Nat.zero_le _, Nat.zero_le _⟩ ?_
    refine tpi (fun v4 e4 => ?_)
    refine lv_if_ne (tgt := 40) hx hb dX0_restoreCell_34 (by decide) (fun c5 => ?_) (fun c5 => ?_)
    · refine lv_iload hx hb dX0_restoreCell_40 (lv_at hl 5 rfl) ?_
      refine lv_iconst (v := 3) hx hb dX0_restoreCell_42 (by decide) ?_
      refine lv_icmp_ne (tgt := 60) hx hb dX0_restoreCell_43 (by decide) (fun c6 => ?_) (fun c6 => ?_)
      · refine lv_aload_n hx hb dX0_restoreCell_60 rfl (lv_at hl 2 rfl) ?_
        refine lv_iload hx hb dX0_restoreCell_61 (lv_at hl 5 rfl) ?_
        refine lv_iload_n hx hb dX0_restoreCell_63 rfl (lv_at hl 3 rfl) ?_
        refine lv_lload hx hb dX0_restoreCell_64 (lv_at hl 1 rfl) ?_
        refine cM_this (Wd := FWd h0 h1 h2 cA cB) (ci := 0) (q0 := 0) (n := 3) (as := [.int k, .int a, .long v2]) (rest := []) ⟨hx, hb, hml, hown, hts⟩ (c_X0_writeTurn l D h0 h1 h2 cA cB s1 k a v2 hk hc) gX0_restoreCell_X0_writeTurn rfl rfl rfl (by decide +kernel) ⟨Nat.le_of_ble_eq_true rfl, Nat.le_of_ble_eq_true rfl⟩ hK hP hD hS hA rfl rfl rfl hl.1 rfl rfl (Nat.le_of_ble_eq_true rfl) dX0_restoreCell_66 ⟨Nat.zero_le _, Nat.zero_le _⟩ (fun H locs hP hD hS => ?_)
        refine W.eq (g2 := F0 m 69 ls []) rfl ?_
        obtain ⟨s7, t7⟩ : ∃ y9 : FS, f_write k a v2 s1 = y9 := ⟨_, rfl⟩
        replace hP : va_P D vwCl (FWd h0 h1 h2 cA cB s7) H := by rw [← t7]; exact hP
        replace hD : va_D A (FWd h0 h1 h2 cA cB s7) := by rw [← t7]; exact hD
        refine lv_iinc (v := k') (lv' := [(5, .int k'), (3, .long v3), (6, .long v2), (0, .ref h0), (1, .int a), (2, .int i0)]) hx hb dX0_restoreCell_69 hl (k := 5) rfl (by rw [← hk2]; rfl) (by decide) rfl (fun ls hl => ?_)
        refine lv_goto (tgt := 7) hx hb dX0_restoreCell_72 (by decide) ?_
        exact K i0 v3 s7 _ _ _ (by clear hP hD hS; subst t1; subst e2; subst e3; subst e4; subst t7; simp only [f_rest1, c5, c6, ↓reduceIte, not_true_eq_false, not_false_eq_true, and_self, and_true, true_and, and_false, false_and, eq_self]) hP hD hS (lv_sub hl [3, 4, 5, 1, 0] rfl)
      · refine lv_aload_n hx hb dX0_restoreCell_46 rfl (lv_at hl 2 rfl) ?_
        refine va_get (D := D) (ci := 0) (v := .int s1.2.2.1) (C := RX0) (T := TX0) (N := 6) hx hb hts (by decide +kernel) hown hK hP 0 rfl rfl 2 (by decide) (hts (.fieldLink RX0 17 "FadeLedger" "powered" "Z") (by decide +kernel)) (fun _ h9 => h9) rfl dX0_restoreCell_47 ?_
        refine tpi (fun v8 e8 => ?_)
        refine lv_if_eq (tgt := 60) hx hb dX0_restoreCell_50 (by decide) (fun c9 => ?_) (fun c9 => ?_)
        · refine lv_aload_n hx hb dX0_restoreCell_60 rfl (lv_at hl 2 rfl) ?_
          refine lv_iload hx hb dX0_restoreCell_61 (lv_at hl 5 rfl) ?_
          refine lv_iload_n hx hb dX0_restoreCell_63 rfl (lv_at hl 3 rfl) ?_
          refine lv_lload hx hb dX0_restoreCell_64 (lv_at hl 1 rfl) ?_
          refine cM_this (Wd := FWd h0 h1 h2 cA cB) (ci := 0) (q0 := 0) (n := 3) (as := [.int k, .int a, .long v2]) (rest := []) ⟨hx, hb, hml, hown, hts⟩ (c_X0_writeTurn l D h0 h1 h2 cA cB s1 k a v2 hk hc) gX0_restoreCell_X0_writeTurn rfl rfl rfl (by decide +kernel) ⟨Nat.le_of_ble_eq_true rfl, Nat.le_of_ble_eq_true rfl⟩ hK hP hD hS hA rfl rfl rfl hl.1 rfl rfl (Nat.le_of_ble_eq_true rfl) dX0_restoreCell_66 ⟨Nat.zero_le _, Nat.zero_le _⟩ (fun H locs hP hD hS => ?_)
          refine W.eq (g2 := F0 m 69 ls []) rfl ?_
          obtain ⟨s10, t10⟩ : ∃ y9 : FS, f_write k a v2 s1 = y9 := ⟨_, rfl⟩
          replace hP : va_P D vwCl (FWd h0 h1 h2 cA cB s10) H := by rw [← t10]; exact hP
          replace hD : va_D A (FWd h0 h1 h2 cA cB s10) := by rw [← t10]; exact hD
          refine lv_iinc (v := k') (lv' := [(5, .int k'), (3, .long v3), (6, .long v2), (0, .ref h0), (1, .int a), (2, .int i0)]) hx hb dX0_restoreCell_69 hl (k := 5) rfl (by rw [← hk2]; rfl) (by decide) rfl (fun ls hl => ?_)
          refine lv_goto (tgt := 7) hx hb dX0_restoreCell_72 (by decide) ?_
          exact K i0 v3 s10 _ _ _ (by clear hP hD hS; subst t1; subst e2; subst e3; subst e4; subst e8; subst t10; subst c6; simp only [f_rest1, c5, c9, ↓reduceIte, not_true_eq_false, not_false_eq_true, and_self, and_true, true_and, and_false, false_and, eq_self]) hP hD hS (lv_sub hl [3, 4, 5, 1, 0] rfl)
        · refine lv_aload_n hx hb dX0_restoreCell_53 rfl (lv_at hl 2 rfl) ?_
          refine va_get (D := D) (ci := 0) (v := .ref h2) (C := RX0) (T := TX0) (N := 6) hx hb hts (by decide +kernel) hown hK hP 0 rfl rfl 1 (by decide) (hts (.fieldLink RX0 13 "FadeLedger" "invalidPlanes" "[I") (by decide +kernel)) (fun _ h9 => h9) rfl dX0_restoreCell_54 ?_
          refine lv_iload_n hx hb dX0_restoreCell_57 rfl (lv_at hl 3 rfl) ?_
          refine lv_iload_n hx hb dX0_restoreCell_58 rfl (lv_at hl 4 rfl) ?_
          refine va_iast hx hb hK hP hD hS 2 1 rfl rfl hc dX0_restoreCell_59 (fun H locs hP hD hS => ?_)
          obtain ⟨s11, t11⟩ : ∃ y9 : FS, ((s1.1, upd s1.2.1 a.toNatClampNeg i0, s1.2.2.1, s1.2.2.2.1, s1.2.2.2.2.1, s1.2.2.2.2.2) : FS) = y9 := ⟨_, rfl⟩
          replace hP : va_P D vwCl (FWd h0 h1 h2 cA cB s11) H := by rw [← t11]; exact hP
          replace hD : va_D A (FWd h0 h1 h2 cA cB s11) := by rw [← t11]; exact hD
          refine lv_aload_n hx hb dX0_restoreCell_60 rfl (lv_at hl 2 rfl) ?_
          refine lv_iload hx hb dX0_restoreCell_61 (lv_at hl 5 rfl) ?_
          refine lv_iload_n hx hb dX0_restoreCell_63 rfl (lv_at hl 3 rfl) ?_
          refine lv_lload hx hb dX0_restoreCell_64 (lv_at hl 1 rfl) ?_
          refine cM_this (Wd := FWd h0 h1 h2 cA cB) (ci := 0) (q0 := 0) (n := 3) (as := [.int k, .int a, .long v2]) (rest := []) ⟨hx, hb, hml, hown, hts⟩ (c_X0_writeTurn l D h0 h1 h2 cA cB s11 k a v2 hk hc) gX0_restoreCell_X0_writeTurn rfl rfl rfl (by decide +kernel) ⟨Nat.le_of_ble_eq_true rfl, Nat.le_of_ble_eq_true rfl⟩ hK hP hD hS hA rfl rfl rfl hl.1 rfl rfl (Nat.le_of_ble_eq_true rfl) dX0_restoreCell_66 ⟨Nat.zero_le _, Nat.zero_le _⟩ (fun H locs hP hD hS => ?_)
          refine W.eq (g2 := F0 m 69 ls []) rfl ?_
          obtain ⟨s12, t12⟩ : ∃ y9 : FS, f_write k a v2 s11 = y9 := ⟨_, rfl⟩
          replace hP : va_P D vwCl (FWd h0 h1 h2 cA cB s12) H := by rw [← t12]; exact hP
          replace hD : va_D A (FWd h0 h1 h2 cA cB s12) := by rw [← t12]; exact hD
          refine lv_iinc (v := k') (lv' := [(5, .int k'), (3, .long v3), (6, .long v2), (0, .ref h0), (1, .int a), (2, .int i0)]) hx hb dX0_restoreCell_69 hl (k := 5) rfl (by rw [← hk2]; rfl) (by decide) rfl (fun ls hl => ?_)
          refine lv_goto (tgt := 7) hx hb dX0_restoreCell_72 (by decide) ?_
          exact K i0 v3 s12 _ _ _ (by clear hP hD hS; subst t1; subst e2; subst e3; subst e4; subst e8; subst t11; subst t12; subst c6; simp only [f_rest1, c5, c9, ↓reduceIte, not_true_eq_false, not_false_eq_true, and_self, and_true, true_and, and_false, false_and, eq_self]) hP hD hS (lv_sub hl [3, 4, 5, 1, 0] rfl)
    · obtain ⟨v13, e13⟩ : ∃ y : Int32, i0 + 1 = y := ⟨_, rfl⟩
      refine lv_iinc (v := v13) (lv' := [(2, .int v13), (3, .long v3), (6, .long v2), (0, .ref h0), (1, .int a), (5, .int k)]) hx hb dX0_restoreCell_37 hl (k := 4) rfl (by rw [← e13]; rfl) (by decide) rfl (fun ls hl => ?_)
      refine lv_iload hx hb dX0_restoreCell_40 (lv_at hl 5 rfl) ?_
      refine lv_iconst (v := 3) hx hb dX0_restoreCell_42 (by decide) ?_
      refine lv_icmp_ne (tgt := 60) hx hb dX0_restoreCell_43 (by decide) (fun c14 => ?_) (fun c14 => ?_)
      · refine lv_aload_n hx hb dX0_restoreCell_60 rfl (lv_at hl 3 rfl) ?_
        refine lv_iload hx hb dX0_restoreCell_61 (lv_at hl 5 rfl) ?_
        refine lv_iload_n hx hb dX0_restoreCell_63 rfl (lv_at hl 4 rfl) ?_
        refine lv_lload hx hb dX0_restoreCell_64 (lv_at hl 2 rfl) ?_
        refine cM_this (Wd := FWd h0 h1 h2 cA cB) (ci := 0) (q0 := 0) (n := 3) (as := [.int k, .int a, .long v2]) (rest := []) ⟨hx, hb, hml, hown, hts⟩ (c_X0_writeTurn l D h0 h1 h2 cA cB s1 k a v2 hk hc) gX0_restoreCell_X0_writeTurn rfl rfl rfl (by decide +kernel) ⟨Nat.le_of_ble_eq_true rfl, Nat.le_of_ble_eq_true rfl⟩ hK hP hD hS hA rfl rfl rfl hl.1 rfl rfl (Nat.le_of_ble_eq_true rfl) dX0_restoreCell_66 ⟨Nat.zero_le _, Nat.zero_le _⟩ (fun H locs hP hD hS => ?_)
        refine W.eq (g2 := F0 m 69 ls []) rfl ?_
        obtain ⟨s15, t15⟩ : ∃ y9 : FS, f_write k a v2 s1 = y9 := ⟨_, rfl⟩
        replace hP : va_P D vwCl (FWd h0 h1 h2 cA cB s15) H := by rw [← t15]; exact hP
        replace hD : va_D A (FWd h0 h1 h2 cA cB s15) := by rw [← t15]; exact hD
        refine lv_iinc (v := k') (lv' := [(5, .int k'), (2, .int v13), (3, .long v3), (6, .long v2), (0, .ref h0), (1, .int a)]) hx hb dX0_restoreCell_69 hl (k := 5) rfl (by rw [← hk2]; rfl) (by decide) rfl (fun ls hl => ?_)
        refine lv_goto (tgt := 7) hx hb dX0_restoreCell_72 (by decide) ?_
        exact K v13 v3 s15 _ _ _ (by clear hP hD hS; subst t1; subst e2; subst e3; subst e4; subst e13; subst t15; simp only [f_rest1, c5, c14, ↓reduceIte, not_true_eq_false, not_false_eq_true, and_self, and_true, true_and, and_false, false_and, eq_self]) hP hD hS (lv_sub hl [4, 5, 1, 2, 0] rfl)
      · refine lv_aload_n hx hb dX0_restoreCell_46 rfl (lv_at hl 3 rfl) ?_
        refine va_get (D := D) (ci := 0) (v := .int s1.2.2.1) (C := RX0) (T := TX0) (N := 6) hx hb hts (by decide +kernel) hown hK hP 0 rfl rfl 2 (by decide) (hts (.fieldLink RX0 17 "FadeLedger" "powered" "Z") (by decide +kernel)) (fun _ h9 => h9) rfl dX0_restoreCell_47 ?_
        refine tpi (fun v16 e16 => ?_)
        refine lv_if_eq (tgt := 60) hx hb dX0_restoreCell_50 (by decide) (fun c17 => ?_) (fun c17 => ?_)
        · refine lv_aload_n hx hb dX0_restoreCell_60 rfl (lv_at hl 3 rfl) ?_
          refine lv_iload hx hb dX0_restoreCell_61 (lv_at hl 5 rfl) ?_
          refine lv_iload_n hx hb dX0_restoreCell_63 rfl (lv_at hl 4 rfl) ?_
          refine lv_lload hx hb dX0_restoreCell_64 (lv_at hl 2 rfl) ?_
          refine cM_this (Wd := FWd h0 h1 h2 cA cB) (ci := 0) (q0 := 0) (n := 3) (as := [.int k, .int a, .long v2]) (rest := []) ⟨hx, hb, hml, hown, hts⟩ (c_X0_writeTurn l D h0 h1 h2 cA cB s1 k a v2 hk hc) gX0_restoreCell_X0_writeTurn rfl rfl rfl (by decide +kernel) ⟨Nat.le_of_ble_eq_true rfl, Nat.le_of_ble_eq_true rfl⟩ hK hP hD hS hA rfl rfl rfl hl.1 rfl rfl (Nat.le_of_ble_eq_true rfl) dX0_restoreCell_66 ⟨Nat.zero_le _, Nat.zero_le _⟩ (fun H locs hP hD hS => ?_)
          refine W.eq (g2 := F0 m 69 ls []) rfl ?_
          obtain ⟨s18, t18⟩ : ∃ y9 : FS, f_write k a v2 s1 = y9 := ⟨_, rfl⟩
          replace hP : va_P D vwCl (FWd h0 h1 h2 cA cB s18) H := by rw [← t18]; exact hP
          replace hD : va_D A (FWd h0 h1 h2 cA cB s18) := by rw [← t18]; exact hD
          refine lv_iinc (v := k') (lv' := [(5, .int k'), (2, .int v13), (3, .long v3), (6, .long v2), (0, .ref h0), (1, .int a)]) hx hb dX0_restoreCell_69 hl (k := 5) rfl (by rw [← hk2]; rfl) (by decide) rfl (fun ls hl => ?_)
          refine lv_goto (tgt := 7) hx hb dX0_restoreCell_72 (by decide) ?_
          exact K v13 v3 s18 _ _ _ (by clear hP hD hS; subst t1; subst e2; subst e3; subst e4; subst e13; subst e16; subst t18; subst c14; simp only [f_rest1, c5, c17, ↓reduceIte, not_true_eq_false, not_false_eq_true, and_self, and_true, true_and, and_false, false_and, eq_self]) hP hD hS (lv_sub hl [4, 5, 1, 2, 0] rfl)
        · refine lv_aload_n hx hb dX0_restoreCell_53 rfl (lv_at hl 3 rfl) ?_
          refine va_get (D := D) (ci := 0) (v := .ref h2) (C := RX0) (T := TX0) (N := 6) hx hb hts (by decide +kernel) hown hK hP 0 rfl rfl 1 (by decide) (hts (.fieldLink RX0 13 "FadeLedger" "invalidPlanes" "[I") (by decide +kernel)) (fun _ h9 => h9) rfl dX0_restoreCell_54 ?_
          refine lv_iload_n hx hb dX0_restoreCell_57 rfl (lv_at hl 4 rfl) ?_
          refine lv_iload_n hx hb dX0_restoreCell_58 rfl (lv_at hl 0 rfl) ?_
          refine va_iast hx hb hK hP hD hS 2 1 rfl rfl hc dX0_restoreCell_59 (fun H locs hP hD hS => ?_)
          obtain ⟨s19, t19⟩ : ∃ y9 : FS, ((s1.1, upd s1.2.1 a.toNatClampNeg v13, s1.2.2.1, s1.2.2.2.1, s1.2.2.2.2.1, s1.2.2.2.2.2) : FS) = y9 := ⟨_, rfl⟩
          replace hP : va_P D vwCl (FWd h0 h1 h2 cA cB s19) H := by rw [← t19]; exact hP
          replace hD : va_D A (FWd h0 h1 h2 cA cB s19) := by rw [← t19]; exact hD
          refine lv_aload_n hx hb dX0_restoreCell_60 rfl (lv_at hl 3 rfl) ?_
          refine lv_iload hx hb dX0_restoreCell_61 (lv_at hl 5 rfl) ?_
          refine lv_iload_n hx hb dX0_restoreCell_63 rfl (lv_at hl 4 rfl) ?_
          refine lv_lload hx hb dX0_restoreCell_64 (lv_at hl 2 rfl) ?_
          refine cM_this (Wd := FWd h0 h1 h2 cA cB) (ci := 0) (q0 := 0) (n := 3) (as := [.int k, .int a, .long v2]) (rest := []) ⟨hx, hb, hml, hown, hts⟩ (c_X0_writeTurn l D h0 h1 h2 cA cB s19 k a v2 hk hc) gX0_restoreCell_X0_writeTurn rfl rfl rfl (by decide +kernel) ⟨Nat.le_of_ble_eq_true rfl, Nat.le_of_ble_eq_true rfl⟩ hK hP hD hS hA rfl rfl rfl hl.1 rfl rfl (Nat.le_of_ble_eq_true rfl) dX0_restoreCell_66 ⟨Nat.zero_le _, Nat.zero_le _⟩ (fun H locs hP hD hS => ?_)
          refine W.eq (g2 := F0 m 69 ls []) rfl ?_
          obtain ⟨s20, t20⟩ : ∃ y9 : FS, f_write k a v2 s19 = y9 := ⟨_, rfl⟩
          replace hP : va_P D vwCl (FWd h0 h1 h2 cA cB s20) H := by rw [← t20]; exact hP
          replace hD : va_D A (FWd h0 h1 h2 cA cB s20) := by rw [← t20]; exact hD
          refine lv_iinc (v := k') (lv' := [(5, .int k'), (2, .int v13), (3, .long v3), (6, .long v2), (0, .ref h0), (1, .int a)]) hx hb dX0_restoreCell_69 hl (k := 5) rfl (by rw [← hk2]; rfl) (by decide) rfl (fun ls hl => ?_)
          refine lv_goto (tgt := 7) hx hb dX0_restoreCell_72 (by decide) ?_
          exact K v13 v3 s20 _ _ _ (by clear hP hD hS; subst t1; subst e2; subst e3; subst e4; subst e13; subst e16; subst t19; subst t20; subst c14; simp only [f_rest1, c5, c17, ↓reduceIte, not_true_eq_false, not_false_eq_true, and_self, and_true, true_and, and_false, false_and, eq_self]) hP hD hS (lv_sub hl [4, 5, 1, 2, 0] rfl)
  refine lv_iconst (v := 0) hx hb dX0_restoreCell_0 (by decide) ?_
  refine lv_istore_n (lv' := [(2, .int 0), (0, .ref h0), (1, .int a)]) hx hb dX0_restoreCell_1 rfl hl (by decide) rfl (fun ls hl => ?_)
  refine lv_lconst (v := 0) hx hb dX0_restoreCell_2 (by decide) ?_
  refine lv_lstore_n (lv' := [(3, .long 0), (2, .int 0), (0, .ref h0), (1, .int a)]) hx hb dX0_restoreCell_3 rfl hl (by decide) rfl (fun ls hl => ?_)
  refine lv_iconst (v := 0) hx hb dX0_restoreCell_4 (by decide) ?_
  refine lv_istore (lv' := [(5, .int 0), (3, .long 0), (2, .int 0), (0, .ref h0), (1, .int a)]) hx hb dX0_restoreCell_5 hl (by decide) rfl (fun ls hl => ?_)
  refine lv_iload hx hb dX0_restoreCell_7 (lv_at hl 0 rfl) ?_
  refine lv_iconst (v := 4) hx hb dX0_restoreCell_9 (by decide) ?_
  refine lv_icmp_ge (tgt := 75) hx hb dX0_restoreCell_10 (by decide) (fun c0 => absurd c0 (by decide)) (fun _ => ?_)
  refine B _ 0 1 0 0 st _ _ _ in4_0 (by decide) hP hD hS (lv_sub hl [3, 4, 2, 1, 0] rfl) (fun i1 g1 z1 H locs ls b1 hP hD hS hl => ?_)
  refine lv_iload hx hb dX0_restoreCell_7 (lv_at hl 4 rfl) ?_
  refine lv_iconst (v := 4) hx hb dX0_restoreCell_9 (by decide) ?_
  refine lv_icmp_ge (tgt := 75) hx hb dX0_restoreCell_10 (by decide) (fun c0 => absurd c0 (by decide)) (fun _ => ?_)
  refine B _ 1 2 i1 g1 z1 _ _ _ in4_1 (by decide) hP hD hS (lv_sub hl [0, 1, 2, 3, 4] rfl) (fun i2 g2 z2 H locs ls b2 hP hD hS hl => ?_)
  refine lv_iload hx hb dX0_restoreCell_7 (lv_at hl 4 rfl) ?_
  refine lv_iconst (v := 4) hx hb dX0_restoreCell_9 (by decide) ?_
  refine lv_icmp_ge (tgt := 75) hx hb dX0_restoreCell_10 (by decide) (fun c0 => absurd c0 (by decide)) (fun _ => ?_)
  refine B _ 2 3 i2 g2 z2 _ _ _ in4_2 (by decide) hP hD hS (lv_sub hl [0, 1, 2, 3, 4] rfl) (fun i3 g3 z3 H locs ls b3 hP hD hS hl => ?_)
  refine lv_iload hx hb dX0_restoreCell_7 (lv_at hl 4 rfl) ?_
  refine lv_iconst (v := 4) hx hb dX0_restoreCell_9 (by decide) ?_
  refine lv_icmp_ge (tgt := 75) hx hb dX0_restoreCell_10 (by decide) (fun c0 => absurd c0 (by decide)) (fun _ => ?_)
  refine B _ 3 4 i3 g3 z3 _ _ _ in4_3 (by decide) hP hD hS (lv_sub hl [0, 1, 2, 3, 4] rfl) (fun i4 g4 z4 H locs ls b4 hP hD hS hl => ?_)
  refine lv_iload hx hb dX0_restoreCell_7 (lv_at hl 4 rfl) ?_
  refine lv_iconst (v := 4) hx hb dX0_restoreCell_9 (by decide) ?_
  refine lv_icmp_ge (tgt := 75) hx hb dX0_restoreCell_10 (by decide) (fun _ => ?_) (fun c0 => absurd c0 (by decide))
  refine lv_lload_n hx hb dX0_restoreCell_75 rfl (lv_at hl 3 rfl) ?_
  refine cS_call (n := 1) (as := [.long g4]) (rest := []) ⟨hx, hb, hml, hown, hts⟩ (c_X0_isValid l g4) gX0_restoreCell_X0_isValid rfl rfl rfl (by decide +kernel) ⟨Nat.le_of_ble_eq_true rfl, Nat.le_of_ble_eq_true rfl⟩ hl.1 rfl rfl (Nat.le_of_ble_eq_true rfl) dX0_restoreCell_76 ⟨Nat.zero_le _, Nat.zero_le _⟩ ?_
  refine tpi (fun v5 e5 => ?_)
  refine lv_if_eq (tgt := 88) hx hb dX0_restoreCell_79 (by decide) (fun c6 => ?_) (fun c6 => ?_)
  · have fin : (f_rest a st) = z4 := by clear hP hD hS; subst e5; simp only [f_rest, f_restS, b1, b2, b3, b4, c6, ↓reduceIte, not_true_eq_false, not_false_eq_true, and_self, and_true, true_and, and_false, false_and, eq_self]
    exact cM_retv (Wd := FWd h0 h1 h2 cA cB) (st := z4) (st' := (f_rest a st)) hx hb hr hlocks dX0_restoreCell_88 hS hP hD fin.symm
  · refine lv_aload_n hx hb dX0_restoreCell_82 rfl (lv_at hl 0 rfl) ?_
    refine lv_iload_n hx hb dX0_restoreCell_83 rfl (lv_at hl 1 rfl) ?_
    refine lv_lload_n hx hb dX0_restoreCell_84 rfl (lv_at hl 3 rfl) ?_
    refine cM_this (Wd := FWd h0 h1 h2 cA cB) (ci := 0) (q0 := 0) (n := 2) (as := [.int a, .long g4]) (rest := []) ⟨hx, hb, hml, hown, hts⟩ (c_X0_writeWhereOther l D h0 h1 h2 cA cB z4 a g4 hc) gX0_restoreCell_X0_writeWhereOther rfl rfl rfl (by decide +kernel) ⟨Nat.le_of_ble_eq_true rfl, Nat.le_of_ble_eq_true rfl⟩ hK hP hD hS hA rfl rfl rfl hl.1 rfl rfl (Nat.le_of_ble_eq_true rfl) dX0_restoreCell_85 ⟨Nat.zero_le _, Nat.zero_le _⟩ (fun H locs hP hD hS => ?_)
    refine W.eq (g2 := F0 m 88 ls []) rfl ?_
    obtain ⟨s7, t7⟩ : ∃ y9 : FS, f_wo a g4 z4 = y9 := ⟨_, rfl⟩
    replace hP : va_P D vwCl (FWd h0 h1 h2 cA cB s7) H := by rw [← t7]; exact hP
    replace hD : va_D A (FWd h0 h1 h2 cA cB s7) := by rw [← t7]; exact hD
    have fin : (f_rest a st) = s7 := by clear hP hD hS; subst e5; subst t7; simp only [f_rest, f_restS, b1, b2, b3, b4, c6, ↓reduceIte, not_true_eq_false, not_false_eq_true, and_self, and_true, true_and, and_false, false_and, eq_self]
    exact cM_retv (Wd := FWd h0 h1 h2 cA cB) (st := s7) (st' := (f_rest a st)) hx hb hr hlocks dX0_restoreCell_88 hS hP hD fin.symm
abbrev rmX0_slipIsPending : Room := { frames := 2, cells := 0, slots := 0, locals := 44 }
-- slipIsPending
set_option maxHeartbeats 400000 in
set_option maxRecDepth 100000 in
theorem c_X0_slipIsPending (l : Launch) (D : va_G) (h0 h1 h2 : Nat) (cA cB : ClassId) (st : FS)   : cM l D vwCl (FT cA cB) (FWd h0 h1 h2 cA cB) yX0_slipIsPending wsX0_slipIsPending rmX0_slipIsPending [.ref h0] st (some (.int (f_pend st))) st := by
  refine cM_in (cc := cX0_slipIsPending) (maxL := 5) (ret := (some .boolean)) (by decide) rfl (Nat.le_of_ble_eq_true rfl) ?_
  intro p e s m below meth c ls A hx hb hr hlocks hml hown hts hA hK hP hD hS hl
  have hown : s.vm.findClass RX0 = some m.cls := hown
  have hl : lv_has ls 5 [(0, .ref h0)] := hl
  -- walk
  refine lv_aload_n hx hb dX0_slipIsPending_0 rfl (lv_at hl 0 rfl) ?_
  refine lv_bipush (v := 16) hx hb dX0_slipIsPending_1 (by decide) ?_
  refine cM_this (Wd := FWd h0 h1 h2 cA cB) (ci := 0) (q0 := 0) (n := 1) (as := [.int 16]) (rest := []) ⟨hx, hb, hml, hown, hts⟩ (c_X0_foundIn l D h0 h1 h2 cA cB st 16 in20_16) gX0_slipIsPending_X0_foundIn rfl rfl rfl (by decide +kernel) ⟨Nat.le_of_ble_eq_true rfl, Nat.le_of_ble_eq_true rfl⟩ hK hP hD hS hA rfl rfl rfl hl.1 rfl rfl (Nat.le_of_ble_eq_true rfl) dX0_slipIsPending_3 ⟨Nat.zero_le _, Nat.zero_le _⟩ (fun H locs hP hD hS => ?_)
  refine tpl (fun v1 e1 => ?_)
  refine cS_call (n := 1) (as := [.long v1]) (rest := []) ⟨hx, hb, hml, hown, hts⟩ (c_X0_numberOf l v1) gX0_slipIsPending_X0_numberOf rfl rfl rfl (by decide +kernel) ⟨Nat.le_of_ble_eq_true rfl, Nat.le_of_ble_eq_true rfl⟩ hl.1 rfl rfl (Nat.le_of_ble_eq_true rfl) dX0_slipIsPending_6 ⟨Nat.zero_le _, Nat.zero_le _⟩ ?_
  refine tpi (fun v2 e2 => ?_)
  refine lv_istore_n (lv' := [(1, .int v2), (0, .ref h0)]) hx hb dX0_slipIsPending_9 rfl hl (by decide) rfl (fun ls hl => ?_)
  refine lv_bipush (v := 16) hx hb dX0_slipIsPending_10 (by decide) ?_
  refine lv_istore_n (lv' := [(2, .int 16), (1, .int v2), (0, .ref h0)]) hx hb dX0_slipIsPending_12 rfl hl (by decide) rfl (fun ls hl => ?_)
  refine lv_iload_n hx hb dX0_slipIsPending_13 rfl (lv_at hl 0 rfl) ?_
  refine lv_bipush (v := 19) hx hb dX0_slipIsPending_14 (by decide) ?_
  refine lv_icmp_gt (tgt := 48) hx hb dX0_slipIsPending_16 (by decide) (fun c0 => absurd c0 (by decide)) (fun _ => ?_)
  refine lv_aload_n hx hb dX0_slipIsPending_19 rfl (lv_at hl 2 rfl) ?_
  refine lv_iload_n hx hb dX0_slipIsPending_20 rfl (lv_at hl 0 rfl) ?_
  refine cM_this (Wd := FWd h0 h1 h2 cA cB) (ci := 0) (q0 := 0) (n := 1) (as := [.int 16]) (rest := []) ⟨hx, hb, hml, hown, hts⟩ (c_X0_foundIn l D h0 h1 h2 cA cB st 16 in20_16) gX0_slipIsPending_X0_foundIn rfl rfl rfl (by decide +kernel) ⟨Nat.le_of_ble_eq_true rfl, Nat.le_of_ble_eq_true rfl⟩ hK hP hD hS hA rfl rfl rfl hl.1 rfl rfl (Nat.le_of_ble_eq_true rfl) dX0_slipIsPending_21 ⟨Nat.zero_le _, Nat.zero_le _⟩ (fun H locs hP hD hS => ?_)
  refine tpl (fun v3 e3 => ?_)
  refine lv_lstore_n (lv' := [(3, .long v3), (2, .int 16), (1, .int v2), (0, .ref h0)]) hx hb dX0_slipIsPending_24 rfl hl (by decide) rfl (fun ls hl => ?_)
  refine lv_lload_n hx hb dX0_slipIsPending_25 rfl (lv_at hl 0 rfl) ?_
  refine cS_call (n := 1) (as := [.long v3]) (rest := []) ⟨hx, hb, hml, hown, hts⟩ (c_X0_isValid l v3) gX0_slipIsPending_X0_isValid rfl rfl rfl (by decide +kernel) ⟨Nat.le_of_ble_eq_true rfl, Nat.le_of_ble_eq_true rfl⟩ hl.1 rfl rfl (Nat.le_of_ble_eq_true rfl) dX0_slipIsPending_26 ⟨Nat.zero_le _, Nat.zero_le _⟩ ?_
  refine tpi (fun v4 e4 => ?_)
  refine lv_if_eq (tgt := 40) hx hb dX0_slipIsPending_29 (by decide) (fun c5 => ?_) (fun c5 => ?_)
  · refine lv_iconst (v := 0) hx hb dX0_slipIsPending_40 (by decide) ?_
    have fin : (f_pend st, st) = (0, st) := by
      clear hP hD hS; subst e1; subst e2; subst e3; subst e4; first | exact absurd (by with_reducible rfl) c5 | simp only [f_pend, f_okc, bI, c5, ↓reduceIte, not_true_eq_false, not_false_eq_true, and_self, and_true, true_and, and_false, false_and, eq_self, i10]
    exact cM_retz (Wd := FWd h0 h1 h2 cA cB) (st := st) (st' := st) hx hb hr hlocks dX0_slipIsPending_41 hS hP hD rfl (congrArg Prod.fst fin).symm (congrArg Prod.snd fin).symm
  · refine lv_lload_n hx hb dX0_slipIsPending_32 rfl (lv_at hl 0 rfl) ?_
    refine cS_call (n := 1) (as := [.long v3]) (rest := []) ⟨hx, hb, hml, hown, hts⟩ (c_X0_numberOf l v3) gX0_slipIsPending_X0_numberOf rfl rfl rfl (by decide +kernel) ⟨Nat.le_of_ble_eq_true rfl, Nat.le_of_ble_eq_true rfl⟩ hl.1 rfl rfl (Nat.le_of_ble_eq_true rfl) dX0_slipIsPending_33 ⟨Nat.zero_le _, Nat.zero_le _⟩ ?_
    refine tpi (fun v6 e6 => ?_)
    refine lv_iload_n hx hb dX0_slipIsPending_36 rfl (lv_at hl 2 rfl) ?_
    refine lv_icmp_eq (tgt := 42) hx hb dX0_slipIsPending_37 (by decide) (fun c7 => ?_) (fun c7 => ?_)
    · refine lv_iinc (v := 17) (lv' := [(2, .int 17), (3, .long v3), (1, .int v2), (0, .ref h0)]) hx hb dX0_slipIsPending_42 hl (k := 1) rfl (by decide) (by decide) rfl (fun ls hl => ?_)
      refine lv_goto (tgt := 13) hx hb dX0_slipIsPending_45 (by decide) ?_
      refine lv_iload_n hx hb dX0_slipIsPending_13 rfl (lv_at hl 0 rfl) ?_
      refine lv_bipush (v := 19) hx hb dX0_slipIsPending_14 (by decide) ?_
      refine lv_icmp_gt (tgt := 48) hx hb dX0_slipIsPending_16 (by decide) (fun c0 => absurd c0 (by decide)) (fun _ => ?_)
      refine lv_aload_n hx hb dX0_slipIsPending_19 rfl (lv_at hl 3 rfl) ?_
      refine lv_iload_n hx hb dX0_slipIsPending_20 rfl (lv_at hl 0 rfl) ?_
      refine cM_this (Wd := FWd h0 h1 h2 cA cB) (ci := 0) (q0 := 0) (n := 1) (as := [.int 17]) (rest := []) ⟨hx, hb, hml, hown, hts⟩ (c_X0_foundIn l D h0 h1 h2 cA cB st 17 in20_17) gX0_slipIsPending_X0_foundIn rfl rfl rfl (by decide +kernel) ⟨Nat.le_of_ble_eq_true rfl, Nat.le_of_ble_eq_true rfl⟩ hK hP hD hS hA rfl rfl rfl hl.1 rfl rfl (Nat.le_of_ble_eq_true rfl) dX0_slipIsPending_21 ⟨Nat.zero_le _, Nat.zero_le _⟩ (fun H locs hP hD hS => ?_)
      refine tpl (fun v8 e8 => ?_)
      refine lv_lstore_n (lv' := [(3, .long v8), (2, .int 17), (1, .int v2), (0, .ref h0)]) hx hb dX0_slipIsPending_24 rfl hl (by decide) rfl (fun ls hl => ?_)
      refine lv_lload_n hx hb dX0_slipIsPending_25 rfl (lv_at hl 0 rfl) ?_
      refine cS_call (n := 1) (as := [.long v8]) (rest := []) ⟨hx, hb, hml, hown, hts⟩ (c_X0_isValid l v8) gX0_slipIsPending_X0_isValid rfl rfl rfl (by decide +kernel) ⟨Nat.le_of_ble_eq_true rfl, Nat.le_of_ble_eq_true rfl⟩ hl.1 rfl rfl (Nat.le_of_ble_eq_true rfl) dX0_slipIsPending_26 ⟨Nat.zero_le _, Nat.zero_le _⟩ ?_
      refine tpi (fun v9 e9 => ?_)
      refine lv_if_eq (tgt := 40) hx hb dX0_slipIsPending_29 (by decide) (fun c10 => ?_) (fun c10 => ?_)
      · refine lv_iconst (v := 0) hx hb dX0_slipIsPending_40 (by decide) ?_
        have fin : (f_pend st, st) = (0, st) := by
          clear hP hD hS; subst e1; subst e2; subst e3; subst e4; subst e6; subst e8; subst e9; first | exact absurd (by with_reducible rfl) c10 | simp only [f_pend, f_okc, bI, c5, c10, ↓reduceIte, not_true_eq_false, not_false_eq_true, and_self, and_true, true_and, and_false, false_and, eq_self, i10]
        exact cM_retz (Wd := FWd h0 h1 h2 cA cB) (st := st) (st' := st) hx hb hr hlocks dX0_slipIsPending_41 hS hP hD rfl (congrArg Prod.fst fin).symm (congrArg Prod.snd fin).symm
      · refine lv_lload_n hx hb dX0_slipIsPending_32 rfl (lv_at hl 0 rfl) ?_
        refine cS_call (n := 1) (as := [.long v8]) (rest := []) ⟨hx, hb, hml, hown, hts⟩ (c_X0_numberOf l v8) gX0_slipIsPending_X0_numberOf rfl rfl rfl (by decide +kernel) ⟨Nat.le_of_ble_eq_true rfl, Nat.le_of_ble_eq_true rfl⟩ hl.1 rfl rfl (Nat.le_of_ble_eq_true rfl) dX0_slipIsPending_33 ⟨Nat.zero_le _, Nat.zero_le _⟩ ?_
        refine tpi (fun v11 e11 => ?_)
        refine lv_iload_n hx hb dX0_slipIsPending_36 rfl (lv_at hl 2 rfl) ?_
        refine lv_icmp_eq (tgt := 42) hx hb dX0_slipIsPending_37 (by decide) (fun c12 => ?_) (fun c12 => ?_)
        · refine lv_iinc (v := 18) (lv' := [(2, .int 18), (3, .long v8), (1, .int v2), (0, .ref h0)]) hx hb dX0_slipIsPending_42 hl (k := 1) rfl (by decide) (by decide) rfl (fun ls hl => ?_)
          refine lv_goto (tgt := 13) hx hb dX0_slipIsPending_45 (by decide) ?_
          refine lv_iload_n hx hb dX0_slipIsPending_13 rfl (lv_at hl 0 rfl) ?_
          refine lv_bipush (v := 19) hx hb dX0_slipIsPending_14 (by decide) ?_
          refine lv_icmp_gt (tgt := 48) hx hb dX0_slipIsPending_16 (by decide) (fun c0 => absurd c0 (by decide)) (fun _ => ?_)
          refine lv_aload_n hx hb dX0_slipIsPending_19 rfl (lv_at hl 3 rfl) ?_
          refine lv_iload_n hx hb dX0_slipIsPending_20 rfl (lv_at hl 0 rfl) ?_
          refine cM_this (Wd := FWd h0 h1 h2 cA cB) (ci := 0) (q0 := 0) (n := 1) (as := [.int 18]) (rest := []) ⟨hx, hb, hml, hown, hts⟩ (c_X0_foundIn l D h0 h1 h2 cA cB st 18 in20_18) gX0_slipIsPending_X0_foundIn rfl rfl rfl (by decide +kernel) ⟨Nat.le_of_ble_eq_true rfl, Nat.le_of_ble_eq_true rfl⟩ hK hP hD hS hA rfl rfl rfl hl.1 rfl rfl (Nat.le_of_ble_eq_true rfl) dX0_slipIsPending_21 ⟨Nat.zero_le _, Nat.zero_le _⟩ (fun H locs hP hD hS => ?_)
          refine tpl (fun v13 e13 => ?_)
          refine lv_lstore_n (lv' := [(3, .long v13), (2, .int 18), (1, .int v2), (0, .ref h0)]) hx hb dX0_slipIsPending_24 rfl hl (by decide) rfl (fun ls hl => ?_)
          refine lv_lload_n hx hb dX0_slipIsPending_25 rfl (lv_at hl 0 rfl) ?_
          refine cS_call (n := 1) (as := [.long v13]) (rest := []) ⟨hx, hb, hml, hown, hts⟩ (c_X0_isValid l v13) gX0_slipIsPending_X0_isValid rfl rfl rfl (by decide +kernel) ⟨Nat.le_of_ble_eq_true rfl, Nat.le_of_ble_eq_true rfl⟩ hl.1 rfl rfl (Nat.le_of_ble_eq_true rfl) dX0_slipIsPending_26 ⟨Nat.zero_le _, Nat.zero_le _⟩ ?_
          refine tpi (fun v14 e14 => ?_)
          refine lv_if_eq (tgt := 40) hx hb dX0_slipIsPending_29 (by decide) (fun c15 => ?_) (fun c15 => ?_)
          · refine lv_iconst (v := 0) hx hb dX0_slipIsPending_40 (by decide) ?_
            have fin : (f_pend st, st) = (0, st) := by
              clear hP hD hS; subst e1; subst e2; subst e3; subst e4; subst e6; subst e8; subst e9; subst e11; subst e13; subst e14; first | exact absurd (by with_reducible rfl) c15 | simp only [f_pend, f_okc, bI, c5, c10, c12, c15, ↓reduceIte, not_true_eq_false, not_false_eq_true, and_self, and_true, true_and, and_false, false_and, eq_self, i10]
            exact cM_retz (Wd := FWd h0 h1 h2 cA cB) (st := st) (st' := st) hx hb hr hlocks dX0_slipIsPending_41 hS hP hD rfl (congrArg Prod.fst fin).symm (congrArg Prod.snd fin).symm
          · refine lv_lload_n hx hb dX0_slipIsPending_32 rfl (lv_at hl 0 rfl) ?_
            refine cS_call (n := 1) (as := [.long v13]) (rest := []) ⟨hx, hb, hml, hown, hts⟩ (c_X0_numberOf l v13) gX0_slipIsPending_X0_numberOf rfl rfl rfl (by decide +kernel) ⟨Nat.le_of_ble_eq_true rfl, Nat.le_of_ble_eq_true rfl⟩ hl.1 rfl rfl (Nat.le_of_ble_eq_true rfl) dX0_slipIsPending_33 ⟨Nat.zero_le _, Nat.zero_le _⟩ ?_
            refine tpi (fun v16 e16 => ?_)
            refine lv_iload_n hx hb dX0_slipIsPending_36 rfl (lv_at hl 2 rfl) ?_
            refine lv_icmp_eq (tgt := 42) hx hb dX0_slipIsPending_37 (by decide) (fun c17 => ?_) (fun c17 => ?_)
            · refine lv_iinc (v := 19) (lv' := [(2, .int 19), (3, .long v13), (1, .int v2), (0, .ref h0)]) hx hb dX0_slipIsPending_42 hl (k := 1) rfl (by decide) (by decide) rfl (fun ls hl => ?_)
              refine lv_goto (tgt := 13) hx hb dX0_slipIsPending_45 (by decide) ?_
              refine lv_iload_n hx hb dX0_slipIsPending_13 rfl (lv_at hl 0 rfl) ?_
              refine lv_bipush (v := 19) hx hb dX0_slipIsPending_14 (by decide) ?_
              refine lv_icmp_gt (tgt := 48) hx hb dX0_slipIsPending_16 (by decide) (fun c0 => absurd c0 (by decide)) (fun _ => ?_)
              refine lv_aload_n hx hb dX0_slipIsPending_19 rfl (lv_at hl 3 rfl) ?_
              refine lv_iload_n hx hb dX0_slipIsPending_20 rfl (lv_at hl 0 rfl) ?_
              refine cM_this (Wd := FWd h0 h1 h2 cA cB) (ci := 0) (q0 := 0) (n := 1) (as := [.int 19]) (rest := []) ⟨hx, hb, hml, hown, hts⟩ (c_X0_foundIn l D h0 h1 h2 cA cB st 19 in20_19) gX0_slipIsPending_X0_foundIn rfl rfl rfl (by decide +kernel) ⟨Nat.le_of_ble_eq_true rfl, Nat.le_of_ble_eq_true rfl⟩ hK hP hD hS hA rfl rfl rfl hl.1 rfl rfl (Nat.le_of_ble_eq_true rfl) dX0_slipIsPending_21 ⟨Nat.zero_le _, Nat.zero_le _⟩ (fun H locs hP hD hS => ?_)
              refine tpl (fun v18 e18 => ?_)
              refine lv_lstore_n (lv' := [(3, .long v18), (2, .int 19), (1, .int v2), (0, .ref h0)]) hx hb dX0_slipIsPending_24 rfl hl (by decide) rfl (fun ls hl => ?_)
              refine lv_lload_n hx hb dX0_slipIsPending_25 rfl (lv_at hl 0 rfl) ?_
              refine cS_call (n := 1) (as := [.long v18]) (rest := []) ⟨hx, hb, hml, hown, hts⟩ (c_X0_isValid l v18) gX0_slipIsPending_X0_isValid rfl rfl rfl (by decide +kernel) ⟨Nat.le_of_ble_eq_true rfl, Nat.le_of_ble_eq_true rfl⟩ hl.1 rfl rfl (Nat.le_of_ble_eq_true rfl) dX0_slipIsPending_26 ⟨Nat.zero_le _, Nat.zero_le _⟩ ?_
              refine tpi (fun v19 e19 => ?_)
              refine lv_if_eq (tgt := 40) hx hb dX0_slipIsPending_29 (by decide) (fun c20 => ?_) (fun c20 => ?_)
              · refine lv_iconst (v := 0) hx hb dX0_slipIsPending_40 (by decide) ?_
                have fin : (f_pend st, st) = (0, st) := by
                  clear hP hD hS; subst e1; subst e2; subst e3; subst e4; subst e6; subst e8; subst e9; subst e11; subst e13; subst e14; subst e16; subst e18; subst e19; first | exact absurd (by with_reducible rfl) c20 | simp only [f_pend, f_okc, bI, c5, c10, c12, c15, c17, c20, ↓reduceIte, not_true_eq_false, not_false_eq_true, and_self, and_true, true_and, and_false, false_and, eq_self, i10]
                exact cM_retz (Wd := FWd h0 h1 h2 cA cB) (st := st) (st' := st) hx hb hr hlocks dX0_slipIsPending_41 hS hP hD rfl (congrArg Prod.fst fin).symm (congrArg Prod.snd fin).symm
              · refine lv_lload_n hx hb dX0_slipIsPending_32 rfl (lv_at hl 0 rfl) ?_
                refine cS_call (n := 1) (as := [.long v18]) (rest := []) ⟨hx, hb, hml, hown, hts⟩ (c_X0_numberOf l v18) gX0_slipIsPending_X0_numberOf rfl rfl rfl (by decide +kernel) ⟨Nat.le_of_ble_eq_true rfl, Nat.le_of_ble_eq_true rfl⟩ hl.1 rfl rfl (Nat.le_of_ble_eq_true rfl) dX0_slipIsPending_33 ⟨Nat.zero_le _, Nat.zero_le _⟩ ?_
                refine tpi (fun v21 e21 => ?_)
                refine lv_iload_n hx hb dX0_slipIsPending_36 rfl (lv_at hl 2 rfl) ?_
                refine lv_icmp_eq (tgt := 42) hx hb dX0_slipIsPending_37 (by decide) (fun c22 => ?_) (fun c22 => ?_)
                · refine lv_iinc (v := 20) (lv' := [(2, .int 20), (3, .long v18), (1, .int v2), (0, .ref h0)]) hx hb dX0_slipIsPending_42 hl (k := 1) rfl (by decide) (by decide) rfl (fun ls hl => ?_)
                  refine lv_goto (tgt := 13) hx hb dX0_slipIsPending_45 (by decide) ?_
                  refine lv_iload_n hx hb dX0_slipIsPending_13 rfl (lv_at hl 0 rfl) ?_
                  refine lv_bipush (v := 19) hx hb dX0_slipIsPending_14 (by decide) ?_
                  refine lv_icmp_gt (tgt := 48) hx hb dX0_slipIsPending_16 (by decide) (fun _ => ?_) (fun c0 => absurd c0 (by decide))
                  refine lv_aload_n hx hb dX0_slipIsPending_48 rfl (lv_at hl 3 rfl) ?_
                  refine lv_bipush (v := 19) hx hb dX0_slipIsPending_49 (by decide) ?_
                  refine cM_this (Wd := FWd h0 h1 h2 cA cB) (ci := 0) (q0 := 0) (n := 1) (as := [.int 19]) (rest := []) ⟨hx, hb, hml, hown, hts⟩ (c_X0_foundIn l D h0 h1 h2 cA cB st 19 in20_19) gX0_slipIsPending_X0_foundIn rfl rfl rfl (by decide +kernel) ⟨Nat.le_of_ble_eq_true rfl, Nat.le_of_ble_eq_true rfl⟩ hK hP hD hS hA rfl rfl rfl hl.1 rfl rfl (Nat.le_of_ble_eq_true rfl) dX0_slipIsPending_51 ⟨Nat.zero_le _, Nat.zero_le _⟩ (fun H locs hP hD hS => ?_)
                  refine tpl (fun v23 e23 => ?_)
                  refine cS_call (n := 1) (as := [.long v23]) (rest := []) ⟨hx, hb, hml, hown, hts⟩ (c_X0_balanceOf l v23) gX0_slipIsPending_X0_balanceOf rfl rfl rfl (by decide +kernel) ⟨Nat.le_of_ble_eq_true rfl, Nat.le_of_ble_eq_true rfl⟩ hl.1 rfl rfl (Nat.le_of_ble_eq_true rfl) dX0_slipIsPending_54 ⟨Nat.zero_le _, Nat.zero_le _⟩ ?_
                  refine tpi (fun v24 e24 => ?_)
                  refine lv_istore_n (lv' := [(2, .int v24), (3, .long v18), (1, .int v2), (0, .ref h0)]) hx hb dX0_slipIsPending_57 rfl hl (by decide) rfl (fun ls hl => ?_)
                  refine lv_iload_n hx hb dX0_slipIsPending_58 rfl (lv_at hl 0 rfl) ?_
                  refine lv_ldc (v := 65536) hx hb hown (hts (.constant RX0 91 65536) (by decide +kernel)) dX0_slipIsPending_59 ?_
                  refine lv_iand hx hb dX0_slipIsPending_61 ?_
                  refine tpi (fun v25 e25 => ?_)
                  refine lv_if_eq (tgt := 89) hx hb dX0_slipIsPending_62 (by decide) (fun c26 => ?_) (fun c26 => ?_)
                  · refine lv_iconst (v := 0) hx hb dX0_slipIsPending_89 (by decide) ?_
                    have fin : (f_pend st, st) = (0, st) := by
                      clear hP hD hS; subst e1; subst e2; subst e3; subst e4; subst e6; subst e8; subst e9; subst e11; subst e13; subst e14; subst e16; subst e18; subst e19; subst e21; subst e23; subst e24; subst e25; first | exact absurd (by with_reducible rfl) c26 | simp only [f_pend, f_okc, bI, c5, c10, c12, c15, c17, c20, c22, c26, ↓reduceIte, not_true_eq_false, not_false_eq_true, and_self, and_true, true_and, and_false, false_and, eq_self, i10]
                    exact cM_retz (Wd := FWd h0 h1 h2 cA cB) (st := st) (st' := st) hx hb hr hlocks dX0_slipIsPending_90 hS hP hD rfl (congrArg Prod.fst fin).symm (congrArg Prod.snd fin).symm
                  · refine lv_iload_n hx hb dX0_slipIsPending_65 rfl (lv_at hl 0 rfl) ?_
                    refine cS_call (n := 1) (as := [.int v24]) (rest := []) ⟨hx, hb, hml, hown, hts⟩ (c_X0_fromOf l v24) gX0_slipIsPending_X0_fromOf rfl rfl rfl (by decide +kernel) ⟨Nat.le_of_ble_eq_true rfl, Nat.le_of_ble_eq_true rfl⟩ hl.1 rfl rfl (Nat.le_of_ble_eq_true rfl) dX0_slipIsPending_66 ⟨Nat.zero_le _, Nat.zero_le _⟩ ?_
                    refine tpi (fun v27 e27 => ?_)
                    refine cS_call (n := 1) (as := [.int v27]) (rest := []) ⟨hx, hb, hml, hown, hts⟩ (c_X0_isAccount l v27) gX0_slipIsPending_X0_isAccount rfl rfl rfl (by decide +kernel) ⟨Nat.le_of_ble_eq_true rfl, Nat.le_of_ble_eq_true rfl⟩ hl.1 rfl rfl (Nat.le_of_ble_eq_true rfl) dX0_slipIsPending_69 ⟨Nat.zero_le _, Nat.zero_le _⟩ ?_
                    refine tpi (fun v28 e28 => ?_)
                    refine lv_if_eq (tgt := 89) hx hb dX0_slipIsPending_72 (by decide) (fun c29 => ?_) (fun c29 => ?_)
                    · refine lv_iconst (v := 0) hx hb dX0_slipIsPending_89 (by decide) ?_
                      have fin : (f_pend st, st) = (0, st) := by
                        clear hP hD hS; subst e1; subst e2; subst e3; subst e4; subst e6; subst e8; subst e9; subst e11; subst e13; subst e14; subst e16; subst e18; subst e19; subst e21; subst e23; subst e24; subst e25; subst e27; subst e28; first | exact absurd (by with_reducible rfl) c29 | simp only [f_pend, f_okc, bI, c5, c10, c12, c15, c17, c20, c22, c26, c29, ↓reduceIte, not_true_eq_false, not_false_eq_true, and_self, and_true, true_and, and_false, false_and, eq_self, i10]
                      exact cM_retz (Wd := FWd h0 h1 h2 cA cB) (st := st) (st' := st) hx hb hr hlocks dX0_slipIsPending_90 hS hP hD rfl (congrArg Prod.fst fin).symm (congrArg Prod.snd fin).symm
                    · refine lv_iload_n hx hb dX0_slipIsPending_75 rfl (lv_at hl 0 rfl) ?_
                      refine cS_call (n := 1) (as := [.int v24]) (rest := []) ⟨hx, hb, hml, hown, hts⟩ (c_X0_toOf l v24) gX0_slipIsPending_X0_toOf rfl rfl rfl (by decide +kernel) ⟨Nat.le_of_ble_eq_true rfl, Nat.le_of_ble_eq_true rfl⟩ hl.1 rfl rfl (Nat.le_of_ble_eq_true rfl) dX0_slipIsPending_76 ⟨Nat.zero_le _, Nat.zero_le _⟩ ?_
                      refine tpi (fun v30 e30 => ?_)
                      refine cS_call (n := 1) (as := [.int v30]) (rest := []) ⟨hx, hb, hml, hown, hts⟩ (c_X0_isAccount l v30) gX0_slipIsPending_X0_isAccount rfl rfl rfl (by decide +kernel) ⟨Nat.le_of_ble_eq_true rfl, Nat.le_of_ble_eq_true rfl⟩ hl.1 rfl rfl (Nat.le_of_ble_eq_true rfl) dX0_slipIsPending_79 ⟨Nat.zero_le _, Nat.zero_le _⟩ ?_
                      refine tpi (fun v31 e31 => ?_)
                      refine lv_if_eq (tgt := 89) hx hb dX0_slipIsPending_82 (by decide) (fun c32 => ?_) (fun c32 => ?_)
                      · refine lv_iconst (v := 0) hx hb dX0_slipIsPending_89 (by decide) ?_
                        have fin : (f_pend st, st) = (0, st) := by
                          clear hP hD hS; subst e1; subst e2; subst e3; subst e4; subst e6; subst e8; subst e9; subst e11; subst e13; subst e14; subst e16; subst e18; subst e19; subst e21; subst e23; subst e24; subst e25; subst e27; subst e28; subst e30; subst e31; first | exact absurd (by with_reducible rfl) c32 | simp only [f_pend, f_okc, bI, c5, c10, c12, c15, c17, c20, c22, c26, c29, c32, ↓reduceIte, not_true_eq_false, not_false_eq_true, and_self, and_true, true_and, and_false, false_and, eq_self, i10]
                        exact cM_retz (Wd := FWd h0 h1 h2 cA cB) (st := st) (st' := st) hx hb hr hlocks dX0_slipIsPending_90 hS hP hD rfl (congrArg Prod.fst fin).symm (congrArg Prod.snd fin).symm
                      · refine lv_iconst (v := 1) hx hb dX0_slipIsPending_85 (by decide) ?_
                        refine lv_goto (tgt := 90) hx hb dX0_slipIsPending_86 (by decide) ?_
                        have fin : (f_pend st, st) = (1, st) := by
                          clear hP hD hS; subst e1; subst e2; subst e3; subst e4; subst e6; subst e8; subst e9; subst e11; subst e13; subst e14; subst e16; subst e18; subst e19; subst e21; subst e23; subst e24; subst e25; subst e27; subst e28; subst e30; subst e31; first | exact absurd (by with_reducible rfl) c32 | simp only [f_pend, f_okc, bI, c5, c10, c12, c15, c17, c20, c22, c26, c29, c32, ↓reduceIte, not_true_eq_false, not_false_eq_true, and_self, and_true, true_and, and_false, false_and, eq_self, i10]
                        exact cM_retz (Wd := FWd h0 h1 h2 cA cB) (st := st) (st' := st) hx hb hr hlocks dX0_slipIsPending_90 hS hP hD rfl (congrArg Prod.fst fin).symm (congrArg Prod.snd fin).symm
                · refine lv_iconst (v := 0) hx hb dX0_slipIsPending_40 (by decide) ?_
                  have fin : (f_pend st, st) = (0, st) := by
                    clear hP hD hS; subst e1; subst e2; subst e3; subst e4; subst e6; subst e8; subst e9; subst e11; subst e13; subst e14; subst e16; subst e18; subst e19; subst e21; first | exact absurd (by with_reducible rfl) c22 | simp only [f_pend, f_okc, bI, c5, c10, c12, c15, c17, c20, c22, ↓reduceIte, not_true_eq_false, not_false_eq_true, and_self, and_true, true_and, and_false, false_and, eq_self, i10]
                  exact cM_retz (Wd := FWd h0 h1 h2 cA cB) (st := st) (st' := st) hx hb hr hlocks dX0_slipIsPending_41 hS hP hD rfl (congrArg Prod.fst fin).symm (congrArg Prod.snd fin).symm
            · refine lv_iconst (v := 0) hx hb dX0_slipIsPending_40 (by decide) ?_
              have fin : (f_pend st, st) = (0, st) := by
                clear hP hD hS; subst e1; subst e2; subst e3; subst e4; subst e6; subst e8; subst e9; subst e11; subst e13; subst e14; subst e16; first | exact absurd (by with_reducible rfl) c17 | simp only [f_pend, f_okc, bI, c5, c10, c12, c15, c17, ↓reduceIte, not_true_eq_false, not_false_eq_true, and_self, and_true, true_and, and_false, false_and, eq_self, i10]
              exact cM_retz (Wd := FWd h0 h1 h2 cA cB) (st := st) (st' := st) hx hb hr hlocks dX0_slipIsPending_41 hS hP hD rfl (congrArg Prod.fst fin).symm (congrArg Prod.snd fin).symm
        · refine lv_iconst (v := 0) hx hb dX0_slipIsPending_40 (by decide) ?_
          have fin : (f_pend st, st) = (0, st) := by
            clear hP hD hS; subst e1; subst e2; subst e3; subst e4; subst e6; subst e8; subst e9; subst e11; first | exact absurd (by with_reducible rfl) c12 | simp only [f_pend, f_okc, bI, c5, c10, c12, ↓reduceIte, not_true_eq_false, not_false_eq_true, and_self, and_true, true_and, and_false, false_and, eq_self, i10]
          exact cM_retz (Wd := FWd h0 h1 h2 cA cB) (st := st) (st' := st) hx hb hr hlocks dX0_slipIsPending_41 hS hP hD rfl (congrArg Prod.fst fin).symm (congrArg Prod.snd fin).symm
    · refine lv_iconst (v := 0) hx hb dX0_slipIsPending_40 (by decide) ?_
      have fin : (f_pend st, st) = (0, st) := by
        clear hP hD hS; subst e1; subst e2; subst e3; subst e4; subst e6; first | exact absurd (by with_reducible rfl) c7 | simp only [f_pend, f_okc, bI, c5, c7, ↓reduceIte, not_true_eq_false, not_false_eq_true, and_self, and_true, true_and, and_false, false_and, eq_self, i10]
      exact cM_retz (Wd := FWd h0 h1 h2 cA cB) (st := st) (st' := st) hx hb hr hlocks dX0_slipIsPending_41 hS hP hD rfl (congrArg Prod.fst fin).symm (congrArg Prod.snd fin).symm
abbrev rmX0_finishAccount : Room := { frames := 4, cells := 0, slots := 0, locals := 88 }
-- finishAccount
set_option maxHeartbeats 400000 in
set_option maxRecDepth 100000 in
theorem c_X0_finishAccount (l : Launch) (D : va_G) (h0 h1 h2 : Nat) (cA cB : ClassId) (st : FS) (a : Int32) (ch : Int32) (nn : Int32) (hc : vp_in a 20) : cM l D vwCl (FT cA cB) (FWd h0 h1 h2 cA cB) yX0_finishAccount wsX0_finishAccount rmX0_finishAccount [.ref h0, .int a, .int ch, .int nn] st none (f_finA a ch nn st) := by
  refine cM_in (cc := cX0_finishAccount) (maxL := 6) (ret := none) (by decide) rfl (Nat.le_of_ble_eq_true rfl) ?_
  intro p e s m below meth c ls A hx hb hr hlocks hml hown hts hA hK hP hD hS hl
  have hown : s.vm.findClass RX0 = some m.cls := hown
  have hl : lv_has ls 6 [(0, .ref h0), (1, .int a), (2, .int ch), (3, .int nn)] := hl
  -- walk
  refine lv_aload_n hx hb dX0_finishAccount_0 rfl (lv_at hl 0 rfl) ?_
  refine lv_iload_n hx hb dX0_finishAccount_1 rfl (lv_at hl 1 rfl) ?_
  refine cM_this (Wd := FWd h0 h1 h2 cA cB) (ci := 0) (q0 := 0) (n := 1) (as := [.int a]) (rest := []) ⟨hx, hb, hml, hown, hts⟩ (c_X0_foundIn l D h0 h1 h2 cA cB st a hc) gX0_finishAccount_X0_foundIn rfl rfl rfl (by decide +kernel) ⟨Nat.le_of_ble_eq_true rfl, Nat.le_of_ble_eq_true rfl⟩ hK hP hD hS hA rfl rfl rfl hl.1 rfl rfl (Nat.le_of_ble_eq_true rfl) dX0_finishAccount_2 ⟨Nat.zero_le _, Nat.zero_le _⟩ (fun H locs hP hD hS => ?_)
  refine tpl (fun v1 e1 => ?_)
  refine lv_lstore (lv' := [(4, .long v1), (0, .ref h0), (1, .int a), (2, .int ch), (3, .int nn)]) hx hb dX0_finishAccount_5 hl (by decide) rfl (fun ls hl => ?_)
  refine lv_lload hx hb dX0_finishAccount_7 (lv_at hl 0 rfl) ?_
  refine cS_call (n := 1) (as := [.long v1]) (rest := []) ⟨hx, hb, hml, hown, hts⟩ (c_X0_isValid l v1) gX0_finishAccount_X0_isValid rfl rfl rfl (by decide +kernel) ⟨Nat.le_of_ble_eq_true rfl, Nat.le_of_ble_eq_true rfl⟩ hl.1 rfl rfl (Nat.le_of_ble_eq_true rfl) dX0_finishAccount_9 ⟨Nat.zero_le _, Nat.zero_le _⟩ ?_
  refine tpi (fun v2 e2 => ?_)
  refine lv_if_eq (tgt := 40) hx hb dX0_finishAccount_12 (by decide) (fun c3 => ?_) (fun c3 => ?_)
  · have fin : (f_finA a ch nn st) = st := by clear hP hD hS; subst e1; subst e2; simp only [f_finA, c3, ↓reduceIte, not_true_eq_false, not_false_eq_true, and_self, and_true, true_and, and_false, false_and, eq_self]
    exact cM_retv (Wd := FWd h0 h1 h2 cA cB) (st := st) (st' := (f_finA a ch nn st)) hx hb hr hlocks dX0_finishAccount_40 hS hP hD fin.symm
  · refine lv_lload hx hb dX0_finishAccount_15 (lv_at hl 0 rfl) ?_
    refine cS_call (n := 1) (as := [.long v1]) (rest := []) ⟨hx, hb, hml, hown, hts⟩ (c_X0_numberOf l v1) gX0_finishAccount_X0_numberOf rfl rfl rfl (by decide +kernel) ⟨Nat.le_of_ble_eq_true rfl, Nat.le_of_ble_eq_true rfl⟩ hl.1 rfl rfl (Nat.le_of_ble_eq_true rfl) dX0_finishAccount_17 ⟨Nat.zero_le _, Nat.zero_le _⟩ ?_
    refine tpi (fun v4 e4 => ?_)
    refine lv_iload_n hx hb dX0_finishAccount_20 rfl (lv_at hl 4 rfl) ?_
    refine lv_icmp_ge (tgt := 40) hx hb dX0_finishAccount_21 (by decide) (fun c5 => ?_) (fun c5 => ?_)
    · have fin : (f_finA a ch nn st) = st := by clear hP hD hS; subst e1; subst e2; subst e4; simp only [f_finA, c3, c5, ↓reduceIte, not_true_eq_false, not_false_eq_true, and_self, and_true, true_and, and_false, false_and, eq_self]
      exact cM_retv (Wd := FWd h0 h1 h2 cA cB) (st := st) (st' := (f_finA a ch nn st)) hx hb hr hlocks dX0_finishAccount_40 hS hP hD fin.symm
    · refine lv_aload_n hx hb dX0_finishAccount_24 rfl (lv_at hl 1 rfl) ?_
      refine lv_iload_n hx hb dX0_finishAccount_25 rfl (lv_at hl 2 rfl) ?_
      refine lv_lload hx hb dX0_finishAccount_26 (lv_at hl 0 rfl) ?_
      refine cS_call (n := 1) (as := [.long v1]) (rest := [.int a, .ref h0]) ⟨hx, hb, hml, hown, hts⟩ (c_X0_balanceOf l v1) gX0_finishAccount_X0_balanceOf rfl rfl rfl (by decide +kernel) ⟨Nat.le_of_ble_eq_true rfl, Nat.le_of_ble_eq_true rfl⟩ hl.1 rfl rfl (Nat.le_of_ble_eq_true rfl) dX0_finishAccount_28 ⟨Nat.zero_le _, Nat.zero_le _⟩ ?_
      refine tpi (fun v6 e6 => ?_)
      refine lv_iload_n hx hb dX0_finishAccount_31 rfl (lv_at hl 3 rfl) ?_
      refine lv_iadd hx hb dX0_finishAccount_32 ?_
      refine tpi (fun v7 e7 => ?_)
      refine lv_iload_n hx hb dX0_finishAccount_33 rfl (lv_at hl 4 rfl) ?_
      refine cS_call (n := 2) (as := [.int v7, .int nn]) (rest := [.int a, .ref h0]) ⟨hx, hb, hml, hown, hts⟩ (c_X0_makeWord l v7 nn) gX0_finishAccount_X0_makeWord rfl rfl rfl (by decide +kernel) ⟨Nat.le_of_ble_eq_true rfl, Nat.le_of_ble_eq_true rfl⟩ hl.1 rfl rfl (Nat.le_of_ble_eq_true rfl) dX0_finishAccount_34 ⟨Nat.zero_le _, Nat.zero_le _⟩ ?_
      refine tpl (fun v8 e8 => ?_)
      refine cM_this (Wd := FWd h0 h1 h2 cA cB) (ci := 0) (q0 := 0) (n := 2) (as := [.int a, .long v8]) (rest := []) ⟨hx, hb, hml, hown, hts⟩ (c_X0_put l D h0 h1 h2 cA cB st a v8 hc) gX0_finishAccount_X0_put rfl rfl rfl (by decide +kernel) ⟨Nat.le_of_ble_eq_true rfl, Nat.le_of_ble_eq_true rfl⟩ hK hP hD hS hA rfl rfl rfl hl.1 rfl rfl (Nat.le_of_ble_eq_true rfl) dX0_finishAccount_37 ⟨Nat.zero_le _, Nat.zero_le _⟩ (fun H locs hP hD hS => ?_)
      refine W.eq (g2 := F0 m 40 ls []) rfl ?_
      obtain ⟨s9, t9⟩ : ∃ y9 : FS, f_put a v8 st = y9 := ⟨_, rfl⟩
      replace hP : va_P D vwCl (FWd h0 h1 h2 cA cB s9) H := by rw [← t9]; exact hP
      replace hD : va_D A (FWd h0 h1 h2 cA cB s9) := by rw [← t9]; exact hD
      have fin : (f_finA a ch nn st) = s9 := by clear hP hD hS; subst e1; subst e2; subst e4; subst e6; subst e7; subst e8; subst t9; simp only [f_finA, c3, c5, ↓reduceIte, not_true_eq_false, not_false_eq_true, and_self, and_true, true_and, and_false, false_and, eq_self]
      exact cM_retv (Wd := FWd h0 h1 h2 cA cB) (st := s9) (st' := (f_finA a ch nn st)) hx hb hr hlocks dX0_finishAccount_40 hS hP hD fin.symm
abbrev rmX0_finishTransfer : Room := { frames := 5, cells := 0, slots := 0, locals := 113 }
-- finishTransfer
set_option maxHeartbeats 400000 in
set_option maxRecDepth 100000 in
theorem c_X0_finishTransfer (l : Launch) (D : va_G) (h0 h1 h2 : Nat) (cA cB : ClassId) (st : FS)  (hF : vp_in (f_from (f_bal (f_found 19 st))) 20) (hT : vp_in (f_to (f_bal (f_found 19 st))) 20) : cM l D vwCl (FT cA cB) (FWd h0 h1 h2 cA cB) yX0_finishTransfer wsX0_finishTransfer rmX0_finishTransfer [.ref h0] st none (f_fin st) := by
  refine cM_in (cc := cX0_finishTransfer) (maxL := 5) (ret := none) (by decide) rfl (Nat.le_of_ble_eq_true rfl) ?_
  intro p e s m below meth c ls A hx hb hr hlocks hml hown hts hA hK hP hD hS hl
  have hown : s.vm.findClass RX0 = some m.cls := hown
  have hl : lv_has ls 5 [(0, .ref h0)] := hl
  -- walk
  refine lv_aload_n hx hb dX0_finishTransfer_0 rfl (lv_at hl 0 rfl) ?_
  refine lv_bipush (v := 19) hx hb dX0_finishTransfer_1 (by decide) ?_
  refine cM_this (Wd := FWd h0 h1 h2 cA cB) (ci := 0) (q0 := 0) (n := 1) (as := [.int 19]) (rest := []) ⟨hx, hb, hml, hown, hts⟩ (c_X0_foundIn l D h0 h1 h2 cA cB st 19 in20_19) gX0_finishTransfer_X0_foundIn rfl rfl rfl (by decide +kernel) ⟨Nat.le_of_ble_eq_true rfl, Nat.le_of_ble_eq_true rfl⟩ hK hP hD hS hA rfl rfl rfl hl.1 rfl rfl (Nat.le_of_ble_eq_true rfl) dX0_finishTransfer_3 ⟨Nat.zero_le _, Nat.zero_le _⟩ (fun H locs hP hD hS => ?_)
  refine tpl (fun v1 e1 => ?_)
  refine lv_lstore_n (lv' := [(1, .long v1), (0, .ref h0)]) hx hb dX0_finishTransfer_6 rfl hl (by decide) rfl (fun ls hl => ?_)
  refine lv_lload_n hx hb dX0_finishTransfer_7 rfl (lv_at hl 0 rfl) ?_
  refine cS_call (n := 1) (as := [.long v1]) (rest := []) ⟨hx, hb, hml, hown, hts⟩ (c_X0_balanceOf l v1) gX0_finishTransfer_X0_balanceOf rfl rfl rfl (by decide +kernel) ⟨Nat.le_of_ble_eq_true rfl, Nat.le_of_ble_eq_true rfl⟩ hl.1 rfl rfl (Nat.le_of_ble_eq_true rfl) dX0_finishTransfer_8 ⟨Nat.zero_le _, Nat.zero_le _⟩ ?_
  refine tpi (fun v2 e2 => ?_)
  refine lv_istore_n (lv' := [(3, .int v2), (1, .long v1), (0, .ref h0)]) hx hb dX0_finishTransfer_11 rfl hl (by decide) rfl (fun ls hl => ?_)
  refine lv_aload_n hx hb dX0_finishTransfer_12 rfl (lv_at hl 2 rfl) ?_
  refine lv_bipush (v := 16) hx hb dX0_finishTransfer_13 (by decide) ?_
  refine cM_this (Wd := FWd h0 h1 h2 cA cB) (ci := 0) (q0 := 0) (n := 1) (as := [.int 16]) (rest := []) ⟨hx, hb, hml, hown, hts⟩ (c_X0_foundIn l D h0 h1 h2 cA cB st 16 in20_16) gX0_finishTransfer_X0_foundIn rfl rfl rfl (by decide +kernel) ⟨Nat.le_of_ble_eq_true rfl, Nat.le_of_ble_eq_true rfl⟩ hK hP hD hS hA rfl rfl rfl hl.1 rfl rfl (Nat.le_of_ble_eq_true rfl) dX0_finishTransfer_15 ⟨Nat.zero_le _, Nat.zero_le _⟩ (fun H locs hP hD hS => ?_)
  refine tpl (fun v3 e3 => ?_)
  refine cS_call (n := 1) (as := [.long v3]) (rest := []) ⟨hx, hb, hml, hown, hts⟩ (c_X0_balanceOf l v3) gX0_finishTransfer_X0_balanceOf rfl rfl rfl (by decide +kernel) ⟨Nat.le_of_ble_eq_true rfl, Nat.le_of_ble_eq_true rfl⟩ hl.1 rfl rfl (Nat.le_of_ble_eq_true rfl) dX0_finishTransfer_18 ⟨Nat.zero_le _, Nat.zero_le _⟩ ?_
  refine tpi (fun v4 e4 => ?_)
  refine lv_istore (lv' := [(4, .int v4), (3, .int v2), (1, .long v1), (0, .ref h0)]) hx hb dX0_finishTransfer_21 hl (by decide) rfl (fun ls hl => ?_)
  refine lv_aload_n hx hb dX0_finishTransfer_23 rfl (lv_at hl 3 rfl) ?_
  refine lv_iload_n hx hb dX0_finishTransfer_24 rfl (lv_at hl 1 rfl) ?_
  refine cS_call (n := 1) (as := [.int v2]) (rest := [.ref h0]) ⟨hx, hb, hml, hown, hts⟩ (c_X0_fromOf l v2) gX0_finishTransfer_X0_fromOf rfl rfl rfl (by decide +kernel) ⟨Nat.le_of_ble_eq_true rfl, Nat.le_of_ble_eq_true rfl⟩ hl.1 rfl rfl (Nat.le_of_ble_eq_true rfl) dX0_finishTransfer_25 ⟨Nat.zero_le _, Nat.zero_le _⟩ ?_
  refine tpi (fun v5 e5 => ?_)
  refine lv_iload hx hb dX0_finishTransfer_28 (lv_at hl 0 rfl) ?_
  refine lv_ineg hx hb dX0_finishTransfer_30 ?_
  refine tpi (fun v6 e6 => ?_)
  refine lv_aload_n hx hb dX0_finishTransfer_31 rfl (lv_at hl 3 rfl) ?_
  refine lv_bipush (v := 17) hx hb dX0_finishTransfer_32 (by decide) ?_
  refine cM_this (Wd := FWd h0 h1 h2 cA cB) (ci := 0) (q0 := 0) (n := 1) (as := [.int 17]) (rest := [.int v6, .int v5, .ref h0]) ⟨hx, hb, hml, hown, hts⟩ (c_X0_foundIn l D h0 h1 h2 cA cB st 17 in20_17) gX0_finishTransfer_X0_foundIn rfl rfl rfl (by decide +kernel) ⟨Nat.le_of_ble_eq_true rfl, Nat.le_of_ble_eq_true rfl⟩ hK hP hD hS hA rfl rfl rfl hl.1 rfl rfl (Nat.le_of_ble_eq_true rfl) dX0_finishTransfer_34 ⟨Nat.zero_le _, Nat.zero_le _⟩ (fun H locs hP hD hS => ?_)
  refine tpl (fun v7 e7 => ?_)
  refine cS_call (n := 1) (as := [.long v7]) (rest := [.int v6, .int v5, .ref h0]) ⟨hx, hb, hml, hown, hts⟩ (c_X0_balanceOf l v7) gX0_finishTransfer_X0_balanceOf rfl rfl rfl (by decide +kernel) ⟨Nat.le_of_ble_eq_true rfl, Nat.le_of_ble_eq_true rfl⟩ hl.1 rfl rfl (Nat.le_of_ble_eq_true rfl) dX0_finishTransfer_37 ⟨Nat.zero_le _, Nat.zero_le _⟩ ?_
  refine tpi (fun v8 e8 => ?_)
  refine cM_this (Wd := FWd h0 h1 h2 cA cB) (ci := 0) (q0 := 0) (n := 3) (as := [.int v5, .int v6, .int v8]) (rest := []) ⟨hx, hb, hml, hown, hts⟩ (c_X0_finishAccount l D h0 h1 h2 cA cB st v5 v6 v8 (by rw [← e5, ← e2, ← e1]; exact hF)) gX0_finishTransfer_X0_finishAccount rfl rfl rfl (by decide +kernel) ⟨Nat.le_of_ble_eq_true rfl, Nat.le_of_ble_eq_true rfl⟩ hK hP hD hS hA rfl rfl rfl hl.1 rfl rfl (Nat.le_of_ble_eq_true rfl) dX0_finishTransfer_40 ⟨Nat.zero_le _, Nat.zero_le _⟩ (fun H locs hP hD hS => ?_)
  refine W.eq (g2 := F0 m 43 ls []) rfl ?_
  obtain ⟨s9, t9⟩ : ∃ y9 : FS, f_finA v5 v6 v8 st = y9 := ⟨_, rfl⟩
  replace hP : va_P D vwCl (FWd h0 h1 h2 cA cB s9) H := by rw [← t9]; exact hP
  replace hD : va_D A (FWd h0 h1 h2 cA cB s9) := by rw [← t9]; exact hD
  refine lv_aload_n hx hb dX0_finishTransfer_43 rfl (lv_at hl 3 rfl) ?_
  refine lv_iload_n hx hb dX0_finishTransfer_44 rfl (lv_at hl 1 rfl) ?_
  refine cS_call (n := 1) (as := [.int v2]) (rest := [.ref h0]) ⟨hx, hb, hml, hown, hts⟩ (c_X0_toOf l v2) gX0_finishTransfer_X0_toOf rfl rfl rfl (by decide +kernel) ⟨Nat.le_of_ble_eq_true rfl, Nat.le_of_ble_eq_true rfl⟩ hl.1 rfl rfl (Nat.le_of_ble_eq_true rfl) dX0_finishTransfer_45 ⟨Nat.zero_le _, Nat.zero_le _⟩ ?_
  refine tpi (fun v10 e10 => ?_)
  refine lv_iload hx hb dX0_finishTransfer_48 (lv_at hl 0 rfl) ?_
  refine lv_aload_n hx hb dX0_finishTransfer_50 rfl (lv_at hl 3 rfl) ?_
  refine lv_bipush (v := 18) hx hb dX0_finishTransfer_51 (by decide) ?_
  refine cM_this (Wd := FWd h0 h1 h2 cA cB) (ci := 0) (q0 := 0) (n := 1) (as := [.int 18]) (rest := [.int v4, .int v10, .ref h0]) ⟨hx, hb, hml, hown, hts⟩ (c_X0_foundIn l D h0 h1 h2 cA cB s9 18 in20_18) gX0_finishTransfer_X0_foundIn rfl rfl rfl (by decide +kernel) ⟨Nat.le_of_ble_eq_true rfl, Nat.le_of_ble_eq_true rfl⟩ hK hP hD hS hA rfl rfl rfl hl.1 rfl rfl (Nat.le_of_ble_eq_true rfl) dX0_finishTransfer_53 ⟨Nat.zero_le _, Nat.zero_le _⟩ (fun H locs hP hD hS => ?_)
  refine tpl (fun v11 e11 => ?_)
  refine cS_call (n := 1) (as := [.long v11]) (rest := [.int v4, .int v10, .ref h0]) ⟨hx, hb, hml, hown, hts⟩ (c_X0_balanceOf l v11) gX0_finishTransfer_X0_balanceOf rfl rfl rfl (by decide +kernel) ⟨Nat.le_of_ble_eq_true rfl, Nat.le_of_ble_eq_true rfl⟩ hl.1 rfl rfl (Nat.le_of_ble_eq_true rfl) dX0_finishTransfer_56 ⟨Nat.zero_le _, Nat.zero_le _⟩ ?_
  refine tpi (fun v12 e12 => ?_)
  refine cM_this (Wd := FWd h0 h1 h2 cA cB) (ci := 0) (q0 := 0) (n := 3) (as := [.int v10, .int v4, .int v12]) (rest := []) ⟨hx, hb, hml, hown, hts⟩ (c_X0_finishAccount l D h0 h1 h2 cA cB s9 v10 v4 v12 (by rw [← e10, ← e2, ← e1]; exact hT)) gX0_finishTransfer_X0_finishAccount rfl rfl rfl (by decide +kernel) ⟨Nat.le_of_ble_eq_true rfl, Nat.le_of_ble_eq_true rfl⟩ hK hP hD hS hA rfl rfl rfl hl.1 rfl rfl (Nat.le_of_ble_eq_true rfl) dX0_finishTransfer_59 ⟨Nat.zero_le _, Nat.zero_le _⟩ (fun H locs hP hD hS => ?_)
  refine W.eq (g2 := F0 m 62 ls []) rfl ?_
  obtain ⟨s13, t13⟩ : ∃ y9 : FS, f_finA v10 v4 v12 s9 = y9 := ⟨_, rfl⟩
  replace hP : va_P D vwCl (FWd h0 h1 h2 cA cB s13) H := by rw [← t13]; exact hP
  replace hD : va_D A (FWd h0 h1 h2 cA cB s13) := by rw [← t13]; exact hD
  refine lv_aload_n hx hb dX0_finishTransfer_62 rfl (lv_at hl 3 rfl) ?_
  refine lv_bipush (v := 19) hx hb dX0_finishTransfer_63 (by decide) ?_
  refine lv_iload_n hx hb dX0_finishTransfer_65 rfl (lv_at hl 1 rfl) ?_
  refine lv_ldc (v := 65536) hx hb hown (hts (.constant RX0 91 65536) (by decide +kernel)) dX0_finishTransfer_66 ?_
  refine lv_isub hx hb dX0_finishTransfer_68 ?_
  refine tpi (fun v14 e14 => ?_)
  refine lv_ldc (v := 131072) hx hb hown (hts (.constant RX0 92 131072) (by decide +kernel)) dX0_finishTransfer_69 ?_
  refine lv_iadd hx hb dX0_finishTransfer_71 ?_
  refine tpi (fun v15 e15 => ?_)
  refine lv_lload_n hx hb dX0_finishTransfer_72 rfl (lv_at hl 2 rfl) ?_
  refine cS_call (n := 1) (as := [.long v1]) (rest := [.int v15, .int 19, .ref h0]) ⟨hx, hb, hml, hown, hts⟩ (c_X0_numberOf l v1) gX0_finishTransfer_X0_numberOf rfl rfl rfl (by decide +kernel) ⟨Nat.le_of_ble_eq_true rfl, Nat.le_of_ble_eq_true rfl⟩ hl.1 rfl rfl (Nat.le_of_ble_eq_true rfl) dX0_finishTransfer_73 ⟨Nat.zero_le _, Nat.zero_le _⟩ ?_
  refine tpi (fun v16 e16 => ?_)
  refine cS_call (n := 2) (as := [.int v15, .int v16]) (rest := [.int 19, .ref h0]) ⟨hx, hb, hml, hown, hts⟩ (c_X0_makeWord l v15 v16) gX0_finishTransfer_X0_makeWord rfl rfl rfl (by decide +kernel) ⟨Nat.le_of_ble_eq_true rfl, Nat.le_of_ble_eq_true rfl⟩ hl.1 rfl rfl (Nat.le_of_ble_eq_true rfl) dX0_finishTransfer_76 ⟨Nat.zero_le _, Nat.zero_le _⟩ ?_
  refine tpl (fun v17 e17 => ?_)
  refine cM_this (Wd := FWd h0 h1 h2 cA cB) (ci := 0) (q0 := 0) (n := 2) (as := [.int 19, .long v17]) (rest := []) ⟨hx, hb, hml, hown, hts⟩ (c_X0_put l D h0 h1 h2 cA cB s13 19 v17 in20_19) gX0_finishTransfer_X0_put rfl rfl rfl (by decide +kernel) ⟨Nat.le_of_ble_eq_true rfl, Nat.le_of_ble_eq_true rfl⟩ hK hP hD hS hA rfl rfl rfl hl.1 rfl rfl (Nat.le_of_ble_eq_true rfl) dX0_finishTransfer_79 ⟨Nat.zero_le _, Nat.zero_le _⟩ (fun H locs hP hD hS => ?_)
  refine W.eq (g2 := F0 m 82 ls []) rfl ?_
  obtain ⟨s18, t18⟩ : ∃ y9 : FS, f_put 19 v17 s13 = y9 := ⟨_, rfl⟩
  replace hP : va_P D vwCl (FWd h0 h1 h2 cA cB s18) H := by rw [← t18]; exact hP
  replace hD : va_D A (FWd h0 h1 h2 cA cB s18) := by rw [← t18]; exact hD
  have fin : (f_fin st) = s18 := by clear hP hD hS; subst e1; subst e2; subst e3; subst e4; subst e5; subst e6; subst e7; subst e8; subst t9; subst e10; subst e11; subst e12; subst t13; subst e14; subst e15; subst e16; subst e17; subst t18; simp only [f_fin, f_fin1, f_fin2]
  exact cM_retv (Wd := FWd h0 h1 h2 cA cB) (st := s18) (st' := (f_fin st)) hx hb hr hlocks dX0_finishTransfer_82 hS hP hD fin.symm
abbrev rmX0_mount : Room := { frames := 6, cells := 0, slots := 0, locals := 137 }
-- mount
set_option maxHeartbeats 400000 in
set_option maxRecDepth 100000 in
theorem c_X0_mount (l : Launch) (D : va_G) (h0 h1 h2 : Nat) (cA cB : ClassId) (st : FS)   : cM l D vwCl (FT cA cB) (FWd h0 h1 h2 cA cB) yX0_mount wsX0_mount rmX0_mount [.ref h0] st (some (.int (f_mount st).1)) (f_mount st).2 := by
  refine cM_in (cc := cX0_mount) (maxL := 2) (ret := (some .int)) (by decide) rfl (Nat.le_of_ble_eq_true rfl) ?_
  intro p e s m below meth c ls A hx hb hr hlocks hml hown hts hA hK hP hD hS hl
  have hown : s.vm.findClass RX0 = some m.cls := hown
  have hl : lv_has ls 2 [(0, .ref h0)] := hl
  -- walk
  refine lv_aload_n hx hb dX0_mount_0 rfl (lv_at hl 0 rfl) ?_
  refine lv_iconst (v := 1) hx hb dX0_mount_1 (by decide) ?_
  refine va_put (D := D) (ci := 0) (v := .int 1) (ty := .boolean) (C := RX0) (T := TX0) (N := 6) hx hb hts (by decide +kernel) tyX0 tyX0_ok nmX0 hown hK hP hD hS 0 rfl rfl 2 (by decide) (hts (.fieldLink RX0 17 "FadeLedger" "powered" "Z") (by decide +kernel)) (fun _ h9 => h9) rfl (by decide +kernel) rfl rfl (Nat.le_of_ble_eq_true rfl) dX0_mount_2 (fun H locs hP hD hS => ?_)
  obtain ⟨s1, t1⟩ : ∃ y9 : FS, ((st.1, st.2.1, 1, st.2.2.2.1, st.2.2.2.2.1, st.2.2.2.2.2) : FS) = y9 := ⟨_, rfl⟩
  replace hP : va_P D vwCl (FWd h0 h1 h2 cA cB s1) H := by rw [← t1]; exact hP
  replace hD : va_D A (FWd h0 h1 h2 cA cB s1) := by rw [← t1]; exact hD
  refine lv_iconst (v := 0) hx hb dX0_mount_5 (by decide) ?_
  refine lv_istore_n (lv' := [(1, .int 0), (0, .ref h0)]) hx hb dX0_mount_6 rfl hl (by decide) rfl (fun ls hl => ?_)
  refine lv_iload_n hx hb dX0_mount_7 rfl (lv_at hl 0 rfl) ?_
  refine lv_bipush (v := 20) hx hb dX0_mount_8 (by decide) ?_
  refine lv_icmp_ge (tgt := 24) hx hb dX0_mount_10 (by decide) (fun c0 => absurd c0 (by decide)) (fun _ => ?_)
  refine lv_aload_n hx hb dX0_mount_13 rfl (lv_at hl 1 rfl) ?_
  refine lv_iload_n hx hb dX0_mount_14 rfl (lv_at hl 0 rfl) ?_
  refine cM_this (Wd := FWd h0 h1 h2 cA cB) (ci := 0) (q0 := 0) (n := 1) (as := [.int 0]) (rest := []) ⟨hx, hb, hml, hown, hts⟩ (c_X0_restoreCell l D h0 h1 h2 cA cB s1 0 in20_0) gX0_mount_X0_restoreCell rfl rfl rfl (by decide +kernel) ⟨Nat.le_of_ble_eq_true rfl, Nat.le_of_ble_eq_true rfl⟩ hK hP hD hS hA rfl rfl rfl hl.1 rfl rfl (Nat.le_of_ble_eq_true rfl) dX0_mount_15 ⟨Nat.zero_le _, Nat.zero_le _⟩ (fun H locs hP hD hS => ?_)
  refine W.eq (g2 := F0 m 18 ls []) rfl ?_
  obtain ⟨s2, t2⟩ : ∃ y9 : FS, f_rest 0 s1 = y9 := ⟨_, rfl⟩
  replace hP : va_P D vwCl (FWd h0 h1 h2 cA cB s2) H := by rw [← t2]; exact hP
  replace hD : va_D A (FWd h0 h1 h2 cA cB s2) := by rw [← t2]; exact hD
  refine lv_iinc (v := 1) (lv' := [(1, .int 1), (0, .ref h0)]) hx hb dX0_mount_18 hl (k := 0) rfl (by decide) (by decide) rfl (fun ls hl => ?_)
  refine lv_goto (tgt := 7) hx hb dX0_mount_21 (by decide) ?_
  refine lv_iload_n hx hb dX0_mount_7 rfl (lv_at hl 0 rfl) ?_
  refine lv_bipush (v := 20) hx hb dX0_mount_8 (by decide) ?_
  refine lv_icmp_ge (tgt := 24) hx hb dX0_mount_10 (by decide) (fun c0 => absurd c0 (by decide)) (fun _ => ?_)
  refine lv_aload_n hx hb dX0_mount_13 rfl (lv_at hl 1 rfl) ?_
  refine lv_iload_n hx hb dX0_mount_14 rfl (lv_at hl 0 rfl) ?_
  refine cM_this (Wd := FWd h0 h1 h2 cA cB) (ci := 0) (q0 := 0) (n := 1) (as := [.int 1]) (rest := []) ⟨hx, hb, hml, hown, hts⟩ (c_X0_restoreCell l D h0 h1 h2 cA cB s2 1 in20_1) gX0_mount_X0_restoreCell rfl rfl rfl (by decide +kernel) ⟨Nat.le_of_ble_eq_true rfl, Nat.le_of_ble_eq_true rfl⟩ hK hP hD hS hA rfl rfl rfl hl.1 rfl rfl (Nat.le_of_ble_eq_true rfl) dX0_mount_15 ⟨Nat.zero_le _, Nat.zero_le _⟩ (fun H locs hP hD hS => ?_)
  refine W.eq (g2 := F0 m 18 ls []) rfl ?_
  obtain ⟨s3, t3⟩ : ∃ y9 : FS, f_rest 1 s2 = y9 := ⟨_, rfl⟩
  replace hP : va_P D vwCl (FWd h0 h1 h2 cA cB s3) H := by rw [← t3]; exact hP
  replace hD : va_D A (FWd h0 h1 h2 cA cB s3) := by rw [← t3]; exact hD
  refine lv_iinc (v := 2) (lv' := [(1, .int 2), (0, .ref h0)]) hx hb dX0_mount_18 hl (k := 0) rfl (by decide) (by decide) rfl (fun ls hl => ?_)
  refine lv_goto (tgt := 7) hx hb dX0_mount_21 (by decide) ?_
  refine lv_iload_n hx hb dX0_mount_7 rfl (lv_at hl 0 rfl) ?_
  refine lv_bipush (v := 20) hx hb dX0_mount_8 (by decide) ?_
  refine lv_icmp_ge (tgt := 24) hx hb dX0_mount_10 (by decide) (fun c0 => absurd c0 (by decide)) (fun _ => ?_)
  refine lv_aload_n hx hb dX0_mount_13 rfl (lv_at hl 1 rfl) ?_
  refine lv_iload_n hx hb dX0_mount_14 rfl (lv_at hl 0 rfl) ?_
  refine cM_this (Wd := FWd h0 h1 h2 cA cB) (ci := 0) (q0 := 0) (n := 1) (as := [.int 2]) (rest := []) ⟨hx, hb, hml, hown, hts⟩ (c_X0_restoreCell l D h0 h1 h2 cA cB s3 2 in20_2) gX0_mount_X0_restoreCell rfl rfl rfl (by decide +kernel) ⟨Nat.le_of_ble_eq_true rfl, Nat.le_of_ble_eq_true rfl⟩ hK hP hD hS hA rfl rfl rfl hl.1 rfl rfl (Nat.le_of_ble_eq_true rfl) dX0_mount_15 ⟨Nat.zero_le _, Nat.zero_le _⟩ (fun H locs hP hD hS => ?_)
  refine W.eq (g2 := F0 m 18 ls []) rfl ?_
  obtain ⟨s4, t4⟩ : ∃ y9 : FS, f_rest 2 s3 = y9 := ⟨_, rfl⟩
  replace hP : va_P D vwCl (FWd h0 h1 h2 cA cB s4) H := by rw [← t4]; exact hP
  replace hD : va_D A (FWd h0 h1 h2 cA cB s4) := by rw [← t4]; exact hD
  refine lv_iinc (v := 3) (lv' := [(1, .int 3), (0, .ref h0)]) hx hb dX0_mount_18 hl (k := 0) rfl (by decide) (by decide) rfl (fun ls hl => ?_)
  refine lv_goto (tgt := 7) hx hb dX0_mount_21 (by decide) ?_
  refine lv_iload_n hx hb dX0_mount_7 rfl (lv_at hl 0 rfl) ?_
  refine lv_bipush (v := 20) hx hb dX0_mount_8 (by decide) ?_
  refine lv_icmp_ge (tgt := 24) hx hb dX0_mount_10 (by decide) (fun c0 => absurd c0 (by decide)) (fun _ => ?_)
  refine lv_aload_n hx hb dX0_mount_13 rfl (lv_at hl 1 rfl) ?_
  refine lv_iload_n hx hb dX0_mount_14 rfl (lv_at hl 0 rfl) ?_
  refine cM_this (Wd := FWd h0 h1 h2 cA cB) (ci := 0) (q0 := 0) (n := 1) (as := [.int 3]) (rest := []) ⟨hx, hb, hml, hown, hts⟩ (c_X0_restoreCell l D h0 h1 h2 cA cB s4 3 in20_3) gX0_mount_X0_restoreCell rfl rfl rfl (by decide +kernel) ⟨Nat.le_of_ble_eq_true rfl, Nat.le_of_ble_eq_true rfl⟩ hK hP hD hS hA rfl rfl rfl hl.1 rfl rfl (Nat.le_of_ble_eq_true rfl) dX0_mount_15 ⟨Nat.zero_le _, Nat.zero_le _⟩ (fun H locs hP hD hS => ?_)
  refine W.eq (g2 := F0 m 18 ls []) rfl ?_
  obtain ⟨s5, t5⟩ : ∃ y9 : FS, f_rest 3 s4 = y9 := ⟨_, rfl⟩
  replace hP : va_P D vwCl (FWd h0 h1 h2 cA cB s5) H := by rw [← t5]; exact hP
  replace hD : va_D A (FWd h0 h1 h2 cA cB s5) := by rw [← t5]; exact hD
  refine lv_iinc (v := 4) (lv' := [(1, .int 4), (0, .ref h0)]) hx hb dX0_mount_18 hl (k := 0) rfl (by decide) (by decide) rfl (fun ls hl => ?_)
  refine lv_goto (tgt := 7) hx hb dX0_mount_21 (by decide) ?_
  refine lv_iload_n hx hb dX0_mount_7 rfl (lv_at hl 0 rfl) ?_
  refine lv_bipush (v := 20) hx hb dX0_mount_8 (by decide) ?_
  refine lv_icmp_ge (tgt := 24) hx hb dX0_mount_10 (by decide) (fun c0 => absurd c0 (by decide)) (fun _ => ?_)
  refine lv_aload_n hx hb dX0_mount_13 rfl (lv_at hl 1 rfl) ?_
  refine lv_iload_n hx hb dX0_mount_14 rfl (lv_at hl 0 rfl) ?_
  refine cM_this (Wd := FWd h0 h1 h2 cA cB) (ci := 0) (q0 := 0) (n := 1) (as := [.int 4]) (rest := []) ⟨hx, hb, hml, hown, hts⟩ (c_X0_restoreCell l D h0 h1 h2 cA cB s5 4 in20_4) gX0_mount_X0_restoreCell rfl rfl rfl (by decide +kernel) ⟨Nat.le_of_ble_eq_true rfl, Nat.le_of_ble_eq_true rfl⟩ hK hP hD hS hA rfl rfl rfl hl.1 rfl rfl (Nat.le_of_ble_eq_true rfl) dX0_mount_15 ⟨Nat.zero_le _, Nat.zero_le _⟩ (fun H locs hP hD hS => ?_)
  refine W.eq (g2 := F0 m 18 ls []) rfl ?_
  obtain ⟨s6, t6⟩ : ∃ y9 : FS, f_rest 4 s5 = y9 := ⟨_, rfl⟩
  replace hP : va_P D vwCl (FWd h0 h1 h2 cA cB s6) H := by rw [← t6]; exact hP
  replace hD : va_D A (FWd h0 h1 h2 cA cB s6) := by rw [← t6]; exact hD
  refine lv_iinc (v := 5) (lv' := [(1, .int 5), (0, .ref h0)]) hx hb dX0_mount_18 hl (k := 0) rfl (by decide) (by decide) rfl (fun ls hl => ?_)
  refine lv_goto (tgt := 7) hx hb dX0_mount_21 (by decide) ?_
  refine lv_iload_n hx hb dX0_mount_7 rfl (lv_at hl 0 rfl) ?_
  refine lv_bipush (v := 20) hx hb dX0_mount_8 (by decide) ?_
  refine lv_icmp_ge (tgt := 24) hx hb dX0_mount_10 (by decide) (fun c0 => absurd c0 (by decide)) (fun _ => ?_)
  refine lv_aload_n hx hb dX0_mount_13 rfl (lv_at hl 1 rfl) ?_
  refine lv_iload_n hx hb dX0_mount_14 rfl (lv_at hl 0 rfl) ?_
  refine cM_this (Wd := FWd h0 h1 h2 cA cB) (ci := 0) (q0 := 0) (n := 1) (as := [.int 5]) (rest := []) ⟨hx, hb, hml, hown, hts⟩ (c_X0_restoreCell l D h0 h1 h2 cA cB s6 5 in20_5) gX0_mount_X0_restoreCell rfl rfl rfl (by decide +kernel) ⟨Nat.le_of_ble_eq_true rfl, Nat.le_of_ble_eq_true rfl⟩ hK hP hD hS hA rfl rfl rfl hl.1 rfl rfl (Nat.le_of_ble_eq_true rfl) dX0_mount_15 ⟨Nat.zero_le _, Nat.zero_le _⟩ (fun H locs hP hD hS => ?_)
  refine W.eq (g2 := F0 m 18 ls []) rfl ?_
  obtain ⟨s7, t7⟩ : ∃ y9 : FS, f_rest 5 s6 = y9 := ⟨_, rfl⟩
  replace hP : va_P D vwCl (FWd h0 h1 h2 cA cB s7) H := by rw [← t7]; exact hP
  replace hD : va_D A (FWd h0 h1 h2 cA cB s7) := by rw [← t7]; exact hD
  refine lv_iinc (v := 6) (lv' := [(1, .int 6), (0, .ref h0)]) hx hb dX0_mount_18 hl (k := 0) rfl (by decide) (by decide) rfl (fun ls hl => ?_)
  refine lv_goto (tgt := 7) hx hb dX0_mount_21 (by decide) ?_
  refine lv_iload_n hx hb dX0_mount_7 rfl (lv_at hl 0 rfl) ?_
  refine lv_bipush (v := 20) hx hb dX0_mount_8 (by decide) ?_
  refine lv_icmp_ge (tgt := 24) hx hb dX0_mount_10 (by decide) (fun c0 => absurd c0 (by decide)) (fun _ => ?_)
  refine lv_aload_n hx hb dX0_mount_13 rfl (lv_at hl 1 rfl) ?_
  refine lv_iload_n hx hb dX0_mount_14 rfl (lv_at hl 0 rfl) ?_
  refine cM_this (Wd := FWd h0 h1 h2 cA cB) (ci := 0) (q0 := 0) (n := 1) (as := [.int 6]) (rest := []) ⟨hx, hb, hml, hown, hts⟩ (c_X0_restoreCell l D h0 h1 h2 cA cB s7 6 in20_6) gX0_mount_X0_restoreCell rfl rfl rfl (by decide +kernel) ⟨Nat.le_of_ble_eq_true rfl, Nat.le_of_ble_eq_true rfl⟩ hK hP hD hS hA rfl rfl rfl hl.1 rfl rfl (Nat.le_of_ble_eq_true rfl) dX0_mount_15 ⟨Nat.zero_le _, Nat.zero_le _⟩ (fun H locs hP hD hS => ?_)
  refine W.eq (g2 := F0 m 18 ls []) rfl ?_
  obtain ⟨s8, t8⟩ : ∃ y9 : FS, f_rest 6 s7 = y9 := ⟨_, rfl⟩
  replace hP : va_P D vwCl (FWd h0 h1 h2 cA cB s8) H := by rw [← t8]; exact hP
  replace hD : va_D A (FWd h0 h1 h2 cA cB s8) := by rw [← t8]; exact hD
  refine lv_iinc (v := 7) (lv' := [(1, .int 7), (0, .ref h0)]) hx hb dX0_mount_18 hl (k := 0) rfl (by decide) (by decide) rfl (fun ls hl => ?_)
  refine lv_goto (tgt := 7) hx hb dX0_mount_21 (by decide) ?_
  refine lv_iload_n hx hb dX0_mount_7 rfl (lv_at hl 0 rfl) ?_
  refine lv_bipush (v := 20) hx hb dX0_mount_8 (by decide) ?_
  refine lv_icmp_ge (tgt := 24) hx hb dX0_mount_10 (by decide) (fun c0 => absurd c0 (by decide)) (fun _ => ?_)
  refine lv_aload_n hx hb dX0_mount_13 rfl (lv_at hl 1 rfl) ?_
  refine lv_iload_n hx hb dX0_mount_14 rfl (lv_at hl 0 rfl) ?_
  refine cM_this (Wd := FWd h0 h1 h2 cA cB) (ci := 0) (q0 := 0) (n := 1) (as := [.int 7]) (rest := []) ⟨hx, hb, hml, hown, hts⟩ (c_X0_restoreCell l D h0 h1 h2 cA cB s8 7 in20_7) gX0_mount_X0_restoreCell rfl rfl rfl (by decide +kernel) ⟨Nat.le_of_ble_eq_true rfl, Nat.le_of_ble_eq_true rfl⟩ hK hP hD hS hA rfl rfl rfl hl.1 rfl rfl (Nat.le_of_ble_eq_true rfl) dX0_mount_15 ⟨Nat.zero_le _, Nat.zero_le _⟩ (fun H locs hP hD hS => ?_)
  refine W.eq (g2 := F0 m 18 ls []) rfl ?_
  obtain ⟨s9, t9⟩ : ∃ y9 : FS, f_rest 7 s8 = y9 := ⟨_, rfl⟩
  replace hP : va_P D vwCl (FWd h0 h1 h2 cA cB s9) H := by rw [← t9]; exact hP
  replace hD : va_D A (FWd h0 h1 h2 cA cB s9) := by rw [← t9]; exact hD
  refine lv_iinc (v := 8) (lv' := [(1, .int 8), (0, .ref h0)]) hx hb dX0_mount_18 hl (k := 0) rfl (by decide) (by decide) rfl (fun ls hl => ?_)
  refine lv_goto (tgt := 7) hx hb dX0_mount_21 (by decide) ?_
  refine lv_iload_n hx hb dX0_mount_7 rfl (lv_at hl 0 rfl) ?_
  refine lv_bipush (v := 20) hx hb dX0_mount_8 (by decide) ?_
  refine lv_icmp_ge (tgt := 24) hx hb dX0_mount_10 (by decide) (fun c0 => absurd c0 (by decide)) (fun _ => ?_)
  refine lv_aload_n hx hb dX0_mount_13 rfl (lv_at hl 1 rfl) ?_
  refine lv_iload_n hx hb dX0_mount_14 rfl (lv_at hl 0 rfl) ?_
  refine cM_this (Wd := FWd h0 h1 h2 cA cB) (ci := 0) (q0 := 0) (n := 1) (as := [.int 8]) (rest := []) ⟨hx, hb, hml, hown, hts⟩ (c_X0_restoreCell l D h0 h1 h2 cA cB s9 8 in20_8) gX0_mount_X0_restoreCell rfl rfl rfl (by decide +kernel) ⟨Nat.le_of_ble_eq_true rfl, Nat.le_of_ble_eq_true rfl⟩ hK hP hD hS hA rfl rfl rfl hl.1 rfl rfl (Nat.le_of_ble_eq_true rfl) dX0_mount_15 ⟨Nat.zero_le _, Nat.zero_le _⟩ (fun H locs hP hD hS => ?_)
  refine W.eq (g2 := F0 m 18 ls []) rfl ?_
  obtain ⟨s10, t10⟩ : ∃ y9 : FS, f_rest 8 s9 = y9 := ⟨_, rfl⟩
  replace hP : va_P D vwCl (FWd h0 h1 h2 cA cB s10) H := by rw [← t10]; exact hP
  replace hD : va_D A (FWd h0 h1 h2 cA cB s10) := by rw [← t10]; exact hD
  refine lv_iinc (v := 9) (lv' := [(1, .int 9), (0, .ref h0)]) hx hb dX0_mount_18 hl (k := 0) rfl (by decide) (by decide) rfl (fun ls hl => ?_)
  refine lv_goto (tgt := 7) hx hb dX0_mount_21 (by decide) ?_
  refine lv_iload_n hx hb dX0_mount_7 rfl (lv_at hl 0 rfl) ?_
  refine lv_bipush (v := 20) hx hb dX0_mount_8 (by decide) ?_
  refine lv_icmp_ge (tgt := 24) hx hb dX0_mount_10 (by decide) (fun c0 => absurd c0 (by decide)) (fun _ => ?_)
  refine lv_aload_n hx hb dX0_mount_13 rfl (lv_at hl 1 rfl) ?_
  refine lv_iload_n hx hb dX0_mount_14 rfl (lv_at hl 0 rfl) ?_
  refine cM_this (Wd := FWd h0 h1 h2 cA cB) (ci := 0) (q0 := 0) (n := 1) (as := [.int 9]) (rest := []) ⟨hx, hb, hml, hown, hts⟩ (c_X0_restoreCell l D h0 h1 h2 cA cB s10 9 in20_9) gX0_mount_X0_restoreCell rfl rfl rfl (by decide +kernel) ⟨Nat.le_of_ble_eq_true rfl, Nat.le_of_ble_eq_true rfl⟩ hK hP hD hS hA rfl rfl rfl hl.1 rfl rfl (Nat.le_of_ble_eq_true rfl) dX0_mount_15 ⟨Nat.zero_le _, Nat.zero_le _⟩ (fun H locs hP hD hS => ?_)
  refine W.eq (g2 := F0 m 18 ls []) rfl ?_
  obtain ⟨s11, t11⟩ : ∃ y9 : FS, f_rest 9 s10 = y9 := ⟨_, rfl⟩
  replace hP : va_P D vwCl (FWd h0 h1 h2 cA cB s11) H := by rw [← t11]; exact hP
  replace hD : va_D A (FWd h0 h1 h2 cA cB s11) := by rw [← t11]; exact hD
  refine lv_iinc (v := 10) (lv' := [(1, .int 10), (0, .ref h0)]) hx hb dX0_mount_18 hl (k := 0) rfl (by decide) (by decide) rfl (fun ls hl => ?_)
  refine lv_goto (tgt := 7) hx hb dX0_mount_21 (by decide) ?_
  refine lv_iload_n hx hb dX0_mount_7 rfl (lv_at hl 0 rfl) ?_
  refine lv_bipush (v := 20) hx hb dX0_mount_8 (by decide) ?_
  refine lv_icmp_ge (tgt := 24) hx hb dX0_mount_10 (by decide) (fun c0 => absurd c0 (by decide)) (fun _ => ?_)
  refine lv_aload_n hx hb dX0_mount_13 rfl (lv_at hl 1 rfl) ?_
  refine lv_iload_n hx hb dX0_mount_14 rfl (lv_at hl 0 rfl) ?_
  refine cM_this (Wd := FWd h0 h1 h2 cA cB) (ci := 0) (q0 := 0) (n := 1) (as := [.int 10]) (rest := []) ⟨hx, hb, hml, hown, hts⟩ (c_X0_restoreCell l D h0 h1 h2 cA cB s11 10 in20_10) gX0_mount_X0_restoreCell rfl rfl rfl (by decide +kernel) ⟨Nat.le_of_ble_eq_true rfl, Nat.le_of_ble_eq_true rfl⟩ hK hP hD hS hA rfl rfl rfl hl.1 rfl rfl (Nat.le_of_ble_eq_true rfl) dX0_mount_15 ⟨Nat.zero_le _, Nat.zero_le _⟩ (fun H locs hP hD hS => ?_)
  refine W.eq (g2 := F0 m 18 ls []) rfl ?_
  obtain ⟨s12, t12⟩ : ∃ y9 : FS, f_rest 10 s11 = y9 := ⟨_, rfl⟩
  replace hP : va_P D vwCl (FWd h0 h1 h2 cA cB s12) H := by rw [← t12]; exact hP
  replace hD : va_D A (FWd h0 h1 h2 cA cB s12) := by rw [← t12]; exact hD
  refine lv_iinc (v := 11) (lv' := [(1, .int 11), (0, .ref h0)]) hx hb dX0_mount_18 hl (k := 0) rfl (by decide) (by decide) rfl (fun ls hl => ?_)
  refine lv_goto (tgt := 7) hx hb dX0_mount_21 (by decide) ?_
  refine lv_iload_n hx hb dX0_mount_7 rfl (lv_at hl 0 rfl) ?_
  refine lv_bipush (v := 20) hx hb dX0_mount_8 (by decide) ?_
  refine lv_icmp_ge (tgt := 24) hx hb dX0_mount_10 (by decide) (fun c0 => absurd c0 (by decide)) (fun _ => ?_)
  refine lv_aload_n hx hb dX0_mount_13 rfl (lv_at hl 1 rfl) ?_
  refine lv_iload_n hx hb dX0_mount_14 rfl (lv_at hl 0 rfl) ?_
  refine cM_this (Wd := FWd h0 h1 h2 cA cB) (ci := 0) (q0 := 0) (n := 1) (as := [.int 11]) (rest := []) ⟨hx, hb, hml, hown, hts⟩ (c_X0_restoreCell l D h0 h1 h2 cA cB s12 11 in20_11) gX0_mount_X0_restoreCell rfl rfl rfl (by decide +kernel) ⟨Nat.le_of_ble_eq_true rfl, Nat.le_of_ble_eq_true rfl⟩ hK hP hD hS hA rfl rfl rfl hl.1 rfl rfl (Nat.le_of_ble_eq_true rfl) dX0_mount_15 ⟨Nat.zero_le _, Nat.zero_le _⟩ (fun H locs hP hD hS => ?_)
  refine W.eq (g2 := F0 m 18 ls []) rfl ?_
  obtain ⟨s13, t13⟩ : ∃ y9 : FS, f_rest 11 s12 = y9 := ⟨_, rfl⟩
  replace hP : va_P D vwCl (FWd h0 h1 h2 cA cB s13) H := by rw [← t13]; exact hP
  replace hD : va_D A (FWd h0 h1 h2 cA cB s13) := by rw [← t13]; exact hD
  refine lv_iinc (v := 12) (lv' := [(1, .int 12), (0, .ref h0)]) hx hb dX0_mount_18 hl (k := 0) rfl (by decide) (by decide) rfl (fun ls hl => ?_)
  refine lv_goto (tgt := 7) hx hb dX0_mount_21 (by decide) ?_
  refine lv_iload_n hx hb dX0_mount_7 rfl (lv_at hl 0 rfl) ?_
  refine lv_bipush (v := 20) hx hb dX0_mount_8 (by decide) ?_
  refine lv_icmp_ge (tgt := 24) hx hb dX0_mount_10 (by decide) (fun c0 => absurd c0 (by decide)) (fun _ => ?_)
  refine lv_aload_n hx hb dX0_mount_13 rfl (lv_at hl 1 rfl) ?_
  refine lv_iload_n hx hb dX0_mount_14 rfl (lv_at hl 0 rfl) ?_
  refine cM_this (Wd := FWd h0 h1 h2 cA cB) (ci := 0) (q0 := 0) (n := 1) (as := [.int 12]) (rest := []) ⟨hx, hb, hml, hown, hts⟩ (c_X0_restoreCell l D h0 h1 h2 cA cB s13 12 in20_12) gX0_mount_X0_restoreCell rfl rfl rfl (by decide +kernel) ⟨Nat.le_of_ble_eq_true rfl, Nat.le_of_ble_eq_true rfl⟩ hK hP hD hS hA rfl rfl rfl hl.1 rfl rfl (Nat.le_of_ble_eq_true rfl) dX0_mount_15 ⟨Nat.zero_le _, Nat.zero_le _⟩ (fun H locs hP hD hS => ?_)
  refine W.eq (g2 := F0 m 18 ls []) rfl ?_
  obtain ⟨s14, t14⟩ : ∃ y9 : FS, f_rest 12 s13 = y9 := ⟨_, rfl⟩
  replace hP : va_P D vwCl (FWd h0 h1 h2 cA cB s14) H := by rw [← t14]; exact hP
  replace hD : va_D A (FWd h0 h1 h2 cA cB s14) := by rw [← t14]; exact hD
  refine lv_iinc (v := 13) (lv' := [(1, .int 13), (0, .ref h0)]) hx hb dX0_mount_18 hl (k := 0) rfl (by decide) (by decide) rfl (fun ls hl => ?_)
  refine lv_goto (tgt := 7) hx hb dX0_mount_21 (by decide) ?_
  refine lv_iload_n hx hb dX0_mount_7 rfl (lv_at hl 0 rfl) ?_
  refine lv_bipush (v := 20) hx hb dX0_mount_8 (by decide) ?_
  refine lv_icmp_ge (tgt := 24) hx hb dX0_mount_10 (by decide) (fun c0 => absurd c0 (by decide)) (fun _ => ?_)
  refine lv_aload_n hx hb dX0_mount_13 rfl (lv_at hl 1 rfl) ?_
  refine lv_iload_n hx hb dX0_mount_14 rfl (lv_at hl 0 rfl) ?_
  refine cM_this (Wd := FWd h0 h1 h2 cA cB) (ci := 0) (q0 := 0) (n := 1) (as := [.int 13]) (rest := []) ⟨hx, hb, hml, hown, hts⟩ (c_X0_restoreCell l D h0 h1 h2 cA cB s14 13 in20_13) gX0_mount_X0_restoreCell rfl rfl rfl (by decide +kernel) ⟨Nat.le_of_ble_eq_true rfl, Nat.le_of_ble_eq_true rfl⟩ hK hP hD hS hA rfl rfl rfl hl.1 rfl rfl (Nat.le_of_ble_eq_true rfl) dX0_mount_15 ⟨Nat.zero_le _, Nat.zero_le _⟩ (fun H locs hP hD hS => ?_)
  refine W.eq (g2 := F0 m 18 ls []) rfl ?_
  obtain ⟨s15, t15⟩ : ∃ y9 : FS, f_rest 13 s14 = y9 := ⟨_, rfl⟩
  replace hP : va_P D vwCl (FWd h0 h1 h2 cA cB s15) H := by rw [← t15]; exact hP
  replace hD : va_D A (FWd h0 h1 h2 cA cB s15) := by rw [← t15]; exact hD
  refine lv_iinc (v := 14) (lv' := [(1, .int 14), (0, .ref h0)]) hx hb dX0_mount_18 hl (k := 0) rfl (by decide) (by decide) rfl (fun ls hl => ?_)
  refine lv_goto (tgt := 7) hx hb dX0_mount_21 (by decide) ?_
  refine lv_iload_n hx hb dX0_mount_7 rfl (lv_at hl 0 rfl) ?_
  refine lv_bipush (v := 20) hx hb dX0_mount_8 (by decide) ?_
  refine lv_icmp_ge (tgt := 24) hx hb dX0_mount_10 (by decide) (fun c0 => absurd c0 (by decide)) (fun _ => ?_)
  refine lv_aload_n hx hb dX0_mount_13 rfl (lv_at hl 1 rfl) ?_
  refine lv_iload_n hx hb dX0_mount_14 rfl (lv_at hl 0 rfl) ?_
  refine cM_this (Wd := FWd h0 h1 h2 cA cB) (ci := 0) (q0 := 0) (n := 1) (as := [.int 14]) (rest := []) ⟨hx, hb, hml, hown, hts⟩ (c_X0_restoreCell l D h0 h1 h2 cA cB s15 14 in20_14) gX0_mount_X0_restoreCell rfl rfl rfl (by decide +kernel) ⟨Nat.le_of_ble_eq_true rfl, Nat.le_of_ble_eq_true rfl⟩ hK hP hD hS hA rfl rfl rfl hl.1 rfl rfl (Nat.le_of_ble_eq_true rfl) dX0_mount_15 ⟨Nat.zero_le _, Nat.zero_le _⟩ (fun H locs hP hD hS => ?_)
  refine W.eq (g2 := F0 m 18 ls []) rfl ?_
  obtain ⟨s16, t16⟩ : ∃ y9 : FS, f_rest 14 s15 = y9 := ⟨_, rfl⟩
  replace hP : va_P D vwCl (FWd h0 h1 h2 cA cB s16) H := by rw [← t16]; exact hP
  replace hD : va_D A (FWd h0 h1 h2 cA cB s16) := by rw [← t16]; exact hD
  refine lv_iinc (v := 15) (lv' := [(1, .int 15), (0, .ref h0)]) hx hb dX0_mount_18 hl (k := 0) rfl (by decide) (by decide) rfl (fun ls hl => ?_)
  refine lv_goto (tgt := 7) hx hb dX0_mount_21 (by decide) ?_
  refine lv_iload_n hx hb dX0_mount_7 rfl (lv_at hl 0 rfl) ?_
  refine lv_bipush (v := 20) hx hb dX0_mount_8 (by decide) ?_
  refine lv_icmp_ge (tgt := 24) hx hb dX0_mount_10 (by decide) (fun c0 => absurd c0 (by decide)) (fun _ => ?_)
  refine lv_aload_n hx hb dX0_mount_13 rfl (lv_at hl 1 rfl) ?_
  refine lv_iload_n hx hb dX0_mount_14 rfl (lv_at hl 0 rfl) ?_
  refine cM_this (Wd := FWd h0 h1 h2 cA cB) (ci := 0) (q0 := 0) (n := 1) (as := [.int 15]) (rest := []) ⟨hx, hb, hml, hown, hts⟩ (c_X0_restoreCell l D h0 h1 h2 cA cB s16 15 in20_15) gX0_mount_X0_restoreCell rfl rfl rfl (by decide +kernel) ⟨Nat.le_of_ble_eq_true rfl, Nat.le_of_ble_eq_true rfl⟩ hK hP hD hS hA rfl rfl rfl hl.1 rfl rfl (Nat.le_of_ble_eq_true rfl) dX0_mount_15 ⟨Nat.zero_le _, Nat.zero_le _⟩ (fun H locs hP hD hS => ?_)
  refine W.eq (g2 := F0 m 18 ls []) rfl ?_
  obtain ⟨s17, t17⟩ : ∃ y9 : FS, f_rest 15 s16 = y9 := ⟨_, rfl⟩
  replace hP : va_P D vwCl (FWd h0 h1 h2 cA cB s17) H := by rw [← t17]; exact hP
  replace hD : va_D A (FWd h0 h1 h2 cA cB s17) := by rw [← t17]; exact hD
  refine lv_iinc (v := 16) (lv' := [(1, .int 16), (0, .ref h0)]) hx hb dX0_mount_18 hl (k := 0) rfl (by decide) (by decide) rfl (fun ls hl => ?_)
  refine lv_goto (tgt := 7) hx hb dX0_mount_21 (by decide) ?_
  refine lv_iload_n hx hb dX0_mount_7 rfl (lv_at hl 0 rfl) ?_
  refine lv_bipush (v := 20) hx hb dX0_mount_8 (by decide) ?_
  refine lv_icmp_ge (tgt := 24) hx hb dX0_mount_10 (by decide) (fun c0 => absurd c0 (by decide)) (fun _ => ?_)
  refine lv_aload_n hx hb dX0_mount_13 rfl (lv_at hl 1 rfl) ?_
  refine lv_iload_n hx hb dX0_mount_14 rfl (lv_at hl 0 rfl) ?_
  refine cM_this (Wd := FWd h0 h1 h2 cA cB) (ci := 0) (q0 := 0) (n := 1) (as := [.int 16]) (rest := []) ⟨hx, hb, hml, hown, hts⟩ (c_X0_restoreCell l D h0 h1 h2 cA cB s17 16 in20_16) gX0_mount_X0_restoreCell rfl rfl rfl (by decide +kernel) ⟨Nat.le_of_ble_eq_true rfl, Nat.le_of_ble_eq_true rfl⟩ hK hP hD hS hA rfl rfl rfl hl.1 rfl rfl (Nat.le_of_ble_eq_true rfl) dX0_mount_15 ⟨Nat.zero_le _, Nat.zero_le _⟩ (fun H locs hP hD hS => ?_)
  refine W.eq (g2 := F0 m 18 ls []) rfl ?_
  obtain ⟨s18, t18⟩ : ∃ y9 : FS, f_rest 16 s17 = y9 := ⟨_, rfl⟩
  replace hP : va_P D vwCl (FWd h0 h1 h2 cA cB s18) H := by rw [← t18]; exact hP
  replace hD : va_D A (FWd h0 h1 h2 cA cB s18) := by rw [← t18]; exact hD
  refine lv_iinc (v := 17) (lv' := [(1, .int 17), (0, .ref h0)]) hx hb dX0_mount_18 hl (k := 0) rfl (by decide) (by decide) rfl (fun ls hl => ?_)
  refine lv_goto (tgt := 7) hx hb dX0_mount_21 (by decide) ?_
  refine lv_iload_n hx hb dX0_mount_7 rfl (lv_at hl 0 rfl) ?_
  refine lv_bipush (v := 20) hx hb dX0_mount_8 (by decide) ?_
  refine lv_icmp_ge (tgt := 24) hx hb dX0_mount_10 (by decide) (fun c0 => absurd c0 (by decide)) (fun _ => ?_)
  refine lv_aload_n hx hb dX0_mount_13 rfl (lv_at hl 1 rfl) ?_
  refine lv_iload_n hx hb dX0_mount_14 rfl (lv_at hl 0 rfl) ?_
  refine cM_this (Wd := FWd h0 h1 h2 cA cB) (ci := 0) (q0 := 0) (n := 1) (as := [.int 17]) (rest := []) ⟨hx, hb, hml, hown, hts⟩ (c_X0_restoreCell l D h0 h1 h2 cA cB s18 17 in20_17) gX0_mount_X0_restoreCell rfl rfl rfl (by decide +kernel) ⟨Nat.le_of_ble_eq_true rfl, Nat.le_of_ble_eq_true rfl⟩ hK hP hD hS hA rfl rfl rfl hl.1 rfl rfl (Nat.le_of_ble_eq_true rfl) dX0_mount_15 ⟨Nat.zero_le _, Nat.zero_le _⟩ (fun H locs hP hD hS => ?_)
  refine W.eq (g2 := F0 m 18 ls []) rfl ?_
  obtain ⟨s19, t19⟩ : ∃ y9 : FS, f_rest 17 s18 = y9 := ⟨_, rfl⟩
  replace hP : va_P D vwCl (FWd h0 h1 h2 cA cB s19) H := by rw [← t19]; exact hP
  replace hD : va_D A (FWd h0 h1 h2 cA cB s19) := by rw [← t19]; exact hD
  refine lv_iinc (v := 18) (lv' := [(1, .int 18), (0, .ref h0)]) hx hb dX0_mount_18 hl (k := 0) rfl (by decide) (by decide) rfl (fun ls hl => ?_)
  refine lv_goto (tgt := 7) hx hb dX0_mount_21 (by decide) ?_
  refine lv_iload_n hx hb dX0_mount_7 rfl (lv_at hl 0 rfl) ?_
  refine lv_bipush (v := 20) hx hb dX0_mount_8 (by decide) ?_
  refine lv_icmp_ge (tgt := 24) hx hb dX0_mount_10 (by decide) (fun c0 => absurd c0 (by decide)) (fun _ => ?_)
  refine lv_aload_n hx hb dX0_mount_13 rfl (lv_at hl 1 rfl) ?_
  refine lv_iload_n hx hb dX0_mount_14 rfl (lv_at hl 0 rfl) ?_
  refine cM_this (Wd := FWd h0 h1 h2 cA cB) (ci := 0) (q0 := 0) (n := 1) (as := [.int 18]) (rest := []) ⟨hx, hb, hml, hown, hts⟩ (c_X0_restoreCell l D h0 h1 h2 cA cB s19 18 in20_18) gX0_mount_X0_restoreCell rfl rfl rfl (by decide +kernel) ⟨Nat.le_of_ble_eq_true rfl, Nat.le_of_ble_eq_true rfl⟩ hK hP hD hS hA rfl rfl rfl hl.1 rfl rfl (Nat.le_of_ble_eq_true rfl) dX0_mount_15 ⟨Nat.zero_le _, Nat.zero_le _⟩ (fun H locs hP hD hS => ?_)
  refine W.eq (g2 := F0 m 18 ls []) rfl ?_
  obtain ⟨s20, t20⟩ : ∃ y9 : FS, f_rest 18 s19 = y9 := ⟨_, rfl⟩
  replace hP : va_P D vwCl (FWd h0 h1 h2 cA cB s20) H := by rw [← t20]; exact hP
  replace hD : va_D A (FWd h0 h1 h2 cA cB s20) := by rw [← t20]; exact hD
  refine lv_iinc (v := 19) (lv' := [(1, .int 19), (0, .ref h0)]) hx hb dX0_mount_18 hl (k := 0) rfl (by decide) (by decide) rfl (fun ls hl => ?_)
  refine lv_goto (tgt := 7) hx hb dX0_mount_21 (by decide) ?_
  refine lv_iload_n hx hb dX0_mount_7 rfl (lv_at hl 0 rfl) ?_
  refine lv_bipush (v := 20) hx hb dX0_mount_8 (by decide) ?_
  refine lv_icmp_ge (tgt := 24) hx hb dX0_mount_10 (by decide) (fun c0 => absurd c0 (by decide)) (fun _ => ?_)
  refine lv_aload_n hx hb dX0_mount_13 rfl (lv_at hl 1 rfl) ?_
  refine lv_iload_n hx hb dX0_mount_14 rfl (lv_at hl 0 rfl) ?_
  refine cM_this (Wd := FWd h0 h1 h2 cA cB) (ci := 0) (q0 := 0) (n := 1) (as := [.int 19]) (rest := []) ⟨hx, hb, hml, hown, hts⟩ (c_X0_restoreCell l D h0 h1 h2 cA cB s20 19 in20_19) gX0_mount_X0_restoreCell rfl rfl rfl (by decide +kernel) ⟨Nat.le_of_ble_eq_true rfl, Nat.le_of_ble_eq_true rfl⟩ hK hP hD hS hA rfl rfl rfl hl.1 rfl rfl (Nat.le_of_ble_eq_true rfl) dX0_mount_15 ⟨Nat.zero_le _, Nat.zero_le _⟩ (fun H locs hP hD hS => ?_)
  refine W.eq (g2 := F0 m 18 ls []) rfl ?_
  obtain ⟨s21, t21⟩ : ∃ y9 : FS, f_rest 19 s20 = y9 := ⟨_, rfl⟩
  replace hP : va_P D vwCl (FWd h0 h1 h2 cA cB s21) H := by rw [← t21]; exact hP
  replace hD : va_D A (FWd h0 h1 h2 cA cB s21) := by rw [← t21]; exact hD
  refine lv_iinc (v := 20) (lv' := [(1, .int 20), (0, .ref h0)]) hx hb dX0_mount_18 hl (k := 0) rfl (by decide) (by decide) rfl (fun ls hl => ?_)
  refine lv_goto (tgt := 7) hx hb dX0_mount_21 (by decide) ?_
  refine lv_iload_n hx hb dX0_mount_7 rfl (lv_at hl 0 rfl) ?_
  refine lv_bipush (v := 20) hx hb dX0_mount_8 (by decide) ?_
  refine lv_icmp_ge (tgt := 24) hx hb dX0_mount_10 (by decide) (fun _ => ?_) (fun c0 => absurd c0 (by decide))
  refine lv_aload_n hx hb dX0_mount_24 rfl (lv_at hl 1 rfl) ?_
  refine va_get (D := D) (ci := 0) (v := .int s21.2.2.1) (C := RX0) (T := TX0) (N := 6) hx hb hts (by decide +kernel) hown hK hP 0 rfl rfl 2 (by decide) (hts (.fieldLink RX0 17 "FadeLedger" "powered" "Z") (by decide +kernel)) (fun _ h9 => h9) rfl dX0_mount_25 ?_
  refine tpi (fun v22 e22 => ?_)
  refine lv_if_eq (tgt := 42) hx hb dX0_mount_28 (by decide) (fun c23 => ?_) (fun c23 => ?_)
  · refine lv_aload_n hx hb dX0_mount_42 rfl (lv_at hl 1 rfl) ?_
    refine lv_iconst (v := 1) hx hb dX0_mount_43 (by decide) ?_
    refine cM_this (Wd := FWd h0 h1 h2 cA cB) (ci := 0) (q0 := 0) (n := 1) (as := [.int 1]) (rest := []) ⟨hx, hb, hml, hown, hts⟩ (c_X0_answerOf l D h0 h1 h2 cA cB s21 1) gX0_mount_X0_answerOf rfl rfl rfl (by decide +kernel) ⟨Nat.le_of_ble_eq_true rfl, Nat.le_of_ble_eq_true rfl⟩ hK hP hD hS hA rfl rfl rfl hl.1 rfl rfl (Nat.le_of_ble_eq_true rfl) dX0_mount_44 ⟨Nat.zero_le _, Nat.zero_le _⟩ (fun H locs hP hD hS => ?_)
    refine tpi (fun v24 e24 => ?_)
    have fin : f_mount st = (v24, s21) := by
      clear hP hD hS; subst t1; subst t2; subst t3; subst t4; subst t5; subst t6; subst t7; subst t8; subst t9; subst t10; subst t11; subst t12; subst t13; subst t14; subst t15; subst t16; subst t17; subst t18; subst t19; subst t20; subst t21; subst e22; subst e24; simp only [f_mount, f_rests, f_cells, List.foldl, f_an2, f_fp, c23, ↓reduceIte, not_true_eq_false, not_false_eq_true, and_self, and_true, true_and, and_false, false_and, eq_self, i10]
    exact cM_reti (Wd := FWd h0 h1 h2 cA cB) (st := s21) (st' := (f_mount st).2) hx hb hr hlocks dX0_mount_47 hS hP hD (congrArg Prod.fst fin).symm (congrArg Prod.snd fin).symm
  · refine lv_aload_n hx hb dX0_mount_31 rfl (lv_at hl 1 rfl) ?_
    refine cM_this (Wd := FWd h0 h1 h2 cA cB) (ci := 0) (q0 := 0) (n := 0) (as := []) (rest := []) ⟨hx, hb, hml, hown, hts⟩ (c_X0_slipIsPending l D h0 h1 h2 cA cB s21) gX0_mount_X0_slipIsPending rfl rfl rfl (by decide +kernel) ⟨Nat.le_of_ble_eq_true rfl, Nat.le_of_ble_eq_true rfl⟩ hK hP hD hS hA rfl rfl rfl hl.1 rfl rfl (Nat.le_of_ble_eq_true rfl) dX0_mount_32 ⟨Nat.zero_le _, Nat.zero_le _⟩ (fun H locs hP hD hS => ?_)
    refine tpi (fun v25 e25 => ?_)
    refine lv_if_eq (tgt := 42) hx hb dX0_mount_35 (by decide) (fun c26 => ?_) (fun c26 => ?_)
    · refine lv_aload_n hx hb dX0_mount_42 rfl (lv_at hl 1 rfl) ?_
      refine lv_iconst (v := 1) hx hb dX0_mount_43 (by decide) ?_
      refine cM_this (Wd := FWd h0 h1 h2 cA cB) (ci := 0) (q0 := 0) (n := 1) (as := [.int 1]) (rest := []) ⟨hx, hb, hml, hown, hts⟩ (c_X0_answerOf l D h0 h1 h2 cA cB s21 1) gX0_mount_X0_answerOf rfl rfl rfl (by decide +kernel) ⟨Nat.le_of_ble_eq_true rfl, Nat.le_of_ble_eq_true rfl⟩ hK hP hD hS hA rfl rfl rfl hl.1 rfl rfl (Nat.le_of_ble_eq_true rfl) dX0_mount_44 ⟨Nat.zero_le _, Nat.zero_le _⟩ (fun H locs hP hD hS => ?_)
      refine tpi (fun v27 e27 => ?_)
      have fin : f_mount st = (v27, s21) := by
        clear hP hD hS; subst t1; subst t2; subst t3; subst t4; subst t5; subst t6; subst t7; subst t8; subst t9; subst t10; subst t11; subst t12; subst t13; subst t14; subst t15; subst t16; subst t17; subst t18; subst t19; subst t20; subst t21; subst e22; subst e25; subst e27; simp only [f_mount, f_rests, f_cells, List.foldl, f_an2, f_fp, c23, c26, ↓reduceIte, not_true_eq_false, not_false_eq_true, and_self, and_true, true_and, and_false, false_and, eq_self, i10]
      exact cM_reti (Wd := FWd h0 h1 h2 cA cB) (st := s21) (st' := (f_mount st).2) hx hb hr hlocks dX0_mount_47 hS hP hD (congrArg Prod.fst fin).symm (congrArg Prod.snd fin).symm
    · refine lv_aload_n hx hb dX0_mount_38 rfl (lv_at hl 1 rfl) ?_
      refine cM_this (Wd := FWd h0 h1 h2 cA cB) (ci := 0) (q0 := 0) (n := 0) (as := []) (rest := []) ⟨hx, hb, hml, hown, hts⟩ (c_X0_finishTransfer l D h0 h1 h2 cA cB s21 (acct_in20 (pend_acc (by rw [e25]; exact c26)).1) (acct_in20 (pend_acc (by rw [e25]; exact c26)).2)) gX0_mount_X0_finishTransfer rfl rfl rfl (by decide +kernel) ⟨Nat.le_of_ble_eq_true rfl, Nat.le_of_ble_eq_true rfl⟩ hK hP hD hS hA rfl rfl rfl hl.1 rfl rfl (Nat.le_of_ble_eq_true rfl) dX0_mount_39 ⟨Nat.zero_le _, Nat.zero_le _⟩ (fun H locs hP hD hS => ?_)
      refine W.eq (g2 := F0 m 42 ls []) rfl ?_
      obtain ⟨s28, t28⟩ : ∃ y9 : FS, f_fin s21 = y9 := ⟨_, rfl⟩
      replace hP : va_P D vwCl (FWd h0 h1 h2 cA cB s28) H := by rw [← t28]; exact hP
      replace hD : va_D A (FWd h0 h1 h2 cA cB s28) := by rw [← t28]; exact hD
      refine lv_aload_n hx hb dX0_mount_42 rfl (lv_at hl 1 rfl) ?_
      refine lv_iconst (v := 1) hx hb dX0_mount_43 (by decide) ?_
      refine cM_this (Wd := FWd h0 h1 h2 cA cB) (ci := 0) (q0 := 0) (n := 1) (as := [.int 1]) (rest := []) ⟨hx, hb, hml, hown, hts⟩ (c_X0_answerOf l D h0 h1 h2 cA cB s28 1) gX0_mount_X0_answerOf rfl rfl rfl (by decide +kernel) ⟨Nat.le_of_ble_eq_true rfl, Nat.le_of_ble_eq_true rfl⟩ hK hP hD hS hA rfl rfl rfl hl.1 rfl rfl (Nat.le_of_ble_eq_true rfl) dX0_mount_44 ⟨Nat.zero_le _, Nat.zero_le _⟩ (fun H locs hP hD hS => ?_)
      refine tpi (fun v29 e29 => ?_)
      have fin : f_mount st = (v29, s28) := by
        clear hP hD hS; subst t1; subst t2; subst t3; subst t4; subst t5; subst t6; subst t7; subst t8; subst t9; subst t10; subst t11; subst t12; subst t13; subst t14; subst t15; subst t16; subst t17; subst t18; subst t19; subst t20; subst t21; subst e22; subst e25; subst t28; subst e29; simp only [f_mount, f_rests, f_cells, List.foldl, f_an2, f_fp, c23, c26, ↓reduceIte, not_true_eq_false, not_false_eq_true, and_self, and_true, true_and, and_false, false_and, eq_self, i10]
      exact cM_reti (Wd := FWd h0 h1 h2 cA cB) (st := s28) (st' := (f_mount st).2) hx hb hr hlocks dX0_mount_47 hS hP hD (congrArg Prod.fst fin).symm (congrArg Prod.snd fin).symm
abbrev rmX0_total : Room := { frames := 4, cells := 0, slots := 0, locals := 88 }
-- total
set_option maxHeartbeats 400000 in
set_option maxRecDepth 100000 in
theorem c_X0_total (l : Launch) (D : va_G) (h0 h1 h2 : Nat) (cA cB : ClassId) (st : FS)   : cM l D vwCl (FT cA cB) (FWd h0 h1 h2 cA cB) yX0_total wsX0_total rmX0_total [.ref h0] st (some (.long (f_total st).1)) (f_total st).2 := by
  refine cM_in (cc := cX0_total) (maxL := 6) (ret := (some .long)) (by decide) rfl (Nat.le_of_ble_eq_true rfl) ?_
  intro p e s m below meth c ls A hx hb hr hlocks hml hown hts hA hK hP hD hS hl
  have hown : s.vm.findClass RX0 = some m.cls := hown
  have hl : lv_has ls 6 [(0, .ref h0)] := hl
  -- walk
  have B : ∀ (Q : State → Prop) (k k' : Int32) (u0 : Int64) (s0 : FS) (H : Heap) (locs : List Loc) (ls : Array Slot), vp_in k 16 → k + 1 = k' → va_P D vwCl (FWd h0 h1 h2 cA cB s0) H → va_D A (FWd h0 h1 h2 cA cB s0) → va_S A s.heap H locs → lv_has ls 6 [(0, .ref h0), (1, .long u0), (3, .int k)] → (∀ (u : Int64) (z : FS) (H : Heap) (locs : List Loc) (ls : Array Slot), f_tot1 k (u0, s0) = (u, z) → va_P D vwCl (FWd h0 h1 h2 cA cB z) H → va_D A (FWd h0 h1 h2 cA cB z) → va_S A s.heap H locs → lv_has ls 6 [(0, .ref h0), (1, .long u), (3, .int k')] → W p l e rmX0_total s m ([.ref h0] : List Value).toArray below meth c H locs 0 0 Q (F0 m 4 ls [])) → W p l e rmX0_total s m ([.ref h0] : List Value).toArray below meth c H locs 0 0 Q (F0 m 10 ls []) := by
    intro Q k k' u0 s0 H locs ls hk hk2 hP hD hS hl K
    refine lv_aload_n hx hb dX0_total_10 rfl (lv_at hl 0 rfl) ?_
    refine lv_iload_n hx hb dX0_total_11 rfl (lv_at hl 2 rfl) ?_
    refine cM_this (Wd := FWd h0 h1 h2 cA cB) (ci := 0) (q0 := 0) (n := 1) (as := [.int k]) (rest := []) ⟨hx, hb, hml, hown, hts⟩ (c_X0_look l D h0 h1 h2 cA cB s0 k (in_up hk (by decide))) gX0_total_X0_look rfl rfl rfl (by decide +kernel) ⟨Nat.le_of_ble_eq_true rfl, Nat.le_of_ble_eq_true rfl⟩ hK hP hD hS hA rfl rfl rfl hl.1 rfl rfl (Nat.le_of_ble_eq_true rfl) dX0_total_12 ⟨Nat.zero_le _, Nat.zero_le _⟩ (fun H locs hP hD hS => ?_)
    obtain ⟨s1, t1⟩ : ∃ y9 : FS, (f_look k s0).2 = y9 := ⟨_, rfl⟩
    replace hP : va_P D vwCl (FWd h0 h1 h2 cA cB s1) H := by rw [← t1]; exact hP
    replace hD : va_D A (FWd h0 h1 h2 cA cB s1) := by rw [← t1]; exact hD
    refine tpl (fun v2 e2 => ?_)
    refine lv_lstore (lv' := [(4, .long v2), (0, .ref h0), (1, .long u0), (3, .int k)]) hx hb dX0_total_15 hl (by decide) rfl (fun ls hl => ?_)
    refine lv_lload hx hb dX0_total_17 (lv_at hl 0 rfl) ?_
    refine cS_call (n := 1) (as := [.long v2]) (rest := []) ⟨hx, hb, hml, hown, hts⟩ (c_X0_isOpen l v2) gX0_total_X0_isOpen rfl rfl rfl (by decide +kernel) ⟨Nat.le_of_ble_eq_true rfl, Nat.le_of_ble_eq_true rfl⟩ hl.1 rfl rfl (Nat.le_of_ble_eq_true rfl) dX0_total_19 ⟨Nat.zero_le _, Nat.zero_le _⟩ ?_
    refine tpi (fun v3 e3 => ?_)
    refine lv_if_eq (tgt := 34) hx hb dX0_total_22 (by decide) (fun c4 => ?_) (fun c4 => ?_)
    · refine lv_iinc (v := k') (lv' := [(3, .int k'), (4, .long v2), (0, .ref h0), (1, .long u0)]) hx hb dX0_total_34 hl (k := 3) rfl (by rw [← hk2]; rfl) (by decide) rfl (fun ls hl => ?_)
      refine lv_goto (tgt := 4) hx hb dX0_total_37 (by decide) ?_
      exact K u0 s1 _ _ _ (by clear hP hD hS; subst t1; subst e2; subst e3; simp only [f_tot1, c4, ↓reduceIte, not_true_eq_false, not_false_eq_true, and_self, and_true, true_and, and_false, false_and, eq_self]) hP hD hS (lv_sub hl [2, 3, 0] rfl)
    · refine lv_lload_n hx hb dX0_total_25 rfl (lv_at hl 2 rfl) ?_
      refine lv_lload hx hb dX0_total_26 (lv_at hl 0 rfl) ?_
      refine cS_call (n := 1) (as := [.long v2]) (rest := [.long u0]) ⟨hx, hb, hml, hown, hts⟩ (c_X0_balanceOf l v2) gX0_total_X0_balanceOf rfl rfl rfl (by decide +kernel) ⟨Nat.le_of_ble_eq_true rfl, Nat.le_of_ble_eq_true rfl⟩ hl.1 rfl rfl (Nat.le_of_ble_eq_true rfl) dX0_total_28 ⟨Nat.zero_le _, Nat.zero_le _⟩ ?_
      refine tpi (fun v5 e5 => ?_)
      refine lv_i2l hx hb dX0_total_31 rfl ?_
      refine tpl (fun v6 e6 => ?_)
      refine lv_ladd hx hb dX0_total_32 ?_
      refine tpl (fun v7 e7 => ?_)
      refine lv_lstore_n (lv' := [(1, .long v7), (4, .long v2), (0, .ref h0), (3, .int k)]) hx hb dX0_total_33 rfl hl (by decide) rfl (fun ls hl => ?_)
      refine lv_iinc (v := k') (lv' := [(3, .int k'), (1, .long v7), (4, .long v2), (0, .ref h0)]) hx hb dX0_total_34 hl (k := 3) rfl (by rw [← hk2]; rfl) (by decide) rfl (fun ls hl => ?_)
      refine lv_goto (tgt := 4) hx hb dX0_total_37 (by decide) ?_
      exact K v7 s1 _ _ _ (by clear hP hD hS; subst t1; subst e2; subst e3; subst e5; subst e6; subst e7; simp only [f_tot1, c4, ↓reduceIte, not_true_eq_false, not_false_eq_true, and_self, and_true, true_and, and_false, false_and, eq_self]) hP hD hS (lv_sub hl [3, 1, 0] rfl)
  refine lv_lconst (v := 0) hx hb dX0_total_0 (by decide) ?_
  refine lv_lstore_n (lv' := [(1, .long 0), (0, .ref h0)]) hx hb dX0_total_1 rfl hl (by decide) rfl (fun ls hl => ?_)
  refine lv_iconst (v := 0) hx hb dX0_total_2 (by decide) ?_
  refine lv_istore_n (lv' := [(3, .int 0), (1, .long 0), (0, .ref h0)]) hx hb dX0_total_3 rfl hl (by decide) rfl (fun ls hl => ?_)
  refine lv_iload_n hx hb dX0_total_4 rfl (lv_at hl 0 rfl) ?_
  refine lv_bipush (v := 16) hx hb dX0_total_5 (by decide) ?_
  refine lv_icmp_ge (tgt := 40) hx hb dX0_total_7 (by decide) (fun c0 => absurd c0 (by decide)) (fun _ => ?_)
  refine B _ 0 1 0 st _ _ _ in16_0 (by decide) hP hD hS (lv_sub hl [2, 1, 0] rfl) (fun u1 z1 H locs ls b1 hP hD hS hl => ?_)
  refine lv_iload_n hx hb dX0_total_4 rfl (lv_at hl 2 rfl) ?_
  refine lv_bipush (v := 16) hx hb dX0_total_5 (by decide) ?_
  refine lv_icmp_ge (tgt := 40) hx hb dX0_total_7 (by decide) (fun c0 => absurd c0 (by decide)) (fun _ => ?_)
  refine B _ 1 2 u1 z1 _ _ _ in16_1 (by decide) hP hD hS (lv_sub hl [0, 1, 2] rfl) (fun u2 z2 H locs ls b2 hP hD hS hl => ?_)
  refine lv_iload_n hx hb dX0_total_4 rfl (lv_at hl 2 rfl) ?_
  refine lv_bipush (v := 16) hx hb dX0_total_5 (by decide) ?_
  refine lv_icmp_ge (tgt := 40) hx hb dX0_total_7 (by decide) (fun c0 => absurd c0 (by decide)) (fun _ => ?_)
  refine B _ 2 3 u2 z2 _ _ _ in16_2 (by decide) hP hD hS (lv_sub hl [0, 1, 2] rfl) (fun u3 z3 H locs ls b3 hP hD hS hl => ?_)
  refine lv_iload_n hx hb dX0_total_4 rfl (lv_at hl 2 rfl) ?_
  refine lv_bipush (v := 16) hx hb dX0_total_5 (by decide) ?_
  refine lv_icmp_ge (tgt := 40) hx hb dX0_total_7 (by decide) (fun c0 => absurd c0 (by decide)) (fun _ => ?_)
  refine B _ 3 4 u3 z3 _ _ _ in16_3 (by decide) hP hD hS (lv_sub hl [0, 1, 2] rfl) (fun u4 z4 H locs ls b4 hP hD hS hl => ?_)
  refine lv_iload_n hx hb dX0_total_4 rfl (lv_at hl 2 rfl) ?_
  refine lv_bipush (v := 16) hx hb dX0_total_5 (by decide) ?_
  refine lv_icmp_ge (tgt := 40) hx hb dX0_total_7 (by decide) (fun c0 => absurd c0 (by decide)) (fun _ => ?_)
  refine B _ 4 5 u4 z4 _ _ _ in16_4 (by decide) hP hD hS (lv_sub hl [0, 1, 2] rfl) (fun u5 z5 H locs ls b5 hP hD hS hl => ?_)
  refine lv_iload_n hx hb dX0_total_4 rfl (lv_at hl 2 rfl) ?_
  refine lv_bipush (v := 16) hx hb dX0_total_5 (by decide) ?_
  refine lv_icmp_ge (tgt := 40) hx hb dX0_total_7 (by decide) (fun c0 => absurd c0 (by decide)) (fun _ => ?_)
  refine B _ 5 6 u5 z5 _ _ _ in16_5 (by decide) hP hD hS (lv_sub hl [0, 1, 2] rfl) (fun u6 z6 H locs ls b6 hP hD hS hl => ?_)
  refine lv_iload_n hx hb dX0_total_4 rfl (lv_at hl 2 rfl) ?_
  refine lv_bipush (v := 16) hx hb dX0_total_5 (by decide) ?_
  refine lv_icmp_ge (tgt := 40) hx hb dX0_total_7 (by decide) (fun c0 => absurd c0 (by decide)) (fun _ => ?_)
  refine B _ 6 7 u6 z6 _ _ _ in16_6 (by decide) hP hD hS (lv_sub hl [0, 1, 2] rfl) (fun u7 z7 H locs ls b7 hP hD hS hl => ?_)
  refine lv_iload_n hx hb dX0_total_4 rfl (lv_at hl 2 rfl) ?_
  refine lv_bipush (v := 16) hx hb dX0_total_5 (by decide) ?_
  refine lv_icmp_ge (tgt := 40) hx hb dX0_total_7 (by decide) (fun c0 => absurd c0 (by decide)) (fun _ => ?_)
  refine B _ 7 8 u7 z7 _ _ _ in16_7 (by decide) hP hD hS (lv_sub hl [0, 1, 2] rfl) (fun u8 z8 H locs ls b8 hP hD hS hl => ?_)
  refine lv_iload_n hx hb dX0_total_4 rfl (lv_at hl 2 rfl) ?_
  refine lv_bipush (v := 16) hx hb dX0_total_5 (by decide) ?_
  refine lv_icmp_ge (tgt := 40) hx hb dX0_total_7 (by decide) (fun c0 => absurd c0 (by decide)) (fun _ => ?_)
  refine B _ 8 9 u8 z8 _ _ _ in16_8 (by decide) hP hD hS (lv_sub hl [0, 1, 2] rfl) (fun u9 z9 H locs ls b9 hP hD hS hl => ?_)
  refine lv_iload_n hx hb dX0_total_4 rfl (lv_at hl 2 rfl) ?_
  refine lv_bipush (v := 16) hx hb dX0_total_5 (by decide) ?_
  refine lv_icmp_ge (tgt := 40) hx hb dX0_total_7 (by decide) (fun c0 => absurd c0 (by decide)) (fun _ => ?_)
  refine B _ 9 10 u9 z9 _ _ _ in16_9 (by decide) hP hD hS (lv_sub hl [0, 1, 2] rfl) (fun u10 z10 H locs ls b10 hP hD hS hl => ?_)
  refine lv_iload_n hx hb dX0_total_4 rfl (lv_at hl 2 rfl) ?_
  refine lv_bipush (v := 16) hx hb dX0_total_5 (by decide) ?_
  refine lv_icmp_ge (tgt := 40) hx hb dX0_total_7 (by decide) (fun c0 => absurd c0 (by decide)) (fun _ => ?_)
  refine B _ 10 11 u10 z10 _ _ _ in16_10 (by decide) hP hD hS (lv_sub hl [0, 1, 2] rfl) (fun u11 z11 H locs ls b11 hP hD hS hl => ?_)
  refine lv_iload_n hx hb dX0_total_4 rfl (lv_at hl 2 rfl) ?_
  refine lv_bipush (v := 16) hx hb dX0_total_5 (by decide) ?_
  refine lv_icmp_ge (tgt := 40) hx hb dX0_total_7 (by decide) (fun c0 => absurd c0 (by decide)) (fun _ => ?_)
  refine B _ 11 12 u11 z11 _ _ _ in16_11 (by decide) hP hD hS (lv_sub hl [0, 1, 2] rfl) (fun u12 z12 H locs ls b12 hP hD hS hl => ?_)
  refine lv_iload_n hx hb dX0_total_4 rfl (lv_at hl 2 rfl) ?_
  refine lv_bipush (v := 16) hx hb dX0_total_5 (by decide) ?_
  refine lv_icmp_ge (tgt := 40) hx hb dX0_total_7 (by decide) (fun c0 => absurd c0 (by decide)) (fun _ => ?_)
  refine B _ 12 13 u12 z12 _ _ _ in16_12 (by decide) hP hD hS (lv_sub hl [0, 1, 2] rfl) (fun u13 z13 H locs ls b13 hP hD hS hl => ?_)
  refine lv_iload_n hx hb dX0_total_4 rfl (lv_at hl 2 rfl) ?_
  refine lv_bipush (v := 16) hx hb dX0_total_5 (by decide) ?_
  refine lv_icmp_ge (tgt := 40) hx hb dX0_total_7 (by decide) (fun c0 => absurd c0 (by decide)) (fun _ => ?_)
  refine B _ 13 14 u13 z13 _ _ _ in16_13 (by decide) hP hD hS (lv_sub hl [0, 1, 2] rfl) (fun u14 z14 H locs ls b14 hP hD hS hl => ?_)
  refine lv_iload_n hx hb dX0_total_4 rfl (lv_at hl 2 rfl) ?_
  refine lv_bipush (v := 16) hx hb dX0_total_5 (by decide) ?_
  refine lv_icmp_ge (tgt := 40) hx hb dX0_total_7 (by decide) (fun c0 => absurd c0 (by decide)) (fun _ => ?_)
  refine B _ 14 15 u14 z14 _ _ _ in16_14 (by decide) hP hD hS (lv_sub hl [0, 1, 2] rfl) (fun u15 z15 H locs ls b15 hP hD hS hl => ?_)
  refine lv_iload_n hx hb dX0_total_4 rfl (lv_at hl 2 rfl) ?_
  refine lv_bipush (v := 16) hx hb dX0_total_5 (by decide) ?_
  refine lv_icmp_ge (tgt := 40) hx hb dX0_total_7 (by decide) (fun c0 => absurd c0 (by decide)) (fun _ => ?_)
  refine B _ 15 16 u15 z15 _ _ _ in16_15 (by decide) hP hD hS (lv_sub hl [0, 1, 2] rfl) (fun u16 z16 H locs ls b16 hP hD hS hl => ?_)
  refine lv_iload_n hx hb dX0_total_4 rfl (lv_at hl 2 rfl) ?_
  refine lv_bipush (v := 16) hx hb dX0_total_5 (by decide) ?_
  refine lv_icmp_ge (tgt := 40) hx hb dX0_total_7 (by decide) (fun _ => ?_) (fun c0 => absurd c0 (by decide))
  refine lv_aload_n hx hb dX0_total_40 rfl (lv_at hl 0 rfl) ?_
  refine va_get (D := D) (ci := 0) (v := .int z16.2.2.1) (C := RX0) (T := TX0) (N := 6) hx hb hts (by decide +kernel) hown hK hP 0 rfl rfl 2 (by decide) (hts (.fieldLink RX0 17 "FadeLedger" "powered" "Z") (by decide +kernel)) (fun _ h9 => h9) rfl dX0_total_41 ?_
  refine tpi (fun v17 e17 => ?_)
  refine lv_if_eq (tgt := 51) hx hb dX0_total_44 (by decide) (fun c18 => ?_) (fun c18 => ?_)
  · refine lv_ldc2 (v := 4398046511104) hx hb hown (hts (.constantLong RX0 58 4398046511104) (by decide +kernel)) dX0_total_51 ?_
    have fin : f_total st = (4398046511104, z16) := by
      clear hP hD hS; subst e17; simp only [f_total, f_tot, f_accts, List.foldl, b1, b2, b3, b4, b5, b6, b7, b8, b9, b10, b11, b12, b13, b14, b15, b16, c18, ↓reduceIte, not_true_eq_false, not_false_eq_true, and_self, and_true, true_and, and_false, false_and, eq_self, i10]
    exact cM_retl (Wd := FWd h0 h1 h2 cA cB) (st := z16) (st' := (f_total st).2) hx hb hr hlocks dX0_total_54 hS hP hD (congrArg Prod.fst fin).symm (congrArg Prod.snd fin).symm
  · refine lv_lload_n hx hb dX0_total_47 rfl (lv_at hl 1 rfl) ?_
    refine lv_goto (tgt := 54) hx hb dX0_total_48 (by decide) ?_
    have fin : f_total st = (u16, z16) := by
      clear hP hD hS; subst e17; simp only [f_total, f_tot, f_accts, List.foldl, b1, b2, b3, b4, b5, b6, b7, b8, b9, b10, b11, b12, b13, b14, b15, b16, c18, ↓reduceIte, not_true_eq_false, not_false_eq_true, and_self, and_true, true_and, and_false, false_and, eq_self, i10]
    exact cM_retl (Wd := FWd h0 h1 h2 cA cB) (st := z16) (st' := (f_total st).2) hx hb hr hlocks dX0_total_54 hS hP hD (congrArg Prod.fst fin).symm (congrArg Prod.snd fin).symm
