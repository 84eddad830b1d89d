abbrev rmX1_total : Room := { frames := 3, cells := 0, slots := 0, locals := 66 }
-- total
set_option maxHeartbeats 400000 in
set_option maxRecDepth 100000 in
theorem c_X1_total (l : Launch) (D : va_G) (g0 g1 g2 g3 g4 g5 g6 : Nat) (cA cB : ClassId) (st : RS)   : cM l D vwCl (FT cA cB) (RWd g0 g1 g2 g3 g4 g5 g6 cA cB) yX1_total wsX1_total rmX1_total [.ref g0] st (some (.long (r_total st).1)) (r_total st).2 := by
  refine cM_in (cc := cX1_total) (maxL := 4) (ret := (some .long)) (by decide) rfl (Nat.le_of_ble_eq_true rfl) ?_
  intro p e s m below meth c ls A hx hb hr hlocks hml hown hts hA hK hP hD hS hl
  have hown : s.vm.findClass RX1 = some m.cls := hown
  have hl : lv_has ls 4 [(0, .ref g0)] := hl
  -- walk
  have B : ∀ (Q : State → Prop) (k k' : Int32) (u0 : Int64) (s0 : RS) (n : Nat) (H : Heap) (locs : List Loc) (ls : Array Slot), vp_in k 16 → k + 1 = k' → s0.2.2.2.2.1 = nI n → n + 2 ≤ 256 → va_P D vwCl (RWd g0 g1 g2 g3 g4 g5 g6 cA cB s0) H → va_D A (RWd g0 g1 g2 g3 g4 g5 g6 cA cB s0) → va_S A s.heap H locs → lv_has ls 4 [(0, .ref g0), (1, .long u0), (3, .int k)] → (∀ (u : Int64) (z : RS) (H : Heap) (locs : List Loc) (ls : Array Slot), r_tot1 k (u0, s0) = (u, z) → va_P D vwCl (RWd g0 g1 g2 g3 g4 g5 g6 cA cB z) H → va_D A (RWd g0 g1 g2 g3 g4 g5 g6 cA cB z) → va_S A s.heap H locs → lv_has ls 4 [(0, .ref g0), (1, .long u), (3, .int k')] → W p l e rmX1_total s m ([.ref g0] : List Value).toArray below meth c H locs 0 0 Q (F0 m 9 ls [])) → W p l e rmX1_total s m ([.ref g0] : List Value).toArray below meth c H locs 0 0 Q (F0 m 15 ls []) := by
    intro Q k k' u0 s0 n H locs ls hk hk2 hn hn2 hP hD hS hl K
    refine lv_aload_n hx hb dX1_total_15 rfl (lv_at hl 0 rfl) ?_
    refine lv_iload_n hx hb dX1_total_16 rfl (lv_at hl 2 rfl) ?_
    refine cM_this (Wd := RWd g0 g1 g2 g3 g4 g5 g6 cA cB) (ci := 1) (q0 := 0) (n := 1) (as := [.int k]) (rest := []) ⟨hx, hb, hml, hown, hts⟩ (c_X1_look l D g0 g1 g2 g3 g4 g5 g6 cA cB s0 k (in_up hk (by decide)) n hn hn2) gX1_total_X1_look rfl rfl rfl (by decide +kernel) ⟨Nat.le_of_ble_eq_true rfl, Nat.le_of_ble_eq_true rfl⟩ hK hP hD hS hA rfl rfl rfl hl.1 rfl rfl (Nat.le_of_ble_eq_true rfl) dX1_total_17 ⟨Nat.zero_le _, Nat.zero_le _⟩ (fun H locs hP hD hS => ?_)
    refine W.eq (g2 := F0 m 20 ls []) rfl ?_
    obtain ⟨s1, t1⟩ : ∃ y9 : RS, r_look k s0 = y9 := ⟨_, rfl⟩
    replace hP : va_P D vwCl (RWd g0 g1 g2 g3 g4 g5 g6 cA cB s1) H := by rw [← t1]; exact hP
    replace hD : va_D A (RWd g0 g1 g2 g3 g4 g5 g6 cA cB s1) := by rw [← t1]; exact hD
    refine lv_lload_n hx hb dX1_total_20 rfl (lv_at hl 1 rfl) ?_
    refine lv_aload_n hx hb dX1_total_21 rfl (lv_at hl 0 rfl) ?_
    refine va_get (D := D) (ci := 1) (v := .ref g1) (C := RX1) (T := TX1) (N := 11) hx hb hts (by decide +kernel) hown hK hP 0 rfl rfl 0 (by decide) (hts (.fieldLink RX1 7 "FadeLedgerModel" "words" "[J") (by decide +kernel)) (fun _ h9 => h9) rfl dX1_total_22 ?_
    refine lv_iload_n hx hb dX1_total_25 rfl (lv_at hl 2 rfl) ?_
    refine va_lald hx hb hK hP 1 0 rfl rfl (in_up hk (by decide)) dX1_total_26 ?_
    refine tpl (fun v2 e2 => ?_)
    refine cS_call (n := 1) (as := [.long v2]) (rest := [.long u0]) ⟨hx, hb, hml, hown, hts⟩ (c_X1_isOpen l v2) gX1_total_X1_isOpen rfl rfl rfl (by decide +kernel) ⟨Nat.le_of_ble_eq_true rfl, Nat.le_of_ble_eq_true rfl⟩ hl.1 rfl rfl (Nat.le_of_ble_eq_true rfl) dX1_total_27 ⟨Nat.zero_le _, Nat.zero_le _⟩ ?_
    refine tpi (fun v3 e3 => ?_)
    refine lv_if_eq (tgt := 46) hx hb dX1_total_30 (by decide) (fun c4 => ?_) (fun c4 => ?_)
    · refine lv_lconst (v := 0) hx hb dX1_total_46 (by decide) ?_
      refine lv_ladd hx hb dX1_total_47 ?_
      refine tpl (fun v5 e5 => ?_)
      refine lv_lstore_n (lv' := [(1, .long v5), (0, .ref g0), (3, .int k)]) hx hb dX1_total_48 rfl hl (by decide) rfl (fun ls hl => ?_)
      refine lv_iinc (v := k') (lv' := [(3, .int k'), (1, .long v5), (0, .ref g0)]) hx hb dX1_total_49 hl (k := 2) rfl (by rw [← hk2]; rfl) (by decide) rfl (fun ls hl => ?_)
      refine lv_goto (tgt := 9) hx hb dX1_total_52 (by decide) ?_
      exact K v5 s1 _ _ _ (by clear hP hD hS; subst t1; subst e2; subst e3; subst e5; (try simp only [look_1] at c4); simp only [r_tot1, look_1, c4, ↓reduceIte, not_true_eq_false, not_false_eq_true, and_self, and_true, true_and, and_false, false_and, eq_self]) hP hD hS (lv_sub hl [2, 1, 0] rfl)
    · refine lv_aload_n hx hb dX1_total_33 rfl (lv_at hl 0 rfl) ?_
      refine va_get (D := D) (ci := 1) (v := .ref g1) (C := RX1) (T := TX1) (N := 11) hx hb hts (by decide +kernel) hown hK hP 0 rfl rfl 0 (by decide) (hts (.fieldLink RX1 7 "FadeLedgerModel" "words" "[J") (by decide +kernel)) (fun _ h9 => h9) rfl dX1_total_34 ?_
      refine lv_iload_n hx hb dX1_total_37 rfl (lv_at hl 2 rfl) ?_
      refine va_lald hx hb hK hP 1 0 rfl rfl (in_up hk (by decide)) dX1_total_38 ?_
      refine tpl (fun v6 e6 => ?_)
      refine cS_call (n := 1) (as := [.long v6]) (rest := [.long u0]) ⟨hx, hb, hml, hown, hts⟩ (c_X1_balanceOf l v6) gX1_total_X1_balanceOf rfl rfl rfl (by decide +kernel) ⟨Nat.le_of_ble_eq_true rfl, Nat.le_of_ble_eq_true rfl⟩ hl.1 rfl rfl (Nat.le_of_ble_eq_true rfl) dX1_total_39 ⟨Nat.zero_le _, Nat.zero_le _⟩ ?_
      refine tpi (fun v7 e7 => ?_)
      refine lv_i2l hx hb dX1_total_42 rfl ?_
      refine tpl (fun v8 e8 => ?_)
      refine lv_goto (tgt := 47) hx hb dX1_total_43 (by decide) ?_
      refine lv_ladd hx hb dX1_total_47 ?_
      refine tpl (fun v9 e9 => ?_)
      refine lv_lstore_n (lv' := [(1, .long v9), (0, .ref g0), (3, .int k)]) hx hb dX1_total_48 rfl hl (by decide) rfl (fun ls hl => ?_)
      refine lv_iinc (v := k') (lv' := [(3, .int k'), (1, .long v9), (0, .ref g0)]) hx hb dX1_total_49 hl (k := 2) rfl (by rw [← hk2]; rfl) (by decide) rfl (fun ls hl => ?_)
      refine lv_goto (tgt := 9) hx hb dX1_total_52 (by decide) ?_
      exact K v9 s1 _ _ _ (by clear hP hD hS; subst t1; subst e2; subst e3; subst e6; subst e7; subst e8; subst e9; (try simp only [look_1] at c4); simp only [r_tot1, look_1, c4, ↓reduceIte, not_true_eq_false, not_false_eq_true, and_self, and_true, true_and, and_false, false_and, eq_self]) hP hD hS (lv_sub hl [2, 1, 0] rfl)
  refine lv_lconst (v := 0) hx hb dX1_total_0 (by decide) ?_
  refine lv_lstore_n (lv' := [(1, .long 0), (0, .ref g0)]) hx hb dX1_total_1 rfl hl (by decide) rfl (fun ls hl => ?_)
  refine lv_aload_n hx hb dX1_total_2 rfl (lv_at hl 1 rfl) ?_
  refine lv_iconst (v := 0) hx hb dX1_total_3 (by decide) ?_
  refine va_put (D := D) (ci := 1) (v := .int 0) (ty := .int) (C := RX1) (T := TX1) (N := 11) hx hb hts (by decide +kernel) tyX1 tyX1_ok nmX1 hown hK hP hD hS 0 rfl rfl 9 (by decide) (hts (.fieldLink RX1 63 "FadeLedgerModel" "turns" "I") (by decide +kernel)) (fun _ h9 => h9) rfl (by decide +kernel) rfl rfl (Nat.le_of_ble_eq_true rfl) dX1_total_4 (fun H locs hP hD hS => ?_)
  obtain ⟨s1, t1⟩ : ∃ y9 : RS, ((st.1, st.2.1, st.2.2.1, st.2.2.2.1, 0, st.2.2.2.2.2) : RS) = y9 := ⟨_, rfl⟩
  replace hP : va_P D vwCl (RWd g0 g1 g2 g3 g4 g5 g6 cA cB s1) H := by rw [← t1]; exact hP
  replace hD : va_D A (RWd g0 g1 g2 g3 g4 g5 g6 cA cB s1) := by rw [← t1]; exact hD
  have hL2 : r_plan s1 [] := by rw [← t1]; exact plan_zero _
  refine lv_iconst (v := 0) hx hb dX1_total_7 (by decide) ?_
  refine lv_istore_n (lv' := [(3, .int 0), (1, .long 0), (0, .ref g0)]) hx hb dX1_total_8 rfl hl (by decide) rfl (fun ls hl => ?_)
  refine lv_iload_n hx hb dX1_total_9 rfl (lv_at hl 0 rfl) ?_
  refine lv_bipush (v := 16) hx hb dX1_total_10 (by decide) ?_
  refine lv_icmp_ge (tgt := 55) hx hb dX1_total_12 (by decide) (fun c0 => absurd c0 (by decide)) (fun _ => ?_)
  have hf0 : s1.1 = st.1 := by rw [← t1]
  refine B _ 0 1 0 s1 _ _ _ _ in16_0 (by decide) hL2.1 (by simp only [List.length_append, List.length_nil, List.length_cons, pl_look, pl_put] <;> decide) hP hD hS (lv_sub hl [2, 1, 0] rfl) (fun u3 z3 H locs ls b3 hP hD hS hl => ?_)
  obtain ⟨hL3, hf3⟩ := tot_plan b3 hL2 (by simp only [List.length_append, List.length_nil, List.length_cons, pl_look, pl_put] <;> decide) in20_0
  rw [hf0] at hL3 hf3
  refine lv_iload_n hx hb dX1_total_9 rfl (lv_at hl 2 rfl) ?_
  refine lv_bipush (v := 16) hx hb dX1_total_10 (by decide) ?_
  refine lv_icmp_ge (tgt := 55) hx hb dX1_total_12 (by decide) (fun c0 => absurd c0 (by decide)) (fun _ => ?_)
  refine B _ 1 2 u3 z3 _ _ _ _ in16_1 (by decide) hL3.1 (by simp only [List.length_append, List.length_nil, List.length_cons, pl_look, pl_put] <;> decide) hP hD hS (lv_sub hl [0, 1, 2] rfl) (fun u4 z4 H locs ls b4 hP hD hS hl => ?_)
  obtain ⟨hL4, hf4⟩ := tot_plan b4 hL3 (by simp only [List.length_append, List.length_nil, List.length_cons, pl_look, pl_put] <;> decide) in20_1
  rw [hf3] at hL4 hf4
  refine lv_iload_n hx hb dX1_total_9 rfl (lv_at hl 2 rfl) ?_
  refine lv_bipush (v := 16) hx hb dX1_total_10 (by decide) ?_
  refine lv_icmp_ge (tgt := 55) hx hb dX1_total_12 (by decide) (fun c0 => absurd c0 (by decide)) (fun _ => ?_)
  refine B _ 2 3 u4 z4 _ _ _ _ in16_2 (by decide) hL4.1 (by simp only [List.length_append, List.length_nil, List.length_cons, pl_look, pl_put] <;> decide) hP hD hS (lv_sub hl [0, 1, 2] rfl) (fun u5 z5 H locs ls b5 hP hD hS hl => ?_)
  obtain ⟨hL5, hf5⟩ := tot_plan b5 hL4 (by simp only [List.length_append, List.length_nil, List.length_cons, pl_look, pl_put] <;> decide) in20_2
  rw [hf4] at hL5 hf5
  refine lv_iload_n hx hb dX1_total_9 rfl (lv_at hl 2 rfl) ?_
  refine lv_bipush (v := 16) hx hb dX1_total_10 (by decide) ?_
  refine lv_icmp_ge (tgt := 55) hx hb dX1_total_12 (by decide) (fun c0 => absurd c0 (by decide)) (fun _ => ?_)
  refine B _ 3 4 u5 z5 _ _ _ _ in16_3 (by decide) hL5.1 (by simp only [List.length_append, List.length_nil, List.length_cons, pl_look, pl_put] <;> decide) hP hD hS (lv_sub hl [0, 1, 2] rfl) (fun u6 z6 H locs ls b6 hP hD hS hl => ?_)
  obtain ⟨hL6, hf6⟩ := tot_plan b6 hL5 (by simp only [List.length_append, List.length_nil, List.length_cons, pl_look, pl_put] <;> decide) in20_3
  rw [hf5] at hL6 hf6
  refine lv_iload_n hx hb dX1_total_9 rfl (lv_at hl 2 rfl) ?_
  refine lv_bipush (v := 16) hx hb dX1_total_10 (by decide) ?_
  refine lv_icmp_ge (tgt := 55) hx hb dX1_total_12 (by decide) (fun c0 => absurd c0 (by decide)) (fun _ => ?_)
  refine B _ 4 5 u6 z6 _ _ _ _ in16_4 (by decide) hL6.1 (by simp only [List.length_append, List.length_nil, List.length_cons, pl_look, pl_put] <;> decide) hP hD hS (lv_sub hl [0, 1, 2] rfl) (fun u7 z7 H locs ls b7 hP hD hS hl => ?_)
  obtain ⟨hL7, hf7⟩ := tot_plan b7 hL6 (by simp only [List.length_append, List.length_nil, List.length_cons, pl_look, pl_put] <;> decide) in20_4
  rw [hf6] at hL7 hf7
  refine lv_iload_n hx hb dX1_total_9 rfl (lv_at hl 2 rfl) ?_
  refine lv_bipush (v := 16) hx hb dX1_total_10 (by decide) ?_
  refine lv_icmp_ge (tgt := 55) hx hb dX1_total_12 (by decide) (fun c0 => absurd c0 (by decide)) (fun _ => ?_)
  refine B _ 5 6 u7 z7 _ _ _ _ in16_5 (by decide) hL7.1 (by simp only [List.length_append, List.length_nil, List.length_cons, pl_look, pl_put] <;> decide) hP hD hS (lv_sub hl [0, 1, 2] rfl) (fun u8 z8 H locs ls b8 hP hD hS hl => ?_)
  obtain ⟨hL8, hf8⟩ := tot_plan b8 hL7 (by simp only [List.length_append, List.length_nil, List.length_cons, pl_look, pl_put] <;> decide) in20_5
  rw [hf7] at hL8 hf8
  refine lv_iload_n hx hb dX1_total_9 rfl (lv_at hl 2 rfl) ?_
  refine lv_bipush (v := 16) hx hb dX1_total_10 (by decide) ?_
  refine lv_icmp_ge (tgt := 55) hx hb dX1_total_12 (by decide) (fun c0 => absurd c0 (by decide)) (fun _ => ?_)
  refine B _ 6 7 u8 z8 _ _ _ _ in16_6 (by decide) hL8.1 (by simp only [List.length_append, List.length_nil, List.length_cons, pl_look, pl_put] <;> decide) hP hD hS (lv_sub hl [0, 1, 2] rfl) (fun u9 z9 H locs ls b9 hP hD hS hl => ?_)
  obtain ⟨hL9, hf9⟩ := tot_plan b9 hL8 (by simp only [List.length_append, List.length_nil, List.length_cons, pl_look, pl_put] <;> decide) in20_6
  rw [hf8] at hL9 hf9
  refine lv_iload_n hx hb dX1_total_9 rfl (lv_at hl 2 rfl) ?_
  refine lv_bipush (v := 16) hx hb dX1_total_10 (by decide) ?_
  refine lv_icmp_ge (tgt := 55) hx hb dX1_total_12 (by decide) (fun c0 => absurd c0 (by decide)) (fun _ => ?_)
  refine B _ 7 8 u9 z9 _ _ _ _ in16_7 (by decide) hL9.1 (by simp only [List.length_append, List.length_nil, List.length_cons, pl_look, pl_put] <;> decide) hP hD hS (lv_sub hl [0, 1, 2] rfl) (fun u10 z10 H locs ls b10 hP hD hS hl => ?_)
  obtain ⟨hL10, hf10⟩ := tot_plan b10 hL9 (by simp only [List.length_append, List.length_nil, List.length_cons, pl_look, pl_put] <;> decide) in20_7
  rw [hf9] at hL10 hf10
  refine lv_iload_n hx hb dX1_total_9 rfl (lv_at hl 2 rfl) ?_
  refine lv_bipush (v := 16) hx hb dX1_total_10 (by decide) ?_
  refine lv_icmp_ge (tgt := 55) hx hb dX1_total_12 (by decide) (fun c0 => absurd c0 (by decide)) (fun _ => ?_)
  refine B _ 8 9 u10 z10 _ _ _ _ in16_8 (by decide) hL10.1 (by simp only [List.length_append, List.length_nil, List.length_cons, pl_look, pl_put] <;> decide) hP hD hS (lv_sub hl [0, 1, 2] rfl) (fun u11 z11 H locs ls b11 hP hD hS hl => ?_)
  obtain ⟨hL11, hf11⟩ := tot_plan b11 hL10 (by simp only [List.length_append, List.length_nil, List.length_cons, pl_look, pl_put] <;> decide) in20_8
  rw [hf10] at hL11 hf11
  refine lv_iload_n hx hb dX1_total_9 rfl (lv_at hl 2 rfl) ?_
  refine lv_bipush (v := 16) hx hb dX1_total_10 (by decide) ?_
  refine lv_icmp_ge (tgt := 55) hx hb dX1_total_12 (by decide) (fun c0 => absurd c0 (by decide)) (fun _ => ?_)
  refine B _ 9 10 u11 z11 _ _ _ _ in16_9 (by decide) hL11.1 (by simp only [List.length_append, List.length_nil, List.length_cons, pl_look, pl_put] <;> decide) hP hD hS (lv_sub hl [0, 1, 2] rfl) (fun u12 z12 H locs ls b12 hP hD hS hl => ?_)
  obtain ⟨hL12, hf12⟩ := tot_plan b12 hL11 (by simp only [List.length_append, List.length_nil, List.length_cons, pl_look, pl_put] <;> decide) in20_9
  rw [hf11] at hL12 hf12
  refine lv_iload_n hx hb dX1_total_9 rfl (lv_at hl 2 rfl) ?_
  refine lv_bipush (v := 16) hx hb dX1_total_10 (by decide) ?_
  refine lv_icmp_ge (tgt := 55) hx hb dX1_total_12 (by decide) (fun c0 => absurd c0 (by decide)) (fun _ => ?_)
  refine B _ 10 11 u12 z12 _ _ _ _ in16_10 (by decide) hL12.1 (by simp only [List.length_append, List.length_nil, List.length_cons, pl_look, pl_put] <;> decide) hP hD hS (lv_sub hl [0, 1, 2] rfl) (fun u13 z13 H locs ls b13 hP hD hS hl => ?_)
  obtain ⟨hL13, hf13⟩ := tot_plan b13 hL12 (by simp only [List.length_append, List.length_nil, List.length_cons, pl_look, pl_put] <;> decide) in20_10
  rw [hf12] at hL13 hf13
  refine lv_iload_n hx hb dX1_total_9 rfl (lv_at hl 2 rfl) ?_
  refine lv_bipush (v := 16) hx hb dX1_total_10 (by decide) ?_
  refine lv_icmp_ge (tgt := 55) hx hb dX1_total_12 (by decide) (fun c0 => absurd c0 (by decide)) (fun _ => ?_)
  refine B _ 11 12 u13 z13 _ _ _ _ in16_11 (by decide) hL13.1 (by simp only [List.length_append, List.length_nil, List.length_cons, pl_look, pl_put] <;> decide) hP hD hS (lv_sub hl [0, 1, 2] rfl) (fun u14 z14 H locs ls b14 hP hD hS hl => ?_)
  obtain ⟨hL14, hf14⟩ := tot_plan b14 hL13 (by simp only [List.length_append, List.length_nil, List.length_cons, pl_look, pl_put] <;> decide) in20_11
  rw [hf13] at hL14 hf14
  refine lv_iload_n hx hb dX1_total_9 rfl (lv_at hl 2 rfl) ?_
  refine lv_bipush (v := 16) hx hb dX1_total_10 (by decide) ?_
  refine lv_icmp_ge (tgt := 55) hx hb dX1_total_12 (by decide) (fun c0 => absurd c0 (by decide)) (fun _ => ?_)
  refine B _ 12 13 u14 z14 _ _ _ _ in16_12 (by decide) hL14.1 (by simp only [List.length_append, List.length_nil, List.length_cons, pl_look, pl_put] <;> decide) hP hD hS (lv_sub hl [0, 1, 2] rfl) (fun u15 z15 H locs ls b15 hP hD hS hl => ?_)
  obtain ⟨hL15, hf15⟩ := tot_plan b15 hL14 (by simp only [List.length_append, List.length_nil, List.length_cons, pl_look, pl_put] <;> decide) in20_12
  rw [hf14] at hL15 hf15
  refine lv_iload_n hx hb dX1_total_9 rfl (lv_at hl 2 rfl) ?_
  refine lv_bipush (v := 16) hx hb dX1_total_10 (by decide) ?_
  refine lv_icmp_ge (tgt := 55) hx hb dX1_total_12 (by decide) (fun c0 => absurd c0 (by decide)) (fun _ => ?_)
  refine B _ 13 14 u15 z15 _ _ _ _ in16_13 (by decide) hL15.1 (by simp only [List.length_append, List.length_nil, List.length_cons, pl_look, pl_put] <;> decide) hP hD hS (lv_sub hl [0, 1, 2] rfl) (fun u16 z16 H locs ls b16 hP hD hS hl => ?_)
  obtain ⟨hL16, hf16⟩ := tot_plan b16 hL15 (by simp only [List.length_append, List.length_nil, List.length_cons, pl_look, pl_put] <;> decide) in20_13
  rw [hf15] at hL16 hf16
  refine lv_iload_n hx hb dX1_total_9 rfl (lv_at hl 2 rfl) ?_
  refine lv_bipush (v := 16) hx hb dX1_total_10 (by decide) ?_
  refine lv_icmp_ge (tgt := 55) hx hb dX1_total_12 (by decide) (fun c0 => absurd c0 (by decide)) (fun _ => ?_)
  refine B _ 14 15 u16 z16 _ _ _ _ in16_14 (by decide) hL16.1 (by simp only [List.length_append, List.length_nil, List.length_cons, pl_look, pl_put] <;> decide) hP hD hS (lv_sub hl [0, 1, 2] rfl) (fun u17 z17 H locs ls b17 hP hD hS hl => ?_)
  obtain ⟨hL17, hf17⟩ := tot_plan b17 hL16 (by simp only [List.length_append, List.length_nil, List.length_cons, pl_look, pl_put] <;> decide) in20_14
  rw [hf16] at hL17 hf17
  refine lv_iload_n hx hb dX1_total_9 rfl (lv_at hl 2 rfl) ?_
  refine lv_bipush (v := 16) hx hb dX1_total_10 (by decide) ?_
  refine lv_icmp_ge (tgt := 55) hx hb dX1_total_12 (by decide) (fun c0 => absurd c0 (by decide)) (fun _ => ?_)
  refine B _ 15 16 u17 z17 _ _ _ _ in16_15 (by decide) hL17.1 (by simp only [List.length_append, List.length_nil, List.length_cons, pl_look, pl_put] <;> decide) hP hD hS (lv_sub hl [0, 1, 2] rfl) (fun u18 z18 H locs ls b18 hP hD hS hl => ?_)
  obtain ⟨hL18, hf18⟩ := tot_plan b18 hL17 (by simp only [List.length_append, List.length_nil, List.length_cons, pl_look, pl_put] <;> decide) in20_15
  rw [hf17] at hL18 hf18
  refine lv_iload_n hx hb dX1_total_9 rfl (lv_at hl 2 rfl) ?_
  refine lv_bipush (v := 16) hx hb dX1_total_10 (by decide) ?_
  refine lv_icmp_ge (tgt := 55) hx hb dX1_total_12 (by decide) (fun _ => ?_) (fun c0 => absurd c0 (by decide))
  refine lv_aload_n hx hb dX1_total_55 rfl (lv_at hl 0 rfl) ?_
  obtain ⟨L19, f19⟩ : ∃ y9 : RPl, [] ++ p_look 0 (st.1.1 (0 : Int32).toNatClampNeg) ++ p_look 1 (st.1.1 (1 : Int32).toNatClampNeg) ++ p_look 2 (st.1.1 (2 : Int32).toNatClampNeg) ++ p_look 3 (st.1.1 (3 : Int32).toNatClampNeg) ++ p_look 4 (st.1.1 (4 : Int32).toNatClampNeg) ++ p_look 5 (st.1.1 (5 : Int32).toNatClampNeg) ++ p_look 6 (st.1.1 (6 : Int32).toNatClampNeg) ++ p_look 7 (st.1.1 (7 : Int32).toNatClampNeg) ++ p_look 8 (st.1.1 (8 : Int32).toNatClampNeg) ++ p_look 9 (st.1.1 (9 : Int32).toNatClampNeg) ++ p_look 10 (st.1.1 (10 : Int32).toNatClampNeg) ++ p_look 11 (st.1.1 (11 : Int32).toNatClampNeg) ++ p_look 12 (st.1.1 (12 : Int32).toNatClampNeg) ++ p_look 13 (st.1.1 (13 : Int32).toNatClampNeg) ++ p_look 14 (st.1.1 (14 : Int32).toNatClampNeg) ++ p_look 15 (st.1.1 (15 : Int32).toNatClampNeg) = y9 := ⟨_, rfl⟩
  have hL19 : r_plan z18 L19 := by rw [← f19]; exact hL18
  refine cM_this (Wd := RWd g0 g1 g2 g3 g4 g5 g6 cA cB) (ci := 1) (q0 := 0) (n := 0) (as := []) (rest := []) ⟨hx, hb, hml, hown, hts⟩ (c_X1_works l D g0 g1 g2 g3 g4 g5 g6 cA cB z18 L19 hL19) gX1_total_X1_works rfl rfl rfl (by decide +kernel) ⟨Nat.le_of_ble_eq_true rfl, Nat.le_of_ble_eq_true rfl⟩ hK hP hD hS hA rfl rfl rfl hl.1 rfl rfl (Nat.le_of_ble_eq_true rfl) dX1_total_56 ⟨Nat.zero_le _, Nat.zero_le _⟩ (fun H locs hP hD hS => ?_)
  obtain ⟨s20, t20⟩ : ∃ y9 : RS, (r_wk (L19) z18).2 = y9 := ⟨_, rfl⟩
  replace hP : va_P D vwCl (RWd g0 g1 g2 g3 g4 g5 g6 cA cB s20) H := by rw [← t20]; exact hP
  replace hD : va_D A (RWd g0 g1 g2 g3 g4 g5 g6 cA cB s20) := by rw [← t20]; exact hD
  refine tpi (fun v21 e21 => ?_)
  refine lv_if_eq (tgt := 66) hx hb dX1_total_59 (by decide) (fun c22 => ?_) (fun c22 => ?_)
  · refine lv_ldc2 (v := 4398046511104) hx hb hown (hts (.constantLong RX1 94 4398046511104) (by decide +kernel)) dX1_total_66 ?_
    have fin : r_total st = (4398046511104, s20) := by
      clear hP hD hS; subst t1; subst f19; subst t20; subst e21; simp only [r_total, r_tot, r_totL, f_accts, List.foldl, r_zero, b3, b4, b5, b6, b7, b8, b9, b10, b11, b12, b13, b14, b15, b16, b17, b18, c22, ↓reduceIte, not_true_eq_false, not_false_eq_true, and_self, and_true, true_and, and_false, false_and, eq_self, i10]
    exact cM_retl (Wd := RWd g0 g1 g2 g3 g4 g5 g6 cA cB) (st := s20) (st' := (r_total st).2) hx hb hr hlocks dX1_total_69 hS hP hD (congrArg Prod.fst fin).symm (congrArg Prod.snd fin).symm
  · refine lv_lload_n hx hb dX1_total_62 rfl (lv_at hl 1 rfl) ?_
    refine lv_goto (tgt := 69) hx hb dX1_total_63 (by decide) ?_
    have fin : r_total st = (u18, s20) := by
      clear hP hD hS; subst t1; subst f19; subst t20; subst e21; simp only [r_total, r_tot, r_totL, f_accts, List.foldl, r_zero, b3, b4, b5, b6, b7, b8, b9, b10, b11, b12, b13, b14, b15, b16, b17, b18, c22, ↓reduceIte, not_true_eq_false, not_false_eq_true, and_self, and_true, true_and, and_false, false_and, eq_self, i10]
    exact cM_retl (Wd := RWd g0 g1 g2 g3 g4 g5 g6 cA cB) (st := s20) (st' := (r_total st).2) hx hb hr hlocks dX1_total_69 hS hP hD (congrArg Prod.fst fin).symm (congrArg Prod.snd fin).symm
abbrev rmX1_best : Room := { frames := 2, cells := 0, slots := 0, locals := 45 }
-- best
set_option maxHeartbeats 400000 in
set_option maxRecDepth 100000 in
theorem c_X1_best (l : Launch) (D : va_G) (g0 g1 g2 g3 g4 g5 g6 : Nat) (cA cB : ClassId) (st : RS) (a : Int32) (hc : vp_in a 20) : cM l D vwCl (FT cA cB) (RWd g0 g1 g2 g3 g4 g5 g6 cA cB) yX1_best wsX1_best rmX1_best [.ref g0, .int a] st (some (.long (g_best a st))) st := by
  refine cM_in (cc := cX1_best) (maxL := 8) (ret := (some .long)) (by decide) rfl (Nat.le_of_ble_eq_true rfl) ?_
  intro p e s m below meth c ls A hx hb hr hlocks hml hown hts hA hK hP hD hS hl
  have hown : s.vm.findClass RX1 = some m.cls := hown
  have hl : lv_has ls 8 [(0, .ref g0), (1, .int a)] := hl
  -- walk
  have B : ∀ (Q : State → Prop) (k k' : Int32) (b0 : Int64) (H : Heap) (locs : List Loc) (ls : Array Slot), vp_in k 4 → k + 1 = k' → va_P D vwCl (RWd g0 g1 g2 g3 g4 g5 g6 cA cB st) H → va_D A (RWd g0 g1 g2 g3 g4 g5 g6 cA cB st) → va_S A s.heap H locs → lv_has ls 8 [(0, .ref g0), (1, .int a), (2, .long b0), (4, .int k)] → (∀ (bb : Int64) (H : Heap) (locs : List Loc) (ls : Array Slot), g_best1 b0 (st.1.1 (r_place k a).toNatClampNeg) = bb → va_P D vwCl (RWd g0 g1 g2 g3 g4 g5 g6 cA cB st) H → va_D A (RWd g0 g1 g2 g3 g4 g5 g6 cA cB st) → va_S A s.heap H locs → lv_has ls 8 [(0, .ref g0), (1, .int a), (2, .long bb), (4, .int k')] → W p l e rmX1_best s m ([.ref g0, .int a] : List Value).toArray below meth c H locs 0 0 Q (F0 m 5 ls [])) → W p l e rmX1_best s m ([.ref g0, .int a] : List Value).toArray below meth c H locs 0 0 Q (F0 m 11 ls []) := by
    intro Q k k' b0 H locs ls hk hk2 hP hD hS hl K
    refine lv_aload_n hx hb dX1_best_11 rfl (lv_at hl 0 rfl) ?_
    refine va_get (D := D) (ci := 1) (v := .ref g1) (C := RX1) (T := TX1) (N := 11) hx hb hts (by decide +kernel) hown hK hP 0 rfl rfl 0 (by decide) (hts (.fieldLink RX1 7 "FadeLedgerModel" "words" "[J") (by decide +kernel)) (fun _ h9 => h9) rfl dX1_best_12 ?_
    refine lv_bipush (v := 20) hx hb dX1_best_15 (by decide) ?_
    refine lv_iload hx hb dX1_best_17 (lv_at hl 3 rfl) ?_
    refine lv_imul hx hb dX1_best_19 ?_
    refine tpi (fun v1 e1 => ?_)
    refine lv_iload_n hx hb dX1_best_20 rfl (lv_at hl 1 rfl) ?_
    refine lv_iadd hx hb dX1_best_21 ?_
    refine tpi (fun v2 e2 => ?_)
    refine va_lald hx hb hK hP 1 0 rfl rfl (by subst e1; subst e2; exact place_in hk hc) dX1_best_22 ?_
    refine tpl (fun v3 e3 => ?_)
    refine lv_lstore (lv' := [(5, .long v3), (0, .ref g0), (1, .int a), (2, .long b0), (4, .int k)]) hx hb dX1_best_23 hl (by decide) rfl (fun ls hl => ?_)
    refine lv_lload hx hb dX1_best_25 (lv_at hl 0 rfl) ?_
    refine cS_call (n := 1) (as := [.long v3]) (rest := []) ⟨hx, hb, hml, hown, hts⟩ (c_X1_isValid l v3) gX1_best_X1_isValid rfl rfl rfl (by decide +kernel) ⟨Nat.le_of_ble_eq_true rfl, Nat.le_of_ble_eq_true rfl⟩ hl.1 rfl rfl (Nat.le_of_ble_eq_true rfl) dX1_best_27 ⟨Nat.zero_le _, Nat.zero_le _⟩ ?_
    refine tpi (fun v4 e4 => ?_)
    refine lv_if_ne (tgt := 36) hx hb dX1_best_30 (by decide) (fun c5 => ?_) (fun c5 => ?_)
    · refine lv_lload_n hx hb dX1_best_36 rfl (lv_at hl 3 rfl) ?_
      refine lv_lconst (v := 0) hx hb dX1_best_37 (by decide) ?_
      refine W.lcmp hx hb dX1_best_38 ?_
      refine tpi (fun v6 e6 => ?_)
      refine lv_if_eq (tgt := 78) hx hb dX1_best_39 (by decide) (fun c7 => ?_) (fun c7 => ?_)
      · refine lv_iconst (v := 1) hx hb dX1_best_78 (by decide) ?_
        refine lv_goto (tgt := 83) hx hb dX1_best_79 (by decide) ?_
        refine lv_istore (lv' := [(7, .int 1), (5, .long v3), (0, .ref g0), (1, .int a), (2, .long b0), (4, .int k)]) hx hb dX1_best_83 hl (by decide) rfl (fun ls hl => ?_)
        refine lv_iload hx hb dX1_best_85 (lv_at hl 0 rfl) ?_
        refine lv_if_eq (tgt := 95) hx hb dX1_best_87 (by decide) (fun c0 => absurd c0 (by decide)) (fun _ => ?_)
        refine lv_lload hx hb dX1_best_90 (lv_at hl 1 rfl) ?_
        refine lv_goto (tgt := 96) hx hb dX1_best_92 (by decide) ?_
        refine lv_lstore_n (lv' := [(2, .long v3), (7, .int 1), (5, .long v3), (0, .ref g0), (1, .int a), (4, .int k)]) hx hb dX1_best_96 rfl hl (by decide) rfl (fun ls hl => ?_)
        refine lv_iinc (v := k') (lv' := [(4, .int k'), (2, .long v3), (7, .int 1), (5, .long v3), (0, .ref g0), (1, .int a)]) hx hb dX1_best_97 hl (k := 5) rfl (by rw [← hk2]; rfl) (by decide) rfl (fun ls hl => ?_)
        refine lv_goto (tgt := 5) hx hb dX1_best_100 (by decide) ?_
        exact K v3 _ _ _ (by clear hP hD hS; subst e1; subst e2; subst e3; subst e4; subst e6; (try simp only [lg_cmp_eq] at c5 c7); simp only [r_place, g_best1, lt_irr, c5, c7, ↓reduceIte, not_true_eq_false, not_false_eq_true, and_self, and_true, true_and, and_false, false_and, eq_self]) hP hD hS (lv_sub hl [4, 5, 1, 0] rfl)
      · refine lv_lload hx hb dX1_best_42 (lv_at hl 0 rfl) ?_
        refine cS_call (n := 1) (as := [.long v3]) (rest := []) ⟨hx, hb, hml, hown, hts⟩ (c_X1_numberOf l v3) gX1_best_X1_numberOf rfl rfl rfl (by decide +kernel) ⟨Nat.le_of_ble_eq_true rfl, Nat.le_of_ble_eq_true rfl⟩ hl.1 rfl rfl (Nat.le_of_ble_eq_true rfl) dX1_best_44 ⟨Nat.zero_le _, Nat.zero_le _⟩ ?_
        refine tpi (fun v8 e8 => ?_)
        refine lv_lload_n hx hb dX1_best_47 rfl (lv_at hl 3 rfl) ?_
        refine cS_call (n := 1) (as := [.long b0]) (rest := [.int v8]) ⟨hx, hb, hml, hown, hts⟩ (c_X1_numberOf l b0) gX1_best_X1_numberOf rfl rfl rfl (by decide +kernel) ⟨Nat.le_of_ble_eq_true rfl, Nat.le_of_ble_eq_true rfl⟩ hl.1 rfl rfl (Nat.le_of_ble_eq_true rfl) dX1_best_48 ⟨Nat.zero_le _, Nat.zero_le _⟩ ?_
        refine tpi (fun v9 e9 => ?_)
        refine lv_icmp_gt (tgt := 78) hx hb dX1_best_51 (by decide) (fun c10 => ?_) (fun c10 => ?_)
        · refine lv_iconst (v := 1) hx hb dX1_best_78 (by decide) ?_
          refine lv_goto (tgt := 83) hx hb dX1_best_79 (by decide) ?_
          refine lv_istore (lv' := [(7, .int 1), (5, .long v3), (0, .ref g0), (1, .int a), (2, .long b0), (4, .int k)]) hx hb dX1_best_83 hl (by decide) rfl (fun ls hl => ?_)
          refine lv_iload hx hb dX1_best_85 (lv_at hl 0 rfl) ?_
          refine lv_if_eq (tgt := 95) hx hb dX1_best_87 (by decide) (fun c0 => absurd c0 (by decide)) (fun _ => ?_)
          refine lv_lload hx hb dX1_best_90 (lv_at hl 1 rfl) ?_
          refine lv_goto (tgt := 96) hx hb dX1_best_92 (by decide) ?_
          refine lv_lstore_n (lv' := [(2, .long v3), (7, .int 1), (5, .long v3), (0, .ref g0), (1, .int a), (4, .int k)]) hx hb dX1_best_96 rfl hl (by decide) rfl (fun ls hl => ?_)
          refine lv_iinc (v := k') (lv' := [(4, .int k'), (2, .long v3), (7, .int 1), (5, .long v3), (0, .ref g0), (1, .int a)]) hx hb dX1_best_97 hl (k := 5) rfl (by rw [← hk2]; rfl) (by decide) rfl (fun ls hl => ?_)
          refine lv_goto (tgt := 5) hx hb dX1_best_100 (by decide) ?_
          exact K v3 _ _ _ (by clear hP hD hS; subst e1; subst e2; subst e3; subst e4; subst e6; subst e8; subst e9; (try simp only [lg_cmp_eq] at c5 c7 c10); simp only [r_place, g_best1, lt_irr, c5, c7, c10, ↓reduceIte, not_true_eq_false, not_false_eq_true, and_self, and_true, true_and, and_false, false_and, eq_self]) hP hD hS (lv_sub hl [4, 5, 1, 0] rfl)
        · refine lv_lload hx hb dX1_best_54 (lv_at hl 0 rfl) ?_
          refine cS_call (n := 1) (as := [.long v3]) (rest := []) ⟨hx, hb, hml, hown, hts⟩ (c_X1_numberOf l v3) gX1_best_X1_numberOf rfl rfl rfl (by decide +kernel) ⟨Nat.le_of_ble_eq_true rfl, Nat.le_of_ble_eq_true rfl⟩ hl.1 rfl rfl (Nat.le_of_ble_eq_true rfl) dX1_best_56 ⟨Nat.zero_le _, Nat.zero_le _⟩ ?_
          refine tpi (fun v11 e11 => ?_)
          refine lv_lload_n hx hb dX1_best_59 rfl (lv_at hl 3 rfl) ?_
          refine cS_call (n := 1) (as := [.long b0]) (rest := [.int v11]) ⟨hx, hb, hml, hown, hts⟩ (c_X1_numberOf l b0) gX1_best_X1_numberOf rfl rfl rfl (by decide +kernel) ⟨Nat.le_of_ble_eq_true rfl, Nat.le_of_ble_eq_true rfl⟩ hl.1 rfl rfl (Nat.le_of_ble_eq_true rfl) dX1_best_60 ⟨Nat.zero_le _, Nat.zero_le _⟩ ?_
          refine tpi (fun v12 e12 => ?_)
          refine lv_icmp_ne (tgt := 82) hx hb dX1_best_63 (by decide) (fun c13 => ?_) (fun c13 => ?_)
          · refine lv_iconst (v := 0) hx hb dX1_best_82 (by decide) ?_
            refine lv_istore (lv' := [(7, .int 0), (5, .long v3), (0, .ref g0), (1, .int a), (2, .long b0), (4, .int k)]) hx hb dX1_best_83 hl (by decide) rfl (fun ls hl => ?_)
            refine lv_iload hx hb dX1_best_85 (lv_at hl 0 rfl) ?_
            refine lv_if_eq (tgt := 95) hx hb dX1_best_87 (by decide) (fun _ => ?_) (fun c0 => absurd c0 (by decide))
            refine lv_lload_n hx hb dX1_best_95 rfl (lv_at hl 4 rfl) ?_
            refine lv_lstore_n (lv' := [(2, .long b0), (7, .int 0), (5, .long v3), (0, .ref g0), (1, .int a), (4, .int k)]) hx hb dX1_best_96 rfl hl (by decide) rfl (fun ls hl => ?_)
            refine lv_iinc (v := k') (lv' := [(4, .int k'), (2, .long b0), (7, .int 0), (5, .long v3), (0, .ref g0), (1, .int a)]) hx hb dX1_best_97 hl (k := 5) rfl (by rw [← hk2]; rfl) (by decide) rfl (fun ls hl => ?_)
            refine lv_goto (tgt := 5) hx hb dX1_best_100 (by decide) ?_
            exact K b0 _ _ _ (by clear hP hD hS; subst e1; subst e2; subst e3; subst e4; subst e6; subst e8; subst e9; subst e11; subst e12; (try simp only [lg_cmp_eq] at c5 c7 c10 c13); simp only [r_place, g_best1, lt_irr, c5, c7, c10, c13, ↓reduceIte, not_true_eq_false, not_false_eq_true, and_self, and_true, true_and, and_false, false_and, eq_self]) hP hD hS (lv_sub hl [4, 5, 1, 0] rfl)
          · refine lv_lload hx hb dX1_best_66 (lv_at hl 0 rfl) ?_
            refine cS_call (n := 1) (as := [.long v3]) (rest := []) ⟨hx, hb, hml, hown, hts⟩ (c_X1_balanceOf l v3) gX1_best_X1_balanceOf rfl rfl rfl (by decide +kernel) ⟨Nat.le_of_ble_eq_true rfl, Nat.le_of_ble_eq_true rfl⟩ hl.1 rfl rfl (Nat.le_of_ble_eq_true rfl) dX1_best_68 ⟨Nat.zero_le _, Nat.zero_le _⟩ ?_
            refine tpi (fun v14 e14 => ?_)
            refine lv_lload_n hx hb dX1_best_71 rfl (lv_at hl 3 rfl) ?_
            refine cS_call (n := 1) (as := [.long b0]) (rest := [.int v14]) ⟨hx, hb, hml, hown, hts⟩ (c_X1_balanceOf l b0) gX1_best_X1_balanceOf rfl rfl rfl (by decide +kernel) ⟨Nat.le_of_ble_eq_true rfl, Nat.le_of_ble_eq_true rfl⟩ hl.1 rfl rfl (Nat.le_of_ble_eq_true rfl) dX1_best_72 ⟨Nat.zero_le _, Nat.zero_le _⟩ ?_
            refine tpi (fun v15 e15 => ?_)
            refine lv_icmp_le (tgt := 82) hx hb dX1_best_75 (by decide) (fun c16 => ?_) (fun c16 => ?_)
            · refine lv_iconst (v := 0) hx hb dX1_best_82 (by decide) ?_
              refine lv_istore (lv' := [(7, .int 0), (5, .long v3), (0, .ref g0), (1, .int a), (2, .long b0), (4, .int k)]) hx hb dX1_best_83 hl (by decide) rfl (fun ls hl => ?_)
              refine lv_iload hx hb dX1_best_85 (lv_at hl 0 rfl) ?_
              refine lv_if_eq (tgt := 95) hx hb dX1_best_87 (by decide) (fun _ => ?_) (fun c0 => absurd c0 (by decide))
              refine lv_lload_n hx hb dX1_best_95 rfl (lv_at hl 4 rfl) ?_
              refine lv_lstore_n (lv' := [(2, .long b0), (7, .int 0), (5, .long v3), (0, .ref g0), (1, .int a), (4, .int k)]) hx hb dX1_best_96 rfl hl (by decide) rfl (fun ls hl => ?_)
              refine lv_iinc (v := k') (lv' := [(4, .int k'), (2, .long b0), (7, .int 0), (5, .long v3), (0, .ref g0), (1, .int a)]) hx hb dX1_best_97 hl (k := 5) rfl (by rw [← hk2]; rfl) (by decide) rfl (fun ls hl => ?_)
              refine lv_goto (tgt := 5) hx hb dX1_best_100 (by decide) ?_
              exact K b0 _ _ _ (by clear hP hD hS; subst e1; subst e2; subst e3; subst e4; subst e6; subst e8; subst e9; subst e11; subst e12; subst e14; subst e15; (try simp only [lg_cmp_eq] at c5 c7 c10 c13 c16); simp only [r_place, g_best1, lt_irr, c5, c7, c10, c13, c16, ↓reduceIte, not_true_eq_false, not_false_eq_true, and_self, and_true, true_and, and_false, false_and, eq_self]) hP hD hS (lv_sub hl [4, 5, 1, 0] rfl)
            · refine lv_iconst (v := 1) hx hb dX1_best_78 (by decide) ?_
              refine lv_goto (tgt := 83) hx hb dX1_best_79 (by decide) ?_
              refine lv_istore (lv' := [(7, .int 1), (5, .long v3), (0, .ref g0), (1, .int a), (2, .long b0), (4, .int k)]) hx hb dX1_best_83 hl (by decide) rfl (fun ls hl => ?_)
              refine lv_iload hx hb dX1_best_85 (lv_at hl 0 rfl) ?_
              refine lv_if_eq (tgt := 95) hx hb dX1_best_87 (by decide) (fun c0 => absurd c0 (by decide)) (fun _ => ?_)
              refine lv_lload hx hb dX1_best_90 (lv_at hl 1 rfl) ?_
              refine lv_goto (tgt := 96) hx hb dX1_best_92 (by decide) ?_
              refine lv_lstore_n (lv' := [(2, .long v3), (7, .int 1), (5, .long v3), (0, .ref g0), (1, .int a), (4, .int k)]) hx hb dX1_best_96 rfl hl (by decide) rfl (fun ls hl => ?_)
              refine lv_iinc (v := k') (lv' := [(4, .int k'), (2, .long v3), (7, .int 1), (5, .long v3), (0, .ref g0), (1, .int a)]) hx hb dX1_best_97 hl (k := 5) rfl (by rw [← hk2]; rfl) (by decide) rfl (fun ls hl => ?_)
              refine lv_goto (tgt := 5) hx hb dX1_best_100 (by decide) ?_
              exact K v3 _ _ _ (by clear hP hD hS; subst e1; subst e2; subst e3; subst e4; subst e6; subst e8; subst e9; subst e11; subst e12; subst e14; subst e15; (try simp only [lg_cmp_eq] at c5 c7 c10 c13 c16); simp only [r_place, g_best1, lt_irr, c5, c7, c10, c13, c16, ↓reduceIte, not_true_eq_false, not_false_eq_true, and_self, and_true, true_and, and_false, false_and, eq_self]) hP hD hS (lv_sub hl [4, 5, 1, 0] rfl)
    · refine lv_goto (tgt := 97) hx hb dX1_best_33 (by decide) ?_
      refine lv_iinc (v := k') (lv' := [(4, .int k'), (5, .long v3), (0, .ref g0), (1, .int a), (2, .long b0)]) hx hb dX1_best_97 hl (k := 4) rfl (by rw [← hk2]; rfl) (by decide) rfl (fun ls hl => ?_)
      refine lv_goto (tgt := 5) hx hb dX1_best_100 (by decide) ?_
      exact K b0 _ _ _ (by clear hP hD hS; subst e1; subst e2; subst e3; subst e4; (try simp only [lg_cmp_eq] at c5); simp only [r_place, g_best1, lt_irr, c5, ↓reduceIte, not_true_eq_false, not_false_eq_true, and_self, and_true, true_and, and_false, false_and, eq_self]) hP hD hS (lv_sub hl [2, 3, 4, 0] rfl)
  refine lv_lconst (v := 0) hx hb dX1_best_0 (by decide) ?_
  refine lv_lstore_n (lv' := [(2, .long 0), (0, .ref g0), (1, .int a)]) hx hb dX1_best_1 rfl hl (by decide) rfl (fun ls hl => ?_)
  refine lv_iconst (v := 0) hx hb dX1_best_2 (by decide) ?_
  refine lv_istore (lv' := [(4, .int 0), (2, .long 0), (0, .ref g0), (1, .int a)]) hx hb dX1_best_3 hl (by decide) rfl (fun ls hl => ?_)
  refine lv_iload hx hb dX1_best_5 (lv_at hl 0 rfl) ?_
  refine lv_iconst (v := 4) hx hb dX1_best_7 (by decide) ?_
  refine lv_icmp_ge (tgt := 103) hx hb dX1_best_8 (by decide) (fun c0 => absurd c0 (by decide)) (fun _ => ?_)
  refine B _ 0 1 0 _ _ _ in4_0 (by decide) hP hD hS (lv_sub hl [2, 3, 1, 0] rfl) (fun bb1 H locs ls b1 hP hD hS hl => ?_)
  refine lv_iload hx hb dX1_best_5 (lv_at hl 3 rfl) ?_
  refine lv_iconst (v := 4) hx hb dX1_best_7 (by decide) ?_
  refine lv_icmp_ge (tgt := 103) hx hb dX1_best_8 (by decide) (fun c0 => absurd c0 (by decide)) (fun _ => ?_)
  refine B _ 1 2 bb1 _ _ _ in4_1 (by decide) hP hD hS (lv_sub hl [0, 1, 2, 3] rfl) (fun bb2 H locs ls b2 hP hD hS hl => ?_)
  refine lv_iload hx hb dX1_best_5 (lv_at hl 3 rfl) ?_
  refine lv_iconst (v := 4) hx hb dX1_best_7 (by decide) ?_
  refine lv_icmp_ge (tgt := 103) hx hb dX1_best_8 (by decide) (fun c0 => absurd c0 (by decide)) (fun _ => ?_)
  refine B _ 2 3 bb2 _ _ _ in4_2 (by decide) hP hD hS (lv_sub hl [0, 1, 2, 3] rfl) (fun bb3 H locs ls b3 hP hD hS hl => ?_)
  refine lv_iload hx hb dX1_best_5 (lv_at hl 3 rfl) ?_
  refine lv_iconst (v := 4) hx hb dX1_best_7 (by decide) ?_
  refine lv_icmp_ge (tgt := 103) hx hb dX1_best_8 (by decide) (fun c0 => absurd c0 (by decide)) (fun _ => ?_)
  refine B _ 3 4 bb3 _ _ _ in4_3 (by decide) hP hD hS (lv_sub hl [0, 1, 2, 3] rfl) (fun bb4 H locs ls b4 hP hD hS hl => ?_)
  refine lv_iload hx hb dX1_best_5 (lv_at hl 3 rfl) ?_
  refine lv_iconst (v := 4) hx hb dX1_best_7 (by decide) ?_
  refine lv_icmp_ge (tgt := 103) hx hb dX1_best_8 (by decide) (fun _ => ?_) (fun c0 => absurd c0 (by decide))
  refine lv_lload_n hx hb dX1_best_103 rfl (lv_at hl 2 rfl) ?_
  have fin : (g_best a st, st) = (bb4, st) := by
    clear hP hD hS; simp only [g_best, b1, b2, b3, b4]
  exact cM_retl (Wd := RWd g0 g1 g2 g3 g4 g5 g6 cA cB) (st := st) (st' := st) hx hb hr hlocks dX1_best_104 hS hP hD (congrArg Prod.fst fin).symm (congrArg Prod.snd fin).symm
abbrev rmX1_mend : Room := { frames := 3, cells := 0, slots := 0, locals := 72 }
-- mend
set_option maxHeartbeats 400000 in
set_option maxRecDepth 100000 in
theorem c_X1_mend (l : Launch) (D : va_G) (g0 g1 g2 g3 g4 g5 g6 : Nat) (cA cB : ClassId) (st : RS) (a : Int32) (hc : vp_in a 20) (M : Nat) (hM : r_tb st M) (hM2 : M + 12 ≤ 256) : cM l D vwCl (FT cA cB) (RWd g0 g1 g2 g3 g4 g5 g6 cA cB) yX1_mend wsX1_mend rmX1_mend [.ref g0, .int a] st none (r_mend a st) := by
  refine cM_in (cc := cX1_mend) (maxL := 4) (ret := none) (by decide) rfl (Nat.le_of_ble_eq_true rfl) ?_
  intro p e s m below meth c ls A hx hb hr hlocks hml hown hts hA hK hP hD hS hl
  have hown : s.vm.findClass RX1 = some m.cls := hown
  have hl : lv_has ls 4 [(0, .ref g0), (1, .int a)] := hl
  -- walk
  have B : ∀ (Q : State → Prop) (k k' : Int32) (i0 : Int32) (H : Heap) (locs : List Loc) (ls : Array Slot), vp_in k 4 → k + 1 = k' → va_P D vwCl (RWd g0 g1 g2 g3 g4 g5 g6 cA cB st) H → va_D A (RWd g0 g1 g2 g3 g4 g5 g6 cA cB st) → va_S A s.heap H locs → lv_has ls 4 [(0, .ref g0), (1, .int a), (2, .int i0), (3, .int k)] → (∀ (i : Int32) (H : Heap) (locs : List Loc) (ls : Array Slot), g_bad1 i0 (st.1.1 (r_place k a).toNatClampNeg) = i → va_P D vwCl (RWd g0 g1 g2 g3 g4 g5 g6 cA cB st) H → va_D A (RWd g0 g1 g2 g3 g4 g5 g6 cA cB st) → va_S A s.heap H locs → lv_has ls 4 [(0, .ref g0), (1, .int a), (2, .int i), (3, .int k')] → W p l e rmX1_mend s m ([.ref g0, .int a] : List Value).toArray below meth c H locs 0 0 Q (F0 m 4 ls [])) → W p l e rmX1_mend s m ([.ref g0, .int a] : List Value).toArray below meth c H locs 0 0 Q (F0 m 9 ls []) := by
    intro Q k k' i0 H locs ls hk hk2 hP hD hS hl K
    refine lv_iload_n hx hb dX1_mend_9 rfl (lv_at hl 2 rfl) ?_
    refine lv_aload_n hx hb dX1_mend_10 rfl (lv_at hl 0 rfl) ?_
    refine va_get (D := D) (ci := 1) (v := .ref g1) (C := RX1) (T := TX1) (N := 11) hx hb hts (by decide +kernel) hown hK hP 0 rfl rfl 0 (by decide) (hts (.fieldLink RX1 7 "FadeLedgerModel" "words" "[J") (by decide +kernel)) (fun _ h9 => h9) rfl dX1_mend_11 ?_
    refine lv_bipush (v := 20) hx hb dX1_mend_14 (by decide) ?_
    refine lv_iload_n hx hb dX1_mend_16 rfl (lv_at hl 3 rfl) ?_
    refine lv_imul hx hb dX1_mend_17 ?_
    refine tpi (fun v1 e1 => ?_)
    refine lv_iload_n hx hb dX1_mend_18 rfl (lv_at hl 1 rfl) ?_
    refine lv_iadd hx hb dX1_mend_19 ?_
    refine tpi (fun v2 e2 => ?_)
    refine va_lald hx hb hK hP 1 0 rfl rfl (by subst e1; subst e2; exact place_in hk hc) dX1_mend_20 ?_
    refine tpl (fun v3 e3 => ?_)
    refine cS_call (n := 1) (as := [.long v3]) (rest := [.int i0]) ⟨hx, hb, hml, hown, hts⟩ (c_X1_isValid l v3) gX1_mend_X1_isValid rfl rfl rfl (by decide +kernel) ⟨Nat.le_of_ble_eq_true rfl, Nat.le_of_ble_eq_true rfl⟩ hl.1 rfl rfl (Nat.le_of_ble_eq_true rfl) dX1_mend_21 ⟨Nat.zero_le _, Nat.zero_le _⟩ ?_
    refine tpi (fun v4 e4 => ?_)
    refine lv_if_eq (tgt := 31) hx hb dX1_mend_24 (by decide) (fun c5 => ?_) (fun c5 => ?_)
    · refine lv_iconst (v := 1) hx hb dX1_mend_31 (by decide) ?_
      refine lv_iadd hx hb dX1_mend_32 ?_
      refine tpi (fun v6 e6 => ?_)
      refine lv_istore_n (lv' := [(2, .int v6), (0, .ref g0), (1, .int a), (3, .int k)]) hx hb dX1_mend_33 rfl hl (by decide) rfl (fun ls hl => ?_)
      refine lv_iinc (v := k') (lv' := [(3, .int k'), (2, .int v6), (0, .ref g0), (1, .int a)]) hx hb dX1_mend_34 hl (k := 3) rfl (by rw [← hk2]; rfl) (by decide) rfl (fun ls hl => ?_)
      refine lv_goto (tgt := 4) hx hb dX1_mend_37 (by decide) ?_
      exact K v6 _ _ _ (by clear hP hD hS; subst e1; subst e2; subst e3; subst e4; subst e6; simp only [r_place, g_bad1, c5, ↓reduceIte, not_true_eq_false, not_false_eq_true, and_self, and_true, true_and, and_false, false_and, eq_self]) hP hD hS (lv_sub hl [2, 3, 1, 0] rfl)
    · refine lv_iconst (v := 0) hx hb dX1_mend_27 (by decide) ?_
      refine lv_goto (tgt := 32) hx hb dX1_mend_28 (by decide) ?_
      refine lv_iadd hx hb dX1_mend_32 ?_
      refine tpi (fun v7 e7 => ?_)
      refine lv_istore_n (lv' := [(2, .int v7), (0, .ref g0), (1, .int a), (3, .int k)]) hx hb dX1_mend_33 rfl hl (by decide) rfl (fun ls hl => ?_)
      refine lv_iinc (v := k') (lv' := [(3, .int k'), (2, .int v7), (0, .ref g0), (1, .int a)]) hx hb dX1_mend_34 hl (k := 3) rfl (by rw [← hk2]; rfl) (by decide) rfl (fun ls hl => ?_)
      refine lv_goto (tgt := 4) hx hb dX1_mend_37 (by decide) ?_
      exact K v7 _ _ _ (by clear hP hD hS; subst e1; subst e2; subst e3; subst e4; subst e7; simp only [r_place, g_bad1, c5, ↓reduceIte, not_true_eq_false, not_false_eq_true, and_self, and_true, true_and, and_false, false_and, eq_self]) hP hD hS (lv_sub hl [2, 3, 1, 0] rfl)
  have B2 : ∀ (Q : State → Prop) (k k' : Int32) (s0 : RS) (i0 : Int32) (M : Nat) (H : Heap) (locs : List Loc) (ls : Array Slot), vp_in k 4 → k + 1 = k' → r_tb s0 M → M < 256 → ¬ s0.2.2.2.2.2 a.toNatClampNeg = 0 → va_P D vwCl (RWd g0 g1 g2 g3 g4 g5 g6 cA cB s0) H → va_D A (RWd g0 g1 g2 g3 g4 g5 g6 cA cB s0) → va_S A s.heap H locs → lv_has ls 4 [(0, .ref g0), (1, .int a), (2, .int i0), (3, .int k)] → (∀ (z : RS) (H : Heap) (locs : List Loc) (ls : Array Slot), r_mw1 a k s0 = z → va_P D vwCl (RWd g0 g1 g2 g3 g4 g5 g6 cA cB z) H → va_D A (RWd g0 g1 g2 g3 g4 g5 g6 cA cB z) → va_S A s.heap H locs → lv_has ls 4 [(0, .ref g0), (1, .int a), (2, .int i0), (3, .int k')] → W p l e rmX1_mend s m ([.ref g0, .int a] : List Value).toArray below meth c H locs 0 0 Q (F0 m 104 ls [])) → W p l e rmX1_mend s m ([.ref g0, .int a] : List Value).toArray below meth c H locs 0 0 Q (F0 m 109 ls []) := by
    intro Q k k' s0 i0 M H locs ls hk hk2 hM hM2 hbb hP hD hS hl K
    refine lv_aload_n hx hb dX1_mend_109 rfl (lv_at hl 0 rfl) ?_
    refine va_get (D := D) (ci := 1) (v := .ref g6) (C := RX1) (T := TX1) (N := 11) hx hb hts (by decide +kernel) hown hK hP 0 rfl rfl 10 (by decide) (hts (.fieldLink RX1 34 "FadeLedgerModel" "bests" "[J") (by decide +kernel)) (fun _ h9 => h9) rfl dX1_mend_110 ?_
    refine lv_iload_n hx hb dX1_mend_113 rfl (lv_at hl 1 rfl) ?_
    refine va_lald hx hb hK hP 6 0 rfl rfl hc dX1_mend_114 ?_
    refine tpl (fun v1 e1 => ?_)
    refine lv_lconst (v := 0) hx hb dX1_mend_115 (by decide) ?_
    refine W.lcmp hx hb dX1_mend_116 ?_
    refine tpi (fun v2 e2 => ?_)
    refine lv_if_eq (tgt := 160) hx hb dX1_mend_117 (by decide) (fun c3 => ?_) (fun c3 => ?_)
    · exact absurd (by clear hP hD hS; subst e1; subst e2; exact (lg_cmp_eq _ _).mp c3) hbb
    · refine lv_aload_n hx hb dX1_mend_120 rfl (lv_at hl 0 rfl) ?_
      refine va_get (D := D) (ci := 1) (v := .ref g1) (C := RX1) (T := TX1) (N := 11) hx hb hts (by decide +kernel) hown hK hP 0 rfl rfl 0 (by decide) (hts (.fieldLink RX1 7 "FadeLedgerModel" "words" "[J") (by decide +kernel)) (fun _ h9 => h9) rfl dX1_mend_121 ?_
      refine lv_bipush (v := 20) hx hb dX1_mend_124 (by decide) ?_
      refine lv_iload_n hx hb dX1_mend_126 rfl (lv_at hl 3 rfl) ?_
      refine lv_imul hx hb dX1_mend_127 ?_
      refine tpi (fun v4 e4 => ?_)
      refine lv_iload_n hx hb dX1_mend_128 rfl (lv_at hl 1 rfl) ?_
      refine lv_iadd hx hb dX1_mend_129 ?_
      refine tpi (fun v5 e5 => ?_)
      refine va_lald hx hb hK hP 1 0 rfl rfl (by subst e1; subst e2; subst e4; subst e5; exact place_in hk hc) dX1_mend_130 ?_
      refine tpl (fun v6 e6 => ?_)
      refine lv_aload_n hx hb dX1_mend_131 rfl (lv_at hl 0 rfl) ?_
      refine va_get (D := D) (ci := 1) (v := .ref g6) (C := RX1) (T := TX1) (N := 11) hx hb hts (by decide +kernel) hown hK hP 0 rfl rfl 10 (by decide) (hts (.fieldLink RX1 34 "FadeLedgerModel" "bests" "[J") (by decide +kernel)) (fun _ h9 => h9) rfl dX1_mend_132 ?_
      refine lv_iload_n hx hb dX1_mend_135 rfl (lv_at hl 1 rfl) ?_
      refine va_lald hx hb hK hP 6 0 rfl rfl hc dX1_mend_136 ?_
      refine tpl (fun v7 e7 => ?_)
      refine W.lcmp hx hb dX1_mend_137 ?_
      refine tpi (fun v8 e8 => ?_)
      refine lv_if_eq (tgt := 154) hx hb dX1_mend_138 (by decide) (fun c9 => ?_) (fun c9 => ?_)
      · refine lv_iinc (v := k') (lv' := [(3, .int k'), (0, .ref g0), (1, .int a), (2, .int i0)]) hx hb dX1_mend_154 hl (k := 3) rfl (by rw [← hk2]; rfl) (by decide) rfl (fun ls hl => ?_)
        refine lv_goto (tgt := 104) hx hb dX1_mend_157 (by decide) ?_
        exact K s0 _ _ _ (by clear hP hD hS; subst e1; subst e2; subst e4; subst e5; subst e6; subst e7; subst e8; simp only [lg_cmp_eq] at c9; unfold r_mw1; exact if_pos c9) hP hD hS (lv_sub hl [1, 2, 3, 0] rfl)
      · refine lv_aload_n hx hb dX1_mend_141 rfl (lv_at hl 0 rfl) ?_
        refine lv_iconst (v := 1) hx hb dX1_mend_142 (by decide) ?_
        refine lv_iload_n hx hb dX1_mend_143 rfl (lv_at hl 3 rfl) ?_
        refine lv_iload_n hx hb dX1_mend_144 rfl (lv_at hl 1 rfl) ?_
        refine lv_aload_n hx hb dX1_mend_145 rfl (lv_at hl 0 rfl) ?_
        refine va_get (D := D) (ci := 1) (v := .ref g6) (C := RX1) (T := TX1) (N := 11) hx hb hts (by decide +kernel) hown hK hP 0 rfl rfl 10 (by decide) (hts (.fieldLink RX1 34 "FadeLedgerModel" "bests" "[J") (by decide +kernel)) (fun _ h9 => h9) rfl dX1_mend_146 ?_
        refine lv_iload_n hx hb dX1_mend_149 rfl (lv_at hl 1 rfl) ?_
        refine va_lald hx hb hK hP 6 0 rfl rfl hc dX1_mend_150 ?_
        refine tpl (fun v10 e10 => ?_)
        refine cM_this (Wd := RWd g0 g1 g2 g3 g4 g5 g6 cA cB) (ci := 1) (q0 := 0) (n := 4) (as := [.int 1, .int k, .int a, .long v10]) (rest := []) ⟨hx, hb, hml, hown, hts⟩ (c_X1_turn l D g0 g1 g2 g3 g4 g5 g6 cA cB s0 1 k a v10 (tb_in hM hM2)) gX1_mend_X1_turn rfl rfl rfl (by decide +kernel) ⟨Nat.le_of_ble_eq_true rfl, Nat.le_of_ble_eq_true rfl⟩ hK hP hD hS hA rfl rfl rfl hl.1 rfl rfl (Nat.le_of_ble_eq_true rfl) dX1_mend_151 ⟨Nat.zero_le _, Nat.zero_le _⟩ (fun H locs hP hD hS => ?_)
        refine W.eq (g2 := F0 m 154 ls []) rfl ?_
        obtain ⟨s11, t11⟩ : ∃ y9 : RS, r_turn 1 k a v10 s0 = y9 := ⟨_, rfl⟩
        replace hP : va_P D vwCl (RWd g0 g1 g2 g3 g4 g5 g6 cA cB s11) H := by rw [← t11]; exact hP
        replace hD : va_D A (RWd g0 g1 g2 g3 g4 g5 g6 cA cB s11) := by rw [← t11]; exact hD
        refine lv_iinc (v := k') (lv' := [(3, .int k'), (0, .ref g0), (1, .int a), (2, .int i0)]) hx hb dX1_mend_154 hl (k := 3) rfl (by rw [← hk2]; rfl) (by decide) rfl (fun ls hl => ?_)
        refine lv_goto (tgt := 104) hx hb dX1_mend_157 (by decide) ?_
        exact K s11 _ _ _ (by clear hP hD hS; subst e1; subst e2; subst e4; subst e5; subst e6; subst e7; subst e8; subst e10; subst t11; simp only [lg_cmp_eq] at c9; unfold r_mw1; exact if_neg c9) hP hD hS (lv_sub hl [1, 2, 3, 0] rfl)
  refine lv_iconst (v := 0) hx hb dX1_mend_0 (by decide) ?_
  refine lv_istore_n (lv' := [(2, .int 0), (0, .ref g0), (1, .int a)]) hx hb dX1_mend_1 rfl hl (by decide) rfl (fun ls hl => ?_)
  refine lv_iconst (v := 0) hx hb dX1_mend_2 (by decide) ?_
  refine lv_istore_n (lv' := [(3, .int 0), (2, .int 0), (0, .ref g0), (1, .int a)]) hx hb dX1_mend_3 rfl hl (by decide) rfl (fun ls hl => ?_)
  refine lv_iload_n hx hb dX1_mend_4 rfl (lv_at hl 0 rfl) ?_
  refine lv_iconst (v := 4) hx hb dX1_mend_5 (by decide) ?_
  refine lv_icmp_ge (tgt := 40) hx hb dX1_mend_6 (by decide) (fun c0 => absurd c0 (by decide)) (fun _ => ?_)
  refine B _ 0 1 0 _ _ _ in4_0 (by decide) hP hD hS (lv_sub hl [2, 3, 1, 0] rfl) (fun i1 H locs ls b1 hP hD hS hl => ?_)
  refine lv_iload_n hx hb dX1_mend_4 rfl (lv_at hl 3 rfl) ?_
  refine lv_iconst (v := 4) hx hb dX1_mend_5 (by decide) ?_
  refine lv_icmp_ge (tgt := 40) hx hb dX1_mend_6 (by decide) (fun c0 => absurd c0 (by decide)) (fun _ => ?_)
  refine B _ 1 2 i1 _ _ _ in4_1 (by decide) hP hD hS (lv_sub hl [0, 1, 2, 3] rfl) (fun i2 H locs ls b2 hP hD hS hl => ?_)
  refine lv_iload_n hx hb dX1_mend_4 rfl (lv_at hl 3 rfl) ?_
  refine lv_iconst (v := 4) hx hb dX1_mend_5 (by decide) ?_
  refine lv_icmp_ge (tgt := 40) hx hb dX1_mend_6 (by decide) (fun c0 => absurd c0 (by decide)) (fun _ => ?_)
  refine B _ 2 3 i2 _ _ _ in4_2 (by decide) hP hD hS (lv_sub hl [0, 1, 2, 3] rfl) (fun i3 H locs ls b3 hP hD hS hl => ?_)
  refine lv_iload_n hx hb dX1_mend_4 rfl (lv_at hl 3 rfl) ?_
  refine lv_iconst (v := 4) hx hb dX1_mend_5 (by decide) ?_
  refine lv_icmp_ge (tgt := 40) hx hb dX1_mend_6 (by decide) (fun c0 => absurd c0 (by decide)) (fun _ => ?_)
  refine B _ 3 4 i3 _ _ _ in4_3 (by decide) hP hD hS (lv_sub hl [0, 1, 2, 3] rfl) (fun i4 H locs ls b4 hP hD hS hl => ?_)
  refine lv_iload_n hx hb dX1_mend_4 rfl (lv_at hl 3 rfl) ?_
  refine lv_iconst (v := 4) hx hb dX1_mend_5 (by decide) ?_
  refine lv_icmp_ge (tgt := 40) hx hb dX1_mend_6 (by decide) (fun _ => ?_) (fun c0 => absurd c0 (by decide))
  refine lv_iconst (v := 0) hx hb dX1_mend_40 (by decide) ?_
  refine lv_istore_n (lv' := [(3, .int 0), (0, .ref g0), (1, .int a), (2, .int i4)]) hx hb dX1_mend_41 rfl hl (by decide) rfl (fun ls hl => ?_)
  refine lv_iload_n hx hb dX1_mend_42 rfl (lv_at hl 0 rfl) ?_
  refine lv_iconst (v := 4) hx hb dX1_mend_43 (by decide) ?_
  refine lv_icmp_ge (tgt := 91) hx hb dX1_mend_44 (by decide) (fun c0 => absurd c0 (by decide)) (fun _ => ?_)
  refine lv_aload_n hx hb dX1_mend_47 rfl (lv_at hl 1 rfl) ?_
  refine lv_iconst (v := 0) hx hb dX1_mend_48 (by decide) ?_
  refine lv_iload_n hx hb dX1_mend_49 rfl (lv_at hl 0 rfl) ?_
  refine lv_iload_n hx hb dX1_mend_50 rfl (lv_at hl 2 rfl) ?_
  refine lv_iload_n hx hb dX1_mend_51 rfl (lv_at hl 0 rfl) ?_
  refine lv_iconst (v := 3) hx hb dX1_mend_52 (by decide) ?_
  refine lv_icmp_ne (tgt := 63) hx hb dX1_mend_53 (by decide) (fun _ => ?_) (fun c0 => absurd c0 (by decide))
  refine lv_lconst (v := 0) hx hb dX1_mend_63 (by decide) ?_
  refine cM_this (Wd := RWd g0 g1 g2 g3 g4 g5 g6 cA cB) (ci := 1) (q0 := 0) (n := 4) (as := [.int 0, .int 0, .int a, .long 0]) (rest := []) ⟨hx, hb, hml, hown, hts⟩ (c_X1_turn l D g0 g1 g2 g3 g4 g5 g6 cA cB st 0 0 a 0 (tb_in hM (by omega))) gX1_mend_X1_turn rfl rfl rfl (by decide +kernel) ⟨Nat.le_of_ble_eq_true rfl, Nat.le_of_ble_eq_true rfl⟩ hK hP hD hS hA rfl rfl rfl hl.1 rfl rfl (Nat.le_of_ble_eq_true rfl) dX1_mend_64 ⟨Nat.zero_le _, Nat.zero_le _⟩ (fun H locs hP hD hS => ?_)
  refine W.eq (g2 := F0 m 67 ls []) rfl ?_
  obtain ⟨s5, t5⟩ : ∃ y9 : RS, r_turn 0 0 a 0 st = y9 := ⟨_, rfl⟩
  replace hP : va_P D vwCl (RWd g0 g1 g2 g3 g4 g5 g6 cA cB s5) H := by rw [← t5]; exact hP
  replace hD : va_D A (RWd g0 g1 g2 g3 g4 g5 g6 cA cB s5) := by rw [← t5]; exact hD
  have hT6 : r_tb s5 (M + 1) := by rw [← t5]; exact tb_turn hM
  refine lv_aload_n hx hb dX1_mend_67 rfl (lv_at hl 1 rfl) ?_
  refine lv_iconst (v := 1) hx hb dX1_mend_68 (by decide) ?_
  refine lv_iload_n hx hb dX1_mend_69 rfl (lv_at hl 0 rfl) ?_
  refine lv_iload_n hx hb dX1_mend_70 rfl (lv_at hl 2 rfl) ?_
  refine lv_aload_n hx hb dX1_mend_71 rfl (lv_at hl 1 rfl) ?_
  refine va_get (D := D) (ci := 1) (v := .ref g1) (C := RX1) (T := TX1) (N := 11) hx hb hts (by decide +kernel) hown hK hP 0 rfl rfl 0 (by decide) (hts (.fieldLink RX1 7 "FadeLedgerModel" "words" "[J") (by decide +kernel)) (fun _ h9 => h9) rfl dX1_mend_72 ?_
  refine lv_bipush (v := 20) hx hb dX1_mend_75 (by decide) ?_
  refine lv_iload_n hx hb dX1_mend_77 rfl (lv_at hl 0 rfl) ?_
  refine lv_imul hx hb dX1_mend_78 ?_
  refine tpi (fun v7 e7 => ?_)
  refine lv_iload_n hx hb dX1_mend_79 rfl (lv_at hl 2 rfl) ?_
  refine lv_iadd hx hb dX1_mend_80 ?_
  refine tpi (fun v8 e8 => ?_)
  refine va_lald hx hb hK hP 1 0 rfl rfl (by subst e7; subst e8; exact place_in in4_0 hc) dX1_mend_81 ?_
  refine tpl (fun v9 e9 => ?_)
  refine cM_this (Wd := RWd g0 g1 g2 g3 g4 g5 g6 cA cB) (ci := 1) (q0 := 0) (n := 4) (as := [.int 1, .int 0, .int a, .long v9]) (rest := []) ⟨hx, hb, hml, hown, hts⟩ (c_X1_turn l D g0 g1 g2 g3 g4 g5 g6 cA cB s5 1 0 a v9 (tb_in hT6 (by omega))) gX1_mend_X1_turn rfl rfl rfl (by decide +kernel) ⟨Nat.le_of_ble_eq_true rfl, Nat.le_of_ble_eq_true rfl⟩ hK hP hD hS hA rfl rfl rfl hl.1 rfl rfl (Nat.le_of_ble_eq_true rfl) dX1_mend_82 ⟨Nat.zero_le _, Nat.zero_le _⟩ (fun H locs hP hD hS => ?_)
  refine W.eq (g2 := F0 m 85 ls []) rfl ?_
  obtain ⟨s10, t10⟩ : ∃ y9 : RS, r_turn 1 0 a v9 s5 = y9 := ⟨_, rfl⟩
  replace hP : va_P D vwCl (RWd g0 g1 g2 g3 g4 g5 g6 cA cB s10) H := by rw [← t10]; exact hP
  replace hD : va_D A (RWd g0 g1 g2 g3 g4 g5 g6 cA cB s10) := by rw [← t10]; exact hD
  have hT11 : r_tb s10 ((M + 1) + 1) := by rw [← t10]; exact tb_turn hT6
  refine lv_iinc (v := 1) (lv' := [(3, .int 1), (0, .ref g0), (1, .int a), (2, .int i4)]) hx hb dX1_mend_85 hl (k := 0) rfl (by decide) (by decide) rfl (fun ls hl => ?_)
  refine lv_goto (tgt := 42) hx hb dX1_mend_88 (by decide) ?_
  refine lv_iload_n hx hb dX1_mend_42 rfl (lv_at hl 0 rfl) ?_
  refine lv_iconst (v := 4) hx hb dX1_mend_43 (by decide) ?_
  refine lv_icmp_ge (tgt := 91) hx hb dX1_mend_44 (by decide) (fun c0 => absurd c0 (by decide)) (fun _ => ?_)
  refine lv_aload_n hx hb dX1_mend_47 rfl (lv_at hl 1 rfl) ?_
  refine lv_iconst (v := 0) hx hb dX1_mend_48 (by decide) ?_
  refine lv_iload_n hx hb dX1_mend_49 rfl (lv_at hl 0 rfl) ?_
  refine lv_iload_n hx hb dX1_mend_50 rfl (lv_at hl 2 rfl) ?_
  refine lv_iload_n hx hb dX1_mend_51 rfl (lv_at hl 0 rfl) ?_
  refine lv_iconst (v := 3) hx hb dX1_mend_52 (by decide) ?_
  refine lv_icmp_ne (tgt := 63) hx hb dX1_mend_53 (by decide) (fun _ => ?_) (fun c0 => absurd c0 (by decide))
  refine lv_lconst (v := 0) hx hb dX1_mend_63 (by decide) ?_
  refine cM_this (Wd := RWd g0 g1 g2 g3 g4 g5 g6 cA cB) (ci := 1) (q0 := 0) (n := 4) (as := [.int 0, .int 1, .int a, .long 0]) (rest := []) ⟨hx, hb, hml, hown, hts⟩ (c_X1_turn l D g0 g1 g2 g3 g4 g5 g6 cA cB s10 0 1 a 0 (tb_in hT11 (by omega))) gX1_mend_X1_turn rfl rfl rfl (by decide +kernel) ⟨Nat.le_of_ble_eq_true rfl, Nat.le_of_ble_eq_true rfl⟩ hK hP hD hS hA rfl rfl rfl hl.1 rfl rfl (Nat.le_of_ble_eq_true rfl) dX1_mend_64 ⟨Nat.zero_le _, Nat.zero_le _⟩ (fun H locs hP hD hS => ?_)
  refine W.eq (g2 := F0 m 67 ls []) rfl ?_
  obtain ⟨s12, t12⟩ : ∃ y9 : RS, r_turn 0 1 a 0 s10 = y9 := ⟨_, rfl⟩
  replace hP : va_P D vwCl (RWd g0 g1 g2 g3 g4 g5 g6 cA cB s12) H := by rw [← t12]; exact hP
  replace hD : va_D A (RWd g0 g1 g2 g3 g4 g5 g6 cA cB s12) := by rw [← t12]; exact hD
  have hT13 : r_tb s12 (((M + 1) + 1) + 1) := by rw [← t12]; exact tb_turn hT11
  refine lv_aload_n hx hb dX1_mend_67 rfl (lv_at hl 1 rfl) ?_
  refine lv_iconst (v := 1) hx hb dX1_mend_68 (by decide) ?_
  refine lv_iload_n hx hb dX1_mend_69 rfl (lv_at hl 0 rfl) ?_
  refine lv_iload_n hx hb dX1_mend_70 rfl (lv_at hl 2 rfl) ?_
  refine lv_aload_n hx hb dX1_mend_71 rfl (lv_at hl 1 rfl) ?_
  refine va_get (D := D) (ci := 1) (v := .ref g1) (C := RX1) (T := TX1) (N := 11) hx hb hts (by decide +kernel) hown hK hP 0 rfl rfl 0 (by decide) (hts (.fieldLink RX1 7 "FadeLedgerModel" "words" "[J") (by decide +kernel)) (fun _ h9 => h9) rfl dX1_mend_72 ?_
  refine lv_bipush (v := 20) hx hb dX1_mend_75 (by decide) ?_
  refine lv_iload_n hx hb dX1_mend_77 rfl (lv_at hl 0 rfl) ?_
  refine lv_imul hx hb dX1_mend_78 ?_
  refine tpi (fun v14 e14 => ?_)
  refine lv_iload_n hx hb dX1_mend_79 rfl (lv_at hl 2 rfl) ?_
  refine lv_iadd hx hb dX1_mend_80 ?_
  refine tpi (fun v15 e15 => ?_)
  refine va_lald hx hb hK hP 1 0 rfl rfl (by subst e7; subst e8; subst e9; subst e14; subst e15; exact place_in in4_1 hc) dX1_mend_81 ?_
  refine tpl (fun v16 e16 => ?_)
  refine cM_this (Wd := RWd g0 g1 g2 g3 g4 g5 g6 cA cB) (ci := 1) (q0 := 0) (n := 4) (as := [.int 1, .int 1, .int a, .long v16]) (rest := []) ⟨hx, hb, hml, hown, hts⟩ (c_X1_turn l D g0 g1 g2 g3 g4 g5 g6 cA cB s12 1 1 a v16 (tb_in hT13 (by omega))) gX1_mend_X1_turn rfl rfl rfl (by decide +kernel) ⟨Nat.le_of_ble_eq_true rfl, Nat.le_of_ble_eq_true rfl⟩ hK hP hD hS hA rfl rfl rfl hl.1 rfl rfl (Nat.le_of_ble_eq_true rfl) dX1_mend_82 ⟨Nat.zero_le _, Nat.zero_le _⟩ (fun H locs hP hD hS => ?_)
  refine W.eq (g2 := F0 m 85 ls []) rfl ?_
  obtain ⟨s17, t17⟩ : ∃ y9 : RS, r_turn 1 1 a v16 s12 = y9 := ⟨_, rfl⟩
  replace hP : va_P D vwCl (RWd g0 g1 g2 g3 g4 g5 g6 cA cB s17) H := by rw [← t17]; exact hP
  replace hD : va_D A (RWd g0 g1 g2 g3 g4 g5 g6 cA cB s17) := by rw [← t17]; exact hD
  have hT18 : r_tb s17 ((((M + 1) + 1) + 1) + 1) := by rw [← t17]; exact tb_turn hT13
  refine lv_iinc (v := 2) (lv' := [(3, .int 2), (0, .ref g0), (1, .int a), (2, .int i4)]) hx hb dX1_mend_85 hl (k := 0) rfl (by decide) (by decide) rfl (fun ls hl => ?_)
  refine lv_goto (tgt := 42) hx hb dX1_mend_88 (by decide) ?_
  refine lv_iload_n hx hb dX1_mend_42 rfl (lv_at hl 0 rfl) ?_
  refine lv_iconst (v := 4) hx hb dX1_mend_43 (by decide) ?_
  refine lv_icmp_ge (tgt := 91) hx hb dX1_mend_44 (by decide) (fun c0 => absurd c0 (by decide)) (fun _ => ?_)
  refine lv_aload_n hx hb dX1_mend_47 rfl (lv_at hl 1 rfl) ?_
  refine lv_iconst (v := 0) hx hb dX1_mend_48 (by decide) ?_
  refine lv_iload_n hx hb dX1_mend_49 rfl (lv_at hl 0 rfl) ?_
  refine lv_iload_n hx hb dX1_mend_50 rfl (lv_at hl 2 rfl) ?_
  refine lv_iload_n hx hb dX1_mend_51 rfl (lv_at hl 0 rfl) ?_
  refine lv_iconst (v := 3) hx hb dX1_mend_52 (by decide) ?_
  refine lv_icmp_ne (tgt := 63) hx hb dX1_mend_53 (by decide) (fun _ => ?_) (fun c0 => absurd c0 (by decide))
  refine lv_lconst (v := 0) hx hb dX1_mend_63 (by decide) ?_
  refine cM_this (Wd := RWd g0 g1 g2 g3 g4 g5 g6 cA cB) (ci := 1) (q0 := 0) (n := 4) (as := [.int 0, .int 2, .int a, .long 0]) (rest := []) ⟨hx, hb, hml, hown, hts⟩ (c_X1_turn l D g0 g1 g2 g3 g4 g5 g6 cA cB s17 0 2 a 0 (tb_in hT18 (by omega))) gX1_mend_X1_turn rfl rfl rfl (by decide +kernel) ⟨Nat.le_of_ble_eq_true rfl, Nat.le_of_ble_eq_true rfl⟩ hK hP hD hS hA rfl rfl rfl hl.1 rfl rfl (Nat.le_of_ble_eq_true rfl) dX1_mend_64 ⟨Nat.zero_le _, Nat.zero_le _⟩ (fun H locs hP hD hS => ?_)
  refine W.eq (g2 := F0 m 67 ls []) rfl ?_
  obtain ⟨s19, t19⟩ : ∃ y9 : RS, r_turn 0 2 a 0 s17 = y9 := ⟨_, rfl⟩
  replace hP : va_P D vwCl (RWd g0 g1 g2 g3 g4 g5 g6 cA cB s19) H := by rw [← t19]; exact hP
  replace hD : va_D A (RWd g0 g1 g2 g3 g4 g5 g6 cA cB s19) := by rw [← t19]; exact hD
  have hT20 : r_tb s19 (((((M + 1) + 1) + 1) + 1) + 1) := by rw [← t19]; exact tb_turn hT18
  refine lv_aload_n hx hb dX1_mend_67 rfl (lv_at hl 1 rfl) ?_
  refine lv_iconst (v := 1) hx hb dX1_mend_68 (by decide) ?_
  refine lv_iload_n hx hb dX1_mend_69 rfl (lv_at hl 0 rfl) ?_
  refine lv_iload_n hx hb dX1_mend_70 rfl (lv_at hl 2 rfl) ?_
  refine lv_aload_n hx hb dX1_mend_71 rfl (lv_at hl 1 rfl) ?_
  refine va_get (D := D) (ci := 1) (v := .ref g1) (C := RX1) (T := TX1) (N := 11) hx hb hts (by decide +kernel) hown hK hP 0 rfl rfl 0 (by decide) (hts (.fieldLink RX1 7 "FadeLedgerModel" "words" "[J") (by decide +kernel)) (fun _ h9 => h9) rfl dX1_mend_72 ?_
  refine lv_bipush (v := 20) hx hb dX1_mend_75 (by decide) ?_
  refine lv_iload_n hx hb dX1_mend_77 rfl (lv_at hl 0 rfl) ?_
  refine lv_imul hx hb dX1_mend_78 ?_
  refine tpi (fun v21 e21 => ?_)
  refine lv_iload_n hx hb dX1_mend_79 rfl (lv_at hl 2 rfl) ?_
  refine lv_iadd hx hb dX1_mend_80 ?_
  refine tpi (fun v22 e22 => ?_)
  refine va_lald hx hb hK hP 1 0 rfl rfl (by subst e7; subst e8; subst e9; subst e14; subst e15; subst e16; subst e21; subst e22; exact place_in in4_2 hc) dX1_mend_81 ?_
  refine tpl (fun v23 e23 => ?_)
  refine cM_this (Wd := RWd g0 g1 g2 g3 g4 g5 g6 cA cB) (ci := 1) (q0 := 0) (n := 4) (as := [.int 1, .int 2, .int a, .long v23]) (rest := []) ⟨hx, hb, hml, hown, hts⟩ (c_X1_turn l D g0 g1 g2 g3 g4 g5 g6 cA cB s19 1 2 a v23 (tb_in hT20 (by omega))) gX1_mend_X1_turn rfl rfl rfl (by decide +kernel) ⟨Nat.le_of_ble_eq_true rfl, Nat.le_of_ble_eq_true rfl⟩ hK hP hD hS hA rfl rfl rfl hl.1 rfl rfl (Nat.le_of_ble_eq_true rfl) dX1_mend_82 ⟨Nat.zero_le _, Nat.zero_le _⟩ (fun H locs hP hD hS => ?_)
  refine W.eq (g2 := F0 m 85 ls []) rfl ?_
  obtain ⟨s24, t24⟩ : ∃ y9 : RS, r_turn 1 2 a v23 s19 = y9 := ⟨_, rfl⟩
  replace hP : va_P D vwCl (RWd g0 g1 g2 g3 g4 g5 g6 cA cB s24) H := by rw [← t24]; exact hP
  replace hD : va_D A (RWd g0 g1 g2 g3 g4 g5 g6 cA cB s24) := by rw [← t24]; exact hD
  have hT25 : r_tb s24 ((((((M + 1) + 1) + 1) + 1) + 1) + 1) := by rw [← t24]; exact tb_turn hT20
  refine lv_iinc (v := 3) (lv' := [(3, .int 3), (0, .ref g0), (1, .int a), (2, .int i4)]) hx hb dX1_mend_85 hl (k := 0) rfl (by decide) (by decide) rfl (fun ls hl => ?_)
  refine lv_goto (tgt := 42) hx hb dX1_mend_88 (by decide) ?_
  refine lv_iload_n hx hb dX1_mend_42 rfl (lv_at hl 0 rfl) ?_
  refine lv_iconst (v := 4) hx hb dX1_mend_43 (by decide) ?_
  refine lv_icmp_ge (tgt := 91) hx hb dX1_mend_44 (by decide) (fun c0 => absurd c0 (by decide)) (fun _ => ?_)
  refine lv_aload_n hx hb dX1_mend_47 rfl (lv_at hl 1 rfl) ?_
  refine lv_iconst (v := 0) hx hb dX1_mend_48 (by decide) ?_
  refine lv_iload_n hx hb dX1_mend_49 rfl (lv_at hl 0 rfl) ?_
  refine lv_iload_n hx hb dX1_mend_50 rfl (lv_at hl 2 rfl) ?_
  refine lv_iload_n hx hb dX1_mend_51 rfl (lv_at hl 0 rfl) ?_
  refine lv_iconst (v := 3) hx hb dX1_mend_52 (by decide) ?_
  refine lv_icmp_ne (tgt := 63) hx hb dX1_mend_53 (by decide) (fun c0 => absurd c0 (by decide)) (fun _ => ?_)
  refine lv_iload_n hx hb dX1_mend_56 rfl (lv_at hl 3 rfl) ?_
  refine lv_i2l hx hb dX1_mend_57 rfl ?_
  refine tpl (fun v26 e26 => ?_)
  refine lv_lconst (v := 1) hx hb dX1_mend_58 (by decide) ?_
  refine lv_ladd hx hb dX1_mend_59 ?_
  refine tpl (fun v27 e27 => ?_)
  refine lv_goto (tgt := 64) hx hb dX1_mend_60 (by decide) ?_
  refine cM_this (Wd := RWd g0 g1 g2 g3 g4 g5 g6 cA cB) (ci := 1) (q0 := 0) (n := 4) (as := [.int 0, .int 3, .int a, .long v27]) (rest := []) ⟨hx, hb, hml, hown, hts⟩ (c_X1_turn l D g0 g1 g2 g3 g4 g5 g6 cA cB s24 0 3 a v27 (tb_in hT25 (by omega))) gX1_mend_X1_turn rfl rfl rfl (by decide +kernel) ⟨Nat.le_of_ble_eq_true rfl, Nat.le_of_ble_eq_true rfl⟩ hK hP hD hS hA rfl rfl rfl hl.1 rfl rfl (Nat.le_of_ble_eq_true rfl) dX1_mend_64 ⟨Nat.zero_le _, Nat.zero_le _⟩ (fun H locs hP hD hS => ?_)
  refine W.eq (g2 := F0 m 67 ls []) rfl ?_
  obtain ⟨s28, t28⟩ : ∃ y9 : RS, r_turn 0 3 a v27 s24 = y9 := ⟨_, rfl⟩
  replace hP : va_P D vwCl (RWd g0 g1 g2 g3 g4 g5 g6 cA cB s28) H := by rw [← t28]; exact hP
  replace hD : va_D A (RWd g0 g1 g2 g3 g4 g5 g6 cA cB s28) := by rw [← t28]; exact hD
  have hT29 : r_tb s28 (((((((M + 1) + 1) + 1) + 1) + 1) + 1) + 1) := by rw [← t28]; exact tb_turn hT25
  refine lv_aload_n hx hb dX1_mend_67 rfl (lv_at hl 1 rfl) ?_
  refine lv_iconst (v := 1) hx hb dX1_mend_68 (by decide) ?_
  refine lv_iload_n hx hb dX1_mend_69 rfl (lv_at hl 0 rfl) ?_
  refine lv_iload_n hx hb dX1_mend_70 rfl (lv_at hl 2 rfl) ?_
  refine lv_aload_n hx hb dX1_mend_71 rfl (lv_at hl 1 rfl) ?_
  refine va_get (D := D) (ci := 1) (v := .ref g1) (C := RX1) (T := TX1) (N := 11) hx hb hts (by decide +kernel) hown hK hP 0 rfl rfl 0 (by decide) (hts (.fieldLink RX1 7 "FadeLedgerModel" "words" "[J") (by decide +kernel)) (fun _ h9 => h9) rfl dX1_mend_72 ?_
  refine lv_bipush (v := 20) hx hb dX1_mend_75 (by decide) ?_
  refine lv_iload_n hx hb dX1_mend_77 rfl (lv_at hl 0 rfl) ?_
  refine lv_imul hx hb dX1_mend_78 ?_
  refine tpi (fun v30 e30 => ?_)
  refine lv_iload_n hx hb dX1_mend_79 rfl (lv_at hl 2 rfl) ?_
  refine lv_iadd hx hb dX1_mend_80 ?_
  refine tpi (fun v31 e31 => ?_)
  refine va_lald hx hb hK hP 1 0 rfl rfl (by subst e7; subst e8; subst e9; subst e14; subst e15; subst e16; subst e21; subst e22; subst e23; subst e26; subst e27; subst e30; subst e31; exact place_in in4_3 hc) dX1_mend_81 ?_
  refine tpl (fun v32 e32 => ?_)
  refine cM_this (Wd := RWd g0 g1 g2 g3 g4 g5 g6 cA cB) (ci := 1) (q0 := 0) (n := 4) (as := [.int 1, .int 3, .int a, .long v32]) (rest := []) ⟨hx, hb, hml, hown, hts⟩ (c_X1_turn l D g0 g1 g2 g3 g4 g5 g6 cA cB s28 1 3 a v32 (tb_in hT29 (by omega))) gX1_mend_X1_turn rfl rfl rfl (by decide +kernel) ⟨Nat.le_of_ble_eq_true rfl, Nat.le_of_ble_eq_true rfl⟩ hK hP hD hS hA rfl rfl rfl hl.1 rfl rfl (Nat.le_of_ble_eq_true rfl) dX1_mend_82 ⟨Nat.zero_le _, Nat.zero_le _⟩ (fun H locs hP hD hS => ?_)
  refine W.eq (g2 := F0 m 85 ls []) rfl ?_
  obtain ⟨s33, t33⟩ : ∃ y9 : RS, r_turn 1 3 a v32 s28 = y9 := ⟨_, rfl⟩
  replace hP : va_P D vwCl (RWd g0 g1 g2 g3 g4 g5 g6 cA cB s33) H := by rw [← t33]; exact hP
  replace hD : va_D A (RWd g0 g1 g2 g3 g4 g5 g6 cA cB s33) := by rw [← t33]; exact hD
  have hT34 : r_tb s33 ((((((((M + 1) + 1) + 1) + 1) + 1) + 1) + 1) + 1) := by rw [← t33]; exact tb_turn hT29
  refine lv_iinc (v := 4) (lv' := [(3, .int 4), (0, .ref g0), (1, .int a), (2, .int i4)]) hx hb dX1_mend_85 hl (k := 0) rfl (by decide) (by decide) rfl (fun ls hl => ?_)
  refine lv_goto (tgt := 42) hx hb dX1_mend_88 (by decide) ?_
  refine lv_iload_n hx hb dX1_mend_42 rfl (lv_at hl 0 rfl) ?_
  refine lv_iconst (v := 4) hx hb dX1_mend_43 (by decide) ?_
  refine lv_icmp_ge (tgt := 91) hx hb dX1_mend_44 (by decide) (fun _ => ?_) (fun c0 => absurd c0 (by decide))
  refine lv_aload_n hx hb dX1_mend_91 rfl (lv_at hl 1 rfl) ?_
  refine va_get (D := D) (ci := 1) (v := .ref g6) (C := RX1) (T := TX1) (N := 11) hx hb hts (by decide +kernel) hown hK hP 0 rfl rfl 10 (by decide) (hts (.fieldLink RX1 34 "FadeLedgerModel" "bests" "[J") (by decide +kernel)) (fun _ h9 => h9) rfl dX1_mend_92 ?_
  refine lv_iload_n hx hb dX1_mend_95 rfl (lv_at hl 2 rfl) ?_
  refine lv_aload_n hx hb dX1_mend_96 rfl (lv_at hl 1 rfl) ?_
  refine lv_iload_n hx hb dX1_mend_97 rfl (lv_at hl 2 rfl) ?_
  refine cM_this (Wd := RWd g0 g1 g2 g3 g4 g5 g6 cA cB) (ci := 1) (q0 := 0) (n := 1) (as := [.int a]) (rest := [.int a, .ref g6]) ⟨hx, hb, hml, hown, hts⟩ (c_X1_best l D g0 g1 g2 g3 g4 g5 g6 cA cB s33 a hc) gX1_mend_X1_best rfl rfl rfl (by decide +kernel) ⟨Nat.le_of_ble_eq_true rfl, Nat.le_of_ble_eq_true rfl⟩ hK hP hD hS hA rfl rfl rfl hl.1 rfl rfl (Nat.le_of_ble_eq_true rfl) dX1_mend_98 ⟨Nat.zero_le _, Nat.zero_le _⟩ (fun H locs hP hD hS => ?_)
  refine tpl (fun v35 e35 => ?_)
  refine va_last hx hb hK hP hD hS 6 0 rfl rfl hc dX1_mend_101 (fun H locs hP hD hS => ?_)
  obtain ⟨s36, t36⟩ : ∃ y9 : RS, ((s33.1, s33.2.1, s33.2.2.1, s33.2.2.2.1, s33.2.2.2.2.1, (vp_updL s33.2.2.2.2.2 a.toNatClampNeg v35)) : RS) = y9 := ⟨_, rfl⟩
  replace hP : va_P D vwCl (RWd g0 g1 g2 g3 g4 g5 g6 cA cB s36) H := by rw [← t36]; exact hP
  replace hD : va_D A (RWd g0 g1 g2 g3 g4 g5 g6 cA cB s36) := by rw [← t36]; exact hD
  have hT37 : r_tb s36 (((((((((M + 1) + 1) + 1) + 1) + 1) + 1) + 1) + 1)) := by rw [← t36]; exact tb_bst hT34
  refine lv_iconst (v := 0) hx hb dX1_mend_102 (by decide) ?_
  refine lv_istore_n (lv' := [(3, .int 0), (0, .ref g0), (1, .int a), (2, .int i4)]) hx hb dX1_mend_103 rfl hl (by decide) rfl (fun ls hl => ?_)
  refine lv_iload_n hx hb dX1_mend_104 rfl (lv_at hl 0 rfl) ?_
  refine lv_iconst (v := 4) hx hb dX1_mend_105 (by decide) ?_
  refine lv_icmp_ge (tgt := 160) hx hb dX1_mend_106 (by decide) (fun c0 => absurd c0 (by decide)) (fun _ => ?_)
  by_cases hbb : s36.2.2.2.2.2 a.toNatClampNeg = 0
  · refine lv_aload_n hx hb dX1_mend_109 rfl (lv_at hl 1 rfl) ?_
    refine va_get (D := D) (ci := 1) (v := .ref g6) (C := RX1) (T := TX1) (N := 11) hx hb hts (by decide +kernel) hown hK hP 0 rfl rfl 10 (by decide) (hts (.fieldLink RX1 34 "FadeLedgerModel" "bests" "[J") (by decide +kernel)) (fun _ h9 => h9) rfl dX1_mend_110 ?_
    refine lv_iload_n hx hb dX1_mend_113 rfl (lv_at hl 2 rfl) ?_
    refine va_lald hx hb hK hP 6 0 rfl rfl hc dX1_mend_114 ?_
    refine tpl (fun v38 e38 => ?_)
    refine lv_lconst (v := 0) hx hb dX1_mend_115 (by decide) ?_
    refine W.lcmp hx hb dX1_mend_116 ?_
    refine tpi (fun v39 e39 => ?_)
    refine lv_if_eq (tgt := 160) hx hb dX1_mend_117 (by decide) (fun c40 => ?_) (fun c40 => ?_)
    · have fin : (r_mend a st) = s36 := by clear hP hD hS; subst t5; subst e7; subst e8; subst e9; subst t10; subst t12; subst e14; subst e15; subst e16; subst t17; subst t19; subst e21; subst e22; subst e23; subst t24; subst e26; subst e27; subst t28; subst e30; subst e31; subst e32; subst t33; subst e35; subst t36; subst e38; subst e39; (have hg : g_best a st = 0 := by rw [← hbb]; exact (pk_uLs).symm); (have hi : g_bad a st = i4 := by simp only [g_bad, b1, b2, b3, b4]); (unfold r_mend r_m2); rw [if_pos hg, hi]; exact rfl
      exact cM_retv (Wd := RWd g0 g1 g2 g3 g4 g5 g6 cA cB) (st := s36) (st' := (r_mend a st)) hx hb hr hlocks dX1_mend_160 hS hP hD fin.symm
    · exact absurd (by clear hP hD hS; subst t5; subst e7; subst e8; subst e9; subst t10; subst t12; subst e14; subst e15; subst e16; subst t17; subst t19; subst e21; subst e22; subst e23; subst t24; subst e26; subst e27; subst t28; subst e30; subst e31; subst e32; subst t33; subst e35; subst t36; subst e38; subst e39; exact (lg_cmp_eq _ _).mpr hbb) c40
  · refine B2 _ 0 1 s36 i4 _ _ _ _ in4_0 (by decide) hT37 (by omega) hbb hP hD hS (lv_sub hl [1, 2, 3, 0] rfl) (fun z41 H locs ls b41 hP hD hS hl => ?_)
    have hT41 : r_tb z41 (((((((((M + 1) + 1) + 1) + 1) + 1) + 1) + 1) + 1) + 1) := by rw [← b41]; exact tb_mw1 hT37
    have hB41 : ¬ z41.2.2.2.2.2 a.toNatClampNeg = 0 := by rw [← b41, mw1_b]; exact hbb
    refine lv_iload_n hx hb dX1_mend_104 rfl (lv_at hl 3 rfl) ?_
    refine lv_iconst (v := 4) hx hb dX1_mend_105 (by decide) ?_
    refine lv_icmp_ge (tgt := 160) hx hb dX1_mend_106 (by decide) (fun c0 => absurd c0 (by decide)) (fun _ => ?_)
    refine B2 _ 1 2 z41 i4 _ _ _ _ in4_1 (by decide) hT41 (by omega) hB41 hP hD hS (lv_sub hl [0, 1, 2, 3] rfl) (fun z42 H locs ls b42 hP hD hS hl => ?_)
    have hT42 : r_tb z42 ((((((((((M + 1) + 1) + 1) + 1) + 1) + 1) + 1) + 1) + 1) + 1) := by rw [← b42]; exact tb_mw1 hT41
    have hB42 : ¬ z42.2.2.2.2.2 a.toNatClampNeg = 0 := by rw [← b42, mw1_b]; exact hB41
    refine lv_iload_n hx hb dX1_mend_104 rfl (lv_at hl 3 rfl) ?_
    refine lv_iconst (v := 4) hx hb dX1_mend_105 (by decide) ?_
    refine lv_icmp_ge (tgt := 160) hx hb dX1_mend_106 (by decide) (fun c0 => absurd c0 (by decide)) (fun _ => ?_)
    refine B2 _ 2 3 z42 i4 _ _ _ _ in4_2 (by decide) hT42 (by omega) hB42 hP hD hS (lv_sub hl [0, 1, 2, 3] rfl) (fun z43 H locs ls b43 hP hD hS hl => ?_)
    have hT43 : r_tb z43 (((((((((((M + 1) + 1) + 1) + 1) + 1) + 1) + 1) + 1) + 1) + 1) + 1) := by rw [← b43]; exact tb_mw1 hT42
    have hB43 : ¬ z43.2.2.2.2.2 a.toNatClampNeg = 0 := by rw [← b43, mw1_b]; exact hB42
    refine lv_iload_n hx hb dX1_mend_104 rfl (lv_at hl 3 rfl) ?_
    refine lv_iconst (v := 4) hx hb dX1_mend_105 (by decide) ?_
    refine lv_icmp_ge (tgt := 160) hx hb dX1_mend_106 (by decide) (fun c0 => absurd c0 (by decide)) (fun _ => ?_)
    refine B2 _ 3 4 z43 i4 _ _ _ _ in4_3 (by decide) hT43 (by omega) hB43 hP hD hS (lv_sub hl [0, 1, 2, 3] rfl) (fun z44 H locs ls b44 hP hD hS hl => ?_)
    have hT44 : r_tb z44 ((((((((((((M + 1) + 1) + 1) + 1) + 1) + 1) + 1) + 1) + 1) + 1) + 1) + 1) := by rw [← b44]; exact tb_mw1 hT43
    have hB44 : ¬ z44.2.2.2.2.2 a.toNatClampNeg = 0 := by rw [← b44, mw1_b]; exact hB43
    refine lv_iload_n hx hb dX1_mend_104 rfl (lv_at hl 3 rfl) ?_
    refine lv_iconst (v := 4) hx hb dX1_mend_105 (by decide) ?_
    refine lv_icmp_ge (tgt := 160) hx hb dX1_mend_106 (by decide) (fun _ => ?_) (fun c0 => absurd c0 (by decide))
    have fin : (r_mend a st) = z44 := by clear hP hD hS; subst t5; subst e7; subst e8; subst e9; subst t10; subst t12; subst e14; subst e15; subst e16; subst t17; subst t19; subst e21; subst e22; subst e23; subst t24; subst e26; subst e27; subst t28; subst e30; subst e31; subst e32; subst t33; subst e35; subst t36; (have hg : ¬ g_best a st = 0 := fun q => hbb (by rw [← q]; exact pk_uLs)); (have hi : g_bad a st = i4 := by simp only [g_bad, b1, b2, b3, b4]); (unfold r_mend r_m2); rw [if_neg hg, hi]; subst b41; subst b42; subst b43; subst b44; exact rfl
    exact cM_retv (Wd := RWd g0 g1 g2 g3 g4 g5 g6 cA cB) (st := z44) (st' := (r_mend a st)) hx hb hr hlocks dX1_mend_160 hS hP hD fin.symm
