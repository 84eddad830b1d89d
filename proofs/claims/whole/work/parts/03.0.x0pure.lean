abbrev rmX0_checkByte : Room := { frames := 0, cells := 0, slots := 0, locals := 0 }
set_option maxHeartbeats 400000 in
set_option maxRecDepth 100000 in
-- checkByte
theorem c_X0_checkByte (l : Launch) (v : Int64) : cS l yX0_checkByte wsX0_checkByte rmX0_checkByte [.long v] (.int (f_check v)) := by
  refine cS_in (cc := cX0_checkByte) (maxL := 4) (ret := (some .int)) (by decide) rfl (Nat.le_of_ble_eq_true rfl) ?_
  intro p e s m below meth c ls hx hb hr hlocks hml hown hts hl
  have hown : s.vm.findClass RX0 = some m.cls := hown
  have hl : lv_has ls 4 [(0, .long v)] := hl
  refine lv_iconst (v := 0) hx hb dX0_checkByte_0 (by decide) ?_
  refine lv_istore_n (lv' := [(2, .int 0), (0, .long v)]) hx hb dX0_checkByte_1 rfl hl (by decide) rfl (fun ls hl => ?_)
  refine lv_bipush (v := 8) hx hb dX0_checkByte_2 (by decide) ?_
  refine lv_istore_n (lv' := [(3, .int 8), (2, .int 0), (0, .long v)]) hx hb dX0_checkByte_4 rfl hl (by decide) rfl (fun ls hl => ?_)
  refine lv_iload_n hx hb dX0_checkByte_5 rfl (lv_at hl 0 rfl) ?_
  refine lv_bipush (v := 64) hx hb dX0_checkByte_6 (by decide) ?_
  refine lv_icmp_ge (tgt := 28) hx hb dX0_checkByte_8 (by decide) (fun c0 => absurd c0 (by decide)) (fun _ => ?_)
  refine lv_iload_n hx hb dX0_checkByte_11 rfl (lv_at hl 1 rfl) ?_
  refine lv_lload_n hx hb dX0_checkByte_12 rfl (lv_at hl 2 rfl) ?_
  refine lv_iload_n hx hb dX0_checkByte_13 rfl (lv_at hl 0 rfl) ?_
  refine lv_lushr hx hb dX0_checkByte_14 rfl ?_
  refine tpl (fun v1 e1 => ?_)
  refine lv_l2i hx hb dX0_checkByte_15 rfl ?_
  refine tpi (fun v2 e2 => ?_)
  refine lv_sipush (v := 255) hx hb dX0_checkByte_16 (by decide) ?_
  refine lv_iand hx hb dX0_checkByte_19 ?_
  refine tpi (fun v3 e3 => ?_)
  refine lv_iadd hx hb dX0_checkByte_20 ?_
  refine tpi (fun v4 e4 => ?_)
  refine lv_istore_n (lv' := [(2, .int v4), (3, .int 8), (0, .long v)]) hx hb dX0_checkByte_21 rfl hl (by decide) rfl (fun ls hl => ?_)
  refine lv_iinc (v := 16) (lv' := [(3, .int 16), (2, .int v4), (0, .long v)]) hx hb dX0_checkByte_22 hl (k := 1) rfl (by decide) (by decide) rfl (fun ls hl => ?_)
  refine lv_goto (tgt := 5) hx hb dX0_checkByte_25 (by decide) ?_
  refine lv_iload_n hx hb dX0_checkByte_5 rfl (lv_at hl 0 rfl) ?_
  refine lv_bipush (v := 64) hx hb dX0_checkByte_6 (by decide) ?_
  refine lv_icmp_ge (tgt := 28) hx hb dX0_checkByte_8 (by decide) (fun c0 => absurd c0 (by decide)) (fun _ => ?_)
  refine lv_iload_n hx hb dX0_checkByte_11 rfl (lv_at hl 1 rfl) ?_
  refine lv_lload_n hx hb dX0_checkByte_12 rfl (lv_at hl 2 rfl) ?_
  refine lv_iload_n hx hb dX0_checkByte_13 rfl (lv_at hl 0 rfl) ?_
  refine lv_lushr hx hb dX0_checkByte_14 rfl ?_
  refine tpl (fun v5 e5 => ?_)
  refine lv_l2i hx hb dX0_checkByte_15 rfl ?_
  refine tpi (fun v6 e6 => ?_)
  refine lv_sipush (v := 255) hx hb dX0_checkByte_16 (by decide) ?_
  refine lv_iand hx hb dX0_checkByte_19 ?_
  refine tpi (fun v7 e7 => ?_)
  refine lv_iadd hx hb dX0_checkByte_20 ?_
  refine tpi (fun v8 e8 => ?_)
  refine lv_istore_n (lv' := [(2, .int v8), (3, .int 16), (0, .long v)]) hx hb dX0_checkByte_21 rfl hl (by decide) rfl (fun ls hl => ?_)
  refine lv_iinc (v := 24) (lv' := [(3, .int 24), (2, .int v8), (0, .long v)]) hx hb dX0_checkByte_22 hl (k := 1) rfl (by decide) (by decide) rfl (fun ls hl => ?_)
  refine lv_goto (tgt := 5) hx hb dX0_checkByte_25 (by decide) ?_
  refine lv_iload_n hx hb dX0_checkByte_5 rfl (lv_at hl 0 rfl) ?_
  refine lv_bipush (v := 64) hx hb dX0_checkByte_6 (by decide) ?_
  refine lv_icmp_ge (tgt := 28) hx hb dX0_checkByte_8 (by decide) (fun c0 => absurd c0 (by decide)) (fun _ => ?_)
  refine lv_iload_n hx hb dX0_checkByte_11 rfl (lv_at hl 1 rfl) ?_
  refine lv_lload_n hx hb dX0_checkByte_12 rfl (lv_at hl 2 rfl) ?_
  refine lv_iload_n hx hb dX0_checkByte_13 rfl (lv_at hl 0 rfl) ?_
  refine lv_lushr hx hb dX0_checkByte_14 rfl ?_
  refine tpl (fun v9 e9 => ?_)
  refine lv_l2i hx hb dX0_checkByte_15 rfl ?_
  refine tpi (fun v10 e10 => ?_)
  refine lv_sipush (v := 255) hx hb dX0_checkByte_16 (by decide) ?_
  refine lv_iand hx hb dX0_checkByte_19 ?_
  refine tpi (fun v11 e11 => ?_)
  refine lv_iadd hx hb dX0_checkByte_20 ?_
  refine tpi (fun v12 e12 => ?_)
  refine lv_istore_n (lv' := [(2, .int v12), (3, .int 24), (0, .long v)]) hx hb dX0_checkByte_21 rfl hl (by decide) rfl (fun ls hl => ?_)
  refine lv_iinc (v := 32) (lv' := [(3, .int 32), (2, .int v12), (0, .long v)]) hx hb dX0_checkByte_22 hl (k := 1) rfl (by decide) (by decide) rfl (fun ls hl => ?_)
  refine lv_goto (tgt := 5) hx hb dX0_checkByte_25 (by decide) ?_
  refine lv_iload_n hx hb dX0_checkByte_5 rfl (lv_at hl 0 rfl) ?_
  refine lv_bipush (v := 64) hx hb dX0_checkByte_6 (by decide) ?_
  refine lv_icmp_ge (tgt := 28) hx hb dX0_checkByte_8 (by decide) (fun c0 => absurd c0 (by decide)) (fun _ => ?_)
  refine lv_iload_n hx hb dX0_checkByte_11 rfl (lv_at hl 1 rfl) ?_
  refine lv_lload_n hx hb dX0_checkByte_12 rfl (lv_at hl 2 rfl) ?_
  refine lv_iload_n hx hb dX0_checkByte_13 rfl (lv_at hl 0 rfl) ?_
  refine lv_lushr hx hb dX0_checkByte_14 rfl ?_
  refine tpl (fun v13 e13 => ?_)
  refine lv_l2i hx hb dX0_checkByte_15 rfl ?_
  refine tpi (fun v14 e14 => ?_)
  refine lv_sipush (v := 255) hx hb dX0_checkByte_16 (by decide) ?_
  refine lv_iand hx hb dX0_checkByte_19 ?_
  refine tpi (fun v15 e15 => ?_)
  refine lv_iadd hx hb dX0_checkByte_20 ?_
  refine tpi (fun v16 e16 => ?_)
  refine lv_istore_n (lv' := [(2, .int v16), (3, .int 32), (0, .long v)]) hx hb dX0_checkByte_21 rfl hl (by decide) rfl (fun ls hl => ?_)
  refine lv_iinc (v := 40) (lv' := [(3, .int 40), (2, .int v16), (0, .long v)]) hx hb dX0_checkByte_22 hl (k := 1) rfl (by decide) (by decide) rfl (fun ls hl => ?_)
  refine lv_goto (tgt := 5) hx hb dX0_checkByte_25 (by decide) ?_
  refine lv_iload_n hx hb dX0_checkByte_5 rfl (lv_at hl 0 rfl) ?_
  refine lv_bipush (v := 64) hx hb dX0_checkByte_6 (by decide) ?_
  refine lv_icmp_ge (tgt := 28) hx hb dX0_checkByte_8 (by decide) (fun c0 => absurd c0 (by decide)) (fun _ => ?_)
  refine lv_iload_n hx hb dX0_checkByte_11 rfl (lv_at hl 1 rfl) ?_
  refine lv_lload_n hx hb dX0_checkByte_12 rfl (lv_at hl 2 rfl) ?_
  refine lv_iload_n hx hb dX0_checkByte_13 rfl (lv_at hl 0 rfl) ?_
  refine lv_lushr hx hb dX0_checkByte_14 rfl ?_
  refine tpl (fun v17 e17 => ?_)
  refine lv_l2i hx hb dX0_checkByte_15 rfl ?_
  refine tpi (fun v18 e18 => ?_)
  refine lv_sipush (v := 255) hx hb dX0_checkByte_16 (by decide) ?_
  refine lv_iand hx hb dX0_checkByte_19 ?_
  refine tpi (fun v19 e19 => ?_)
  refine lv_iadd hx hb dX0_checkByte_20 ?_
  refine tpi (fun v20 e20 => ?_)
  refine lv_istore_n (lv' := [(2, .int v20), (3, .int 40), (0, .long v)]) hx hb dX0_checkByte_21 rfl hl (by decide) rfl (fun ls hl => ?_)
  refine lv_iinc (v := 48) (lv' := [(3, .int 48), (2, .int v20), (0, .long v)]) hx hb dX0_checkByte_22 hl (k := 1) rfl (by decide) (by decide) rfl (fun ls hl => ?_)
  refine lv_goto (tgt := 5) hx hb dX0_checkByte_25 (by decide) ?_
  refine lv_iload_n hx hb dX0_checkByte_5 rfl (lv_at hl 0 rfl) ?_
  refine lv_bipush (v := 64) hx hb dX0_checkByte_6 (by decide) ?_
  refine lv_icmp_ge (tgt := 28) hx hb dX0_checkByte_8 (by decide) (fun c0 => absurd c0 (by decide)) (fun _ => ?_)
  refine lv_iload_n hx hb dX0_checkByte_11 rfl (lv_at hl 1 rfl) ?_
  refine lv_lload_n hx hb dX0_checkByte_12 rfl (lv_at hl 2 rfl) ?_
  refine lv_iload_n hx hb dX0_checkByte_13 rfl (lv_at hl 0 rfl) ?_
  refine lv_lushr hx hb dX0_checkByte_14 rfl ?_
  refine tpl (fun v21 e21 => ?_)
  refine lv_l2i hx hb dX0_checkByte_15 rfl ?_
  refine tpi (fun v22 e22 => ?_)
  refine lv_sipush (v := 255) hx hb dX0_checkByte_16 (by decide) ?_
  refine lv_iand hx hb dX0_checkByte_19 ?_
  refine tpi (fun v23 e23 => ?_)
  refine lv_iadd hx hb dX0_checkByte_20 ?_
  refine tpi (fun v24 e24 => ?_)
  refine lv_istore_n (lv' := [(2, .int v24), (3, .int 48), (0, .long v)]) hx hb dX0_checkByte_21 rfl hl (by decide) rfl (fun ls hl => ?_)
  refine lv_iinc (v := 56) (lv' := [(3, .int 56), (2, .int v24), (0, .long v)]) hx hb dX0_checkByte_22 hl (k := 1) rfl (by decide) (by decide) rfl (fun ls hl => ?_)
  refine lv_goto (tgt := 5) hx hb dX0_checkByte_25 (by decide) ?_
  refine lv_iload_n hx hb dX0_checkByte_5 rfl (lv_at hl 0 rfl) ?_
  refine lv_bipush (v := 64) hx hb dX0_checkByte_6 (by decide) ?_
  refine lv_icmp_ge (tgt := 28) hx hb dX0_checkByte_8 (by decide) (fun c0 => absurd c0 (by decide)) (fun _ => ?_)
  refine lv_iload_n hx hb dX0_checkByte_11 rfl (lv_at hl 1 rfl) ?_
  refine lv_lload_n hx hb dX0_checkByte_12 rfl (lv_at hl 2 rfl) ?_
  refine lv_iload_n hx hb dX0_checkByte_13 rfl (lv_at hl 0 rfl) ?_
  refine lv_lushr hx hb dX0_checkByte_14 rfl ?_
  refine tpl (fun v25 e25 => ?_)
  refine lv_l2i hx hb dX0_checkByte_15 rfl ?_
  refine tpi (fun v26 e26 => ?_)
  refine lv_sipush (v := 255) hx hb dX0_checkByte_16 (by decide) ?_
  refine lv_iand hx hb dX0_checkByte_19 ?_
  refine tpi (fun v27 e27 => ?_)
  refine lv_iadd hx hb dX0_checkByte_20 ?_
  refine tpi (fun v28 e28 => ?_)
  refine lv_istore_n (lv' := [(2, .int v28), (3, .int 56), (0, .long v)]) hx hb dX0_checkByte_21 rfl hl (by decide) rfl (fun ls hl => ?_)
  refine lv_iinc (v := 64) (lv' := [(3, .int 64), (2, .int v28), (0, .long v)]) hx hb dX0_checkByte_22 hl (k := 1) rfl (by decide) (by decide) rfl (fun ls hl => ?_)
  refine lv_goto (tgt := 5) hx hb dX0_checkByte_25 (by decide) ?_
  refine lv_iload_n hx hb dX0_checkByte_5 rfl (lv_at hl 0 rfl) ?_
  refine lv_bipush (v := 64) hx hb dX0_checkByte_6 (by decide) ?_
  refine lv_icmp_ge (tgt := 28) hx hb dX0_checkByte_8 (by decide) (fun _ => ?_) (fun c0 => absurd c0 (by decide))
  refine lv_iload_n hx hb dX0_checkByte_28 rfl (lv_at hl 1 rfl) ?_
  refine lv_sipush (v := 251) hx hb dX0_checkByte_29 (by decide) ?_
  refine lv_irem hx hb dX0_checkByte_32 (by decide) ?_
  refine tpi (fun v29 e29 => ?_)
  refine lv_iconst (v := 1) hx hb dX0_checkByte_33 (by decide) ?_
  refine lv_iadd hx hb dX0_checkByte_34 ?_
  refine tpi (fun v30 e30 => ?_)
  exact cS_reti hx hb hr hlocks dX0_checkByte_35 (by subst e1; subst e2; subst e3; subst e4; subst e5; subst e6; subst e7; subst e8; subst e9; subst e10; subst e11; subst e12; subst e13; subst e14; subst e15; subst e16; subst e17; subst e18; subst e19; subst e20; subst e21; subst e22; subst e23; subst e24; subst e25; subst e26; subst e27; subst e28; subst e29; subst e30; rfl)
abbrev rmX0_makeWord : Room := { frames := 1, cells := 0, slots := 0, locals := 23 }
set_option maxHeartbeats 400000 in
set_option maxRecDepth 100000 in
-- makeWord
theorem c_X0_makeWord (l : Launch) (b : Int32) (n : Int32) : cS l yX0_makeWord wsX0_makeWord rmX0_makeWord [.int b, .int n] (.long (f_make b n)) := by
  refine cS_in (cc := cX0_makeWord) (maxL := 4) (ret := (some .long)) (by decide) rfl (Nat.le_of_ble_eq_true rfl) ?_
  intro p e s m below meth c ls hx hb hr hlocks hml hown hts hl
  have hown : s.vm.findClass RX0 = some m.cls := hown
  have hl : lv_has ls 4 [(0, .int b), (1, .int n)] := hl
  refine lv_iload_n hx hb dX0_makeWord_0 rfl (lv_at hl 0 rfl) ?_
  refine lv_i2l hx hb dX0_makeWord_1 rfl ?_
  refine tpl (fun v1 e1 => ?_)
  refine lv_bipush (v := 32) hx hb dX0_makeWord_2 (by decide) ?_
  refine lv_lshl hx hb dX0_makeWord_4 rfl ?_
  refine tpl (fun v2 e2 => ?_)
  refine lv_iload_n hx hb dX0_makeWord_5 rfl (lv_at hl 1 rfl) ?_
  refine lv_i2l hx hb dX0_makeWord_6 rfl ?_
  refine tpl (fun v3 e3 => ?_)
  refine lv_bipush (v := 8) hx hb dX0_makeWord_7 (by decide) ?_
  refine lv_lshl hx hb dX0_makeWord_9 rfl ?_
  refine tpl (fun v4 e4 => ?_)
  refine lv_lor hx hb dX0_makeWord_10 ?_
  refine tpl (fun v5 e5 => ?_)
  refine lv_lstore_n (lv' := [(2, .long v5), (0, .int b), (1, .int n)]) hx hb dX0_makeWord_11 rfl hl (by decide) rfl (fun ls hl => ?_)
  refine lv_lload_n hx hb dX0_makeWord_12 rfl (lv_at hl 0 rfl) ?_
  refine lv_lload_n hx hb dX0_makeWord_13 rfl (lv_at hl 0 rfl) ?_
  refine cS_call (n := 1) (as := [.long v5]) (rest := [.long v5]) ⟨hx, hb, hml, hown, hts⟩ (c_X0_checkByte l v5) gX0_makeWord_X0_checkByte rfl rfl rfl (by decide +kernel) ⟨Nat.le_of_ble_eq_true rfl, Nat.le_of_ble_eq_true rfl⟩ hl.1 rfl rfl (Nat.le_of_ble_eq_true rfl) dX0_makeWord_14 ⟨Nat.zero_le _, Nat.zero_le _⟩ ?_
  refine tpi (fun v6 e6 => ?_)
  refine lv_i2l hx hb dX0_makeWord_17 rfl ?_
  refine tpl (fun v7 e7 => ?_)
  refine lv_lor hx hb dX0_makeWord_18 ?_
  refine tpl (fun v8 e8 => ?_)
  exact cS_retl hx hb hr hlocks dX0_makeWord_19 (by subst e1; subst e2; subst e3; subst e4; subst e5; subst e6; subst e7; subst e8; rfl)
abbrev rmX0_isAccount : Room := { frames := 0, cells := 0, slots := 0, locals := 0 }
set_option maxHeartbeats 400000 in
set_option maxRecDepth 100000 in
-- isAccount
theorem c_X0_isAccount (l : Launch) (a : Int32) : cS l yX0_isAccount wsX0_isAccount rmX0_isAccount [.int a] (.int (f_acct a)) := by
  refine cS_in (cc := cX0_isAccount) (maxL := 1) (ret := (some .boolean)) (by decide) rfl (Nat.le_of_ble_eq_true rfl) ?_
  intro p e s m below meth c ls hx hb hr hlocks hml hown hts hl
  have hown : s.vm.findClass RX0 = some m.cls := hown
  have hl : lv_has ls 1 [(0, .int a)] := hl
  refine lv_iload_n hx hb dX0_isAccount_0 rfl (lv_at hl 0 rfl) ?_
  refine lv_if_lt (tgt := 14) hx hb dX0_isAccount_1 (by decide) (fun c1 => ?_) (fun c1 => ?_)
  · refine lv_iconst (v := 0) hx hb dX0_isAccount_14 (by decide) ?_
    exact cS_retz hx hb hr hlocks dX0_isAccount_15 rfl (by simp only [f_acct, bI, c1, ↓reduceIte, not_true_eq_false, not_false_eq_true, and_self, and_true, true_and, and_false, false_and, eq_self])
  · refine lv_iload_n hx hb dX0_isAccount_4 rfl (lv_at hl 0 rfl) ?_
    refine lv_bipush (v := 16) hx hb dX0_isAccount_5 (by decide) ?_
    refine lv_icmp_ge (tgt := 14) hx hb dX0_isAccount_7 (by decide) (fun c2 => ?_) (fun c2 => ?_)
    · refine lv_iconst (v := 0) hx hb dX0_isAccount_14 (by decide) ?_
      exact cS_retz hx hb hr hlocks dX0_isAccount_15 rfl (by simp only [f_acct, bI, c1, c2, ↓reduceIte, not_true_eq_false, not_false_eq_true, and_self, and_true, true_and, and_false, false_and, eq_self])
    · refine lv_iconst (v := 1) hx hb dX0_isAccount_10 (by decide) ?_
      refine lv_goto (tgt := 15) hx hb dX0_isAccount_11 (by decide) ?_
      exact cS_retz hx hb hr hlocks dX0_isAccount_15 rfl (by simp only [f_acct, bI, c1, c2, ↓reduceIte, not_true_eq_false, not_false_eq_true, and_self, and_true, true_and, and_false, false_and, eq_self])
abbrev rmX0_isCell : Room := { frames := 0, cells := 0, slots := 0, locals := 0 }
set_option maxHeartbeats 400000 in
set_option maxRecDepth 100000 in
-- isCell
theorem c_X0_isCell (l : Launch) (a : Int32) : cS l yX0_isCell wsX0_isCell rmX0_isCell [.int a] (.int (f_cell a)) := by
  refine cS_in (cc := cX0_isCell) (maxL := 1) (ret := (some .boolean)) (by decide) rfl (Nat.le_of_ble_eq_true rfl) ?_
  intro p e s m below meth c ls hx hb hr hlocks hml hown hts hl
  have hown : s.vm.findClass RX0 = some m.cls := hown
  have hl : lv_has ls 1 [(0, .int a)] := hl
  refine lv_iload_n hx hb dX0_isCell_0 rfl (lv_at hl 0 rfl) ?_
  refine lv_if_lt (tgt := 14) hx hb dX0_isCell_1 (by decide) (fun c1 => ?_) (fun c1 => ?_)
  · refine lv_iconst (v := 0) hx hb dX0_isCell_14 (by decide) ?_
    exact cS_retz hx hb hr hlocks dX0_isCell_15 rfl (by simp only [f_cell, bI, c1, ↓reduceIte, not_true_eq_false, not_false_eq_true, and_self, and_true, true_and, and_false, false_and, eq_self])
  · refine lv_iload_n hx hb dX0_isCell_4 rfl (lv_at hl 0 rfl) ?_
    refine lv_bipush (v := 20) hx hb dX0_isCell_5 (by decide) ?_
    refine lv_icmp_ge (tgt := 14) hx hb dX0_isCell_7 (by decide) (fun c2 => ?_) (fun c2 => ?_)
    · refine lv_iconst (v := 0) hx hb dX0_isCell_14 (by decide) ?_
      exact cS_retz hx hb hr hlocks dX0_isCell_15 rfl (by simp only [f_cell, bI, c1, c2, ↓reduceIte, not_true_eq_false, not_false_eq_true, and_self, and_true, true_and, and_false, false_and, eq_self])
    · refine lv_iconst (v := 1) hx hb dX0_isCell_10 (by decide) ?_
      refine lv_goto (tgt := 15) hx hb dX0_isCell_11 (by decide) ?_
      exact cS_retz hx hb hr hlocks dX0_isCell_15 rfl (by simp only [f_cell, bI, c1, c2, ↓reduceIte, not_true_eq_false, not_false_eq_true, and_self, and_true, true_and, and_false, false_and, eq_self])
abbrev rmX0_slot : Room := { frames := 0, cells := 0, slots := 0, locals := 0 }
set_option maxHeartbeats 400000 in
set_option maxRecDepth 100000 in
-- slot
theorem c_X0_slot (l : Launch) (a : Int32) (b : Int32) : cS l yX0_slot wsX0_slot rmX0_slot [.int a, .int b] (.int (f_slot a b)) := by
  refine cS_in (cc := cX0_slot) (maxL := 2) (ret := (some .int)) (by decide) rfl (Nat.le_of_ble_eq_true rfl) ?_
  intro p e s m below meth c ls hx hb hr hlocks hml hown hts hl
  have hown : s.vm.findClass RX0 = some m.cls := hown
  have hl : lv_has ls 2 [(0, .int a), (1, .int b)] := hl
  refine lv_iload_n hx hb dX0_slot_0 rfl (lv_at hl 0 rfl) ?_
  refine lv_bipush (v := 20) hx hb dX0_slot_1 (by decide) ?_
  refine lv_imul hx hb dX0_slot_3 ?_
  refine tpi (fun v1 e1 => ?_)
  refine lv_iload_n hx hb dX0_slot_4 rfl (lv_at hl 1 rfl) ?_
  refine lv_iadd hx hb dX0_slot_5 ?_
  refine tpi (fun v2 e2 => ?_)
  exact cS_reti hx hb hr hlocks dX0_slot_6 (by subst e1; subst e2; rfl)
abbrev rmX0_isValid : Room := { frames := 1, cells := 0, slots := 0, locals := 23 }
set_option maxHeartbeats 400000 in
set_option maxRecDepth 100000 in
-- isValid
theorem c_X0_isValid (l : Launch) (v : Int64) : cS l yX0_isValid wsX0_isValid rmX0_isValid [.long v] (.int (f_valid v)) := by
  refine cS_in (cc := cX0_isValid) (maxL := 2) (ret := (some .boolean)) (by decide) rfl (Nat.le_of_ble_eq_true rfl) ?_
  intro p e s m below meth c ls hx hb hr hlocks hml hown hts hl
  have hown : s.vm.findClass RX0 = some m.cls := hown
  have hl : lv_has ls 2 [(0, .long v)] := hl
  refine lv_lload_n hx hb dX0_isValid_0 rfl (lv_at hl 0 rfl) ?_
  refine lv_ldc2 (v := 255) hx hb hown (hts (.constantLong RX0 147 255) (by decide +kernel)) dX0_isValid_1 ?_
  refine lv_land hx hb dX0_isValid_4 ?_
  refine tpl (fun v1 e1 => ?_)
  refine lv_l2i hx hb dX0_isValid_5 rfl ?_
  refine tpi (fun v2 e2 => ?_)
  refine lv_lload_n hx hb dX0_isValid_6 rfl (lv_at hl 0 rfl) ?_
  refine cS_call (n := 1) (as := [.long v]) (rest := [.int v2]) ⟨hx, hb, hml, hown, hts⟩ (c_X0_checkByte l v) gX0_isValid_X0_checkByte rfl rfl rfl (by decide +kernel) ⟨Nat.le_of_ble_eq_true rfl, Nat.le_of_ble_eq_true rfl⟩ hl.1 rfl rfl (Nat.le_of_ble_eq_true rfl) dX0_isValid_7 ⟨Nat.zero_le _, Nat.zero_le _⟩ ?_
  refine tpi (fun v3 e3 => ?_)
  refine lv_icmp_ne (tgt := 17) hx hb dX0_isValid_10 (by decide) (fun c4 => ?_) (fun c4 => ?_)
  · refine lv_iconst (v := 0) hx hb dX0_isValid_17 (by decide) ?_
    exact cS_retz hx hb hr hlocks dX0_isValid_18 rfl (by subst e1; subst e2; subst e3; simp only [f_valid, bI, c4, ↓reduceIte, not_true_eq_false, not_false_eq_true, and_self, and_true, true_and, and_false, false_and, eq_self])
  · refine lv_iconst (v := 1) hx hb dX0_isValid_13 (by decide) ?_
    refine lv_goto (tgt := 18) hx hb dX0_isValid_14 (by decide) ?_
    exact cS_retz hx hb hr hlocks dX0_isValid_18 rfl (by subst e1; subst e2; subst e3; simp only [f_valid, bI, c4, ↓reduceIte, not_true_eq_false, not_false_eq_true, and_self, and_true, true_and, and_false, false_and, eq_self])
abbrev rmX0_balanceOf : Room := { frames := 0, cells := 0, slots := 0, locals := 0 }
set_option maxHeartbeats 400000 in
set_option maxRecDepth 100000 in
-- balanceOf
theorem c_X0_balanceOf (l : Launch) (v : Int64) : cS l yX0_balanceOf wsX0_balanceOf rmX0_balanceOf [.long v] (.int (f_bal v)) := by
  refine cS_in (cc := cX0_balanceOf) (maxL := 2) (ret := (some .int)) (by decide) rfl (Nat.le_of_ble_eq_true rfl) ?_
  intro p e s m below meth c ls hx hb hr hlocks hml hown hts hl
  have hown : s.vm.findClass RX0 = some m.cls := hown
  have hl : lv_has ls 2 [(0, .long v)] := hl
  refine lv_lload_n hx hb dX0_balanceOf_0 rfl (lv_at hl 0 rfl) ?_
  refine lv_bipush (v := 32) hx hb dX0_balanceOf_1 (by decide) ?_
  refine lv_lshr hx hb dX0_balanceOf_3 rfl ?_
  refine tpl (fun v1 e1 => ?_)
  refine lv_l2i hx hb dX0_balanceOf_4 rfl ?_
  refine tpi (fun v2 e2 => ?_)
  exact cS_reti hx hb hr hlocks dX0_balanceOf_5 (by subst e1; subst e2; rfl)
abbrev rmX0_numberOf : Room := { frames := 0, cells := 0, slots := 0, locals := 0 }
set_option maxHeartbeats 400000 in
set_option maxRecDepth 100000 in
-- numberOf
theorem c_X0_numberOf (l : Launch) (v : Int64) : cS l yX0_numberOf wsX0_numberOf rmX0_numberOf [.long v] (.int (f_num v)) := by
  refine cS_in (cc := cX0_numberOf) (maxL := 2) (ret := (some .int)) (by decide) rfl (Nat.le_of_ble_eq_true rfl) ?_
  intro p e s m below meth c ls hx hb hr hlocks hml hown hts hl
  have hown : s.vm.findClass RX0 = some m.cls := hown
  have hl : lv_has ls 2 [(0, .long v)] := hl
  refine lv_lload_n hx hb dX0_numberOf_0 rfl (lv_at hl 0 rfl) ?_
  refine lv_bipush (v := 8) hx hb dX0_numberOf_1 (by decide) ?_
  refine lv_lushr hx hb dX0_numberOf_3 rfl ?_
  refine tpl (fun v1 e1 => ?_)
  refine lv_l2i hx hb dX0_numberOf_4 rfl ?_
  refine tpi (fun v2 e2 => ?_)
  refine lv_ldc (v := 16777215) hx hb hown (hts (.constant RX0 149 16777215) (by decide +kernel)) dX0_numberOf_5 ?_
  refine lv_iand hx hb dX0_numberOf_7 ?_
  refine tpi (fun v3 e3 => ?_)
  exact cS_reti hx hb hr hlocks dX0_numberOf_8 (by subst e1; subst e2; subst e3; rfl)
abbrev rmX0_isUnopened : Room := { frames := 2, cells := 0, slots := 0, locals := 44 }
set_option maxHeartbeats 400000 in
set_option maxRecDepth 100000 in
-- isUnopened
theorem c_X0_isUnopened (l : Launch) (v : Int64) : cS l yX0_isUnopened wsX0_isUnopened rmX0_isUnopened [.long v] (.int (f_unop v)) := by
  refine cS_in (cc := cX0_isUnopened) (maxL := 2) (ret := (some .boolean)) (by decide) rfl (Nat.le_of_ble_eq_true rfl) ?_
  intro p e s m below meth c ls hx hb hr hlocks hml hown hts hl
  have hown : s.vm.findClass RX0 = some m.cls := hown
  have hl : lv_has ls 2 [(0, .long v)] := hl
  refine lv_lload_n hx hb dX0_isUnopened_0 rfl (lv_at hl 0 rfl) ?_
  refine cS_call (n := 1) (as := [.long v]) (rest := []) ⟨hx, hb, hml, hown, hts⟩ (c_X0_isValid l v) gX0_isUnopened_X0_isValid rfl rfl rfl (by decide +kernel) ⟨Nat.le_of_ble_eq_true rfl, Nat.le_of_ble_eq_true rfl⟩ hl.1 rfl rfl (Nat.le_of_ble_eq_true rfl) dX0_isUnopened_1 ⟨Nat.zero_le _, Nat.zero_le _⟩ ?_
  refine tpi (fun v1 e1 => ?_)
  refine lv_if_eq (tgt := 18) hx hb dX0_isUnopened_4 (by decide) (fun c2 => ?_) (fun c2 => ?_)
  · refine lv_iconst (v := 0) hx hb dX0_isUnopened_18 (by decide) ?_
    exact cS_retz hx hb hr hlocks dX0_isUnopened_19 rfl (by subst e1; simp only [f_unop, bI, c2, ↓reduceIte, not_true_eq_false, not_false_eq_true, and_self, and_true, true_and, and_false, false_and, eq_self])
  · refine lv_lload_n hx hb dX0_isUnopened_7 rfl (lv_at hl 0 rfl) ?_
    refine cS_call (n := 1) (as := [.long v]) (rest := []) ⟨hx, hb, hml, hown, hts⟩ (c_X0_numberOf l v) gX0_isUnopened_X0_numberOf rfl rfl rfl (by decide +kernel) ⟨Nat.le_of_ble_eq_true rfl, Nat.le_of_ble_eq_true rfl⟩ hl.1 rfl rfl (Nat.le_of_ble_eq_true rfl) dX0_isUnopened_8 ⟨Nat.zero_le _, Nat.zero_le _⟩ ?_
    refine tpi (fun v3 e3 => ?_)
    refine lv_if_ne (tgt := 18) hx hb dX0_isUnopened_11 (by decide) (fun c4 => ?_) (fun c4 => ?_)
    · refine lv_iconst (v := 0) hx hb dX0_isUnopened_18 (by decide) ?_
      exact cS_retz hx hb hr hlocks dX0_isUnopened_19 rfl (by subst e1; subst e3; simp only [f_unop, bI, c2, c4, ↓reduceIte, not_true_eq_false, not_false_eq_true, and_self, and_true, true_and, and_false, false_and, eq_self])
    · refine lv_iconst (v := 1) hx hb dX0_isUnopened_14 (by decide) ?_
      refine lv_goto (tgt := 19) hx hb dX0_isUnopened_15 (by decide) ?_
      exact cS_retz hx hb hr hlocks dX0_isUnopened_19 rfl (by subst e1; subst e3; simp only [f_unop, bI, c2, c4, ↓reduceIte, not_true_eq_false, not_false_eq_true, and_self, and_true, true_and, and_false, false_and, eq_self])
abbrev rmX0_isOpen : Room := { frames := 2, cells := 0, slots := 0, locals := 44 }
set_option maxHeartbeats 400000 in
set_option maxRecDepth 100000 in
-- isOpen
theorem c_X0_isOpen (l : Launch) (v : Int64) : cS l yX0_isOpen wsX0_isOpen rmX0_isOpen [.long v] (.int (f_isop v)) := by
  refine cS_in (cc := cX0_isOpen) (maxL := 2) (ret := (some .boolean)) (by decide) rfl (Nat.le_of_ble_eq_true rfl) ?_
  intro p e s m below meth c ls hx hb hr hlocks hml hown hts hl
  have hown : s.vm.findClass RX0 = some m.cls := hown
  have hl : lv_has ls 2 [(0, .long v)] := hl
  refine lv_lload_n hx hb dX0_isOpen_0 rfl (lv_at hl 0 rfl) ?_
  refine cS_call (n := 1) (as := [.long v]) (rest := []) ⟨hx, hb, hml, hown, hts⟩ (c_X0_isValid l v) gX0_isOpen_X0_isValid rfl rfl rfl (by decide +kernel) ⟨Nat.le_of_ble_eq_true rfl, Nat.le_of_ble_eq_true rfl⟩ hl.1 rfl rfl (Nat.le_of_ble_eq_true rfl) dX0_isOpen_1 ⟨Nat.zero_le _, Nat.zero_le _⟩ ?_
  refine tpi (fun v1 e1 => ?_)
  refine lv_if_eq (tgt := 18) hx hb dX0_isOpen_4 (by decide) (fun c2 => ?_) (fun c2 => ?_)
  · refine lv_iconst (v := 0) hx hb dX0_isOpen_18 (by decide) ?_
    exact cS_retz hx hb hr hlocks dX0_isOpen_19 rfl (by subst e1; simp only [f_isop, bI, c2, ↓reduceIte, not_true_eq_false, not_false_eq_true, and_self, and_true, true_and, and_false, false_and, eq_self])
  · refine lv_lload_n hx hb dX0_isOpen_7 rfl (lv_at hl 0 rfl) ?_
    refine cS_call (n := 1) (as := [.long v]) (rest := []) ⟨hx, hb, hml, hown, hts⟩ (c_X0_numberOf l v) gX0_isOpen_X0_numberOf rfl rfl rfl (by decide +kernel) ⟨Nat.le_of_ble_eq_true rfl, Nat.le_of_ble_eq_true rfl⟩ hl.1 rfl rfl (Nat.le_of_ble_eq_true rfl) dX0_isOpen_8 ⟨Nat.zero_le _, Nat.zero_le _⟩ ?_
    refine tpi (fun v3 e3 => ?_)
    refine lv_if_eq (tgt := 18) hx hb dX0_isOpen_11 (by decide) (fun c4 => ?_) (fun c4 => ?_)
    · refine lv_iconst (v := 0) hx hb dX0_isOpen_18 (by decide) ?_
      exact cS_retz hx hb hr hlocks dX0_isOpen_19 rfl (by subst e1; subst e3; simp only [f_isop, bI, c2, c4, ↓reduceIte, not_true_eq_false, not_false_eq_true, and_self, and_true, true_and, and_false, false_and, eq_self])
    · refine lv_iconst (v := 1) hx hb dX0_isOpen_14 (by decide) ?_
      refine lv_goto (tgt := 19) hx hb dX0_isOpen_15 (by decide) ?_
      exact cS_retz hx hb hr hlocks dX0_isOpen_19 rfl (by subst e1; subst e3; simp only [f_isop, bI, c2, c4, ↓reduceIte, not_true_eq_false, not_false_eq_true, and_self, and_true, true_and, and_false, false_and, eq_self])
abbrev rmX0_hasNextNumber : Room := { frames := 1, cells := 0, slots := 0, locals := 21 }
set_option maxHeartbeats 400000 in
set_option maxRecDepth 100000 in
-- hasNextNumber
theorem c_X0_hasNextNumber (l : Launch) (v : Int64) : cS l yX0_hasNextNumber wsX0_hasNextNumber rmX0_hasNextNumber [.long v] (.int (f_hasn v)) := by
  refine cS_in (cc := cX0_hasNextNumber) (maxL := 2) (ret := (some .boolean)) (by decide) rfl (Nat.le_of_ble_eq_true rfl) ?_
  intro p e s m below meth c ls hx hb hr hlocks hml hown hts hl
  have hown : s.vm.findClass RX0 = some m.cls := hown
  have hl : lv_has ls 2 [(0, .long v)] := hl
  refine lv_lload_n hx hb dX0_hasNextNumber_0 rfl (lv_at hl 0 rfl) ?_
  refine cS_call (n := 1) (as := [.long v]) (rest := []) ⟨hx, hb, hml, hown, hts⟩ (c_X0_numberOf l v) gX0_hasNextNumber_X0_numberOf rfl rfl rfl (by decide +kernel) ⟨Nat.le_of_ble_eq_true rfl, Nat.le_of_ble_eq_true rfl⟩ hl.1 rfl rfl (Nat.le_of_ble_eq_true rfl) dX0_hasNextNumber_1 ⟨Nat.zero_le _, Nat.zero_le _⟩ ?_
  refine tpi (fun v1 e1 => ?_)
  refine lv_ldc (v := 16777215) hx hb hown (hts (.constant RX0 149 16777215) (by decide +kernel)) dX0_hasNextNumber_4 ?_
  refine lv_icmp_ge (tgt := 13) hx hb dX0_hasNextNumber_6 (by decide) (fun c2 => ?_) (fun c2 => ?_)
  · refine lv_iconst (v := 0) hx hb dX0_hasNextNumber_13 (by decide) ?_
    exact cS_retz hx hb hr hlocks dX0_hasNextNumber_14 rfl (by subst e1; simp only [f_hasn, bI, c2, ↓reduceIte, not_true_eq_false, not_false_eq_true, and_self, and_true, true_and, and_false, false_and, eq_self])
  · refine lv_iconst (v := 1) hx hb dX0_hasNextNumber_9 (by decide) ?_
    refine lv_goto (tgt := 14) hx hb dX0_hasNextNumber_10 (by decide) ?_
    exact cS_retz hx hb hr hlocks dX0_hasNextNumber_14 rfl (by subst e1; simp only [f_hasn, bI, c2, ↓reduceIte, not_true_eq_false, not_false_eq_true, and_self, and_true, true_and, and_false, false_and, eq_self])
abbrev rmX0_isInt : Room := { frames := 0, cells := 0, slots := 0, locals := 0 }
set_option maxHeartbeats 400000 in
set_option maxRecDepth 100000 in
-- isInt
theorem c_X0_isInt (l : Launch) (v : Int64) : cS l yX0_isInt wsX0_isInt rmX0_isInt [.long v] (.int (f_isint v)) := by
  refine cS_in (cc := cX0_isInt) (maxL := 2) (ret := (some .boolean)) (by decide) rfl (Nat.le_of_ble_eq_true rfl) ?_
  intro p e s m below meth c ls hx hb hr hlocks hml hown hts hl
  have hown : s.vm.findClass RX0 = some m.cls := hown
  have hl : lv_has ls 2 [(0, .long v)] := hl
  refine lv_lload_n hx hb dX0_isInt_0 rfl (lv_at hl 0 rfl) ?_
  refine lv_lload_n hx hb dX0_isInt_1 rfl (lv_at hl 0 rfl) ?_
  refine lv_l2i hx hb dX0_isInt_2 rfl ?_
  refine tpi (fun v1 e1 => ?_)
  refine lv_i2l hx hb dX0_isInt_3 rfl ?_
  refine tpl (fun v2 e2 => ?_)
  refine W.lcmp hx hb dX0_isInt_4 ?_
  refine tpi (fun v3 e3 => ?_)
  refine lv_if_ne (tgt := 12) hx hb dX0_isInt_5 (by decide) (fun c4 => ?_) (fun c4 => ?_)
  · refine lv_iconst (v := 0) hx hb dX0_isInt_12 (by decide) ?_
    exact cS_retz hx hb hr hlocks dX0_isInt_13 rfl (by subst e1; subst e2; subst e3; simp only [lg_cmp_eq] at c4; exact (bI_f c4).symm)
  · refine lv_iconst (v := 1) hx hb dX0_isInt_8 (by decide) ?_
    refine lv_goto (tgt := 13) hx hb dX0_isInt_9 (by decide) ?_
    exact cS_retz hx hb hr hlocks dX0_isInt_13 rfl (by subst e1; subst e2; subst e3; simp only [lg_cmp_eq] at c4; exact (bI_t c4).symm)
abbrev rmX0_canTake : Room := { frames := 3, cells := 0, slots := 0, locals := 65 }
set_option maxHeartbeats 400000 in
set_option maxRecDepth 100000 in
-- canTake
theorem c_X0_canTake (l : Launch) (v : Int64) (ch : Int64) : cS l yX0_canTake wsX0_canTake rmX0_canTake [.long v, .long ch] (.int (f_can v ch)) := by
  refine cS_in (cc := cX0_canTake) (maxL := 6) (ret := (some .boolean)) (by decide) rfl (Nat.le_of_ble_eq_true rfl) ?_
  intro p e s m below meth c ls hx hb hr hlocks hml hown hts hl
  have hown : s.vm.findClass RX0 = some m.cls := hown
  have hl : lv_has ls 6 [(0, .long v), (2, .long ch)] := hl
  refine lv_lload_n hx hb dX0_canTake_0 rfl (lv_at hl 0 rfl) ?_
  refine cS_call (n := 1) (as := [.long v]) (rest := []) ⟨hx, hb, hml, hown, hts⟩ (c_X0_balanceOf l v) gX0_canTake_X0_balanceOf rfl rfl rfl (by decide +kernel) ⟨Nat.le_of_ble_eq_true rfl, Nat.le_of_ble_eq_true rfl⟩ hl.1 rfl rfl (Nat.le_of_ble_eq_true rfl) dX0_canTake_1 ⟨Nat.zero_le _, Nat.zero_le _⟩ ?_
  refine tpi (fun v1 e1 => ?_)
  refine lv_i2l hx hb dX0_canTake_4 rfl ?_
  refine tpl (fun v2 e2 => ?_)
  refine lv_lload_n hx hb dX0_canTake_5 rfl (lv_at hl 1 rfl) ?_
  refine lv_ladd hx hb dX0_canTake_6 ?_
  refine tpl (fun v3 e3 => ?_)
  refine lv_lstore (lv' := [(4, .long v3), (0, .long v), (2, .long ch)]) hx hb dX0_canTake_7 hl (by decide) rfl (fun ls hl => ?_)
  refine lv_lload_n hx hb dX0_canTake_9 rfl (lv_at hl 1 rfl) ?_
  refine cS_call (n := 1) (as := [.long v]) (rest := []) ⟨hx, hb, hml, hown, hts⟩ (c_X0_isOpen l v) gX0_canTake_X0_isOpen rfl rfl rfl (by decide +kernel) ⟨Nat.le_of_ble_eq_true rfl, Nat.le_of_ble_eq_true rfl⟩ hl.1 rfl rfl (Nat.le_of_ble_eq_true rfl) dX0_canTake_10 ⟨Nat.zero_le _, Nat.zero_le _⟩ ?_
  refine tpi (fun v4 e4 => ?_)
  refine lv_if_eq (tgt := 42) hx hb dX0_canTake_13 (by decide) (fun c5 => ?_) (fun c5 => ?_)
  · refine lv_iconst (v := 0) hx hb dX0_canTake_42 (by decide) ?_
    exact cS_retz hx hb hr hlocks dX0_canTake_43 rfl (by subst e1; subst e2; subst e3; subst e4; (try simp only [lg_cmp_eq, lg_cmp_lt, lg_cmp_le, lg_cmp_gt, lg_cmp_ge] at c5); simp only [f_can, bI, c5, ↓reduceIte, not_true_eq_false, not_false_eq_true, and_self, and_true, true_and, and_false, false_and, eq_self])
  · refine lv_lload_n hx hb dX0_canTake_16 rfl (lv_at hl 1 rfl) ?_
    refine cS_call (n := 1) (as := [.long v]) (rest := []) ⟨hx, hb, hml, hown, hts⟩ (c_X0_hasNextNumber l v) gX0_canTake_X0_hasNextNumber rfl rfl rfl (by decide +kernel) ⟨Nat.le_of_ble_eq_true rfl, Nat.le_of_ble_eq_true rfl⟩ hl.1 rfl rfl (Nat.le_of_ble_eq_true rfl) dX0_canTake_17 ⟨Nat.zero_le _, Nat.zero_le _⟩ ?_
    refine tpi (fun v6 e6 => ?_)
    refine lv_if_eq (tgt := 42) hx hb dX0_canTake_20 (by decide) (fun c7 => ?_) (fun c7 => ?_)
    · refine lv_iconst (v := 0) hx hb dX0_canTake_42 (by decide) ?_
      exact cS_retz hx hb hr hlocks dX0_canTake_43 rfl (by subst e1; subst e2; subst e3; subst e4; subst e6; (try simp only [lg_cmp_eq, lg_cmp_lt, lg_cmp_le, lg_cmp_gt, lg_cmp_ge] at c5 c7); simp only [f_can, bI, c5, c7, ↓reduceIte, not_true_eq_false, not_false_eq_true, and_self, and_true, true_and, and_false, false_and, eq_self])
    · refine lv_lload hx hb dX0_canTake_23 (lv_at hl 0 rfl) ?_
      refine cS_call (n := 1) (as := [.long v3]) (rest := []) ⟨hx, hb, hml, hown, hts⟩ (c_X0_isInt l v3) gX0_canTake_X0_isInt rfl rfl rfl (by decide +kernel) ⟨Nat.le_of_ble_eq_true rfl, Nat.le_of_ble_eq_true rfl⟩ hl.1 rfl rfl (Nat.le_of_ble_eq_true rfl) dX0_canTake_25 ⟨Nat.zero_le _, Nat.zero_le _⟩ ?_
      refine tpi (fun v8 e8 => ?_)
      refine lv_if_eq (tgt := 42) hx hb dX0_canTake_28 (by decide) (fun c9 => ?_) (fun c9 => ?_)
      · refine lv_iconst (v := 0) hx hb dX0_canTake_42 (by decide) ?_
        exact cS_retz hx hb hr hlocks dX0_canTake_43 rfl (by subst e1; subst e2; subst e3; subst e4; subst e6; subst e8; (try simp only [lg_cmp_eq, lg_cmp_lt, lg_cmp_le, lg_cmp_gt, lg_cmp_ge] at c5 c7 c9); simp only [f_can, bI, c5, c7, c9, ↓reduceIte, not_true_eq_false, not_false_eq_true, and_self, and_true, true_and, and_false, false_and, eq_self])
      · refine lv_lload hx hb dX0_canTake_31 (lv_at hl 0 rfl) ?_
        refine lv_lconst (v := 0) hx hb dX0_canTake_33 (by decide) ?_
        refine W.lcmp hx hb dX0_canTake_34 ?_
        refine tpi (fun v10 e10 => ?_)
        refine lv_if_lt (tgt := 42) hx hb dX0_canTake_35 (by decide) (fun c11 => ?_) (fun c11 => ?_)
        · refine lv_iconst (v := 0) hx hb dX0_canTake_42 (by decide) ?_
          exact cS_retz hx hb hr hlocks dX0_canTake_43 rfl (by subst e1; subst e2; subst e3; subst e4; subst e6; subst e8; subst e10; (try simp only [lg_cmp_eq, lg_cmp_lt, lg_cmp_le, lg_cmp_gt, lg_cmp_ge] at c5 c7 c9 c11); simp only [f_can, bI, c5, c7, c9, c11, ↓reduceIte, not_true_eq_false, not_false_eq_true, and_self, and_true, true_and, and_false, false_and, eq_self])
        · refine lv_iconst (v := 1) hx hb dX0_canTake_38 (by decide) ?_
          refine lv_goto (tgt := 43) hx hb dX0_canTake_39 (by decide) ?_
          exact cS_retz hx hb hr hlocks dX0_canTake_43 rfl (by subst e1; subst e2; subst e3; subst e4; subst e6; subst e8; subst e10; (try simp only [lg_cmp_eq, lg_cmp_lt, lg_cmp_le, lg_cmp_gt, lg_cmp_ge] at c5 c7 c9 c11); simp only [f_can, bI, c5, c7, c9, c11, ↓reduceIte, not_true_eq_false, not_false_eq_true, and_self, and_true, true_and, and_false, false_and, eq_self])
abbrev rmX0_nextWord : Room := { frames := 2, cells := 0, slots := 0, locals := 46 }
set_option maxHeartbeats 400000 in
set_option maxRecDepth 100000 in
-- nextWord
theorem c_X0_nextWord (l : Launch) (v : Int64) (ch : Int32) : cS l yX0_nextWord wsX0_nextWord rmX0_nextWord [.long v, .int ch] (.long (f_next v ch)) := by
  refine cS_in (cc := cX0_nextWord) (maxL := 3) (ret := (some .long)) (by decide) rfl (Nat.le_of_ble_eq_true rfl) ?_
  intro p e s m below meth c ls hx hb hr hlocks hml hown hts hl
  have hown : s.vm.findClass RX0 = some m.cls := hown
  have hl : lv_has ls 3 [(0, .long v), (2, .int ch)] := hl
  refine lv_lload_n hx hb dX0_nextWord_0 rfl (lv_at hl 0 rfl) ?_
  refine cS_call (n := 1) (as := [.long v]) (rest := []) ⟨hx, hb, hml, hown, hts⟩ (c_X0_balanceOf l v) gX0_nextWord_X0_balanceOf rfl rfl rfl (by decide +kernel) ⟨Nat.le_of_ble_eq_true rfl, Nat.le_of_ble_eq_true rfl⟩ hl.1 rfl rfl (Nat.le_of_ble_eq_true rfl) dX0_nextWord_1 ⟨Nat.zero_le _, Nat.zero_le _⟩ ?_
  refine tpi (fun v1 e1 => ?_)
  refine lv_iload_n hx hb dX0_nextWord_4 rfl (lv_at hl 1 rfl) ?_
  refine lv_iadd hx hb dX0_nextWord_5 ?_
  refine tpi (fun v2 e2 => ?_)
  refine lv_lload_n hx hb dX0_nextWord_6 rfl (lv_at hl 0 rfl) ?_
  refine cS_call (n := 1) (as := [.long v]) (rest := [.int v2]) ⟨hx, hb, hml, hown, hts⟩ (c_X0_numberOf l v) gX0_nextWord_X0_numberOf rfl rfl rfl (by decide +kernel) ⟨Nat.le_of_ble_eq_true rfl, Nat.le_of_ble_eq_true rfl⟩ hl.1 rfl rfl (Nat.le_of_ble_eq_true rfl) dX0_nextWord_7 ⟨Nat.zero_le _, Nat.zero_le _⟩ ?_
  refine tpi (fun v3 e3 => ?_)
  refine lv_iconst (v := 1) hx hb dX0_nextWord_10 (by decide) ?_
  refine lv_iadd hx hb dX0_nextWord_11 ?_
  refine tpi (fun v4 e4 => ?_)
  refine cS_call (n := 2) (as := [.int v2, .int v4]) (rest := []) ⟨hx, hb, hml, hown, hts⟩ (c_X0_makeWord l v2 v4) gX0_nextWord_X0_makeWord rfl rfl rfl (by decide +kernel) ⟨Nat.le_of_ble_eq_true rfl, Nat.le_of_ble_eq_true rfl⟩ hl.1 rfl rfl (Nat.le_of_ble_eq_true rfl) dX0_nextWord_12 ⟨Nat.zero_le _, Nat.zero_le _⟩ ?_
  refine tpl (fun v5 e5 => ?_)
  exact cS_retl hx hb hr hlocks dX0_nextWord_15 (by subst e1; subst e2; subst e3; subst e4; subst e5; rfl)
abbrev rmX0_betterOf : Room := { frames := 2, cells := 0, slots := 0, locals := 44 }
set_option maxHeartbeats 400000 in
set_option maxRecDepth 100000 in
-- betterOf
theorem c_X0_betterOf (l : Launch) (b : Int64) (v : Int64) : cS l yX0_betterOf wsX0_betterOf rmX0_betterOf [.long b, .long v] (.long (f_better b v)) := by
  refine cS_in (cc := cX0_betterOf) (maxL := 4) (ret := (some .long)) (by decide) rfl (Nat.le_of_ble_eq_true rfl) ?_
  intro p e s m below meth c ls hx hb hr hlocks hml hown hts hl
  have hown : s.vm.findClass RX0 = some m.cls := hown
  have hl : lv_has ls 4 [(0, .long b), (2, .long v)] := hl
  refine lv_lload_n hx hb dX0_betterOf_0 rfl (lv_at hl 1 rfl) ?_
  refine cS_call (n := 1) (as := [.long v]) (rest := []) ⟨hx, hb, hml, hown, hts⟩ (c_X0_isValid l v) gX0_betterOf_X0_isValid rfl rfl rfl (by decide +kernel) ⟨Nat.le_of_ble_eq_true rfl, Nat.le_of_ble_eq_true rfl⟩ hl.1 rfl rfl (Nat.le_of_ble_eq_true rfl) dX0_betterOf_1 ⟨Nat.zero_le _, Nat.zero_le _⟩ ?_
  refine tpi (fun v1 e1 => ?_)
  refine lv_if_ne (tgt := 9) hx hb dX0_betterOf_4 (by decide) (fun c2 => ?_) (fun c2 => ?_)
  · refine lv_lload_n hx hb dX0_betterOf_9 rfl (lv_at hl 0 rfl) ?_
    refine cS_call (n := 1) (as := [.long b]) (rest := []) ⟨hx, hb, hml, hown, hts⟩ (c_X0_isValid l b) gX0_betterOf_X0_isValid rfl rfl rfl (by decide +kernel) ⟨Nat.le_of_ble_eq_true rfl, Nat.le_of_ble_eq_true rfl⟩ hl.1 rfl rfl (Nat.le_of_ble_eq_true rfl) dX0_betterOf_10 ⟨Nat.zero_le _, Nat.zero_le _⟩ ?_
    refine tpi (fun v3 e3 => ?_)
    refine lv_if_ne (tgt := 18) hx hb dX0_betterOf_13 (by decide) (fun c4 => ?_) (fun c4 => ?_)
    · refine lv_lload_n hx hb dX0_betterOf_18 rfl (lv_at hl 1 rfl) ?_
      refine cS_call (n := 1) (as := [.long v]) (rest := []) ⟨hx, hb, hml, hown, hts⟩ (c_X0_numberOf l v) gX0_betterOf_X0_numberOf rfl rfl rfl (by decide +kernel) ⟨Nat.le_of_ble_eq_true rfl, Nat.le_of_ble_eq_true rfl⟩ hl.1 rfl rfl (Nat.le_of_ble_eq_true rfl) dX0_betterOf_19 ⟨Nat.zero_le _, Nat.zero_le _⟩ ?_
      refine tpi (fun v5 e5 => ?_)
      refine lv_lload_n hx hb dX0_betterOf_22 rfl (lv_at hl 0 rfl) ?_
      refine cS_call (n := 1) (as := [.long b]) (rest := [.int v5]) ⟨hx, hb, hml, hown, hts⟩ (c_X0_numberOf l b) gX0_betterOf_X0_numberOf rfl rfl rfl (by decide +kernel) ⟨Nat.le_of_ble_eq_true rfl, Nat.le_of_ble_eq_true rfl⟩ hl.1 rfl rfl (Nat.le_of_ble_eq_true rfl) dX0_betterOf_23 ⟨Nat.zero_le _, Nat.zero_le _⟩ ?_
      refine tpi (fun v6 e6 => ?_)
      refine lv_icmp_eq (tgt := 46) hx hb dX0_betterOf_26 (by decide) (fun c7 => ?_) (fun c7 => ?_)
      · refine lv_lload_n hx hb dX0_betterOf_46 rfl (lv_at hl 1 rfl) ?_
        refine cS_call (n := 1) (as := [.long v]) (rest := []) ⟨hx, hb, hml, hown, hts⟩ (c_X0_balanceOf l v) gX0_betterOf_X0_balanceOf rfl rfl rfl (by decide +kernel) ⟨Nat.le_of_ble_eq_true rfl, Nat.le_of_ble_eq_true rfl⟩ hl.1 rfl rfl (Nat.le_of_ble_eq_true rfl) dX0_betterOf_47 ⟨Nat.zero_le _, Nat.zero_le _⟩ ?_
        refine tpi (fun v8 e8 => ?_)
        refine lv_lload_n hx hb dX0_betterOf_50 rfl (lv_at hl 0 rfl) ?_
        refine cS_call (n := 1) (as := [.long b]) (rest := [.int v8]) ⟨hx, hb, hml, hown, hts⟩ (c_X0_balanceOf l b) gX0_betterOf_X0_balanceOf rfl rfl rfl (by decide +kernel) ⟨Nat.le_of_ble_eq_true rfl, Nat.le_of_ble_eq_true rfl⟩ hl.1 rfl rfl (Nat.le_of_ble_eq_true rfl) dX0_betterOf_51 ⟨Nat.zero_le _, Nat.zero_le _⟩ ?_
        refine tpi (fun v9 e9 => ?_)
        refine lv_icmp_le (tgt := 61) hx hb dX0_betterOf_54 (by decide) (fun c10 => ?_) (fun c10 => ?_)
        · refine lv_lload_n hx hb dX0_betterOf_61 rfl (lv_at hl 0 rfl) ?_
          exact cS_retl hx hb hr hlocks dX0_betterOf_62 (by subst e1; subst e3; subst e5; subst e6; subst e8; subst e9; simp only [f_better, bI, c2, c4, c7, c10, ↓reduceIte, not_true_eq_false, not_false_eq_true, and_self, and_true, true_and, and_false, false_and, eq_self])
        · refine lv_lload_n hx hb dX0_betterOf_57 rfl (lv_at hl 1 rfl) ?_
          refine lv_goto (tgt := 62) hx hb dX0_betterOf_58 (by decide) ?_
          exact cS_retl hx hb hr hlocks dX0_betterOf_62 (by subst e1; subst e3; subst e5; subst e6; subst e8; subst e9; simp only [f_better, bI, c2, c4, c7, c10, ↓reduceIte, not_true_eq_false, not_false_eq_true, and_self, and_true, true_and, and_false, false_and, eq_self])
      · refine lv_lload_n hx hb dX0_betterOf_29 rfl (lv_at hl 1 rfl) ?_
        refine cS_call (n := 1) (as := [.long v]) (rest := []) ⟨hx, hb, hml, hown, hts⟩ (c_X0_numberOf l v) gX0_betterOf_X0_numberOf rfl rfl rfl (by decide +kernel) ⟨Nat.le_of_ble_eq_true rfl, Nat.le_of_ble_eq_true rfl⟩ hl.1 rfl rfl (Nat.le_of_ble_eq_true rfl) dX0_betterOf_30 ⟨Nat.zero_le _, Nat.zero_le _⟩ ?_
        refine tpi (fun v11 e11 => ?_)
        refine lv_lload_n hx hb dX0_betterOf_33 rfl (lv_at hl 0 rfl) ?_
        refine cS_call (n := 1) (as := [.long b]) (rest := [.int v11]) ⟨hx, hb, hml, hown, hts⟩ (c_X0_numberOf l b) gX0_betterOf_X0_numberOf rfl rfl rfl (by decide +kernel) ⟨Nat.le_of_ble_eq_true rfl, Nat.le_of_ble_eq_true rfl⟩ hl.1 rfl rfl (Nat.le_of_ble_eq_true rfl) dX0_betterOf_34 ⟨Nat.zero_le _, Nat.zero_le _⟩ ?_
        refine tpi (fun v12 e12 => ?_)
        refine lv_icmp_le (tgt := 44) hx hb dX0_betterOf_37 (by decide) (fun c13 => ?_) (fun c13 => ?_)
        · refine lv_lload_n hx hb dX0_betterOf_44 rfl (lv_at hl 0 rfl) ?_
          exact cS_retl hx hb hr hlocks dX0_betterOf_45 (by subst e1; subst e3; subst e5; subst e6; subst e11; subst e12; simp only [f_better, bI, c2, c4, c7, c13, ↓reduceIte, not_true_eq_false, not_false_eq_true, and_self, and_true, true_and, and_false, false_and, eq_self])
        · refine lv_lload_n hx hb dX0_betterOf_40 rfl (lv_at hl 1 rfl) ?_
          refine lv_goto (tgt := 45) hx hb dX0_betterOf_41 (by decide) ?_
          exact cS_retl hx hb hr hlocks dX0_betterOf_45 (by subst e1; subst e3; subst e5; subst e6; subst e11; subst e12; simp only [f_better, bI, c2, c4, c7, c13, ↓reduceIte, not_true_eq_false, not_false_eq_true, and_self, and_true, true_and, and_false, false_and, eq_self])
    · refine lv_lload_n hx hb dX0_betterOf_16 rfl (lv_at hl 1 rfl) ?_
      exact cS_retl hx hb hr hlocks dX0_betterOf_17 (by subst e1; subst e3; simp only [f_better, bI, c2, c4, ↓reduceIte, not_true_eq_false, not_false_eq_true, and_self, and_true, true_and, and_false, false_and, eq_self])
  · refine lv_lload_n hx hb dX0_betterOf_7 rfl (lv_at hl 0 rfl) ?_
    exact cS_retl hx hb hr hlocks dX0_betterOf_8 (by subst e1; simp only [f_better, bI, c2, ↓reduceIte, not_true_eq_false, not_false_eq_true, and_self, and_true, true_and, and_false, false_and, eq_self])
abbrev rmX0_fromOf : Room := { frames := 0, cells := 0, slots := 0, locals := 0 }
set_option maxHeartbeats 400000 in
set_option maxRecDepth 100000 in
-- fromOf
theorem c_X0_fromOf (l : Launch) (r : Int32) : cS l yX0_fromOf wsX0_fromOf rmX0_fromOf [.int r] (.int (f_from r)) := by
  refine cS_in (cc := cX0_fromOf) (maxL := 1) (ret := (some .int)) (by decide) rfl (Nat.le_of_ble_eq_true rfl) ?_
  intro p e s m below meth c ls hx hb hr hlocks hml hown hts hl
  have hown : s.vm.findClass RX0 = some m.cls := hown
  have hl : lv_has ls 1 [(0, .int r)] := hl
  refine lv_iload_n hx hb dX0_fromOf_0 rfl (lv_at hl 0 rfl) ?_
  refine lv_bipush (v := 8) hx hb dX0_fromOf_1 (by decide) ?_
  refine lv_ishr hx hb dX0_fromOf_3 ?_
  refine tpi (fun v1 e1 => ?_)
  refine lv_sipush (v := 255) hx hb dX0_fromOf_4 (by decide) ?_
  refine lv_iand hx hb dX0_fromOf_7 ?_
  refine tpi (fun v2 e2 => ?_)
  exact cS_reti hx hb hr hlocks dX0_fromOf_8 (by subst e1; subst e2; rfl)
abbrev rmX0_toOf : Room := { frames := 0, cells := 0, slots := 0, locals := 0 }
set_option maxHeartbeats 400000 in
set_option maxRecDepth 100000 in
-- toOf
theorem c_X0_toOf (l : Launch) (r : Int32) : cS l yX0_toOf wsX0_toOf rmX0_toOf [.int r] (.int (f_to r)) := by
  refine cS_in (cc := cX0_toOf) (maxL := 1) (ret := (some .int)) (by decide) rfl (Nat.le_of_ble_eq_true rfl) ?_
  intro p e s m below meth c ls hx hb hr hlocks hml hown hts hl
  have hown : s.vm.findClass RX0 = some m.cls := hown
  have hl : lv_has ls 1 [(0, .int r)] := hl
  refine lv_iload_n hx hb dX0_toOf_0 rfl (lv_at hl 0 rfl) ?_
  refine lv_sipush (v := 255) hx hb dX0_toOf_1 (by decide) ?_
  refine lv_iand hx hb dX0_toOf_4 ?_
  refine tpi (fun v1 e1 => ?_)
  exact cS_reti hx hb hr hlocks dX0_toOf_5 (by subst e1; rfl)
