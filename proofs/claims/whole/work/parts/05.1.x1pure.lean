abbrev rmX1_seal : Room := { frames := 0, cells := 0, slots := 0, locals := 0 }
set_option maxHeartbeats 400000 in
set_option maxRecDepth 100000 in
-- seal
theorem c_X1_seal (l : Launch) (v : Int64) : cS l yX1_seal wsX1_seal rmX1_seal [.long v] (.long (g_seal v)) := by
  refine cS_in (cc := cX1_seal) (maxL := 5) (ret := (some .long)) (by decide) rfl (Nat.le_of_ble_eq_true rfl) ?_
  intro p e s m below meth c ls hx hb hr hlocks hml hown hts hl
  have hown : s.vm.findClass RX1 = some m.cls := hown
  have hl : lv_has ls 5 [(0, .long v)] := hl
  refine lv_lconst (v := 0) hx hb dX1_seal_0 (by decide) ?_
  refine lv_lstore_n (lv' := [(2, .long 0), (0, .long v)]) hx hb dX1_seal_1 rfl hl (by decide) rfl (fun ls hl => ?_)
  refine lv_iconst (v := 1) hx hb dX1_seal_2 (by decide) ?_
  refine lv_istore (lv' := [(4, .int 1), (2, .long 0), (0, .long v)]) hx hb dX1_seal_3 hl (by decide) rfl (fun ls hl => ?_)
  refine lv_iload hx hb dX1_seal_5 (lv_at hl 0 rfl) ?_
  refine lv_bipush (v := 8) hx hb dX1_seal_7 (by decide) ?_
  refine lv_icmp_ge (tgt := 32) hx hb dX1_seal_9 (by decide) (fun c0 => absurd c0 (by decide)) (fun _ => ?_)
  refine lv_lload_n hx hb dX1_seal_12 rfl (lv_at hl 1 rfl) ?_
  refine lv_lload_n hx hb dX1_seal_13 rfl (lv_at hl 2 rfl) ?_
  refine lv_bipush (v := 8) hx hb dX1_seal_14 (by decide) ?_
  refine lv_iload hx hb dX1_seal_16 (lv_at hl 0 rfl) ?_
  refine lv_imul hx hb dX1_seal_18 ?_
  refine tpi (fun v1 e1 => ?_)
  refine lv_lshr hx hb dX1_seal_19 rfl ?_
  refine tpl (fun v2 e2 => ?_)
  refine lv_ldc2 (v := 255) hx hb hown (hts (.constantLong RX1 41 255) (by decide +kernel)) dX1_seal_20 ?_
  refine lv_land hx hb dX1_seal_23 ?_
  refine tpl (fun v3 e3 => ?_)
  refine lv_ladd hx hb dX1_seal_24 ?_
  refine tpl (fun v4 e4 => ?_)
  refine lv_lstore_n (lv' := [(2, .long v4), (4, .int 1), (0, .long v)]) hx hb dX1_seal_25 rfl hl (by decide) rfl (fun ls hl => ?_)
  refine lv_iinc (v := 2) (lv' := [(4, .int 2), (2, .long v4), (0, .long v)]) hx hb dX1_seal_26 hl (k := 1) rfl (by decide) (by decide) rfl (fun ls hl => ?_)
  refine lv_goto (tgt := 5) hx hb dX1_seal_29 (by decide) ?_
  refine lv_iload hx hb dX1_seal_5 (lv_at hl 0 rfl) ?_
  refine lv_bipush (v := 8) hx hb dX1_seal_7 (by decide) ?_
  refine lv_icmp_ge (tgt := 32) hx hb dX1_seal_9 (by decide) (fun c0 => absurd c0 (by decide)) (fun _ => ?_)
  refine lv_lload_n hx hb dX1_seal_12 rfl (lv_at hl 1 rfl) ?_
  refine lv_lload_n hx hb dX1_seal_13 rfl (lv_at hl 2 rfl) ?_
  refine lv_bipush (v := 8) hx hb dX1_seal_14 (by decide) ?_
  refine lv_iload hx hb dX1_seal_16 (lv_at hl 0 rfl) ?_
  refine lv_imul hx hb dX1_seal_18 ?_
  refine tpi (fun v5 e5 => ?_)
  refine lv_lshr hx hb dX1_seal_19 rfl ?_
  refine tpl (fun v6 e6 => ?_)
  refine lv_ldc2 (v := 255) hx hb hown (hts (.constantLong RX1 41 255) (by decide +kernel)) dX1_seal_20 ?_
  refine lv_land hx hb dX1_seal_23 ?_
  refine tpl (fun v7 e7 => ?_)
  refine lv_ladd hx hb dX1_seal_24 ?_
  refine tpl (fun v8 e8 => ?_)
  refine lv_lstore_n (lv' := [(2, .long v8), (4, .int 2), (0, .long v)]) hx hb dX1_seal_25 rfl hl (by decide) rfl (fun ls hl => ?_)
  refine lv_iinc (v := 3) (lv' := [(4, .int 3), (2, .long v8), (0, .long v)]) hx hb dX1_seal_26 hl (k := 1) rfl (by decide) (by decide) rfl (fun ls hl => ?_)
  refine lv_goto (tgt := 5) hx hb dX1_seal_29 (by decide) ?_
  refine lv_iload hx hb dX1_seal_5 (lv_at hl 0 rfl) ?_
  refine lv_bipush (v := 8) hx hb dX1_seal_7 (by decide) ?_
  refine lv_icmp_ge (tgt := 32) hx hb dX1_seal_9 (by decide) (fun c0 => absurd c0 (by decide)) (fun _ => ?_)
  refine lv_lload_n hx hb dX1_seal_12 rfl (lv_at hl 1 rfl) ?_
  refine lv_lload_n hx hb dX1_seal_13 rfl (lv_at hl 2 rfl) ?_
  refine lv_bipush (v := 8) hx hb dX1_seal_14 (by decide) ?_
  refine lv_iload hx hb dX1_seal_16 (lv_at hl 0 rfl) ?_
  refine lv_imul hx hb dX1_seal_18 ?_
  refine tpi (fun v9 e9 => ?_)
  refine lv_lshr hx hb dX1_seal_19 rfl ?_
  refine tpl (fun v10 e10 => ?_)
  refine lv_ldc2 (v := 255) hx hb hown (hts (.constantLong RX1 41 255) (by decide +kernel)) dX1_seal_20 ?_
  refine lv_land hx hb dX1_seal_23 ?_
  refine tpl (fun v11 e11 => ?_)
  refine lv_ladd hx hb dX1_seal_24 ?_
  refine tpl (fun v12 e12 => ?_)
  refine lv_lstore_n (lv' := [(2, .long v12), (4, .int 3), (0, .long v)]) hx hb dX1_seal_25 rfl hl (by decide) rfl (fun ls hl => ?_)
  refine lv_iinc (v := 4) (lv' := [(4, .int 4), (2, .long v12), (0, .long v)]) hx hb dX1_seal_26 hl (k := 1) rfl (by decide) (by decide) rfl (fun ls hl => ?_)
  refine lv_goto (tgt := 5) hx hb dX1_seal_29 (by decide) ?_
  refine lv_iload hx hb dX1_seal_5 (lv_at hl 0 rfl) ?_
  refine lv_bipush (v := 8) hx hb dX1_seal_7 (by decide) ?_
  refine lv_icmp_ge (tgt := 32) hx hb dX1_seal_9 (by decide) (fun c0 => absurd c0 (by decide)) (fun _ => ?_)
  refine lv_lload_n hx hb dX1_seal_12 rfl (lv_at hl 1 rfl) ?_
  refine lv_lload_n hx hb dX1_seal_13 rfl (lv_at hl 2 rfl) ?_
  refine lv_bipush (v := 8) hx hb dX1_seal_14 (by decide) ?_
  refine lv_iload hx hb dX1_seal_16 (lv_at hl 0 rfl) ?_
  refine lv_imul hx hb dX1_seal_18 ?_
  refine tpi (fun v13 e13 => ?_)
  refine lv_lshr hx hb dX1_seal_19 rfl ?_
  refine tpl (fun v14 e14 => ?_)
  refine lv_ldc2 (v := 255) hx hb hown (hts (.constantLong RX1 41 255) (by decide +kernel)) dX1_seal_20 ?_
  refine lv_land hx hb dX1_seal_23 ?_
  refine tpl (fun v15 e15 => ?_)
  refine lv_ladd hx hb dX1_seal_24 ?_
  refine tpl (fun v16 e16 => ?_)
  refine lv_lstore_n (lv' := [(2, .long v16), (4, .int 4), (0, .long v)]) hx hb dX1_seal_25 rfl hl (by decide) rfl (fun ls hl => ?_)
  refine lv_iinc (v := 5) (lv' := [(4, .int 5), (2, .long v16), (0, .long v)]) hx hb dX1_seal_26 hl (k := 1) rfl (by decide) (by decide) rfl (fun ls hl => ?_)
  refine lv_goto (tgt := 5) hx hb dX1_seal_29 (by decide) ?_
  refine lv_iload hx hb dX1_seal_5 (lv_at hl 0 rfl) ?_
  refine lv_bipush (v := 8) hx hb dX1_seal_7 (by decide) ?_
  refine lv_icmp_ge (tgt := 32) hx hb dX1_seal_9 (by decide) (fun c0 => absurd c0 (by decide)) (fun _ => ?_)
  refine lv_lload_n hx hb dX1_seal_12 rfl (lv_at hl 1 rfl) ?_
  refine lv_lload_n hx hb dX1_seal_13 rfl (lv_at hl 2 rfl) ?_
  refine lv_bipush (v := 8) hx hb dX1_seal_14 (by decide) ?_
  refine lv_iload hx hb dX1_seal_16 (lv_at hl 0 rfl) ?_
  refine lv_imul hx hb dX1_seal_18 ?_
  refine tpi (fun v17 e17 => ?_)
  refine lv_lshr hx hb dX1_seal_19 rfl ?_
  refine tpl (fun v18 e18 => ?_)
  refine lv_ldc2 (v := 255) hx hb hown (hts (.constantLong RX1 41 255) (by decide +kernel)) dX1_seal_20 ?_
  refine lv_land hx hb dX1_seal_23 ?_
  refine tpl (fun v19 e19 => ?_)
  refine lv_ladd hx hb dX1_seal_24 ?_
  refine tpl (fun v20 e20 => ?_)
  refine lv_lstore_n (lv' := [(2, .long v20), (4, .int 5), (0, .long v)]) hx hb dX1_seal_25 rfl hl (by decide) rfl (fun ls hl => ?_)
  refine lv_iinc (v := 6) (lv' := [(4, .int 6), (2, .long v20), (0, .long v)]) hx hb dX1_seal_26 hl (k := 1) rfl (by decide) (by decide) rfl (fun ls hl => ?_)
  refine lv_goto (tgt := 5) hx hb dX1_seal_29 (by decide) ?_
  refine lv_iload hx hb dX1_seal_5 (lv_at hl 0 rfl) ?_
  refine lv_bipush (v := 8) hx hb dX1_seal_7 (by decide) ?_
  refine lv_icmp_ge (tgt := 32) hx hb dX1_seal_9 (by decide) (fun c0 => absurd c0 (by decide)) (fun _ => ?_)
  refine lv_lload_n hx hb dX1_seal_12 rfl (lv_at hl 1 rfl) ?_
  refine lv_lload_n hx hb dX1_seal_13 rfl (lv_at hl 2 rfl) ?_
  refine lv_bipush (v := 8) hx hb dX1_seal_14 (by decide) ?_
  refine lv_iload hx hb dX1_seal_16 (lv_at hl 0 rfl) ?_
  refine lv_imul hx hb dX1_seal_18 ?_
  refine tpi (fun v21 e21 => ?_)
  refine lv_lshr hx hb dX1_seal_19 rfl ?_
  refine tpl (fun v22 e22 => ?_)
  refine lv_ldc2 (v := 255) hx hb hown (hts (.constantLong RX1 41 255) (by decide +kernel)) dX1_seal_20 ?_
  refine lv_land hx hb dX1_seal_23 ?_
  refine tpl (fun v23 e23 => ?_)
  refine lv_ladd hx hb dX1_seal_24 ?_
  refine tpl (fun v24 e24 => ?_)
  refine lv_lstore_n (lv' := [(2, .long v24), (4, .int 6), (0, .long v)]) hx hb dX1_seal_25 rfl hl (by decide) rfl (fun ls hl => ?_)
  refine lv_iinc (v := 7) (lv' := [(4, .int 7), (2, .long v24), (0, .long v)]) hx hb dX1_seal_26 hl (k := 1) rfl (by decide) (by decide) rfl (fun ls hl => ?_)
  refine lv_goto (tgt := 5) hx hb dX1_seal_29 (by decide) ?_
  refine lv_iload hx hb dX1_seal_5 (lv_at hl 0 rfl) ?_
  refine lv_bipush (v := 8) hx hb dX1_seal_7 (by decide) ?_
  refine lv_icmp_ge (tgt := 32) hx hb dX1_seal_9 (by decide) (fun c0 => absurd c0 (by decide)) (fun _ => ?_)
  refine lv_lload_n hx hb dX1_seal_12 rfl (lv_at hl 1 rfl) ?_
  refine lv_lload_n hx hb dX1_seal_13 rfl (lv_at hl 2 rfl) ?_
  refine lv_bipush (v := 8) hx hb dX1_seal_14 (by decide) ?_
  refine lv_iload hx hb dX1_seal_16 (lv_at hl 0 rfl) ?_
  refine lv_imul hx hb dX1_seal_18 ?_
  refine tpi (fun v25 e25 => ?_)
  refine lv_lshr hx hb dX1_seal_19 rfl ?_
  refine tpl (fun v26 e26 => ?_)
  refine lv_ldc2 (v := 255) hx hb hown (hts (.constantLong RX1 41 255) (by decide +kernel)) dX1_seal_20 ?_
  refine lv_land hx hb dX1_seal_23 ?_
  refine tpl (fun v27 e27 => ?_)
  refine lv_ladd hx hb dX1_seal_24 ?_
  refine tpl (fun v28 e28 => ?_)
  refine lv_lstore_n (lv' := [(2, .long v28), (4, .int 7), (0, .long v)]) hx hb dX1_seal_25 rfl hl (by decide) rfl (fun ls hl => ?_)
  refine lv_iinc (v := 8) (lv' := [(4, .int 8), (2, .long v28), (0, .long v)]) hx hb dX1_seal_26 hl (k := 1) rfl (by decide) (by decide) rfl (fun ls hl => ?_)
  refine lv_goto (tgt := 5) hx hb dX1_seal_29 (by decide) ?_
  refine lv_iload hx hb dX1_seal_5 (lv_at hl 0 rfl) ?_
  refine lv_bipush (v := 8) hx hb dX1_seal_7 (by decide) ?_
  refine lv_icmp_ge (tgt := 32) hx hb dX1_seal_9 (by decide) (fun _ => ?_) (fun c0 => absurd c0 (by decide))
  refine lv_lload_n hx hb dX1_seal_32 rfl (lv_at hl 1 rfl) ?_
  refine lv_ldc2 (v := 251) hx hb hown (hts (.constantLong RX1 43 251) (by decide +kernel)) dX1_seal_33 ?_
  refine lv_lrem hx hb dX1_seal_36 (by decide) ?_
  refine tpl (fun v29 e29 => ?_)
  refine lv_lconst (v := 1) hx hb dX1_seal_37 (by decide) ?_
  refine lv_ladd hx hb dX1_seal_38 ?_
  refine tpl (fun v30 e30 => ?_)
  exact cS_retl hx hb hr hlocks dX1_seal_39 (by subst e1; subst e2; subst e3; subst e4; subst e5; subst e6; subst e7; subst e8; subst e9; subst e10; subst e11; subst e12; subst e13; subst e14; subst e15; subst e16; subst e17; subst e18; subst e19; subst e20; subst e21; subst e22; subst e23; subst e24; subst e25; subst e26; subst e27; subst e28; subst e29; subst e30; rfl)
abbrev rmX1_isValid : Room := { frames := 1, cells := 0, slots := 0, locals := 24 }
set_option maxHeartbeats 400000 in
set_option maxRecDepth 100000 in
-- isValid
theorem c_X1_isValid (l : Launch) (v : Int64) : cS l yX1_isValid wsX1_isValid rmX1_isValid [.long v] (.int (g_valid v)) := by
  refine cS_in (cc := cX1_isValid) (maxL := 2) (ret := (some .boolean)) (by decide) rfl (Nat.le_of_ble_eq_true rfl) ?_
  intro p e s m below meth c ls hx hb hr hlocks hml hown hts hl
  have hown : s.vm.findClass RX1 = some m.cls := hown
  have hl : lv_has ls 2 [(0, .long v)] := hl
  refine lv_lload_n hx hb dX1_isValid_0 rfl (lv_at hl 0 rfl) ?_
  refine lv_ldc2 (v := 255) hx hb hown (hts (.constantLong RX1 41 255) (by decide +kernel)) dX1_isValid_1 ?_
  refine lv_land hx hb dX1_isValid_4 ?_
  refine tpl (fun v1 e1 => ?_)
  refine lv_lload_n hx hb dX1_isValid_5 rfl (lv_at hl 0 rfl) ?_
  refine cS_call (n := 1) (as := [.long v]) (rest := [.long v1]) ⟨hx, hb, hml, hown, hts⟩ (c_X1_seal l v) gX1_isValid_X1_seal rfl rfl rfl (by decide +kernel) ⟨Nat.le_of_ble_eq_true rfl, Nat.le_of_ble_eq_true rfl⟩ hl.1 rfl rfl (Nat.le_of_ble_eq_true rfl) dX1_isValid_6 ⟨Nat.zero_le _, Nat.zero_le _⟩ ?_
  refine tpl (fun v2 e2 => ?_)
  refine W.lcmp hx hb dX1_isValid_9 ?_
  refine tpi (fun v3 e3 => ?_)
  refine lv_if_ne (tgt := 17) hx hb dX1_isValid_10 (by decide) (fun c4 => ?_) (fun c4 => ?_)
  · refine lv_iconst (v := 0) hx hb dX1_isValid_17 (by decide) ?_
    exact cS_retz hx hb hr hlocks dX1_isValid_18 rfl (by subst e1; subst e2; subst e3; simp only [lg_cmp_eq] at c4; exact (bI_f c4).symm)
  · refine lv_iconst (v := 1) hx hb dX1_isValid_13 (by decide) ?_
    refine lv_goto (tgt := 18) hx hb dX1_isValid_14 (by decide) ?_
    exact cS_retz hx hb hr hlocks dX1_isValid_18 rfl (by subst e1; subst e2; subst e3; simp only [lg_cmp_eq] at c4; exact (bI_t c4).symm)
abbrev rmX1_balanceOf : Room := { frames := 0, cells := 0, slots := 0, locals := 0 }
set_option maxHeartbeats 400000 in
set_option maxRecDepth 100000 in
-- balanceOf
theorem c_X1_balanceOf (l : Launch) (v : Int64) : cS l yX1_balanceOf wsX1_balanceOf rmX1_balanceOf [.long v] (.int (f_bal v)) := by
  refine cS_in (cc := cX1_balanceOf) (maxL := 2) (ret := (some .int)) (by decide) rfl (Nat.le_of_ble_eq_true rfl) ?_
  intro p e s m below meth c ls hx hb hr hlocks hml hown hts hl
  have hown : s.vm.findClass RX1 = some m.cls := hown
  have hl : lv_has ls 2 [(0, .long v)] := hl
  refine lv_lload_n hx hb dX1_balanceOf_0 rfl (lv_at hl 0 rfl) ?_
  refine lv_bipush (v := 32) hx hb dX1_balanceOf_1 (by decide) ?_
  refine lv_lshr hx hb dX1_balanceOf_3 rfl ?_
  refine tpl (fun v1 e1 => ?_)
  refine lv_l2i hx hb dX1_balanceOf_4 rfl ?_
  refine tpi (fun v2 e2 => ?_)
  exact cS_reti hx hb hr hlocks dX1_balanceOf_5 (by subst e1; subst e2; rfl)
abbrev rmX1_numberOf : Room := { frames := 0, cells := 0, slots := 0, locals := 0 }
set_option maxHeartbeats 400000 in
set_option maxRecDepth 100000 in
-- numberOf
theorem c_X1_numberOf (l : Launch) (v : Int64) : cS l yX1_numberOf wsX1_numberOf rmX1_numberOf [.long v] (.int (g_num v)) := by
  refine cS_in (cc := cX1_numberOf) (maxL := 2) (ret := (some .int)) (by decide) rfl (Nat.le_of_ble_eq_true rfl) ?_
  intro p e s m below meth c ls hx hb hr hlocks hml hown hts hl
  have hown : s.vm.findClass RX1 = some m.cls := hown
  have hl : lv_has ls 2 [(0, .long v)] := hl
  refine lv_lload_n hx hb dX1_numberOf_0 rfl (lv_at hl 0 rfl) ?_
  refine lv_bipush (v := 8) hx hb dX1_numberOf_1 (by decide) ?_
  refine lv_lshr hx hb dX1_numberOf_3 rfl ?_
  refine tpl (fun v1 e1 => ?_)
  refine lv_ldc2 (v := 16777215) hx hb hown (hts (.constantLong RX1 49 16777215) (by decide +kernel)) dX1_numberOf_4 ?_
  refine lv_land hx hb dX1_numberOf_7 ?_
  refine tpl (fun v2 e2 => ?_)
  refine lv_l2i hx hb dX1_numberOf_8 rfl ?_
  refine tpi (fun v3 e3 => ?_)
  exact cS_reti hx hb hr hlocks dX1_numberOf_9 (by subst e1; subst e2; subst e3; rfl)
abbrev rmX1_wordOf : Room := { frames := 1, cells := 0, slots := 0, locals := 24 }
set_option maxHeartbeats 400000 in
set_option maxRecDepth 100000 in
-- wordOf
theorem c_X1_wordOf (l : Launch) (b : Int32) (n : Int32) : cS l yX1_wordOf wsX1_wordOf rmX1_wordOf [.int b, .int n] (.long (g_word b n)) := by
  refine cS_in (cc := cX1_wordOf) (maxL := 4) (ret := (some .long)) (by decide) rfl (Nat.le_of_ble_eq_true rfl) ?_
  intro p e s m below meth c ls hx hb hr hlocks hml hown hts hl
  have hown : s.vm.findClass RX1 = some m.cls := hown
  have hl : lv_has ls 4 [(0, .int b), (1, .int n)] := hl
  refine lv_iload_n hx hb dX1_wordOf_0 rfl (lv_at hl 0 rfl) ?_
  refine lv_i2l hx hb dX1_wordOf_1 rfl ?_
  refine tpl (fun v1 e1 => ?_)
  refine lv_bipush (v := 32) hx hb dX1_wordOf_2 (by decide) ?_
  refine lv_lshl hx hb dX1_wordOf_4 rfl ?_
  refine tpl (fun v2 e2 => ?_)
  refine lv_iload_n hx hb dX1_wordOf_5 rfl (lv_at hl 1 rfl) ?_
  refine lv_i2l hx hb dX1_wordOf_6 rfl ?_
  refine tpl (fun v3 e3 => ?_)
  refine lv_bipush (v := 8) hx hb dX1_wordOf_7 (by decide) ?_
  refine lv_lshl hx hb dX1_wordOf_9 rfl ?_
  refine tpl (fun v4 e4 => ?_)
  refine lv_lor hx hb dX1_wordOf_10 ?_
  refine tpl (fun v5 e5 => ?_)
  refine lv_lstore_n (lv' := [(2, .long v5), (0, .int b), (1, .int n)]) hx hb dX1_wordOf_11 rfl hl (by decide) rfl (fun ls hl => ?_)
  refine lv_lload_n hx hb dX1_wordOf_12 rfl (lv_at hl 0 rfl) ?_
  refine lv_lload_n hx hb dX1_wordOf_13 rfl (lv_at hl 0 rfl) ?_
  refine cS_call (n := 1) (as := [.long v5]) (rest := [.long v5]) ⟨hx, hb, hml, hown, hts⟩ (c_X1_seal l v5) gX1_wordOf_X1_seal rfl rfl rfl (by decide +kernel) ⟨Nat.le_of_ble_eq_true rfl, Nat.le_of_ble_eq_true rfl⟩ hl.1 rfl rfl (Nat.le_of_ble_eq_true rfl) dX1_wordOf_14 ⟨Nat.zero_le _, Nat.zero_le _⟩ ?_
  refine tpl (fun v6 e6 => ?_)
  refine lv_lor hx hb dX1_wordOf_17 ?_
  refine tpl (fun v7 e7 => ?_)
  exact cS_retl hx hb hr hlocks dX1_wordOf_18 (by subst e1; subst e2; subst e3; subst e4; subst e5; subst e6; subst e7; rfl)
abbrev rmX1_isOpen : Room := { frames := 2, cells := 0, slots := 0, locals := 45 }
set_option maxHeartbeats 400000 in
set_option maxRecDepth 100000 in
-- isOpen
theorem c_X1_isOpen (l : Launch) (v : Int64) : cS l yX1_isOpen wsX1_isOpen rmX1_isOpen [.long v] (.int (g_isop v)) := by
  refine cS_in (cc := cX1_isOpen) (maxL := 2) (ret := (some .boolean)) (by decide) rfl (Nat.le_of_ble_eq_true rfl) ?_
  intro p e s m below meth c ls hx hb hr hlocks hml hown hts hl
  have hown : s.vm.findClass RX1 = some m.cls := hown
  have hl : lv_has ls 2 [(0, .long v)] := hl
  refine lv_lload_n hx hb dX1_isOpen_0 rfl (lv_at hl 0 rfl) ?_
  refine cS_call (n := 1) (as := [.long v]) (rest := []) ⟨hx, hb, hml, hown, hts⟩ (c_X1_isValid l v) gX1_isOpen_X1_isValid rfl rfl rfl (by decide +kernel) ⟨Nat.le_of_ble_eq_true rfl, Nat.le_of_ble_eq_true rfl⟩ hl.1 rfl rfl (Nat.le_of_ble_eq_true rfl) dX1_isOpen_1 ⟨Nat.zero_le _, Nat.zero_le _⟩ ?_
  refine tpi (fun v1 e1 => ?_)
  refine lv_if_eq (tgt := 18) hx hb dX1_isOpen_4 (by decide) (fun c2 => ?_) (fun c2 => ?_)
  · refine lv_iconst (v := 0) hx hb dX1_isOpen_18 (by decide) ?_
    exact cS_retz hx hb hr hlocks dX1_isOpen_19 rfl (by subst e1; simp only [g_isop, bI, c2, ↓reduceIte, not_true_eq_false, not_false_eq_true, and_self, and_true, true_and, and_false, false_and, eq_self])
  · refine lv_lload_n hx hb dX1_isOpen_7 rfl (lv_at hl 0 rfl) ?_
    refine cS_call (n := 1) (as := [.long v]) (rest := []) ⟨hx, hb, hml, hown, hts⟩ (c_X1_numberOf l v) gX1_isOpen_X1_numberOf rfl rfl rfl (by decide +kernel) ⟨Nat.le_of_ble_eq_true rfl, Nat.le_of_ble_eq_true rfl⟩ hl.1 rfl rfl (Nat.le_of_ble_eq_true rfl) dX1_isOpen_8 ⟨Nat.zero_le _, Nat.zero_le _⟩ ?_
    refine tpi (fun v3 e3 => ?_)
    refine lv_if_le (tgt := 18) hx hb dX1_isOpen_11 (by decide) (fun c4 => ?_) (fun c4 => ?_)
    · refine lv_iconst (v := 0) hx hb dX1_isOpen_18 (by decide) ?_
      exact cS_retz hx hb hr hlocks dX1_isOpen_19 rfl (by subst e1; subst e3; simp only [g_isop, bI, c2, c4, ↓reduceIte, not_true_eq_false, not_false_eq_true, and_self, and_true, true_and, and_false, false_and, eq_self])
    · refine lv_iconst (v := 1) hx hb dX1_isOpen_14 (by decide) ?_
      refine lv_goto (tgt := 19) hx hb dX1_isOpen_15 (by decide) ?_
      exact cS_retz hx hb hr hlocks dX1_isOpen_19 rfl (by subst e1; subst e3; simp only [g_isop, bI, c2, c4, ↓reduceIte, not_true_eq_false, not_false_eq_true, and_self, and_true, true_and, and_false, false_and, eq_self])
abbrev rmX1_isInt : Room := { frames := 0, cells := 0, slots := 0, locals := 0 }
set_option maxHeartbeats 400000 in
set_option maxRecDepth 100000 in
-- isInt
theorem c_X1_isInt (l : Launch) (v : Int64) : cS l yX1_isInt wsX1_isInt rmX1_isInt [.long v] (.int (g_isint v)) := by
  refine cS_in (cc := cX1_isInt) (maxL := 2) (ret := (some .boolean)) (by decide) rfl (Nat.le_of_ble_eq_true rfl) ?_
  intro p e s m below meth c ls hx hb hr hlocks hml hown hts hl
  have hown : s.vm.findClass RX1 = some m.cls := hown
  have hl : lv_has ls 2 [(0, .long v)] := hl
  refine lv_lload_n hx hb dX1_isInt_0 rfl (lv_at hl 0 rfl) ?_
  refine lv_ldc2 (v := (-2147483648)) hx hb hown (hts (.constantLong RX1 59 (-2147483648)) (by decide +kernel)) dX1_isInt_1 ?_
  refine W.lcmp hx hb dX1_isInt_4 ?_
  refine tpi (fun v1 e1 => ?_)
  refine lv_if_lt (tgt := 20) hx hb dX1_isInt_5 (by decide) (fun c2 => ?_) (fun c2 => ?_)
  · refine lv_iconst (v := 0) hx hb dX1_isInt_20 (by decide) ?_
    exact cS_retz hx hb hr hlocks dX1_isInt_21 rfl (by subst e1; (try simp only [lg_cmp_eq, lg_cmp_lt, lg_cmp_le, lg_cmp_gt, lg_cmp_ge] at c2); simp only [g_isint, bI, c2, ↓reduceIte, not_true_eq_false, not_false_eq_true, and_self, and_true, true_and, and_false, false_and, eq_self])
  · refine lv_lload_n hx hb dX1_isInt_8 rfl (lv_at hl 0 rfl) ?_
    refine lv_ldc2 (v := 2147483647) hx hb hown (hts (.constantLong RX1 61 2147483647) (by decide +kernel)) dX1_isInt_9 ?_
    refine W.lcmp hx hb dX1_isInt_12 ?_
    refine tpi (fun v3 e3 => ?_)
    refine lv_if_gt (tgt := 20) hx hb dX1_isInt_13 (by decide) (fun c4 => ?_) (fun c4 => ?_)
    · refine lv_iconst (v := 0) hx hb dX1_isInt_20 (by decide) ?_
      exact cS_retz hx hb hr hlocks dX1_isInt_21 rfl (by subst e1; subst e3; (try simp only [lg_cmp_eq, lg_cmp_lt, lg_cmp_le, lg_cmp_gt, lg_cmp_ge] at c2 c4); simp only [g_isint, bI, c2, c4, ↓reduceIte, not_true_eq_false, not_false_eq_true, and_self, and_true, true_and, and_false, false_and, eq_self])
    · refine lv_iconst (v := 1) hx hb dX1_isInt_16 (by decide) ?_
      refine lv_goto (tgt := 21) hx hb dX1_isInt_17 (by decide) ?_
      exact cS_retz hx hb hr hlocks dX1_isInt_21 rfl (by subst e1; subst e3; (try simp only [lg_cmp_eq, lg_cmp_lt, lg_cmp_le, lg_cmp_gt, lg_cmp_ge] at c2 c4); simp only [g_isint, bI, c2, c4, ↓reduceIte, not_true_eq_false, not_false_eq_true, and_self, and_true, true_and, and_false, false_and, eq_self])
abbrev rmX1_isAccount : Room := { frames := 0, cells := 0, slots := 0, locals := 0 }
set_option maxHeartbeats 400000 in
set_option maxRecDepth 100000 in
-- isAccount
theorem c_X1_isAccount (l : Launch) (a : Int32) : cS l yX1_isAccount wsX1_isAccount rmX1_isAccount [.int a] (.int (f_acct a)) := by
  refine cS_in (cc := cX1_isAccount) (maxL := 1) (ret := (some .boolean)) (by decide) rfl (Nat.le_of_ble_eq_true rfl) ?_
  intro p e s m below meth c ls hx hb hr hlocks hml hown hts hl
  have hown : s.vm.findClass RX1 = some m.cls := hown
  have hl : lv_has ls 1 [(0, .int a)] := hl
  refine lv_iload_n hx hb dX1_isAccount_0 rfl (lv_at hl 0 rfl) ?_
  refine lv_if_lt (tgt := 14) hx hb dX1_isAccount_1 (by decide) (fun c1 => ?_) (fun c1 => ?_)
  · refine lv_iconst (v := 0) hx hb dX1_isAccount_14 (by decide) ?_
    exact cS_retz hx hb hr hlocks dX1_isAccount_15 rfl (by simp only [f_acct, bI, c1, ↓reduceIte, not_true_eq_false, not_false_eq_true, and_self, and_true, true_and, and_false, false_and, eq_self])
  · refine lv_iload_n hx hb dX1_isAccount_4 rfl (lv_at hl 0 rfl) ?_
    refine lv_bipush (v := 16) hx hb dX1_isAccount_5 (by decide) ?_
    refine lv_icmp_ge (tgt := 14) hx hb dX1_isAccount_7 (by decide) (fun c2 => ?_) (fun c2 => ?_)
    · refine lv_iconst (v := 0) hx hb dX1_isAccount_14 (by decide) ?_
      exact cS_retz hx hb hr hlocks dX1_isAccount_15 rfl (by simp only [f_acct, bI, c1, c2, ↓reduceIte, not_true_eq_false, not_false_eq_true, and_self, and_true, true_and, and_false, false_and, eq_self])
    · refine lv_iconst (v := 1) hx hb dX1_isAccount_10 (by decide) ?_
      refine lv_goto (tgt := 15) hx hb dX1_isAccount_11 (by decide) ?_
      exact cS_retz hx hb hr hlocks dX1_isAccount_15 rfl (by simp only [f_acct, bI, c1, c2, ↓reduceIte, not_true_eq_false, not_false_eq_true, and_self, and_true, true_and, and_false, false_and, eq_self])
abbrev rmX1_canBe : Room := { frames := 3, cells := 0, slots := 0, locals := 66 }
set_option maxHeartbeats 400000 in
set_option maxRecDepth 100000 in
-- canBe
theorem c_X1_canBe (l : Launch) (v : Int64) (t : Int64) : cS l yX1_canBe wsX1_canBe rmX1_canBe [.long v, .long t] (.int (g_can v t)) := by
  refine cS_in (cc := cX1_canBe) (maxL := 4) (ret := (some .boolean)) (by decide) rfl (Nat.le_of_ble_eq_true rfl) ?_
  intro p e s m below meth c ls hx hb hr hlocks hml hown hts hl
  have hown : s.vm.findClass RX1 = some m.cls := hown
  have hl : lv_has ls 4 [(0, .long v), (2, .long t)] := hl
  refine lv_lload_n hx hb dX1_canBe_0 rfl (lv_at hl 0 rfl) ?_
  refine cS_call (n := 1) (as := [.long v]) (rest := []) ⟨hx, hb, hml, hown, hts⟩ (c_X1_isOpen l v) gX1_canBe_X1_isOpen rfl rfl rfl (by decide +kernel) ⟨Nat.le_of_ble_eq_true rfl, Nat.le_of_ble_eq_true rfl⟩ hl.1 rfl rfl (Nat.le_of_ble_eq_true rfl) dX1_canBe_1 ⟨Nat.zero_le _, Nat.zero_le _⟩ ?_
  refine tpi (fun v1 e1 => ?_)
  refine lv_if_eq (tgt := 33) hx hb dX1_canBe_4 (by decide) (fun c2 => ?_) (fun c2 => ?_)
  · refine lv_iconst (v := 0) hx hb dX1_canBe_33 (by decide) ?_
    exact cS_retz hx hb hr hlocks dX1_canBe_34 rfl (by subst e1; (try simp only [lg_cmp_eq, lg_cmp_lt, lg_cmp_le, lg_cmp_gt, lg_cmp_ge] at c2); simp only [g_can, bI, c2, ↓reduceIte, not_true_eq_false, not_false_eq_true, and_self, and_true, true_and, and_false, false_and, eq_self])
  · refine lv_lload_n hx hb dX1_canBe_7 rfl (lv_at hl 0 rfl) ?_
    refine cS_call (n := 1) (as := [.long v]) (rest := []) ⟨hx, hb, hml, hown, hts⟩ (c_X1_numberOf l v) gX1_canBe_X1_numberOf rfl rfl rfl (by decide +kernel) ⟨Nat.le_of_ble_eq_true rfl, Nat.le_of_ble_eq_true rfl⟩ hl.1 rfl rfl (Nat.le_of_ble_eq_true rfl) dX1_canBe_8 ⟨Nat.zero_le _, Nat.zero_le _⟩ ?_
    refine tpi (fun v3 e3 => ?_)
    refine lv_ldc (v := 16777215) hx hb hown (hts (.constant RX1 106 16777215) (by decide +kernel)) dX1_canBe_11 ?_
    refine lv_icmp_ge (tgt := 33) hx hb dX1_canBe_13 (by decide) (fun c4 => ?_) (fun c4 => ?_)
    · refine lv_iconst (v := 0) hx hb dX1_canBe_33 (by decide) ?_
      exact cS_retz hx hb hr hlocks dX1_canBe_34 rfl (by subst e1; subst e3; (try simp only [lg_cmp_eq, lg_cmp_lt, lg_cmp_le, lg_cmp_gt, lg_cmp_ge] at c2 c4); simp only [g_can, bI, c2, c4, ↓reduceIte, not_true_eq_false, not_false_eq_true, and_self, and_true, true_and, and_false, false_and, eq_self])
    · refine lv_lload_n hx hb dX1_canBe_16 rfl (lv_at hl 1 rfl) ?_
      refine lv_lconst (v := 0) hx hb dX1_canBe_17 (by decide) ?_
      refine W.lcmp hx hb dX1_canBe_18 ?_
      refine tpi (fun v5 e5 => ?_)
      refine lv_if_lt (tgt := 33) hx hb dX1_canBe_19 (by decide) (fun c6 => ?_) (fun c6 => ?_)
      · refine lv_iconst (v := 0) hx hb dX1_canBe_33 (by decide) ?_
        exact cS_retz hx hb hr hlocks dX1_canBe_34 rfl (by subst e1; subst e3; subst e5; (try simp only [lg_cmp_eq, lg_cmp_lt, lg_cmp_le, lg_cmp_gt, lg_cmp_ge] at c2 c4 c6); simp only [g_can, bI, c2, c4, c6, ↓reduceIte, not_true_eq_false, not_false_eq_true, and_self, and_true, true_and, and_false, false_and, eq_self])
      · refine lv_lload_n hx hb dX1_canBe_22 rfl (lv_at hl 1 rfl) ?_
        refine cS_call (n := 1) (as := [.long t]) (rest := []) ⟨hx, hb, hml, hown, hts⟩ (c_X1_isInt l t) gX1_canBe_X1_isInt rfl rfl rfl (by decide +kernel) ⟨Nat.le_of_ble_eq_true rfl, Nat.le_of_ble_eq_true rfl⟩ hl.1 rfl rfl (Nat.le_of_ble_eq_true rfl) dX1_canBe_23 ⟨Nat.zero_le _, Nat.zero_le _⟩ ?_
        refine tpi (fun v7 e7 => ?_)
        refine lv_if_eq (tgt := 33) hx hb dX1_canBe_26 (by decide) (fun c8 => ?_) (fun c8 => ?_)
        · refine lv_iconst (v := 0) hx hb dX1_canBe_33 (by decide) ?_
          exact cS_retz hx hb hr hlocks dX1_canBe_34 rfl (by subst e1; subst e3; subst e5; subst e7; (try simp only [lg_cmp_eq, lg_cmp_lt, lg_cmp_le, lg_cmp_gt, lg_cmp_ge] at c2 c4 c6 c8); simp only [g_can, bI, c2, c4, c6, c8, ↓reduceIte, not_true_eq_false, not_false_eq_true, and_self, and_true, true_and, and_false, false_and, eq_self])
        · refine lv_iconst (v := 1) hx hb dX1_canBe_29 (by decide) ?_
          refine lv_goto (tgt := 34) hx hb dX1_canBe_30 (by decide) ?_
          exact cS_retz hx hb hr hlocks dX1_canBe_34 rfl (by subst e1; subst e3; subst e5; subst e7; (try simp only [lg_cmp_eq, lg_cmp_lt, lg_cmp_le, lg_cmp_gt, lg_cmp_ge] at c2 c4 c6 c8); simp only [g_can, bI, c2, c4, c6, c8, ↓reduceIte, not_true_eq_false, not_false_eq_true, and_self, and_true, true_and, and_false, false_and, eq_self])
