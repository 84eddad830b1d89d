theorem st0_eq : st00 = st01.1 := by
  unfold st00 st01
  rw [word_eq]
theorem inv_0 : Inv st01.1 := by
  refine ⟨Or.inr rfl, fun p hp => ?_⟩
  obtain ⟨i, j, hi, hj, -, e2, e3⟩ := place_nat hp in20_19
  have e : st01.1.1 (r_place p 19).toNatClampNeg = g_word 0 0 := by
    rw [e3, nI_clamp (by omega)]
    unfold st01 FI
    exact if_pos (by omega)
  rw [e, word_eq, show (0 : Int32) = nI 0 from nI_0.symm]
  refine okw_bit (bal_make (nI 0) (by decide)) ?_
  decide
theorem law_i4 {L i : Nat} (hL : L ≤ 2048) (hi : i < 4096) (h : ¬ nI L - nI 4 < nI i) : i + 4 ≤ L := by
  have h1 := Int32.not_lt.mp h
  rw [Int32.le_iff_toInt_le, pk_sub_toInt (by omega) (by omega), nI_toInt (by omega)] at h1
  omega
/-! THE LAW -/
set_option maxHeartbeats 4000000 in
set_option maxRecDepth 100000 in
theorem law_loop {p : Program} {l : Launch} {e : Env} {s : State} {m : MethodId} {below : List Frame} {meth : Method} {c : Code} {D : va_G} {b L : Nat} {xs : Nat → Int32} (h0 h1 h2 g0 g1 g2 g3 g4 g5 g6 : Nat) (cA cB cC cD : ClassId) (hL : L ≤ 2048) (C0 : lw_At p s m meth c b L xs) (hK0 : va_K D vwCl (FT cA cB) s) (hK1 : va_K D vwCl (FT cC cD) s) : ∀ (n i : Nat) (z : RS) (H : Heap) (locs : List Loc) (ls : Array Slot), L + 8 ≤ i + n → i ≤ L + 4 → Inv z.1 → va_P D vwCl (FWd h0 h1 h2 cA cB z.1 ++ RWd g0 g1 g2 g3 g4 g5 g6 cC cD z) H → va_D (fun q : Nat => s.heap.size ≤ q) (FWd h0 h1 h2 cA cB z.1 ++ RWd g0 g1 g2 g3 g4 g5 g6 cC cD z) → va_S (fun q : Nat => s.heap.size ≤ q) s.heap H locs → lv_has ls 4 [(0, .ref b), (1, .ref h0), (2, .ref g0), (3, .int (nI i))] → W p l e room_1 s m #[Value.ref b] below meth c H locs 10 1005 (lw_Z below #[Value.ref b] s) (F0 m 18 ls []) := by
  obtain ⟨hx, hb, hr, hml, hown, hts, hX, hbl, hlocks, hgv⟩ := C0
  have hts := fun w h => hts w (wsL_law_in w h)
  have hown : s.vm.findClass RL = some m.cls := hown
  have hA : ∀ q : Nat, s.heap.size ≤ q → (fun q : Nat => s.heap.size ≤ q) q := fun _ h => h
  have hbA : ¬ (fun q : Nat => s.heap.size ≤ q) b := Nat.not_le.mpr hbl
  intro n
  induction n with
  | zero =>
    intro i z H locs ls h1 h2
    exact absurd h1 (by omega)
  | succ n ih =>
    intro i z H locs ls hin hiL hI hP hD hS hl
    refine lv_iload_n hx hb dL_law_18 rfl (lv_at hl 3 rfl) ?_
    refine lv_aload_n hx hb dL_law_19 rfl (lv_at hl 0 rfl) ?_
    refine va_slen hx hb hX hbl hbA hS dL_law_20 ?_
    refine lv_iconst (v := 4) hx hb dL_law_21 (by decide) ?_
    refine lv_isub hx hb dL_law_22 ?_
    refine tpi (fun v1 e1 => ?_)
    refine lv_icmp_gt (tgt := 418) hx hb dL_law_23 (by decide) (fun c1 => ?_) (fun c1 => ?_)
    · refine lv_iconst (v := 1) hx hb dL_law_418 (by decide) ?_
      refine va_forget (fun q hq => hS.2.2 q hq) ?_
      exact lw_ret hx hb hr hlocks dL_law_419
    · have hi4 : i + 4 ≤ L := law_i4 hL (by omega) (by rw [show nI L - nI 4 = v1 from e1]; exact c1)
      have hr0 : vp_in (nI i) L := vp_in_nI (by omega) (by omega)
      have hr1 : vp_in (nI i + 1) L := by rw [show (1 : Int32) = nI 1 from rfl, nI_add]; exact vp_in_nI (by omega) (by omega)
      have hr2 : vp_in (nI i + 2) L := by rw [show (2 : Int32) = nI 2 from rfl, nI_add]; exact vp_in_nI (by omega) (by omega)
      have hr3 : vp_in (nI i + 3) L := by rw [show (3 : Int32) = nI 3 from rfl, nI_add]; exact vp_in_nI (by omega) (by omega)
      have J : ∀ (z : RS) (H : Heap) (locs : List Loc) (ls : Array Slot), Inv z.1 → va_P D vwCl (FWd h0 h1 h2 cA cB z.1 ++ RWd g0 g1 g2 g3 g4 g5 g6 cC cD z) H → va_D (fun q : Nat => s.heap.size ≤ q) (FWd h0 h1 h2 cA cB z.1 ++ RWd g0 g1 g2 g3 g4 g5 g6 cC cD z) → va_S (fun q : Nat => s.heap.size ≤ q) s.heap H locs → lv_has ls 4 [(0, .ref b), (1, .ref h0), (2, .ref g0), (3, .int (nI i))] → W p l e room_1 s m #[Value.ref b] below meth c H locs 10 1005 (lw_Z below #[Value.ref b] s) (F0 m 412 ls []) := by
        intro z H locs ls hI hP hD hS hl
        refine lv_iinc (v := nI (i + 4)) (lv' := [(3, .int (nI (i + 4))), (0, .ref b), (1, .ref h0), (2, .ref g0)]) hx hb dL_law_412 hl (k := 3) rfl (by rw [← nI_add]; rfl) (by decide) rfl (fun ls hl => ?_)
        refine lv_goto (tgt := 18) hx hb dL_law_415 (by decide) ?_
        exact ih (i + 4) z _ _ _ (by omega) (by omega) hI hP hD hS (lv_sub hl [1, 2, 3, 0] rfl)
      refine lv_aload_n hx hb dL_law_26 rfl (lv_at hl 0 rfl) ?_
      refine lv_iload_n hx hb dL_law_27 rfl (lv_at hl 3 rfl) ?_
      refine va_sld hx hb hX hbl hbA hS hr0 dL_law_28 ?_
      refine lv_bipush (v := 15) hx hb dL_law_29 (by decide) ?_
      refine lv_iand hx hb dL_law_31 ?_
      obtain ⟨j, hj, ej⟩ := pk_andE (xs (nI i).toNatClampNeg) (m := 15) 4 (by decide)
      rw [ej]
      rcases (show j = 0 ∨ j = 1 ∨ j = 2 ∨ j = 3 ∨ j = 4 ∨ j = 5 ∨ j = 6 ∨ j = 7 ∨ j = 8 ∨ j = 9 ∨ j = 10 ∨ j = 11 ∨ j = 12 ∨ 13 ≤ j by omega) with rfl | rfl | rfl | rfl | rfl | rfl | rfl | rfl | rfl | rfl | rfl | rfl | rfl | hj2
      · refine lv_tableIn (off := 68) (tgt := 100) hx hb dL_law_32 (by decide) (by decide) (by decide) (by decide) ?_
        refine lv_aload_n hx hb dL_law_100 rfl (lv_at hl 1 rfl) ?_
        refine lv_aload_n hx hb dL_law_101 rfl (lv_at hl 0 rfl) ?_
        refine lv_iload_n hx hb dL_law_102 rfl (lv_at hl 3 rfl) ?_
        refine lv_iconst (v := 1) hx hb dL_law_103 (by decide) ?_
        refine lv_iadd hx hb dL_law_104 ?_
        refine tpi (fun v1 e1 => ?_)
        refine va_sld hx hb hX hbl hbA hS (by rw [← e1]; exact hr1) dL_law_105 ?_
        refine tpi (fun v2 e2 => ?_)
        refine lv_aload_n hx hb dL_law_106 rfl (lv_at hl 0 rfl) ?_
        refine lv_iload_n hx hb dL_law_107 rfl (lv_at hl 3 rfl) ?_
        refine lv_iconst (v := 2) hx hb dL_law_108 (by decide) ?_
        refine lv_iadd hx hb dL_law_109 ?_
        refine tpi (fun v3 e3 => ?_)
        refine va_sld hx hb hX hbl hbA hS (by rw [← e3]; exact hr2) dL_law_110 ?_
        refine tpi (fun v4 e4 => ?_)
        refine cM_call (Wd := FWd h0 h1 h2 cA cB) (wr := RWd g0 g1 g2 g3 g4 g5 g6 cC cD z) (ci := 0) (q0 := 0) (n := 2) (as := [.int v2, .int v4]) (rest := []) [0, 1, 2] [3, 4, 5, 6, 7, 8, 9] ⟨hx, hb, hml, hown, hts⟩ (c_X0_open l D h0 h1 h2 cA cB z.1 v2 v4) gL_law_X0_open rfl rfl rfl (by decide +kernel) ⟨Nat.le_of_ble_eq_true rfl, Nat.le_of_ble_eq_true rfl⟩ hK0 hP hD hS hA rfl rfl (by decide) (by decide) (by decide) rfl rfl rfl hl.1 rfl rfl (Nat.le_of_ble_eq_true rfl) dL_law_111 ⟨Nat.le_of_ble_eq_true rfl, Nat.le_of_ble_eq_true rfl⟩ (fun H locs hP hD hS => ?_)
        refine tpi (fun v5 e5 => ?_)
        refine lv_aload_n hx hb dL_law_114 rfl (lv_at hl 2 rfl) ?_
        refine lv_aload_n hx hb dL_law_115 rfl (lv_at hl 0 rfl) ?_
        refine lv_iload_n hx hb dL_law_116 rfl (lv_at hl 3 rfl) ?_
        refine lv_iconst (v := 1) hx hb dL_law_117 (by decide) ?_
        refine lv_iadd hx hb dL_law_118 ?_
        refine tpi (fun v6 e6 => ?_)
        refine va_sld hx hb hX hbl hbA hS (by rw [← e6]; exact hr1) dL_law_119 ?_
        refine tpi (fun v7 e7 => ?_)
        refine lv_aload_n hx hb dL_law_120 rfl (lv_at hl 0 rfl) ?_
        refine lv_iload_n hx hb dL_law_121 rfl (lv_at hl 3 rfl) ?_
        refine lv_iconst (v := 2) hx hb dL_law_122 (by decide) ?_
        refine lv_iadd hx hb dL_law_123 ?_
        refine tpi (fun v8 e8 => ?_)
        refine va_sld hx hb hX hbl hbA hS (by rw [← e8]; exact hr2) dL_law_124 ?_
        refine tpi (fun v9 e9 => ?_)
        refine cM_call (Wd := RWd g0 g1 g2 g3 g4 g5 g6 cC cD) (wr := FWd h0 h1 h2 cA cB ((f_open v2 v4 z.1).2)) (ci := 1) (q0 := 0) (n := 2) (as := [.int v7, .int v9]) (rest := [.int v5]) [0, 1, 2, 3, 4, 5, 6] [7, 8, 9] ⟨hx, hb, hml, hown, hts⟩ (c_X1_open l D g0 g1 g2 g3 g4 g5 g6 cC cD z v7 v9) gL_law_X1_open rfl rfl rfl (by decide +kernel) ⟨Nat.le_of_ble_eq_true rfl, Nat.le_of_ble_eq_true rfl⟩ hK1 hP hD hS hA rfl rfl (by decide) (by decide) (by decide) rfl rfl rfl hl.1 rfl rfl (Nat.le_of_ble_eq_true rfl) dL_law_125 ⟨Nat.le_of_ble_eq_true rfl, Nat.le_of_ble_eq_true rfl⟩ (fun H locs hP hD hS => ?_)
        refine tpi (fun v10 e10 => ?_)
        have hq : f_open v2 v4 z.1 = ((r_open v7 v9 z).1, (r_open v7 v9 z).2.1) := by clear hP hD hS; subst e1; subst e2; subst e3; subst e4; subst e6; subst e7; subst e8; subst e9; exact q_open _ _ z
        have hq2 : (f_open v2 v4 z.1).2 = (r_open v7 v9 z).2.1 := by rw [hq]
        have h1 : v5 = v10 := by rw [← e5, ← e10, hq]
        refine lv_icmp_eq (tgt := 412) hx hb dL_law_128 (by decide) (fun _ => ?_) (fun c0 => absurd h1 c0)
        rw [hq2] at hP hD
        exact J (r_open v7 v9 z).2 _ _ _ (i_open _ _ z hI) hP hD hS (lv_sub hl [0, 1, 2, 3] rfl)
      · refine lv_tableIn (off := 101) (tgt := 133) hx hb dL_law_32 (by decide) (by decide) (by decide) (by decide) ?_
        refine lv_aload_n hx hb dL_law_133 rfl (lv_at hl 1 rfl) ?_
        refine lv_aload_n hx hb dL_law_134 rfl (lv_at hl 0 rfl) ?_
        refine lv_iload_n hx hb dL_law_135 rfl (lv_at hl 3 rfl) ?_
        refine lv_iconst (v := 1) hx hb dL_law_136 (by decide) ?_
        refine lv_iadd hx hb dL_law_137 ?_
        refine tpi (fun v1 e1 => ?_)
        refine va_sld hx hb hX hbl hbA hS (by rw [← e1]; exact hr1) dL_law_138 ?_
        refine tpi (fun v2 e2 => ?_)
        refine cM_call (Wd := FWd h0 h1 h2 cA cB) (wr := RWd g0 g1 g2 g3 g4 g5 g6 cC cD z) (ci := 0) (q0 := 0) (n := 1) (as := [.int v2]) (rest := []) [0, 1, 2] [3, 4, 5, 6, 7, 8, 9] ⟨hx, hb, hml, hown, hts⟩ (c_X0_balance l D h0 h1 h2 cA cB z.1 v2) gL_law_X0_balance rfl rfl rfl (by decide +kernel) ⟨Nat.le_of_ble_eq_true rfl, Nat.le_of_ble_eq_true rfl⟩ hK0 hP hD hS hA rfl rfl (by decide) (by decide) (by decide) rfl rfl rfl hl.1 rfl rfl (Nat.le_of_ble_eq_true rfl) dL_law_139 ⟨Nat.le_of_ble_eq_true rfl, Nat.le_of_ble_eq_true rfl⟩ (fun H locs hP hD hS => ?_)
        refine tpl (fun v3 e3 => ?_)
        refine lv_aload_n hx hb dL_law_142 rfl (lv_at hl 2 rfl) ?_
        refine lv_aload_n hx hb dL_law_143 rfl (lv_at hl 0 rfl) ?_
        refine lv_iload_n hx hb dL_law_144 rfl (lv_at hl 3 rfl) ?_
        refine lv_iconst (v := 1) hx hb dL_law_145 (by decide) ?_
        refine lv_iadd hx hb dL_law_146 ?_
        refine tpi (fun v4 e4 => ?_)
        refine va_sld hx hb hX hbl hbA hS (by rw [← e4]; exact hr1) dL_law_147 ?_
        refine tpi (fun v5 e5 => ?_)
        refine cM_call (Wd := RWd g0 g1 g2 g3 g4 g5 g6 cC cD) (wr := FWd h0 h1 h2 cA cB ((f_balance v2 z.1).2)) (ci := 1) (q0 := 0) (n := 1) (as := [.int v5]) (rest := [.long v3]) [0, 1, 2, 3, 4, 5, 6] [7, 8, 9] ⟨hx, hb, hml, hown, hts⟩ (c_X1_balance l D g0 g1 g2 g3 g4 g5 g6 cC cD z v5) gL_law_X1_balance rfl rfl rfl (by decide +kernel) ⟨Nat.le_of_ble_eq_true rfl, Nat.le_of_ble_eq_true rfl⟩ hK1 hP hD hS hA rfl rfl (by decide) (by decide) (by decide) rfl rfl rfl hl.1 rfl rfl (Nat.le_of_ble_eq_true rfl) dL_law_148 ⟨Nat.le_of_ble_eq_true rfl, Nat.le_of_ble_eq_true rfl⟩ (fun H locs hP hD hS => ?_)
        refine tpl (fun v6 e6 => ?_)
        refine W.lcmp hx hb dL_law_151 ?_
        refine tpi (fun v7 e7 => ?_)
        have hq : f_balance v2 z.1 = ((r_balance v5 z).1, (r_balance v5 z).2.1) := by clear hP hD hS; subst e1; subst e2; subst e4; subst e5; exact q_balance _ z
        have hq2 : (f_balance v2 z.1).2 = (r_balance v5 z).2.1 := by rw [hq]
        have h1 : v3 = v6 := by rw [← e3, ← e6, hq]
        refine lv_if_eq (tgt := 412) hx hb dL_law_152 (by decide) (fun _ => ?_) (fun c0 => absurd (by rw [← e7]; exact (lg_cmp_eq _ _).mpr h1) c0)
        rw [hq2] at hP hD
        exact J (r_balance v5 z).2 _ _ _ (i_balance _ z hI) hP hD hS (lv_sub hl [0, 1, 2, 3] rfl)
      · refine lv_tableIn (off := 125) (tgt := 157) hx hb dL_law_32 (by decide) (by decide) (by decide) (by decide) ?_
        refine lv_aload_n hx hb dL_law_157 rfl (lv_at hl 1 rfl) ?_
        refine lv_aload_n hx hb dL_law_158 rfl (lv_at hl 0 rfl) ?_
        refine lv_iload_n hx hb dL_law_159 rfl (lv_at hl 3 rfl) ?_
        refine lv_iconst (v := 1) hx hb dL_law_160 (by decide) ?_
        refine lv_iadd hx hb dL_law_161 ?_
        refine tpi (fun v1 e1 => ?_)
        refine va_sld hx hb hX hbl hbA hS (by rw [← e1]; exact hr1) dL_law_162 ?_
        refine tpi (fun v2 e2 => ?_)
        refine lv_aload_n hx hb dL_law_163 rfl (lv_at hl 0 rfl) ?_
        refine lv_iload_n hx hb dL_law_164 rfl (lv_at hl 3 rfl) ?_
        refine lv_iconst (v := 2) hx hb dL_law_165 (by decide) ?_
        refine lv_iadd hx hb dL_law_166 ?_
        refine tpi (fun v3 e3 => ?_)
        refine va_sld hx hb hX hbl hbA hS (by rw [← e3]; exact hr2) dL_law_167 ?_
        refine tpi (fun v4 e4 => ?_)
        refine cM_call (Wd := FWd h0 h1 h2 cA cB) (wr := RWd g0 g1 g2 g3 g4 g5 g6 cC cD z) (ci := 0) (q0 := 0) (n := 2) (as := [.int v2, .int v4]) (rest := []) [0, 1, 2] [3, 4, 5, 6, 7, 8, 9] ⟨hx, hb, hml, hown, hts⟩ (c_X0_post l D h0 h1 h2 cA cB z.1 v2 v4) gL_law_X0_post rfl rfl rfl (by decide +kernel) ⟨Nat.le_of_ble_eq_true rfl, Nat.le_of_ble_eq_true rfl⟩ hK0 hP hD hS hA rfl rfl (by decide) (by decide) (by decide) rfl rfl rfl hl.1 rfl rfl (Nat.le_of_ble_eq_true rfl) dL_law_168 ⟨Nat.le_of_ble_eq_true rfl, Nat.le_of_ble_eq_true rfl⟩ (fun H locs hP hD hS => ?_)
        refine tpi (fun v5 e5 => ?_)
        refine lv_aload_n hx hb dL_law_171 rfl (lv_at hl 2 rfl) ?_
        refine lv_aload_n hx hb dL_law_172 rfl (lv_at hl 0 rfl) ?_
        refine lv_iload_n hx hb dL_law_173 rfl (lv_at hl 3 rfl) ?_
        refine lv_iconst (v := 1) hx hb dL_law_174 (by decide) ?_
        refine lv_iadd hx hb dL_law_175 ?_
        refine tpi (fun v6 e6 => ?_)
        refine va_sld hx hb hX hbl hbA hS (by rw [← e6]; exact hr1) dL_law_176 ?_
        refine tpi (fun v7 e7 => ?_)
        refine lv_aload_n hx hb dL_law_177 rfl (lv_at hl 0 rfl) ?_
        refine lv_iload_n hx hb dL_law_178 rfl (lv_at hl 3 rfl) ?_
        refine lv_iconst (v := 2) hx hb dL_law_179 (by decide) ?_
        refine lv_iadd hx hb dL_law_180 ?_
        refine tpi (fun v8 e8 => ?_)
        refine va_sld hx hb hX hbl hbA hS (by rw [← e8]; exact hr2) dL_law_181 ?_
        refine tpi (fun v9 e9 => ?_)
        refine cM_call (Wd := RWd g0 g1 g2 g3 g4 g5 g6 cC cD) (wr := FWd h0 h1 h2 cA cB ((f_post v2 v4 z.1).2)) (ci := 1) (q0 := 0) (n := 2) (as := [.int v7, .int v9]) (rest := [.int v5]) [0, 1, 2, 3, 4, 5, 6] [7, 8, 9] ⟨hx, hb, hml, hown, hts⟩ (c_X1_post l D g0 g1 g2 g3 g4 g5 g6 cC cD z v7 v9) gL_law_X1_post rfl rfl rfl (by decide +kernel) ⟨Nat.le_of_ble_eq_true rfl, Nat.le_of_ble_eq_true rfl⟩ hK1 hP hD hS hA rfl rfl (by decide) (by decide) (by decide) rfl rfl rfl hl.1 rfl rfl (Nat.le_of_ble_eq_true rfl) dL_law_182 ⟨Nat.le_of_ble_eq_true rfl, Nat.le_of_ble_eq_true rfl⟩ (fun H locs hP hD hS => ?_)
        refine tpi (fun v10 e10 => ?_)
        have hq : f_post v2 v4 z.1 = ((r_post v7 v9 z).1, (r_post v7 v9 z).2.1) := by clear hP hD hS; subst e1; subst e2; subst e3; subst e4; subst e6; subst e7; subst e8; subst e9; exact q_post _ _ z
        have hq2 : (f_post v2 v4 z.1).2 = (r_post v7 v9 z).2.1 := by rw [hq]
        have h1 : v5 = v10 := by rw [← e5, ← e10, hq]
        refine lv_icmp_eq (tgt := 412) hx hb dL_law_185 (by decide) (fun _ => ?_) (fun c0 => absurd h1 c0)
        rw [hq2] at hP hD
        exact J (r_post v7 v9 z).2 _ _ _ (i_post _ _ z hI) hP hD hS (lv_sub hl [0, 1, 2, 3] rfl)
      · refine lv_tableIn (off := 158) (tgt := 190) hx hb dL_law_32 (by decide) (by decide) (by decide) (by decide) ?_
        refine lv_aload_n hx hb dL_law_190 rfl (lv_at hl 1 rfl) ?_
        refine lv_aload_n hx hb dL_law_191 rfl (lv_at hl 0 rfl) ?_
        refine lv_iload_n hx hb dL_law_192 rfl (lv_at hl 3 rfl) ?_
        refine lv_iconst (v := 1) hx hb dL_law_193 (by decide) ?_
        refine lv_iadd hx hb dL_law_194 ?_
        refine tpi (fun v1 e1 => ?_)
        refine va_sld hx hb hX hbl hbA hS (by rw [← e1]; exact hr1) dL_law_195 ?_
        refine tpi (fun v2 e2 => ?_)
        refine lv_aload_n hx hb dL_law_196 rfl (lv_at hl 0 rfl) ?_
        refine lv_iload_n hx hb dL_law_197 rfl (lv_at hl 3 rfl) ?_
        refine lv_iconst (v := 2) hx hb dL_law_198 (by decide) ?_
        refine lv_iadd hx hb dL_law_199 ?_
        refine tpi (fun v3 e3 => ?_)
        refine va_sld hx hb hX hbl hbA hS (by rw [← e3]; exact hr2) dL_law_200 ?_
        refine tpi (fun v4 e4 => ?_)
        refine lv_aload_n hx hb dL_law_201 rfl (lv_at hl 0 rfl) ?_
        refine lv_iload_n hx hb dL_law_202 rfl (lv_at hl 3 rfl) ?_
        refine lv_iconst (v := 3) hx hb dL_law_203 (by decide) ?_
        refine lv_iadd hx hb dL_law_204 ?_
        refine tpi (fun v5 e5 => ?_)
        refine va_sld hx hb hX hbl hbA hS (by rw [← e5]; exact hr3) dL_law_205 ?_
        refine tpi (fun v6 e6 => ?_)
        refine cM_call (Wd := FWd h0 h1 h2 cA cB) (wr := RWd g0 g1 g2 g3 g4 g5 g6 cC cD z) (ci := 0) (q0 := 0) (n := 3) (as := [.int v2, .int v4, .int v6]) (rest := []) [0, 1, 2] [3, 4, 5, 6, 7, 8, 9] ⟨hx, hb, hml, hown, hts⟩ (c_X0_transfer l D h0 h1 h2 cA cB z.1 v2 v4 v6) gL_law_X0_transfer rfl rfl rfl (by decide +kernel) ⟨Nat.le_of_ble_eq_true rfl, Nat.le_of_ble_eq_true rfl⟩ hK0 hP hD hS hA rfl rfl (by decide) (by decide) (by decide) rfl rfl rfl hl.1 rfl rfl (Nat.le_of_ble_eq_true rfl) dL_law_206 ⟨Nat.le_of_ble_eq_true rfl, Nat.le_of_ble_eq_true rfl⟩ (fun H locs hP hD hS => ?_)
        refine tpi (fun v7 e7 => ?_)
        refine lv_aload_n hx hb dL_law_209 rfl (lv_at hl 2 rfl) ?_
        refine lv_aload_n hx hb dL_law_210 rfl (lv_at hl 0 rfl) ?_
        refine lv_iload_n hx hb dL_law_211 rfl (lv_at hl 3 rfl) ?_
        refine lv_iconst (v := 1) hx hb dL_law_212 (by decide) ?_
        refine lv_iadd hx hb dL_law_213 ?_
        refine tpi (fun v8 e8 => ?_)
        refine va_sld hx hb hX hbl hbA hS (by rw [← e8]; exact hr1) dL_law_214 ?_
        refine tpi (fun v9 e9 => ?_)
        refine lv_aload_n hx hb dL_law_215 rfl (lv_at hl 0 rfl) ?_
        refine lv_iload_n hx hb dL_law_216 rfl (lv_at hl 3 rfl) ?_
        refine lv_iconst (v := 2) hx hb dL_law_217 (by decide) ?_
        refine lv_iadd hx hb dL_law_218 ?_
        refine tpi (fun v10 e10 => ?_)
        refine va_sld hx hb hX hbl hbA hS (by rw [← e10]; exact hr2) dL_law_219 ?_
        refine tpi (fun v11 e11 => ?_)
        refine lv_aload_n hx hb dL_law_220 rfl (lv_at hl 0 rfl) ?_
        refine lv_iload_n hx hb dL_law_221 rfl (lv_at hl 3 rfl) ?_
        refine lv_iconst (v := 3) hx hb dL_law_222 (by decide) ?_
        refine lv_iadd hx hb dL_law_223 ?_
        refine tpi (fun v12 e12 => ?_)
        refine va_sld hx hb hX hbl hbA hS (by rw [← e12]; exact hr3) dL_law_224 ?_
        refine tpi (fun v13 e13 => ?_)
        refine cM_call (Wd := RWd g0 g1 g2 g3 g4 g5 g6 cC cD) (wr := FWd h0 h1 h2 cA cB ((f_transfer v2 v4 v6 z.1).2)) (ci := 1) (q0 := 0) (n := 3) (as := [.int v9, .int v11, .int v13]) (rest := [.int v7]) [0, 1, 2, 3, 4, 5, 6] [7, 8, 9] ⟨hx, hb, hml, hown, hts⟩ (c_X1_transfer l D g0 g1 g2 g3 g4 g5 g6 cC cD z v9 v11 v13) gL_law_X1_transfer rfl rfl rfl (by decide +kernel) ⟨Nat.le_of_ble_eq_true rfl, Nat.le_of_ble_eq_true rfl⟩ hK1 hP hD hS hA rfl rfl (by decide) (by decide) (by decide) rfl rfl rfl hl.1 rfl rfl (Nat.le_of_ble_eq_true rfl) dL_law_225 ⟨Nat.le_of_ble_eq_true rfl, Nat.le_of_ble_eq_true rfl⟩ (fun H locs hP hD hS => ?_)
        refine tpi (fun v14 e14 => ?_)
        have hq : f_transfer v2 v4 v6 z.1 = ((r_transfer v9 v11 v13 z).1, (r_transfer v9 v11 v13 z).2.1) := by clear hP hD hS; subst e1; subst e2; subst e3; subst e4; subst e5; subst e6; subst e8; subst e9; subst e10; subst e11; subst e12; subst e13; exact q_transfer _ _ _ z
        have hq2 : (f_transfer v2 v4 v6 z.1).2 = (r_transfer v9 v11 v13 z).2.1 := by rw [hq]
        have h1 : v7 = v14 := by rw [← e7, ← e14, hq]
        refine lv_icmp_eq (tgt := 412) hx hb dL_law_228 (by decide) (fun _ => ?_) (fun c0 => absurd h1 c0)
        rw [hq2] at hP hD
        exact J (r_transfer v9 v11 v13 z).2 _ _ _ (i_transfer _ _ _ z hI) hP hD hS (lv_sub hl [0, 1, 2, 3] rfl)
      · refine lv_tableIn (off := 201) (tgt := 233) hx hb dL_law_32 (by decide) (by decide) (by decide) (by decide) ?_
        refine lv_aload_n hx hb dL_law_233 rfl (lv_at hl 1 rfl) ?_
        refine cM_call (Wd := FWd h0 h1 h2 cA cB) (wr := RWd g0 g1 g2 g3 g4 g5 g6 cC cD z) (ci := 0) (q0 := 0) (n := 0) (as := []) (rest := []) [0, 1, 2] [3, 4, 5, 6, 7, 8, 9] ⟨hx, hb, hml, hown, hts⟩ (c_X0_total l D h0 h1 h2 cA cB z.1) gL_law_X0_total rfl rfl rfl (by decide +kernel) ⟨Nat.le_of_ble_eq_true rfl, Nat.le_of_ble_eq_true rfl⟩ hK0 hP hD hS hA rfl rfl (by decide) (by decide) (by decide) rfl rfl rfl hl.1 rfl rfl (Nat.le_of_ble_eq_true rfl) dL_law_234 ⟨Nat.le_of_ble_eq_true rfl, Nat.le_of_ble_eq_true rfl⟩ (fun H locs hP hD hS => ?_)
        refine tpl (fun v1 e1 => ?_)
        refine lv_aload_n hx hb dL_law_237 rfl (lv_at hl 2 rfl) ?_
        refine cM_call (Wd := RWd g0 g1 g2 g3 g4 g5 g6 cC cD) (wr := FWd h0 h1 h2 cA cB ((f_total z.1).2)) (ci := 1) (q0 := 0) (n := 0) (as := []) (rest := [.long v1]) [0, 1, 2, 3, 4, 5, 6] [7, 8, 9] ⟨hx, hb, hml, hown, hts⟩ (c_X1_total l D g0 g1 g2 g3 g4 g5 g6 cC cD z) gL_law_X1_total rfl rfl rfl (by decide +kernel) ⟨Nat.le_of_ble_eq_true rfl, Nat.le_of_ble_eq_true rfl⟩ hK1 hP hD hS hA rfl rfl (by decide) (by decide) (by decide) rfl rfl rfl hl.1 rfl rfl (Nat.le_of_ble_eq_true rfl) dL_law_238 ⟨Nat.le_of_ble_eq_true rfl, Nat.le_of_ble_eq_true rfl⟩ (fun H locs hP hD hS => ?_)
        refine tpl (fun v2 e2 => ?_)
        refine W.lcmp hx hb dL_law_241 ?_
        refine tpi (fun v3 e3 => ?_)
        have hq : f_total z.1 = ((r_total z).1, (r_total z).2.1) := by clear hP hD hS; exact q_total z
        have hq2 : (f_total z.1).2 = (r_total z).2.1 := by rw [hq]
        have h1 : v1 = v2 := by rw [← e1, ← e2, hq]
        refine lv_if_eq (tgt := 412) hx hb dL_law_242 (by decide) (fun _ => ?_) (fun c0 => absurd (by rw [← e3]; exact (lg_cmp_eq _ _).mpr h1) c0)
        rw [hq2] at hP hD
        exact J (r_total z).2 _ _ _ (i_total z hI) hP hD hS (lv_sub hl [0, 1, 2, 3] rfl)
      · refine lv_tableIn (off := 215) (tgt := 247) hx hb dL_law_32 (by decide) (by decide) (by decide) (by decide) ?_
        refine lv_aload_n hx hb dL_law_247 rfl (lv_at hl 1 rfl) ?_
        refine lv_aload_n hx hb dL_law_248 rfl (lv_at hl 0 rfl) ?_
        refine lv_iload_n hx hb dL_law_249 rfl (lv_at hl 3 rfl) ?_
        refine lv_iconst (v := 1) hx hb dL_law_250 (by decide) ?_
        refine lv_iadd hx hb dL_law_251 ?_
        refine tpi (fun v1 e1 => ?_)
        refine va_sld hx hb hX hbl hbA hS (by rw [← e1]; exact hr1) dL_law_252 ?_
        refine tpi (fun v2 e2 => ?_)
        refine cM_call (Wd := FWd h0 h1 h2 cA cB) (wr := RWd g0 g1 g2 g3 g4 g5 g6 cC cD z) (ci := 0) (q0 := 0) (n := 1) (as := [.int v2]) (rest := []) [0, 1, 2] [3, 4, 5, 6, 7, 8, 9] ⟨hx, hb, hml, hown, hts⟩ (c_X0_number l D h0 h1 h2 cA cB z.1 v2) gL_law_X0_number rfl rfl rfl (by decide +kernel) ⟨Nat.le_of_ble_eq_true rfl, Nat.le_of_ble_eq_true rfl⟩ hK0 hP hD hS hA rfl rfl (by decide) (by decide) (by decide) rfl rfl rfl hl.1 rfl rfl (Nat.le_of_ble_eq_true rfl) dL_law_253 ⟨Nat.le_of_ble_eq_true rfl, Nat.le_of_ble_eq_true rfl⟩ (fun H locs hP hD hS => ?_)
        refine tpi (fun v3 e3 => ?_)
        refine lv_aload_n hx hb dL_law_256 rfl (lv_at hl 2 rfl) ?_
        refine lv_aload_n hx hb dL_law_257 rfl (lv_at hl 0 rfl) ?_
        refine lv_iload_n hx hb dL_law_258 rfl (lv_at hl 3 rfl) ?_
        refine lv_iconst (v := 1) hx hb dL_law_259 (by decide) ?_
        refine lv_iadd hx hb dL_law_260 ?_
        refine tpi (fun v4 e4 => ?_)
        refine va_sld hx hb hX hbl hbA hS (by rw [← e4]; exact hr1) dL_law_261 ?_
        refine tpi (fun v5 e5 => ?_)
        refine cM_call (Wd := RWd g0 g1 g2 g3 g4 g5 g6 cC cD) (wr := FWd h0 h1 h2 cA cB ((f_number v2 z.1).2)) (ci := 1) (q0 := 0) (n := 1) (as := [.int v5]) (rest := [.int v3]) [0, 1, 2, 3, 4, 5, 6] [7, 8, 9] ⟨hx, hb, hml, hown, hts⟩ (c_X1_number l D g0 g1 g2 g3 g4 g5 g6 cC cD z v5) gL_law_X1_number rfl rfl rfl (by decide +kernel) ⟨Nat.le_of_ble_eq_true rfl, Nat.le_of_ble_eq_true rfl⟩ hK1 hP hD hS hA rfl rfl (by decide) (by decide) (by decide) rfl rfl rfl hl.1 rfl rfl (Nat.le_of_ble_eq_true rfl) dL_law_262 ⟨Nat.le_of_ble_eq_true rfl, Nat.le_of_ble_eq_true rfl⟩ (fun H locs hP hD hS => ?_)
        refine tpi (fun v6 e6 => ?_)
        have hq : f_number v2 z.1 = ((r_number v5 z).1, (r_number v5 z).2.1) := by clear hP hD hS; subst e1; subst e2; subst e4; subst e5; exact q_number _ z
        have hq2 : (f_number v2 z.1).2 = (r_number v5 z).2.1 := by rw [hq]
        have h1 : v3 = v6 := by rw [← e3, ← e6, hq]
        refine lv_icmp_eq (tgt := 412) hx hb dL_law_265 (by decide) (fun _ => ?_) (fun c0 => absurd h1 c0)
        rw [hq2] at hP hD
        exact J (r_number v5 z).2 _ _ _ (i_number _ z hI) hP hD hS (lv_sub hl [0, 1, 2, 3] rfl)
      · refine lv_tableIn (off := 238) (tgt := 270) hx hb dL_law_32 (by decide) (by decide) (by decide) (by decide) ?_
        refine lv_aload_n hx hb dL_law_270 rfl (lv_at hl 1 rfl) ?_
        refine lv_aload_n hx hb dL_law_271 rfl (lv_at hl 0 rfl) ?_
        refine lv_iload_n hx hb dL_law_272 rfl (lv_at hl 3 rfl) ?_
        refine lv_iconst (v := 1) hx hb dL_law_273 (by decide) ?_
        refine lv_iadd hx hb dL_law_274 ?_
        refine tpi (fun v1 e1 => ?_)
        refine va_sld hx hb hX hbl hbA hS (by rw [← e1]; exact hr1) dL_law_275 ?_
        refine tpi (fun v2 e2 => ?_)
        refine cM_call (Wd := FWd h0 h1 h2 cA cB) (wr := RWd g0 g1 g2 g3 g4 g5 g6 cC cD z) (ci := 0) (q0 := 0) (n := 1) (as := [.int v2]) (rest := []) [0, 1, 2] [3, 4, 5, 6, 7, 8, 9] ⟨hx, hb, hml, hown, hts⟩ (c_X0_failAfter l D h0 h1 h2 cA cB z.1 v2) gL_law_X0_failAfter rfl rfl rfl (by decide +kernel) ⟨Nat.le_of_ble_eq_true rfl, Nat.le_of_ble_eq_true rfl⟩ hK0 hP hD hS hA rfl rfl (by decide) (by decide) (by decide) rfl rfl rfl hl.1 rfl rfl (Nat.le_of_ble_eq_true rfl) dL_law_276 ⟨Nat.le_of_ble_eq_true rfl, Nat.le_of_ble_eq_true rfl⟩ (fun H locs hP hD hS => ?_)
        refine tpi (fun v3 e3 => ?_)
        refine lv_aload_n hx hb dL_law_279 rfl (lv_at hl 2 rfl) ?_
        refine lv_aload_n hx hb dL_law_280 rfl (lv_at hl 0 rfl) ?_
        refine lv_iload_n hx hb dL_law_281 rfl (lv_at hl 3 rfl) ?_
        refine lv_iconst (v := 1) hx hb dL_law_282 (by decide) ?_
        refine lv_iadd hx hb dL_law_283 ?_
        refine tpi (fun v4 e4 => ?_)
        refine va_sld hx hb hX hbl hbA hS (by rw [← e4]; exact hr1) dL_law_284 ?_
        refine tpi (fun v5 e5 => ?_)
        refine cM_call (Wd := RWd g0 g1 g2 g3 g4 g5 g6 cC cD) (wr := FWd h0 h1 h2 cA cB ((f_failAfter v2 z.1).2)) (ci := 1) (q0 := 0) (n := 1) (as := [.int v5]) (rest := [.int v3]) [0, 1, 2, 3, 4, 5, 6] [7, 8, 9] ⟨hx, hb, hml, hown, hts⟩ (c_X1_failAfter l D g0 g1 g2 g3 g4 g5 g6 cC cD z v5) gL_law_X1_failAfter rfl rfl rfl (by decide +kernel) ⟨Nat.le_of_ble_eq_true rfl, Nat.le_of_ble_eq_true rfl⟩ hK1 hP hD hS hA rfl rfl (by decide) (by decide) (by decide) rfl rfl rfl hl.1 rfl rfl (Nat.le_of_ble_eq_true rfl) dL_law_285 ⟨Nat.le_of_ble_eq_true rfl, Nat.le_of_ble_eq_true rfl⟩ (fun H locs hP hD hS => ?_)
        refine tpi (fun v6 e6 => ?_)
        have hq : f_failAfter v2 z.1 = ((r_failAfter v5 z).1, (r_failAfter v5 z).2.1) := by clear hP hD hS; subst e1; subst e2; subst e4; subst e5; exact q_failAfter _ z
        have hq2 : (f_failAfter v2 z.1).2 = (r_failAfter v5 z).2.1 := by rw [hq]
        have h1 : v3 = v6 := by rw [← e3, ← e6, hq]
        refine lv_icmp_eq (tgt := 412) hx hb dL_law_288 (by decide) (fun _ => ?_) (fun c0 => absurd h1 c0)
        rw [hq2] at hP hD
        exact J (r_failAfter v5 z).2 _ _ _ (i_failAfter _ z hI) hP hD hS (lv_sub hl [0, 1, 2, 3] rfl)
      · refine lv_tableIn (off := 261) (tgt := 293) hx hb dL_law_32 (by decide) (by decide) (by decide) (by decide) ?_
        refine lv_aload_n hx hb dL_law_293 rfl (lv_at hl 1 rfl) ?_
        refine cM_call (Wd := FWd h0 h1 h2 cA cB) (wr := RWd g0 g1 g2 g3 g4 g5 g6 cC cD z) (ci := 0) (q0 := 0) (n := 0) (as := []) (rest := []) [0, 1, 2] [3, 4, 5, 6, 7, 8, 9] ⟨hx, hb, hml, hown, hts⟩ (c_X0_fail l D h0 h1 h2 cA cB z.1) gL_law_X0_fail rfl rfl rfl (by decide +kernel) ⟨Nat.le_of_ble_eq_true rfl, Nat.le_of_ble_eq_true rfl⟩ hK0 hP hD hS hA rfl rfl (by decide) (by decide) (by decide) rfl rfl rfl hl.1 rfl rfl (Nat.le_of_ble_eq_true rfl) dL_law_294 ⟨Nat.le_of_ble_eq_true rfl, Nat.le_of_ble_eq_true rfl⟩ (fun H locs hP hD hS => ?_)
        refine tpi (fun v1 e1 => ?_)
        refine lv_aload_n hx hb dL_law_297 rfl (lv_at hl 2 rfl) ?_
        refine cM_call (Wd := RWd g0 g1 g2 g3 g4 g5 g6 cC cD) (wr := FWd h0 h1 h2 cA cB ((f_fail z.1).2)) (ci := 1) (q0 := 0) (n := 0) (as := []) (rest := [.int v1]) [0, 1, 2, 3, 4, 5, 6] [7, 8, 9] ⟨hx, hb, hml, hown, hts⟩ (c_X1_fail l D g0 g1 g2 g3 g4 g5 g6 cC cD z) gL_law_X1_fail rfl rfl rfl (by decide +kernel) ⟨Nat.le_of_ble_eq_true rfl, Nat.le_of_ble_eq_true rfl⟩ hK1 hP hD hS hA rfl rfl (by decide) (by decide) (by decide) rfl rfl rfl hl.1 rfl rfl (Nat.le_of_ble_eq_true rfl) dL_law_298 ⟨Nat.le_of_ble_eq_true rfl, Nat.le_of_ble_eq_true rfl⟩ (fun H locs hP hD hS => ?_)
        refine tpi (fun v2 e2 => ?_)
        have hq : f_fail z.1 = ((r_fail z).1, (r_fail z).2.1) := by clear hP hD hS; exact q_fail z
        have hq2 : (f_fail z.1).2 = (r_fail z).2.1 := by rw [hq]
        have h1 : v1 = v2 := by rw [← e1, ← e2, hq]
        refine lv_icmp_eq (tgt := 412) hx hb dL_law_301 (by decide) (fun _ => ?_) (fun c0 => absurd h1 c0)
        rw [hq2] at hP hD
        exact J (r_fail z).2 _ _ _ (i_fail z hI) hP hD hS (lv_sub hl [0, 1, 2, 3] rfl)
      · refine lv_tableIn (off := 274) (tgt := 306) hx hb dL_law_32 (by decide) (by decide) (by decide) (by decide) ?_
        refine lv_aload_n hx hb dL_law_306 rfl (lv_at hl 1 rfl) ?_
        refine cM_call (Wd := FWd h0 h1 h2 cA cB) (wr := RWd g0 g1 g2 g3 g4 g5 g6 cC cD z) (ci := 0) (q0 := 0) (n := 0) (as := []) (rest := []) [0, 1, 2] [3, 4, 5, 6, 7, 8, 9] ⟨hx, hb, hml, hown, hts⟩ (c_X0_mount l D h0 h1 h2 cA cB z.1) gL_law_X0_mount rfl rfl rfl (by decide +kernel) ⟨Nat.le_of_ble_eq_true rfl, Nat.le_of_ble_eq_true rfl⟩ hK0 hP hD hS hA rfl rfl (by decide) (by decide) (by decide) rfl rfl rfl hl.1 rfl rfl (Nat.le_of_ble_eq_true rfl) dL_law_307 ⟨Nat.le_of_ble_eq_true rfl, Nat.le_of_ble_eq_true rfl⟩ (fun H locs hP hD hS => ?_)
        refine tpi (fun v1 e1 => ?_)
        refine lv_aload_n hx hb dL_law_310 rfl (lv_at hl 2 rfl) ?_
        refine cM_call (Wd := RWd g0 g1 g2 g3 g4 g5 g6 cC cD) (wr := FWd h0 h1 h2 cA cB ((f_mount z.1).2)) (ci := 1) (q0 := 0) (n := 0) (as := []) (rest := [.int v1]) [0, 1, 2, 3, 4, 5, 6] [7, 8, 9] ⟨hx, hb, hml, hown, hts⟩ (c_X1_mount l D g0 g1 g2 g3 g4 g5 g6 cC cD z) gL_law_X1_mount rfl rfl rfl (by decide +kernel) ⟨Nat.le_of_ble_eq_true rfl, Nat.le_of_ble_eq_true rfl⟩ hK1 hP hD hS hA rfl rfl (by decide) (by decide) (by decide) rfl rfl rfl hl.1 rfl rfl (Nat.le_of_ble_eq_true rfl) dL_law_311 ⟨Nat.le_of_ble_eq_true rfl, Nat.le_of_ble_eq_true rfl⟩ (fun H locs hP hD hS => ?_)
        refine tpi (fun v2 e2 => ?_)
        have hq : f_mount z.1 = ((r_mount z).1, (r_mount z).2.1) := by clear hP hD hS; exact (q_mount z hI).1
        have hq2 : (f_mount z.1).2 = (r_mount z).2.1 := by rw [hq]
        have h1 : v1 = v2 := by rw [← e1, ← e2, hq]
        refine lv_icmp_eq (tgt := 412) hx hb dL_law_314 (by decide) (fun _ => ?_) (fun c0 => absurd h1 c0)
        rw [hq2] at hP hD
        exact J (r_mount z).2 _ _ _ ((q_mount z hI).2) hP hD hS (lv_sub hl [0, 1, 2, 3] rfl)
      · refine lv_tableIn (off := 287) (tgt := 319) hx hb dL_law_32 (by decide) (by decide) (by decide) (by decide) ?_
        refine lv_aload_n hx hb dL_law_319 rfl (lv_at hl 1 rfl) ?_
        refine cM_call (Wd := FWd h0 h1 h2 cA cB) (wr := RWd g0 g1 g2 g3 g4 g5 g6 cC cD z) (ci := 0) (q0 := 0) (n := 0) (as := []) (rest := []) [0, 1, 2] [3, 4, 5, 6, 7, 8, 9] ⟨hx, hb, hml, hown, hts⟩ (c_X0_on l D h0 h1 h2 cA cB z.1 hI.1) gL_law_X0_on rfl rfl rfl (by decide +kernel) ⟨Nat.le_of_ble_eq_true rfl, Nat.le_of_ble_eq_true rfl⟩ hK0 hP hD hS hA rfl rfl (by decide) (by decide) (by decide) rfl rfl rfl hl.1 rfl rfl (Nat.le_of_ble_eq_true rfl) dL_law_320 ⟨Nat.le_of_ble_eq_true rfl, Nat.le_of_ble_eq_true rfl⟩ (fun H locs hP hD hS => ?_)
        refine tpi (fun v1 e1 => ?_)
        refine lv_aload_n hx hb dL_law_323 rfl (lv_at hl 2 rfl) ?_
        refine cM_call (Wd := RWd g0 g1 g2 g3 g4 g5 g6 cC cD) (wr := FWd h0 h1 h2 cA cB z.1) (ci := 1) (q0 := 0) (n := 0) (as := []) (rest := [.int v1]) [0, 1, 2, 3, 4, 5, 6] [7, 8, 9] ⟨hx, hb, hml, hown, hts⟩ (c_X1_on l D g0 g1 g2 g3 g4 g5 g6 cC cD z hI.1) gL_law_X1_on rfl rfl rfl (by decide +kernel) ⟨Nat.le_of_ble_eq_true rfl, Nat.le_of_ble_eq_true rfl⟩ hK1 hP hD hS hA rfl rfl (by decide) (by decide) (by decide) rfl rfl rfl hl.1 rfl rfl (Nat.le_of_ble_eq_true rfl) dL_law_324 ⟨Nat.le_of_ble_eq_true rfl, Nat.le_of_ble_eq_true rfl⟩ (fun H locs hP hD hS => ?_)
        refine tpi (fun v2 e2 => ?_)
        have hq : f_on z.1 = r_on z := by clear hP hD hS; exact q_on z
        have h1 : v1 = v2 := by rw [← e1, ← e2, hq]
        refine lv_icmp_eq (tgt := 412) hx hb dL_law_327 (by decide) (fun _ => ?_) (fun c0 => absurd h1 c0)
        exact J z _ _ _ hI hP hD hS (lv_sub hl [0, 1, 2, 3] rfl)
      · refine lv_tableIn (off := 300) (tgt := 332) hx hb dL_law_32 (by decide) (by decide) (by decide) (by decide) ?_
        refine lv_aload_n hx hb dL_law_332 rfl (lv_at hl 1 rfl) ?_
        refine lv_aload_n hx hb dL_law_333 rfl (lv_at hl 0 rfl) ?_
        refine lv_iload_n hx hb dL_law_334 rfl (lv_at hl 3 rfl) ?_
        refine lv_iconst (v := 1) hx hb dL_law_335 (by decide) ?_
        refine lv_iadd hx hb dL_law_336 ?_
        refine tpi (fun v1 e1 => ?_)
        refine va_sld hx hb hX hbl hbA hS (by rw [← e1]; exact hr1) dL_law_337 ?_
        refine tpi (fun v2 e2 => ?_)
        refine cM_call (Wd := FWd h0 h1 h2 cA cB) (wr := RWd g0 g1 g2 g3 g4 g5 g6 cC cD z) (ci := 0) (q0 := 0) (n := 1) (as := [.int v2]) (rest := []) [0, 1, 2] [3, 4, 5, 6, 7, 8, 9] ⟨hx, hb, hml, hown, hts⟩ (c_X0_lost l D h0 h1 h2 cA cB z.1 v2) gL_law_X0_lost rfl rfl rfl (by decide +kernel) ⟨Nat.le_of_ble_eq_true rfl, Nat.le_of_ble_eq_true rfl⟩ hK0 hP hD hS hA rfl rfl (by decide) (by decide) (by decide) rfl rfl rfl hl.1 rfl rfl (Nat.le_of_ble_eq_true rfl) dL_law_338 ⟨Nat.le_of_ble_eq_true rfl, Nat.le_of_ble_eq_true rfl⟩ (fun H locs hP hD hS => ?_)
        refine tpi (fun v3 e3 => ?_)
        refine lv_aload_n hx hb dL_law_341 rfl (lv_at hl 2 rfl) ?_
        refine lv_aload_n hx hb dL_law_342 rfl (lv_at hl 0 rfl) ?_
        refine lv_iload_n hx hb dL_law_343 rfl (lv_at hl 3 rfl) ?_
        refine lv_iconst (v := 1) hx hb dL_law_344 (by decide) ?_
        refine lv_iadd hx hb dL_law_345 ?_
        refine tpi (fun v4 e4 => ?_)
        refine va_sld hx hb hX hbl hbA hS (by rw [← e4]; exact hr1) dL_law_346 ?_
        refine tpi (fun v5 e5 => ?_)
        refine cM_call (Wd := RWd g0 g1 g2 g3 g4 g5 g6 cC cD) (wr := FWd h0 h1 h2 cA cB z.1) (ci := 1) (q0 := 0) (n := 1) (as := [.int v5]) (rest := [.int v3]) [0, 1, 2, 3, 4, 5, 6] [7, 8, 9] ⟨hx, hb, hml, hown, hts⟩ (c_X1_lost l D g0 g1 g2 g3 g4 g5 g6 cC cD z v5) gL_law_X1_lost rfl rfl rfl (by decide +kernel) ⟨Nat.le_of_ble_eq_true rfl, Nat.le_of_ble_eq_true rfl⟩ hK1 hP hD hS hA rfl rfl (by decide) (by decide) (by decide) rfl rfl rfl hl.1 rfl rfl (Nat.le_of_ble_eq_true rfl) dL_law_347 ⟨Nat.le_of_ble_eq_true rfl, Nat.le_of_ble_eq_true rfl⟩ (fun H locs hP hD hS => ?_)
        refine tpi (fun v6 e6 => ?_)
        have hq : f_lost v2 z.1 = r_lost v5 z := by clear hP hD hS; subst e1; subst e2; subst e4; subst e5; exact q_lost _ z
        have h1 : v3 = v6 := by rw [← e3, ← e6, hq]
        refine lv_icmp_eq (tgt := 412) hx hb dL_law_350 (by decide) (fun _ => ?_) (fun c0 => absurd h1 c0)
        exact J z _ _ _ hI hP hD hS (lv_sub hl [0, 1, 2, 3] rfl)
      · refine lv_tableIn (off := 323) (tgt := 355) hx hb dL_law_32 (by decide) (by decide) (by decide) (by decide) ?_
        refine lv_aload_n hx hb dL_law_355 rfl (lv_at hl 1 rfl) ?_
        refine lv_aload_n hx hb dL_law_356 rfl (lv_at hl 0 rfl) ?_
        refine lv_iload_n hx hb dL_law_357 rfl (lv_at hl 3 rfl) ?_
        refine lv_iconst (v := 1) hx hb dL_law_358 (by decide) ?_
        refine lv_iadd hx hb dL_law_359 ?_
        refine tpi (fun v1 e1 => ?_)
        refine va_sld hx hb hX hbl hbA hS (by rw [← e1]; exact hr1) dL_law_360 ?_
        refine tpi (fun v2 e2 => ?_)
        refine lv_aload_n hx hb dL_law_361 rfl (lv_at hl 0 rfl) ?_
        refine lv_iload_n hx hb dL_law_362 rfl (lv_at hl 3 rfl) ?_
        refine lv_iconst (v := 2) hx hb dL_law_363 (by decide) ?_
        refine lv_iadd hx hb dL_law_364 ?_
        refine tpi (fun v3 e3 => ?_)
        refine va_sld hx hb hX hbl hbA hS (by rw [← e3]; exact hr2) dL_law_365 ?_
        refine tpi (fun v4 e4 => ?_)
        refine cM_call (Wd := FWd h0 h1 h2 cA cB) (wr := RWd g0 g1 g2 g3 g4 g5 g6 cC cD z) (ci := 0) (q0 := 0) (n := 2) (as := [.int v2, .int v4]) (rest := []) [0, 1, 2] [3, 4, 5, 6, 7, 8, 9] ⟨hx, hb, hml, hown, hts⟩ (c_X0_word l D h0 h1 h2 cA cB z.1 v2 v4) gL_law_X0_word rfl rfl rfl (by decide +kernel) ⟨Nat.le_of_ble_eq_true rfl, Nat.le_of_ble_eq_true rfl⟩ hK0 hP hD hS hA rfl rfl (by decide) (by decide) (by decide) rfl rfl rfl hl.1 rfl rfl (Nat.le_of_ble_eq_true rfl) dL_law_366 ⟨Nat.le_of_ble_eq_true rfl, Nat.le_of_ble_eq_true rfl⟩ (fun H locs hP hD hS => ?_)
        refine tpl (fun v5 e5 => ?_)
        refine lv_aload_n hx hb dL_law_369 rfl (lv_at hl 2 rfl) ?_
        refine lv_aload_n hx hb dL_law_370 rfl (lv_at hl 0 rfl) ?_
        refine lv_iload_n hx hb dL_law_371 rfl (lv_at hl 3 rfl) ?_
        refine lv_iconst (v := 1) hx hb dL_law_372 (by decide) ?_
        refine lv_iadd hx hb dL_law_373 ?_
        refine tpi (fun v6 e6 => ?_)
        refine va_sld hx hb hX hbl hbA hS (by rw [← e6]; exact hr1) dL_law_374 ?_
        refine tpi (fun v7 e7 => ?_)
        refine lv_aload_n hx hb dL_law_375 rfl (lv_at hl 0 rfl) ?_
        refine lv_iload_n hx hb dL_law_376 rfl (lv_at hl 3 rfl) ?_
        refine lv_iconst (v := 2) hx hb dL_law_377 (by decide) ?_
        refine lv_iadd hx hb dL_law_378 ?_
        refine tpi (fun v8 e8 => ?_)
        refine va_sld hx hb hX hbl hbA hS (by rw [← e8]; exact hr2) dL_law_379 ?_
        refine tpi (fun v9 e9 => ?_)
        refine cM_call (Wd := RWd g0 g1 g2 g3 g4 g5 g6 cC cD) (wr := FWd h0 h1 h2 cA cB z.1) (ci := 1) (q0 := 0) (n := 2) (as := [.int v7, .int v9]) (rest := [.long v5]) [0, 1, 2, 3, 4, 5, 6] [7, 8, 9] ⟨hx, hb, hml, hown, hts⟩ (c_X1_word l D g0 g1 g2 g3 g4 g5 g6 cC cD z v7 v9) gL_law_X1_word rfl rfl rfl (by decide +kernel) ⟨Nat.le_of_ble_eq_true rfl, Nat.le_of_ble_eq_true rfl⟩ hK1 hP hD hS hA rfl rfl (by decide) (by decide) (by decide) rfl rfl rfl hl.1 rfl rfl (Nat.le_of_ble_eq_true rfl) dL_law_380 ⟨Nat.le_of_ble_eq_true rfl, Nat.le_of_ble_eq_true rfl⟩ (fun H locs hP hD hS => ?_)
        refine tpl (fun v10 e10 => ?_)
        refine W.lcmp hx hb dL_law_383 ?_
        refine tpi (fun v11 e11 => ?_)
        have hq : f_word v2 v4 z.1 = r_word v7 v9 z := by clear hP hD hS; subst e1; subst e2; subst e3; subst e4; subst e6; subst e7; subst e8; subst e9; exact q_word _ _ z
        have h1 : v5 = v10 := by rw [← e5, ← e10, hq]
        refine lv_if_eq (tgt := 412) hx hb dL_law_384 (by decide) (fun _ => ?_) (fun c0 => absurd (by rw [← e11]; exact (lg_cmp_eq _ _).mpr h1) c0)
        exact J z _ _ _ hI hP hD hS (lv_sub hl [0, 1, 2, 3] rfl)
      · refine lv_tableIn (off := 357) (tgt := 389) hx hb dL_law_32 (by decide) (by decide) (by decide) (by decide) ?_
        refine lv_aload_n hx hb dL_law_389 rfl (lv_at hl 1 rfl) ?_
        refine lv_aload_n hx hb dL_law_390 rfl (lv_at hl 0 rfl) ?_
        refine lv_iload_n hx hb dL_law_391 rfl (lv_at hl 3 rfl) ?_
        refine lv_iconst (v := 1) hx hb dL_law_392 (by decide) ?_
        refine lv_iadd hx hb dL_law_393 ?_
        refine tpi (fun v1 e1 => ?_)
        refine va_sld hx hb hX hbl hbA hS (by rw [← e1]; exact hr1) dL_law_394 ?_
        refine tpi (fun v2 e2 => ?_)
        refine cM_call (Wd := FWd h0 h1 h2 cA cB) (wr := RWd g0 g1 g2 g3 g4 g5 g6 cC cD z) (ci := 0) (q0 := 0) (n := 1) (as := [.int v2]) (rest := []) [0, 1, 2] [3, 4, 5, 6, 7, 8, 9] ⟨hx, hb, hml, hown, hts⟩ (c_X0_done l D h0 h1 h2 cA cB z.1 v2) gL_law_X0_done rfl rfl rfl (by decide +kernel) ⟨Nat.le_of_ble_eq_true rfl, Nat.le_of_ble_eq_true rfl⟩ hK0 hP hD hS hA rfl rfl (by decide) (by decide) (by decide) rfl rfl rfl hl.1 rfl rfl (Nat.le_of_ble_eq_true rfl) dL_law_395 ⟨Nat.le_of_ble_eq_true rfl, Nat.le_of_ble_eq_true rfl⟩ (fun H locs hP hD hS => ?_)
        refine tpi (fun v3 e3 => ?_)
        refine lv_aload_n hx hb dL_law_398 rfl (lv_at hl 2 rfl) ?_
        refine lv_aload_n hx hb dL_law_399 rfl (lv_at hl 0 rfl) ?_
        refine lv_iload_n hx hb dL_law_400 rfl (lv_at hl 3 rfl) ?_
        refine lv_iconst (v := 1) hx hb dL_law_401 (by decide) ?_
        refine lv_iadd hx hb dL_law_402 ?_
        refine tpi (fun v4 e4 => ?_)
        refine va_sld hx hb hX hbl hbA hS (by rw [← e4]; exact hr1) dL_law_403 ?_
        refine tpi (fun v5 e5 => ?_)
        refine cM_call (Wd := RWd g0 g1 g2 g3 g4 g5 g6 cC cD) (wr := FWd h0 h1 h2 cA cB z.1) (ci := 1) (q0 := 0) (n := 1) (as := [.int v5]) (rest := [.int v3]) [0, 1, 2, 3, 4, 5, 6] [7, 8, 9] ⟨hx, hb, hml, hown, hts⟩ (c_X1_done l D g0 g1 g2 g3 g4 g5 g6 cC cD z v5) gL_law_X1_done rfl rfl rfl (by decide +kernel) ⟨Nat.le_of_ble_eq_true rfl, Nat.le_of_ble_eq_true rfl⟩ hK1 hP hD hS hA rfl rfl (by decide) (by decide) (by decide) rfl rfl rfl hl.1 rfl rfl (Nat.le_of_ble_eq_true rfl) dL_law_404 ⟨Nat.le_of_ble_eq_true rfl, Nat.le_of_ble_eq_true rfl⟩ (fun H locs hP hD hS => ?_)
        refine tpi (fun v6 e6 => ?_)
        have hq : f_done v2 z.1 = r_done v5 z := by clear hP hD hS; subst e1; subst e2; subst e4; subst e5; exact q_done _ z
        have h1 : v3 = v6 := by rw [← e3, ← e6, hq]
        refine lv_icmp_eq (tgt := 412) hx hb dL_law_407 (by decide) (fun _ => ?_) (fun c0 => absurd h1 c0)
        exact J z _ _ _ hI hP hD hS (lv_sub hl [0, 1, 2, 3] rfl)
      · refine lv_tableOut (tgt := 412) hx hb dL_law_32 (Or.inr (by rw [nI_toInt (by omega)]; omega)) (by decide) ?_
        exact J z _ _ _ hI hP hD hS (lv_sub hl [0, 1, 2, 3] rfl)
