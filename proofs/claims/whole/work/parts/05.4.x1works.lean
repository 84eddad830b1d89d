abbrev rmX1_works : Room := { frames := 0, cells := 0, slots := 0, locals := 0 }
-- works: the plan is run
set_option maxHeartbeats 400000 in
set_option maxRecDepth 100000 in
theorem c_X1_works (l : Launch) (D : va_G) (g0 g1 g2 g3 g4 g5 g6 : Nat) (cA cB : ClassId) (st : RS) (L : RPl) (hL : r_plan st L) : cM l D vwCl (FT cA cB) (RWd g0 g1 g2 g3 g4 g5 g6 cA cB) yX1_works wsX1_works rmX1_works [.ref g0] st (some (.int (r_wk L st).1)) (r_wk L st).2 := by
  refine cM_in (cc := cX1_works) (maxL := 2) (ret := (some .boolean)) (by decide) rfl (Nat.le_of_ble_eq_true rfl) ?_
  intro p e s m below meth c ls A hx hb hr hlocks hml hown hts hA hK hP hD hS hl
  have hown : s.vm.findClass RX1 = some m.cls := hown
  have hl : lv_has ls 2 [(0, .ref g0)] := hl
  have hlen := hL.2.1
  have LOOP : ∀ (n i : Nat) (z : RS) (H : Heap) (locs : List Loc) (ls : Array Slot), i + n = L.length → z.2 = st.2 → r_run (L.drop i) z.1 = r_run L st.1 → va_P D vwCl (RWd g0 g1 g2 g3 g4 g5 g6 cA cB z) H → va_D A (RWd g0 g1 g2 g3 g4 g5 g6 cA cB z) → va_S A s.heap H locs → lv_has ls 2 [(0, .ref g0), (1, .int (nI i))] → W p l e rmX1_works s m ([.ref g0] : List Value).toArray below meth c H locs 0 0 (MQ below (cQ (some (.int (r_wk L st).1)) (fun t => va_P D vwCl (RWd g0 g1 g2 g3 g4 g5 g6 cA cB (r_wk L st).2) t.heap ∧ va_D A (RWd g0 g1 g2 g3 g4 g5 g6 cA cB (r_wk L st).2)) A) ([.ref g0] : List Value).toArray s 0 0 A) (F0 m 2 ls []) := by
    intro n
    induction n with
    | zero =>
      intro i z H locs ls hin hz hrun hP hD hS hl
      have hi : i = L.length := by omega
      subst hi
      refine lv_iload_n hx hb dX1_works_2 rfl (lv_at hl 1 rfl) ?_
      refine lv_aload_n hx hb dX1_works_3 rfl (lv_at hl 0 rfl) ?_
      refine va_get (D := D) (ci := 1) (v := .int z.2.2.2.2.1) (C := RX1) (T := TX1) (N := 11) hx hb hts (by decide +kernel) hown hK hP 0 rfl rfl 9 (by decide) (hts (.fieldLink RX1 63 "FadeLedgerModel" "turns" "I") (by decide +kernel)) (fun _ h9 => h9) rfl dX1_works_4 ?_
      refine tpi (fun v1 e1 => ?_)
      refine lv_icmp_ge (tgt := 170) hx hb dX1_works_7 (by decide) (fun c2 => ?_) (fun c2 => ?_)
      · refine lv_iconst (v := 1) hx hb dX1_works_170 (by decide) ?_
        have fin : r_wk L st = (1, z) := by
          clear hP hD hS; subst e1; rw [List.drop_length] at hrun; simp only [r_wk, ← hrun, r_run, ← hz]
        exact cM_retz (Wd := RWd g0 g1 g2 g3 g4 g5 g6 cA cB) (st := z) (st' := (r_wk L st).2) hx hb hr hlocks dX1_works_171 hS hP hD rfl (congrArg Prod.fst fin).symm (congrArg Prod.snd fin).symm
      · exact absurd (by rw [← e1, hz, hL.1]; exact Int32.le_refl _) c2
    | succ n ih =>
      intro i z H locs ls hin hz hrun hP hD hS hl
      have hi : i < L.length := by omega
      obtain ⟨q, hq⟩ : ∃ q, L[i]? = some q := ⟨L[i], List.getElem?_eq_getElem hi⟩
      obtain ⟨q1, q2, q3, q4⟩ := hL.2.2 i q hq
      have hcl : (nI i).toNatClampNeg = i := nI_clamp (by omega)
      have k1 : z.2.1 (nI i).toNatClampNeg = q.1 := by rw [hz, hcl, q1]
      have k2 : z.2.2.1 (nI i).toNatClampNeg = q.2.1 := by rw [hz, hcl, q2]
      have k3 : z.2.2.2.1 (nI i).toNatClampNeg = q.2.2 := by rw [hz, hcl, q3]
      have hi1 : nI i + 1 = nI (i + 1) := nI_1 i
      have hir : vp_in (nI i) 256 := vp_in_nI (by omega) (by decide)
      rw [drop_at hq] at hrun
      refine lv_iload_n hx hb dX1_works_2 rfl (lv_at hl 1 rfl) ?_
      refine lv_aload_n hx hb dX1_works_3 rfl (lv_at hl 0 rfl) ?_
      refine va_get (D := D) (ci := 1) (v := .int z.2.2.2.2.1) (C := RX1) (T := TX1) (N := 11) hx hb hts (by decide +kernel) hown hK hP 0 rfl rfl 9 (by decide) (hts (.fieldLink RX1 63 "FadeLedgerModel" "turns" "I") (by decide +kernel)) (fun _ h9 => h9) rfl dX1_works_4 ?_
      refine tpi (fun v1 e1 => ?_)
      refine lv_icmp_ge (tgt := 170) hx hb dX1_works_7 (by decide) (fun c2 => ?_) (fun c2 => ?_)
      · exact absurd c2 (by rw [← e1, hz, hL.1]; exact nI_ge hi (by omega))
      · refine lv_aload_n hx hb dX1_works_10 rfl (lv_at hl 0 rfl) ?_
        refine va_get (D := D) (ci := 1) (v := .int z.1.2.2.1) (C := RX1) (T := TX1) (N := 11) hx hb hts (by decide +kernel) hown hK hP 0 rfl rfl 2 (by decide) (hts (.fieldLink RX1 17 "FadeLedgerModel" "power" "Z") (by decide +kernel)) (fun _ h9 => h9) rfl dX1_works_11 ?_
        refine tpi (fun v3 e3 => ?_)
        refine lv_if_eq (tgt := 34) hx hb dX1_works_14 (by decide) (fun c4 => ?_) (fun c4 => ?_)
        · refine lv_aload_n hx hb dX1_works_34 rfl (lv_at hl 0 rfl) ?_
          refine va_get (D := D) (ci := 1) (v := .int z.1.2.2.1) (C := RX1) (T := TX1) (N := 11) hx hb hts (by decide +kernel) hown hK hP 0 rfl rfl 2 (by decide) (hts (.fieldLink RX1 17 "FadeLedgerModel" "power" "Z") (by decide +kernel)) (fun _ h9 => h9) rfl dX1_works_35 ?_
          refine tpi (fun v5 e5 => ?_)
          refine lv_if_ne (tgt := 43) hx hb dX1_works_38 (by decide) (fun c6 => ?_) (fun c6 => ?_)
          · exact absurd (show _ = _ from by subst e1; subst e3; subst e5; exact c4) c6
          · refine lv_iconst (v := 0) hx hb dX1_works_41 (by decide) ?_
            have fin : r_wk L st = (0, z) := by
              clear hP hD hS; subst e1; subst e3; subst e5; simp only [r_wk, ← hrun, r_run, f_take, f_lose, ← hz, c4, c6, ↓reduceIte, not_true_eq_false, not_false_eq_true, and_self, and_true, true_and, and_false, false_and, eq_self, i10]
            exact cM_retz (Wd := RWd g0 g1 g2 g3 g4 g5 g6 cA cB) (st := z) (st' := (r_wk L st).2) hx hb hr hlocks dX1_works_42 hS hP hD rfl (congrArg Prod.fst fin).symm (congrArg Prod.snd fin).symm
        · refine lv_aload_n hx hb dX1_works_17 rfl (lv_at hl 0 rfl) ?_
          refine va_get (D := D) (ci := 1) (v := .int z.1.2.2.2.1) (C := RX1) (T := TX1) (N := 11) hx hb hts (by decide +kernel) hown hK hP 0 rfl rfl 3 (by decide) (hts (.fieldLink RX1 21 "FadeLedgerModel" "left" "I") (by decide +kernel)) (fun _ h9 => h9) rfl dX1_works_18 ?_
          refine tpi (fun v7 e7 => ?_)
          refine lv_if_ne (tgt := 34) hx hb dX1_works_21 (by decide) (fun c8 => ?_) (fun c8 => ?_)
          · refine lv_aload_n hx hb dX1_works_34 rfl (lv_at hl 0 rfl) ?_
            refine va_get (D := D) (ci := 1) (v := .int z.1.2.2.1) (C := RX1) (T := TX1) (N := 11) hx hb hts (by decide +kernel) hown hK hP 0 rfl rfl 2 (by decide) (hts (.fieldLink RX1 17 "FadeLedgerModel" "power" "Z") (by decide +kernel)) (fun _ h9 => h9) rfl dX1_works_35 ?_
            refine tpi (fun v9 e9 => ?_)
            refine lv_if_ne (tgt := 43) hx hb dX1_works_38 (by decide) (fun c10 => ?_) (fun c10 => ?_)
            · refine lv_aload_n hx hb dX1_works_43 rfl (lv_at hl 0 rfl) ?_
              refine va_get (D := D) (ci := 1) (v := .int z.1.2.2.2.1) (C := RX1) (T := TX1) (N := 11) hx hb hts (by decide +kernel) hown hK hP 0 rfl rfl 3 (by decide) (hts (.fieldLink RX1 21 "FadeLedgerModel" "left" "I") (by decide +kernel)) (fun _ h9 => h9) rfl dX1_works_44 ?_
              refine tpi (fun v11 e11 => ?_)
              refine lv_if_le (tgt := 60) hx hb dX1_works_47 (by decide) (fun c12 => ?_) (fun c12 => ?_)
              · refine lv_aload_n hx hb dX1_works_60 rfl (lv_at hl 0 rfl) ?_
                refine va_get (D := D) (ci := 1) (v := .ref g3) (C := RX1) (T := TX1) (N := 11) hx hb hts (by decide +kernel) hown hK hP 0 rfl rfl 6 (by decide) (hts (.fieldLink RX1 25 "FadeLedgerModel" "kinds" "[I") (by decide +kernel)) (fun _ h9 => h9) rfl dX1_works_61 ?_
                refine lv_iload_n hx hb dX1_works_64 rfl (lv_at hl 1 rfl) ?_
                refine va_iald hx hb hK hP 3 1 rfl rfl hir dX1_works_65 ?_
                refine tpi (fun v13 e13 => ?_)
                refine lv_if_ne (tgt := 94) hx hb dX1_works_66 (by decide) (fun c14 => ?_) (fun c14 => ?_)
                · refine lv_aload_n hx hb dX1_works_94 rfl (lv_at hl 0 rfl) ?_
                  refine lv_dup hx hb dX1_works_95 rfl ?_
                  refine va_get (D := D) (ci := 1) (v := .int z.1.2.2.2.2.2) (C := RX1) (T := TX1) (N := 11) hx hb hts (by decide +kernel) hown hK hP 0 rfl rfl 5 (by decide) (hts (.fieldLink RX1 73 "FadeLedgerModel" "writes" "I") (by decide +kernel)) (fun _ h9 => h9) rfl dX1_works_96 ?_
                  refine tpi (fun v15 e15 => ?_)
                  refine lv_iconst (v := 1) hx hb dX1_works_99 (by decide) ?_
                  refine lv_iadd hx hb dX1_works_100 ?_
                  refine tpi (fun v16 e16 => ?_)
                  refine va_put (D := D) (ci := 1) (v := .int v16) (ty := .int) (C := RX1) (T := TX1) (N := 11) hx hb hts (by decide +kernel) tyX1 tyX1_ok nmX1 hown hK hP hD hS 0 rfl rfl 5 (by decide) (hts (.fieldLink RX1 73 "FadeLedgerModel" "writes" "I") (by decide +kernel)) (fun _ h9 => h9) rfl (by decide +kernel) rfl rfl (Nat.le_of_ble_eq_true rfl) dX1_works_101 (fun H locs hP hD hS => ?_)
                  obtain ⟨s17, t17⟩ : ∃ y9 : RS, (((z.1.1, z.1.2.1, z.1.2.2.1, z.1.2.2.2.1, z.1.2.2.2.2.1, v16), z.2) : RS) = y9 := ⟨_, rfl⟩
                  replace hP : va_P D vwCl (RWd g0 g1 g2 g3 g4 g5 g6 cA cB s17) H := by rw [← t17]; exact hP
                  replace hD : va_D A (RWd g0 g1 g2 g3 g4 g5 g6 cA cB s17) := by rw [← t17]; exact hD
                  refine lv_aload_n hx hb dX1_works_104 rfl (lv_at hl 0 rfl) ?_
                  refine va_get (D := D) (ci := 1) (v := .ref g1) (C := RX1) (T := TX1) (N := 11) hx hb hts (by decide +kernel) hown hK hP 0 rfl rfl 0 (by decide) (hts (.fieldLink RX1 7 "FadeLedgerModel" "words" "[J") (by decide +kernel)) (fun _ h9 => h9) rfl dX1_works_105 ?_
                  refine lv_aload_n hx hb dX1_works_108 rfl (lv_at hl 0 rfl) ?_
                  refine va_get (D := D) (ci := 1) (v := .ref g4) (C := RX1) (T := TX1) (N := 11) hx hb hts (by decide +kernel) hown hK hP 0 rfl rfl 7 (by decide) (hts (.fieldLink RX1 28 "FadeLedgerModel" "places" "[I") (by decide +kernel)) (fun _ h9 => h9) rfl dX1_works_109 ?_
                  refine lv_iload_n hx hb dX1_works_112 rfl (lv_at hl 1 rfl) ?_
                  refine va_iald hx hb hK hP 4 1 rfl rfl hir dX1_works_113 ?_
                  refine tpi (fun v18 e18 => ?_)
                  refine lv_aload_n hx hb dX1_works_114 rfl (lv_at hl 0 rfl) ?_
                  refine va_get (D := D) (ci := 1) (v := .ref g5) (C := RX1) (T := TX1) (N := 11) hx hb hts (by decide +kernel) hown hK hP 0 rfl rfl 8 (by decide) (hts (.fieldLink RX1 31 "FadeLedgerModel" "puts" "[J") (by decide +kernel)) (fun _ h9 => h9) rfl dX1_works_115 ?_
                  refine lv_iload_n hx hb dX1_works_118 rfl (lv_at hl 1 rfl) ?_
                  refine va_lald hx hb hK hP 5 0 rfl rfl hir dX1_works_119 ?_
                  refine tpl (fun v19 e19 => ?_)
                  refine va_last hx hb hK hP hD hS 1 0 rfl rfl (by clear hP hD hS; subst e1; subst e3; subst e7; subst e9; subst e11; subst e13; subst e15; subst e16; subst t17; subst e18; subst e19; show vp_in (z.2.2.1 (nI i).toNatClampNeg) 80; rw [k2]; exact q4) dX1_works_120 (fun H locs hP hD hS => ?_)
                  obtain ⟨s20, t20⟩ : ∃ y9 : RS, ((((vp_updL s17.1.1 v18.toNatClampNeg v19), s17.1.2.1, s17.1.2.2.1, s17.1.2.2.2.1, s17.1.2.2.2.2.1, s17.1.2.2.2.2.2), s17.2) : RS) = y9 := ⟨_, rfl⟩
                  replace hP : va_P D vwCl (RWd g0 g1 g2 g3 g4 g5 g6 cA cB s20) H := by rw [← t20]; exact hP
                  replace hD : va_D A (RWd g0 g1 g2 g3 g4 g5 g6 cA cB s20) := by rw [← t20]; exact hD
                  refine lv_aload_n hx hb dX1_works_121 rfl (lv_at hl 0 rfl) ?_
                  refine va_get (D := D) (ci := 1) (v := .ref g3) (C := RX1) (T := TX1) (N := 11) hx hb hts (by decide +kernel) hown hK hP 0 rfl rfl 6 (by decide) (hts (.fieldLink RX1 25 "FadeLedgerModel" "kinds" "[I") (by decide +kernel)) (fun _ h9 => h9) rfl dX1_works_122 ?_
                  refine lv_iload_n hx hb dX1_works_125 rfl (lv_at hl 1 rfl) ?_
                  refine va_iald hx hb hK hP 3 1 rfl rfl hir dX1_works_126 ?_
                  refine tpi (fun v21 e21 => ?_)
                  refine lv_if_ne (tgt := 164) hx hb dX1_works_127 (by decide) (fun c22 => ?_) (fun c22 => ?_)
                  · refine lv_iinc (v := (nI (i + 1))) (lv' := [(1, .int (nI (i + 1))), (0, .ref g0)]) hx hb dX1_works_164 hl (k := 1) rfl (by rw [← hi1]; rfl) (by decide) rfl (fun ls hl => ?_)
                    refine lv_goto (tgt := 2) hx hb dX1_works_167 (by decide) ?_
                    exact ih (i + 1) s20 _ _ _ (by omega) (by clear hP hD hS; subst e1; subst e3; subst e7; subst e9; subst e11; subst e13; subst e15; subst e16; subst t17; subst e18; subst e19; subst t20; subst e21; exact hz) (by clear hP hD hS; subst e1; subst e3; subst e7; subst e9; subst e11; subst e13; subst e15; subst e16; subst t17; subst e18; subst e19; subst t20; subst e21; (try simp only [lg_cmp_le, k1, k2, k3] at c4 c8 c10 c12 c14 c22); rw [← hrun]; simp only [r_run, f_take, r_ex1, k1, k2, k3, c4, c8, c10, c12, c14, c22, ↓reduceIte, not_true_eq_false, not_false_eq_true, and_self, and_true, true_and, and_false, false_and, eq_self, i10]) hP hD hS (lv_sub hl [1, 0] rfl)
                  · exact absurd (show _ = _ from by subst e1; subst e3; subst e7; subst e9; subst e11; subst e13; subst e15; subst e16; subst t17; subst e18; subst e19; subst t20; subst e21; exact c22) c14
                · refine lv_aload_n hx hb dX1_works_69 rfl (lv_at hl 0 rfl) ?_
                  refine lv_dup hx hb dX1_works_70 rfl ?_
                  refine va_get (D := D) (ci := 1) (v := .int z.1.2.2.2.2.1) (C := RX1) (T := TX1) (N := 11) hx hb hts (by decide +kernel) hown hK hP 0 rfl rfl 4 (by decide) (hts (.fieldLink RX1 70 "FadeLedgerModel" "reads" "I") (by decide +kernel)) (fun _ h9 => h9) rfl dX1_works_71 ?_
                  refine tpi (fun v23 e23 => ?_)
                  refine lv_iconst (v := 1) hx hb dX1_works_74 (by decide) ?_
                  refine lv_iadd hx hb dX1_works_75 ?_
                  refine tpi (fun v24 e24 => ?_)
                  refine va_put (D := D) (ci := 1) (v := .int v24) (ty := .int) (C := RX1) (T := TX1) (N := 11) hx hb hts (by decide +kernel) tyX1 tyX1_ok nmX1 hown hK hP hD hS 0 rfl rfl 4 (by decide) (hts (.fieldLink RX1 70 "FadeLedgerModel" "reads" "I") (by decide +kernel)) (fun _ h9 => h9) rfl (by decide +kernel) rfl rfl (Nat.le_of_ble_eq_true rfl) dX1_works_76 (fun H locs hP hD hS => ?_)
                  obtain ⟨s25, t25⟩ : ∃ y9 : RS, (((z.1.1, z.1.2.1, z.1.2.2.1, z.1.2.2.2.1, v24, z.1.2.2.2.2.2), z.2) : RS) = y9 := ⟨_, rfl⟩
                  replace hP : va_P D vwCl (RWd g0 g1 g2 g3 g4 g5 g6 cA cB s25) H := by rw [← t25]; exact hP
                  replace hD : va_D A (RWd g0 g1 g2 g3 g4 g5 g6 cA cB s25) := by rw [← t25]; exact hD
                  refine lv_aload_n hx hb dX1_works_79 rfl (lv_at hl 0 rfl) ?_
                  refine va_get (D := D) (ci := 1) (v := .ref g1) (C := RX1) (T := TX1) (N := 11) hx hb hts (by decide +kernel) hown hK hP 0 rfl rfl 0 (by decide) (hts (.fieldLink RX1 7 "FadeLedgerModel" "words" "[J") (by decide +kernel)) (fun _ h9 => h9) rfl dX1_works_80 ?_
                  refine lv_aload_n hx hb dX1_works_83 rfl (lv_at hl 0 rfl) ?_
                  refine va_get (D := D) (ci := 1) (v := .ref g4) (C := RX1) (T := TX1) (N := 11) hx hb hts (by decide +kernel) hown hK hP 0 rfl rfl 7 (by decide) (hts (.fieldLink RX1 28 "FadeLedgerModel" "places" "[I") (by decide +kernel)) (fun _ h9 => h9) rfl dX1_works_84 ?_
                  refine lv_iload_n hx hb dX1_works_87 rfl (lv_at hl 1 rfl) ?_
                  refine va_iald hx hb hK hP 4 1 rfl rfl hir dX1_works_88 ?_
                  refine tpi (fun v26 e26 => ?_)
                  refine lv_lconst (v := 0) hx hb dX1_works_89 (by decide) ?_
                  refine va_last hx hb hK hP hD hS 1 0 rfl rfl (by clear hP hD hS; subst e1; subst e3; subst e7; subst e9; subst e11; subst e13; subst e23; subst e24; subst t25; subst e26; show vp_in (z.2.2.1 (nI i).toNatClampNeg) 80; rw [k2]; exact q4) dX1_works_90 (fun H locs hP hD hS => ?_)
                  obtain ⟨s27, t27⟩ : ∃ y9 : RS, ((((vp_updL s25.1.1 v26.toNatClampNeg 0), s25.1.2.1, s25.1.2.2.1, s25.1.2.2.2.1, s25.1.2.2.2.2.1, s25.1.2.2.2.2.2), s25.2) : RS) = y9 := ⟨_, rfl⟩
                  replace hP : va_P D vwCl (RWd g0 g1 g2 g3 g4 g5 g6 cA cB s27) H := by rw [← t27]; exact hP
                  replace hD : va_D A (RWd g0 g1 g2 g3 g4 g5 g6 cA cB s27) := by rw [← t27]; exact hD
                  refine lv_goto (tgt := 121) hx hb dX1_works_91 (by decide) ?_
                  refine lv_aload_n hx hb dX1_works_121 rfl (lv_at hl 0 rfl) ?_
                  refine va_get (D := D) (ci := 1) (v := .ref g3) (C := RX1) (T := TX1) (N := 11) hx hb hts (by decide +kernel) hown hK hP 0 rfl rfl 6 (by decide) (hts (.fieldLink RX1 25 "FadeLedgerModel" "kinds" "[I") (by decide +kernel)) (fun _ h9 => h9) rfl dX1_works_122 ?_
                  refine lv_iload_n hx hb dX1_works_125 rfl (lv_at hl 1 rfl) ?_
                  refine va_iald hx hb hK hP 3 1 rfl rfl hir dX1_works_126 ?_
                  refine tpi (fun v28 e28 => ?_)
                  refine lv_if_ne (tgt := 164) hx hb dX1_works_127 (by decide) (fun c29 => ?_) (fun c29 => ?_)
                  · exact absurd (show _ = _ from by subst e1; subst e3; subst e7; subst e9; subst e11; subst e13; subst e23; subst e24; subst t25; subst e26; subst t27; subst e28; exact c14) c29
                  · refine lv_aload_n hx hb dX1_works_130 rfl (lv_at hl 0 rfl) ?_
                    refine va_get (D := D) (ci := 1) (v := .ref g5) (C := RX1) (T := TX1) (N := 11) hx hb hts (by decide +kernel) hown hK hP 0 rfl rfl 8 (by decide) (hts (.fieldLink RX1 31 "FadeLedgerModel" "puts" "[J") (by decide +kernel)) (fun _ h9 => h9) rfl dX1_works_131 ?_
                    refine lv_iload_n hx hb dX1_works_134 rfl (lv_at hl 1 rfl) ?_
                    refine va_lald hx hb hK hP 5 0 rfl rfl hir dX1_works_135 ?_
                    refine tpl (fun v30 e30 => ?_)
                    refine lv_lconst (v := 0) hx hb dX1_works_136 (by decide) ?_
                    refine W.lcmp hx hb dX1_works_137 ?_
                    refine tpi (fun v31 e31 => ?_)
                    refine lv_if_le (tgt := 164) hx hb dX1_works_138 (by decide) (fun c32 => ?_) (fun c32 => ?_)
                    · refine lv_iinc (v := (nI (i + 1))) (lv' := [(1, .int (nI (i + 1))), (0, .ref g0)]) hx hb dX1_works_164 hl (k := 1) rfl (by rw [← hi1]; rfl) (by decide) rfl (fun ls hl => ?_)
                      refine lv_goto (tgt := 2) hx hb dX1_works_167 (by decide) ?_
                      exact ih (i + 1) s27 _ _ _ (by omega) (by clear hP hD hS; subst e1; subst e3; subst e7; subst e9; subst e11; subst e13; subst e23; subst e24; subst t25; subst e26; subst t27; subst e28; subst e30; subst e31; exact hz) (by clear hP hD hS; subst e1; subst e3; subst e7; subst e9; subst e11; subst e13; subst e23; subst e24; subst t25; subst e26; subst t27; subst e28; subst e30; subst e31; (try simp only [lg_cmp_le, k1, k2, k3] at c4 c8 c10 c12 c14 c29 c32); rw [← hrun]; simp only [r_run, f_take, r_ex1, k1, k2, k3, c4, c8, c10, c12, c14, c29, c32, ↓reduceIte, not_true_eq_false, not_false_eq_true, and_self, and_true, true_and, and_false, false_and, eq_self, i10]) hP hD hS (lv_sub hl [1, 0] rfl)
                    · refine lv_aload_n hx hb dX1_works_141 rfl (lv_at hl 0 rfl) ?_
                      refine va_get (D := D) (ci := 1) (v := .ref g2) (C := RX1) (T := TX1) (N := 11) hx hb hts (by decide +kernel) hown hK hP 0 rfl rfl 1 (by decide) (hts (.fieldLink RX1 13 "FadeLedgerModel" "losses" "[I") (by decide +kernel)) (fun _ h9 => h9) rfl dX1_works_142 ?_
                      refine lv_aload_n hx hb dX1_works_145 rfl (lv_at hl 0 rfl) ?_
                      refine va_get (D := D) (ci := 1) (v := .ref g4) (C := RX1) (T := TX1) (N := 11) hx hb hts (by decide +kernel) hown hK hP 0 rfl rfl 7 (by decide) (hts (.fieldLink RX1 28 "FadeLedgerModel" "places" "[I") (by decide +kernel)) (fun _ h9 => h9) rfl dX1_works_146 ?_
                      refine lv_iload_n hx hb dX1_works_149 rfl (lv_at hl 1 rfl) ?_
                      refine va_iald hx hb hK hP 4 1 rfl rfl hir dX1_works_150 ?_
                      refine tpi (fun v33 e33 => ?_)
                      refine lv_bipush (v := 20) hx hb dX1_works_151 (by decide) ?_
                      refine lv_irem hx hb dX1_works_153 (by decide) ?_
                      refine tpi (fun v34 e34 => ?_)
                      refine lv_aload_n hx hb dX1_works_154 rfl (lv_at hl 0 rfl) ?_
                      refine va_get (D := D) (ci := 1) (v := .ref g5) (C := RX1) (T := TX1) (N := 11) hx hb hts (by decide +kernel) hown hK hP 0 rfl rfl 8 (by decide) (hts (.fieldLink RX1 31 "FadeLedgerModel" "puts" "[J") (by decide +kernel)) (fun _ h9 => h9) rfl dX1_works_155 ?_
                      refine lv_iload_n hx hb dX1_works_158 rfl (lv_at hl 1 rfl) ?_
                      refine va_lald hx hb hK hP 5 0 rfl rfl hir dX1_works_159 ?_
                      refine tpl (fun v35 e35 => ?_)
                      refine lv_l2i hx hb dX1_works_160 rfl ?_
                      refine tpi (fun v36 e36 => ?_)
                      refine lv_iconst (v := 1) hx hb dX1_works_161 (by decide) ?_
                      refine lv_isub hx hb dX1_works_162 ?_
                      refine tpi (fun v37 e37 => ?_)
                      refine va_iast hx hb hK hP hD hS 2 1 rfl rfl (by clear hP hD hS; subst e1; subst e3; subst e7; subst e9; subst e11; subst e13; subst e23; subst e24; subst t25; subst e26; subst t27; subst e28; subst e30; subst e31; subst e33; subst e34; subst e35; subst e36; subst e37; show vp_in (z.2.2.1 (nI i).toNatClampNeg - z.2.2.1 (nI i).toNatClampNeg / 20 * 20) 20; rw [k2]; exact mod_in q4) dX1_works_163 (fun H locs hP hD hS => ?_)
                      obtain ⟨s38, t38⟩ : ∃ y9 : RS, (((s27.1.1, (upd s27.1.2.1 v34.toNatClampNeg v37), s27.1.2.2.1, s27.1.2.2.2.1, s27.1.2.2.2.2.1, s27.1.2.2.2.2.2), s27.2) : RS) = y9 := ⟨_, rfl⟩
                      replace hP : va_P D vwCl (RWd g0 g1 g2 g3 g4 g5 g6 cA cB s38) H := by rw [← t38]; exact hP
                      replace hD : va_D A (RWd g0 g1 g2 g3 g4 g5 g6 cA cB s38) := by rw [← t38]; exact hD
                      refine lv_iinc (v := (nI (i + 1))) (lv' := [(1, .int (nI (i + 1))), (0, .ref g0)]) hx hb dX1_works_164 hl (k := 1) rfl (by rw [← hi1]; rfl) (by decide) rfl (fun ls hl => ?_)
                      refine lv_goto (tgt := 2) hx hb dX1_works_167 (by decide) ?_
                      exact ih (i + 1) s38 _ _ _ (by omega) (by clear hP hD hS; subst e1; subst e3; subst e7; subst e9; subst e11; subst e13; subst e23; subst e24; subst t25; subst e26; subst t27; subst e28; subst e30; subst e31; subst e33; subst e34; subst e35; subst e36; subst e37; subst t38; exact hz) (by clear hP hD hS; subst e1; subst e3; subst e7; subst e9; subst e11; subst e13; subst e23; subst e24; subst t25; subst e26; subst t27; subst e28; subst e30; subst e31; subst e33; subst e34; subst e35; subst e36; subst e37; subst t38; (try simp only [lg_cmp_le, k1, k2, k3] at c4 c8 c10 c12 c14 c29 c32); rw [← hrun]; simp only [r_run, f_take, r_ex1, k1, k2, k3, c4, c8, c10, c12, c14, c29, c32, ↓reduceIte, not_true_eq_false, not_false_eq_true, and_self, and_true, true_and, and_false, false_and, eq_self, i10]) hP hD hS (lv_sub hl [1, 0] rfl)
              · refine lv_aload_n hx hb dX1_works_50 rfl (lv_at hl 0 rfl) ?_
                refine lv_dup hx hb dX1_works_51 rfl ?_
                refine va_get (D := D) (ci := 1) (v := .int z.1.2.2.2.1) (C := RX1) (T := TX1) (N := 11) hx hb hts (by decide +kernel) hown hK hP 0 rfl rfl 3 (by decide) (hts (.fieldLink RX1 21 "FadeLedgerModel" "left" "I") (by decide +kernel)) (fun _ h9 => h9) rfl dX1_works_52 ?_
                refine tpi (fun v39 e39 => ?_)
                refine lv_iconst (v := 1) hx hb dX1_works_55 (by decide) ?_
                refine lv_isub hx hb dX1_works_56 ?_
                refine tpi (fun v40 e40 => ?_)
                refine va_put (D := D) (ci := 1) (v := .int v40) (ty := .int) (C := RX1) (T := TX1) (N := 11) hx hb hts (by decide +kernel) tyX1 tyX1_ok nmX1 hown hK hP hD hS 0 rfl rfl 3 (by decide) (hts (.fieldLink RX1 21 "FadeLedgerModel" "left" "I") (by decide +kernel)) (fun _ h9 => h9) rfl (by decide +kernel) rfl rfl (Nat.le_of_ble_eq_true rfl) dX1_works_57 (fun H locs hP hD hS => ?_)
                obtain ⟨s41, t41⟩ : ∃ y9 : RS, (((z.1.1, z.1.2.1, z.1.2.2.1, v40, z.1.2.2.2.2.1, z.1.2.2.2.2.2), z.2) : RS) = y9 := ⟨_, rfl⟩
                replace hP : va_P D vwCl (RWd g0 g1 g2 g3 g4 g5 g6 cA cB s41) H := by rw [← t41]; exact hP
                replace hD : va_D A (RWd g0 g1 g2 g3 g4 g5 g6 cA cB s41) := by rw [← t41]; exact hD
                refine lv_aload_n hx hb dX1_works_60 rfl (lv_at hl 0 rfl) ?_
                refine va_get (D := D) (ci := 1) (v := .ref g3) (C := RX1) (T := TX1) (N := 11) hx hb hts (by decide +kernel) hown hK hP 0 rfl rfl 6 (by decide) (hts (.fieldLink RX1 25 "FadeLedgerModel" "kinds" "[I") (by decide +kernel)) (fun _ h9 => h9) rfl dX1_works_61 ?_
                refine lv_iload_n hx hb dX1_works_64 rfl (lv_at hl 1 rfl) ?_
                refine va_iald hx hb hK hP 3 1 rfl rfl hir dX1_works_65 ?_
                refine tpi (fun v42 e42 => ?_)
                refine lv_if_ne (tgt := 94) hx hb dX1_works_66 (by decide) (fun c43 => ?_) (fun c43 => ?_)
                · refine lv_aload_n hx hb dX1_works_94 rfl (lv_at hl 0 rfl) ?_
                  refine lv_dup hx hb dX1_works_95 rfl ?_
                  refine va_get (D := D) (ci := 1) (v := .int s41.1.2.2.2.2.2) (C := RX1) (T := TX1) (N := 11) hx hb hts (by decide +kernel) hown hK hP 0 rfl rfl 5 (by decide) (hts (.fieldLink RX1 73 "FadeLedgerModel" "writes" "I") (by decide +kernel)) (fun _ h9 => h9) rfl dX1_works_96 ?_
                  refine tpi (fun v44 e44 => ?_)
                  refine lv_iconst (v := 1) hx hb dX1_works_99 (by decide) ?_
                  refine lv_iadd hx hb dX1_works_100 ?_
                  refine tpi (fun v45 e45 => ?_)
                  refine va_put (D := D) (ci := 1) (v := .int v45) (ty := .int) (C := RX1) (T := TX1) (N := 11) hx hb hts (by decide +kernel) tyX1 tyX1_ok nmX1 hown hK hP hD hS 0 rfl rfl 5 (by decide) (hts (.fieldLink RX1 73 "FadeLedgerModel" "writes" "I") (by decide +kernel)) (fun _ h9 => h9) rfl (by decide +kernel) rfl rfl (Nat.le_of_ble_eq_true rfl) dX1_works_101 (fun H locs hP hD hS => ?_)
                  obtain ⟨s46, t46⟩ : ∃ y9 : RS, (((s41.1.1, s41.1.2.1, s41.1.2.2.1, s41.1.2.2.2.1, s41.1.2.2.2.2.1, v45), s41.2) : RS) = y9 := ⟨_, rfl⟩
                  replace hP : va_P D vwCl (RWd g0 g1 g2 g3 g4 g5 g6 cA cB s46) H := by rw [← t46]; exact hP
                  replace hD : va_D A (RWd g0 g1 g2 g3 g4 g5 g6 cA cB s46) := by rw [← t46]; exact hD
                  refine lv_aload_n hx hb dX1_works_104 rfl (lv_at hl 0 rfl) ?_
                  refine va_get (D := D) (ci := 1) (v := .ref g1) (C := RX1) (T := TX1) (N := 11) hx hb hts (by decide +kernel) hown hK hP 0 rfl rfl 0 (by decide) (hts (.fieldLink RX1 7 "FadeLedgerModel" "words" "[J") (by decide +kernel)) (fun _ h9 => h9) rfl dX1_works_105 ?_
                  refine lv_aload_n hx hb dX1_works_108 rfl (lv_at hl 0 rfl) ?_
                  refine va_get (D := D) (ci := 1) (v := .ref g4) (C := RX1) (T := TX1) (N := 11) hx hb hts (by decide +kernel) hown hK hP 0 rfl rfl 7 (by decide) (hts (.fieldLink RX1 28 "FadeLedgerModel" "places" "[I") (by decide +kernel)) (fun _ h9 => h9) rfl dX1_works_109 ?_
                  refine lv_iload_n hx hb dX1_works_112 rfl (lv_at hl 1 rfl) ?_
                  refine va_iald hx hb hK hP 4 1 rfl rfl hir dX1_works_113 ?_
                  refine tpi (fun v47 e47 => ?_)
                  refine lv_aload_n hx hb dX1_works_114 rfl (lv_at hl 0 rfl) ?_
                  refine va_get (D := D) (ci := 1) (v := .ref g5) (C := RX1) (T := TX1) (N := 11) hx hb hts (by decide +kernel) hown hK hP 0 rfl rfl 8 (by decide) (hts (.fieldLink RX1 31 "FadeLedgerModel" "puts" "[J") (by decide +kernel)) (fun _ h9 => h9) rfl dX1_works_115 ?_
                  refine lv_iload_n hx hb dX1_works_118 rfl (lv_at hl 1 rfl) ?_
                  refine va_lald hx hb hK hP 5 0 rfl rfl hir dX1_works_119 ?_
                  refine tpl (fun v48 e48 => ?_)
                  refine va_last hx hb hK hP hD hS 1 0 rfl rfl (by clear hP hD hS; subst e1; subst e3; subst e7; subst e9; subst e11; subst e39; subst e40; subst t41; subst e42; subst e44; subst e45; subst t46; subst e47; subst e48; show vp_in (z.2.2.1 (nI i).toNatClampNeg) 80; rw [k2]; exact q4) dX1_works_120 (fun H locs hP hD hS => ?_)
                  obtain ⟨s49, t49⟩ : ∃ y9 : RS, ((((vp_updL s46.1.1 v47.toNatClampNeg v48), s46.1.2.1, s46.1.2.2.1, s46.1.2.2.2.1, s46.1.2.2.2.2.1, s46.1.2.2.2.2.2), s46.2) : RS) = y9 := ⟨_, rfl⟩
                  replace hP : va_P D vwCl (RWd g0 g1 g2 g3 g4 g5 g6 cA cB s49) H := by rw [← t49]; exact hP
                  replace hD : va_D A (RWd g0 g1 g2 g3 g4 g5 g6 cA cB s49) := by rw [← t49]; exact hD
                  refine lv_aload_n hx hb dX1_works_121 rfl (lv_at hl 0 rfl) ?_
                  refine va_get (D := D) (ci := 1) (v := .ref g3) (C := RX1) (T := TX1) (N := 11) hx hb hts (by decide +kernel) hown hK hP 0 rfl rfl 6 (by decide) (hts (.fieldLink RX1 25 "FadeLedgerModel" "kinds" "[I") (by decide +kernel)) (fun _ h9 => h9) rfl dX1_works_122 ?_
                  refine lv_iload_n hx hb dX1_works_125 rfl (lv_at hl 1 rfl) ?_
                  refine va_iald hx hb hK hP 3 1 rfl rfl hir dX1_works_126 ?_
                  refine tpi (fun v50 e50 => ?_)
                  refine lv_if_ne (tgt := 164) hx hb dX1_works_127 (by decide) (fun c51 => ?_) (fun c51 => ?_)
                  · refine lv_iinc (v := (nI (i + 1))) (lv' := [(1, .int (nI (i + 1))), (0, .ref g0)]) hx hb dX1_works_164 hl (k := 1) rfl (by rw [← hi1]; rfl) (by decide) rfl (fun ls hl => ?_)
                    refine lv_goto (tgt := 2) hx hb dX1_works_167 (by decide) ?_
                    exact ih (i + 1) s49 _ _ _ (by omega) (by clear hP hD hS; subst e1; subst e3; subst e7; subst e9; subst e11; subst e39; subst e40; subst t41; subst e42; subst e44; subst e45; subst t46; subst e47; subst e48; subst t49; subst e50; exact hz) (by clear hP hD hS; subst e1; subst e3; subst e7; subst e9; subst e11; subst e39; subst e40; subst t41; subst e42; subst e44; subst e45; subst t46; subst e47; subst e48; subst t49; subst e50; (try simp only [lg_cmp_le, k1, k2, k3] at c4 c8 c10 c12 c43 c51); rw [← hrun]; simp only [r_run, f_take, r_ex1, k1, k2, k3, c4, c8, c10, c12, c43, c51, ↓reduceIte, not_true_eq_false, not_false_eq_true, and_self, and_true, true_and, and_false, false_and, eq_self, i10]) hP hD hS (lv_sub hl [1, 0] rfl)
                  · exact absurd (show _ = _ from by subst e1; subst e3; subst e7; subst e9; subst e11; subst e39; subst e40; subst t41; subst e42; subst e44; subst e45; subst t46; subst e47; subst e48; subst t49; subst e50; exact c51) c43
                · refine lv_aload_n hx hb dX1_works_69 rfl (lv_at hl 0 rfl) ?_
                  refine lv_dup hx hb dX1_works_70 rfl ?_
                  refine va_get (D := D) (ci := 1) (v := .int s41.1.2.2.2.2.1) (C := RX1) (T := TX1) (N := 11) hx hb hts (by decide +kernel) hown hK hP 0 rfl rfl 4 (by decide) (hts (.fieldLink RX1 70 "FadeLedgerModel" "reads" "I") (by decide +kernel)) (fun _ h9 => h9) rfl dX1_works_71 ?_
                  refine tpi (fun v52 e52 => ?_)
                  refine lv_iconst (v := 1) hx hb dX1_works_74 (by decide) ?_
                  refine lv_iadd hx hb dX1_works_75 ?_
                  refine tpi (fun v53 e53 => ?_)
                  refine va_put (D := D) (ci := 1) (v := .int v53) (ty := .int) (C := RX1) (T := TX1) (N := 11) hx hb hts (by decide +kernel) tyX1 tyX1_ok nmX1 hown hK hP hD hS 0 rfl rfl 4 (by decide) (hts (.fieldLink RX1 70 "FadeLedgerModel" "reads" "I") (by decide +kernel)) (fun _ h9 => h9) rfl (by decide +kernel) rfl rfl (Nat.le_of_ble_eq_true rfl) dX1_works_76 (fun H locs hP hD hS => ?_)
                  obtain ⟨s54, t54⟩ : ∃ y9 : RS, (((s41.1.1, s41.1.2.1, s41.1.2.2.1, s41.1.2.2.2.1, v53, s41.1.2.2.2.2.2), s41.2) : RS) = y9 := ⟨_, rfl⟩
                  replace hP : va_P D vwCl (RWd g0 g1 g2 g3 g4 g5 g6 cA cB s54) H := by rw [← t54]; exact hP
                  replace hD : va_D A (RWd g0 g1 g2 g3 g4 g5 g6 cA cB s54) := by rw [← t54]; exact hD
                  refine lv_aload_n hx hb dX1_works_79 rfl (lv_at hl 0 rfl) ?_
                  refine va_get (D := D) (ci := 1) (v := .ref g1) (C := RX1) (T := TX1) (N := 11) hx hb hts (by decide +kernel) hown hK hP 0 rfl rfl 0 (by decide) (hts (.fieldLink RX1 7 "FadeLedgerModel" "words" "[J") (by decide +kernel)) (fun _ h9 => h9) rfl dX1_works_80 ?_
                  refine lv_aload_n hx hb dX1_works_83 rfl (lv_at hl 0 rfl) ?_
                  refine va_get (D := D) (ci := 1) (v := .ref g4) (C := RX1) (T := TX1) (N := 11) hx hb hts (by decide +kernel) hown hK hP 0 rfl rfl 7 (by decide) (hts (.fieldLink RX1 28 "FadeLedgerModel" "places" "[I") (by decide +kernel)) (fun _ h9 => h9) rfl dX1_works_84 ?_
                  refine lv_iload_n hx hb dX1_works_87 rfl (lv_at hl 1 rfl) ?_
                  refine va_iald hx hb hK hP 4 1 rfl rfl hir dX1_works_88 ?_
                  refine tpi (fun v55 e55 => ?_)
                  refine lv_lconst (v := 0) hx hb dX1_works_89 (by decide) ?_
                  refine va_last hx hb hK hP hD hS 1 0 rfl rfl (by clear hP hD hS; subst e1; subst e3; subst e7; subst e9; subst e11; subst e39; subst e40; subst t41; subst e42; subst e52; subst e53; subst t54; subst e55; show vp_in (z.2.2.1 (nI i).toNatClampNeg) 80; rw [k2]; exact q4) dX1_works_90 (fun H locs hP hD hS => ?_)
                  obtain ⟨s56, t56⟩ : ∃ y9 : RS, ((((vp_updL s54.1.1 v55.toNatClampNeg 0), s54.1.2.1, s54.1.2.2.1, s54.1.2.2.2.1, s54.1.2.2.2.2.1, s54.1.2.2.2.2.2), s54.2) : RS) = y9 := ⟨_, rfl⟩
                  replace hP : va_P D vwCl (RWd g0 g1 g2 g3 g4 g5 g6 cA cB s56) H := by rw [← t56]; exact hP
                  replace hD : va_D A (RWd g0 g1 g2 g3 g4 g5 g6 cA cB s56) := by rw [← t56]; exact hD
                  refine lv_goto (tgt := 121) hx hb dX1_works_91 (by decide) ?_
                  refine lv_aload_n hx hb dX1_works_121 rfl (lv_at hl 0 rfl) ?_
                  refine va_get (D := D) (ci := 1) (v := .ref g3) (C := RX1) (T := TX1) (N := 11) hx hb hts (by decide +kernel) hown hK hP 0 rfl rfl 6 (by decide) (hts (.fieldLink RX1 25 "FadeLedgerModel" "kinds" "[I") (by decide +kernel)) (fun _ h9 => h9) rfl dX1_works_122 ?_
                  refine lv_iload_n hx hb dX1_works_125 rfl (lv_at hl 1 rfl) ?_
                  refine va_iald hx hb hK hP 3 1 rfl rfl hir dX1_works_126 ?_
                  refine tpi (fun v57 e57 => ?_)
                  refine lv_if_ne (tgt := 164) hx hb dX1_works_127 (by decide) (fun c58 => ?_) (fun c58 => ?_)
                  · exact absurd (show _ = _ from by subst e1; subst e3; subst e7; subst e9; subst e11; subst e39; subst e40; subst t41; subst e42; subst e52; subst e53; subst t54; subst e55; subst t56; subst e57; exact c43) c58
                  · refine lv_aload_n hx hb dX1_works_130 rfl (lv_at hl 0 rfl) ?_
                    refine va_get (D := D) (ci := 1) (v := .ref g5) (C := RX1) (T := TX1) (N := 11) hx hb hts (by decide +kernel) hown hK hP 0 rfl rfl 8 (by decide) (hts (.fieldLink RX1 31 "FadeLedgerModel" "puts" "[J") (by decide +kernel)) (fun _ h9 => h9) rfl dX1_works_131 ?_
                    refine lv_iload_n hx hb dX1_works_134 rfl (lv_at hl 1 rfl) ?_
                    refine va_lald hx hb hK hP 5 0 rfl rfl hir dX1_works_135 ?_
                    refine tpl (fun v59 e59 => ?_)
                    refine lv_lconst (v := 0) hx hb dX1_works_136 (by decide) ?_
                    refine W.lcmp hx hb dX1_works_137 ?_
                    refine tpi (fun v60 e60 => ?_)
                    refine lv_if_le (tgt := 164) hx hb dX1_works_138 (by decide) (fun c61 => ?_) (fun c61 => ?_)
                    · refine lv_iinc (v := (nI (i + 1))) (lv' := [(1, .int (nI (i + 1))), (0, .ref g0)]) hx hb dX1_works_164 hl (k := 1) rfl (by rw [← hi1]; rfl) (by decide) rfl (fun ls hl => ?_)
                      refine lv_goto (tgt := 2) hx hb dX1_works_167 (by decide) ?_
                      exact ih (i + 1) s56 _ _ _ (by omega) (by clear hP hD hS; subst e1; subst e3; subst e7; subst e9; subst e11; subst e39; subst e40; subst t41; subst e42; subst e52; subst e53; subst t54; subst e55; subst t56; subst e57; subst e59; subst e60; exact hz) (by clear hP hD hS; subst e1; subst e3; subst e7; subst e9; subst e11; subst e39; subst e40; subst t41; subst e42; subst e52; subst e53; subst t54; subst e55; subst t56; subst e57; subst e59; subst e60; (try simp only [lg_cmp_le, k1, k2, k3] at c4 c8 c10 c12 c43 c58 c61); rw [← hrun]; simp only [r_run, f_take, r_ex1, k1, k2, k3, c4, c8, c10, c12, c43, c58, c61, ↓reduceIte, not_true_eq_false, not_false_eq_true, and_self, and_true, true_and, and_false, false_and, eq_self, i10]) hP hD hS (lv_sub hl [1, 0] rfl)
                    · refine lv_aload_n hx hb dX1_works_141 rfl (lv_at hl 0 rfl) ?_
                      refine va_get (D := D) (ci := 1) (v := .ref g2) (C := RX1) (T := TX1) (N := 11) hx hb hts (by decide +kernel) hown hK hP 0 rfl rfl 1 (by decide) (hts (.fieldLink RX1 13 "FadeLedgerModel" "losses" "[I") (by decide +kernel)) (fun _ h9 => h9) rfl dX1_works_142 ?_
                      refine lv_aload_n hx hb dX1_works_145 rfl (lv_at hl 0 rfl) ?_
                      refine va_get (D := D) (ci := 1) (v := .ref g4) (C := RX1) (T := TX1) (N := 11) hx hb hts (by decide +kernel) hown hK hP 0 rfl rfl 7 (by decide) (hts (.fieldLink RX1 28 "FadeLedgerModel" "places" "[I") (by decide +kernel)) (fun _ h9 => h9) rfl dX1_works_146 ?_
                      refine lv_iload_n hx hb dX1_works_149 rfl (lv_at hl 1 rfl) ?_
                      refine va_iald hx hb hK hP 4 1 rfl rfl hir dX1_works_150 ?_
                      refine tpi (fun v62 e62 => ?_)
                      refine lv_bipush (v := 20) hx hb dX1_works_151 (by decide) ?_
                      refine lv_irem hx hb dX1_works_153 (by decide) ?_
                      refine tpi (fun v63 e63 => ?_)
                      refine lv_aload_n hx hb dX1_works_154 rfl (lv_at hl 0 rfl) ?_
                      refine va_get (D := D) (ci := 1) (v := .ref g5) (C := RX1) (T := TX1) (N := 11) hx hb hts (by decide +kernel) hown hK hP 0 rfl rfl 8 (by decide) (hts (.fieldLink RX1 31 "FadeLedgerModel" "puts" "[J") (by decide +kernel)) (fun _ h9 => h9) rfl dX1_works_155 ?_
                      refine lv_iload_n hx hb dX1_works_158 rfl (lv_at hl 1 rfl) ?_
                      refine va_lald hx hb hK hP 5 0 rfl rfl hir dX1_works_159 ?_
                      refine tpl (fun v64 e64 => ?_)
                      refine lv_l2i hx hb dX1_works_160 rfl ?_
                      refine tpi (fun v65 e65 => ?_)
                      refine lv_iconst (v := 1) hx hb dX1_works_161 (by decide) ?_
                      refine lv_isub hx hb dX1_works_162 ?_
                      refine tpi (fun v66 e66 => ?_)
                      refine va_iast hx hb hK hP hD hS 2 1 rfl rfl (by clear hP hD hS; subst e1; subst e3; subst e7; subst e9; subst e11; subst e39; subst e40; subst t41; subst e42; subst e52; subst e53; subst t54; subst e55; subst t56; subst e57; subst e59; subst e60; subst e62; subst e63; subst e64; subst e65; subst e66; show vp_in (z.2.2.1 (nI i).toNatClampNeg - z.2.2.1 (nI i).toNatClampNeg / 20 * 20) 20; rw [k2]; exact mod_in q4) dX1_works_163 (fun H locs hP hD hS => ?_)
                      obtain ⟨s67, t67⟩ : ∃ y9 : RS, (((s56.1.1, (upd s56.1.2.1 v63.toNatClampNeg v66), s56.1.2.2.1, s56.1.2.2.2.1, s56.1.2.2.2.2.1, s56.1.2.2.2.2.2), s56.2) : RS) = y9 := ⟨_, rfl⟩
                      replace hP : va_P D vwCl (RWd g0 g1 g2 g3 g4 g5 g6 cA cB s67) H := by rw [← t67]; exact hP
                      replace hD : va_D A (RWd g0 g1 g2 g3 g4 g5 g6 cA cB s67) := by rw [← t67]; exact hD
                      refine lv_iinc (v := (nI (i + 1))) (lv' := [(1, .int (nI (i + 1))), (0, .ref g0)]) hx hb dX1_works_164 hl (k := 1) rfl (by rw [← hi1]; rfl) (by decide) rfl (fun ls hl => ?_)
                      refine lv_goto (tgt := 2) hx hb dX1_works_167 (by decide) ?_
                      exact ih (i + 1) s67 _ _ _ (by omega) (by clear hP hD hS; subst e1; subst e3; subst e7; subst e9; subst e11; subst e39; subst e40; subst t41; subst e42; subst e52; subst e53; subst t54; subst e55; subst t56; subst e57; subst e59; subst e60; subst e62; subst e63; subst e64; subst e65; subst e66; subst t67; exact hz) (by clear hP hD hS; subst e1; subst e3; subst e7; subst e9; subst e11; subst e39; subst e40; subst t41; subst e42; subst e52; subst e53; subst t54; subst e55; subst t56; subst e57; subst e59; subst e60; subst e62; subst e63; subst e64; subst e65; subst e66; subst t67; (try simp only [lg_cmp_le, k1, k2, k3] at c4 c8 c10 c12 c43 c58 c61); rw [← hrun]; simp only [r_run, f_take, r_ex1, k1, k2, k3, c4, c8, c10, c12, c43, c58, c61, ↓reduceIte, not_true_eq_false, not_false_eq_true, and_self, and_true, true_and, and_false, false_and, eq_self, i10]) hP hD hS (lv_sub hl [1, 0] rfl)
            · exact absurd (show _ = _ from by subst e1; subst e3; subst e7; subst e9; exact c10) c4
          · refine lv_aload_n hx hb dX1_works_24 rfl (lv_at hl 0 rfl) ?_
            refine lv_iconst (v := 0) hx hb dX1_works_25 (by decide) ?_
            refine va_put (D := D) (ci := 1) (v := .int 0) (ty := .boolean) (C := RX1) (T := TX1) (N := 11) hx hb hts (by decide +kernel) tyX1 tyX1_ok nmX1 hown hK hP hD hS 0 rfl rfl 2 (by decide) (hts (.fieldLink RX1 17 "FadeLedgerModel" "power" "Z") (by decide +kernel)) (fun _ h9 => h9) rfl (by decide +kernel) rfl rfl (Nat.le_of_ble_eq_true rfl) dX1_works_26 (fun H locs hP hD hS => ?_)
            obtain ⟨s68, t68⟩ : ∃ y9 : RS, (((z.1.1, z.1.2.1, 0, z.1.2.2.2.1, z.1.2.2.2.2.1, z.1.2.2.2.2.2), z.2) : RS) = y9 := ⟨_, rfl⟩
            replace hP : va_P D vwCl (RWd g0 g1 g2 g3 g4 g5 g6 cA cB s68) H := by rw [← t68]; exact hP
            replace hD : va_D A (RWd g0 g1 g2 g3 g4 g5 g6 cA cB s68) := by rw [← t68]; exact hD
            refine lv_aload_n hx hb dX1_works_29 rfl (lv_at hl 0 rfl) ?_
            refine lv_iconst (v := (-1)) hx hb dX1_works_30 (by decide) ?_
            refine va_put (D := D) (ci := 1) (v := .int (-1)) (ty := .int) (C := RX1) (T := TX1) (N := 11) hx hb hts (by decide +kernel) tyX1 tyX1_ok nmX1 hown hK hP hD hS 0 rfl rfl 3 (by decide) (hts (.fieldLink RX1 21 "FadeLedgerModel" "left" "I") (by decide +kernel)) (fun _ h9 => h9) rfl (by decide +kernel) rfl rfl (Nat.le_of_ble_eq_true rfl) dX1_works_31 (fun H locs hP hD hS => ?_)
            obtain ⟨s69, t69⟩ : ∃ y9 : RS, (((s68.1.1, s68.1.2.1, s68.1.2.2.1, (-1), s68.1.2.2.2.2.1, s68.1.2.2.2.2.2), s68.2) : RS) = y9 := ⟨_, rfl⟩
            replace hP : va_P D vwCl (RWd g0 g1 g2 g3 g4 g5 g6 cA cB s69) H := by rw [← t69]; exact hP
            replace hD : va_D A (RWd g0 g1 g2 g3 g4 g5 g6 cA cB s69) := by rw [← t69]; exact hD
            refine lv_aload_n hx hb dX1_works_34 rfl (lv_at hl 0 rfl) ?_
            refine va_get (D := D) (ci := 1) (v := .int s69.1.2.2.1) (C := RX1) (T := TX1) (N := 11) hx hb hts (by decide +kernel) hown hK hP 0 rfl rfl 2 (by decide) (hts (.fieldLink RX1 17 "FadeLedgerModel" "power" "Z") (by decide +kernel)) (fun _ h9 => h9) rfl dX1_works_35 ?_
            refine tpi (fun v70 e70 => ?_)
            refine lv_if_ne (tgt := 43) hx hb dX1_works_38 (by decide) (fun c71 => ?_) (fun c71 => ?_)
            · exact absurd (by subst e1; subst e3; subst e7; subst t68; subst t69; subst e70; exact rfl) c71
            · refine lv_iconst (v := 0) hx hb dX1_works_41 (by decide) ?_
              have fin : r_wk L st = (0, s69) := by
                clear hP hD hS; subst e1; subst e3; subst e7; subst t68; subst t69; subst e70; simp only [r_wk, ← hrun, r_run, f_take, f_lose, ← hz, c4, c8, c71, ↓reduceIte, not_true_eq_false, not_false_eq_true, and_self, and_true, true_and, and_false, false_and, eq_self, i10]
              exact cM_retz (Wd := RWd g0 g1 g2 g3 g4 g5 g6 cA cB) (st := s69) (st' := (r_wk L st).2) hx hb hr hlocks dX1_works_42 hS hP hD rfl (congrArg Prod.fst fin).symm (congrArg Prod.snd fin).symm
  refine lv_iconst (v := 0) hx hb dX1_works_0 (by decide) ?_
  refine lv_istore_n (lv' := [(1, .int 0), (0, .ref g0)]) hx hb dX1_works_1 rfl hl (by decide) rfl (fun ls hl => ?_)
  exact LOOP L.length 0 st _ _ _ (by omega) rfl rfl hP hD hS (by rw [nI_0]; exact lv_sub hl [1, 0] rfl)
