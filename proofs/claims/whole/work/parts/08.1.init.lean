/-! THE CONSTRUCTORS -/
def FI (w : Int64) (i : Nat) : Nat → Int64 := fun j => if j < i then w else 0
theorem FI_0 {w : Int64} : FI w 0 = fun _ => 0 := by
  funext j
  unfold FI
  rw [if_neg (by omega)]
theorem FI_S {w : Int64} {i : Nat} : vp_updL (FI w i) i w = FI w (i + 1) := by
  funext j
  unfold FI vp_updL
  dsimp only
  by_cases h : j = i
  · rw [if_pos h, if_pos (by omega)]
  · rw [if_neg h]
    by_cases h2 : j < i
    · rw [if_pos h2, if_pos (by omega)]
    · rw [if_neg h2, if_neg (by omega)]
theorem na_l (cA : ClassId) (n : Nat) : vp_cell cA (n, .inr (.inl (fun _ => 0))) = arrV cA n (fun _ => defaultValue .long) := by
  rw [vp_cell_l]
  rfl
theorem na_i (cA : ClassId) (n : Nat) : vp_cell cA (n, .inl (fun _ => 0)) = arrV cA n (fun _ => defaultValue .int) := by
  rw [vp_cell_i]
  rfl
def st00 : FS := (FI (f_make 0 0) 80, fun _ => 0, 1, -1, 0, 0)
def st01 : RS := ((FI (g_word 0 0) 80, fun _ => 0, 1, -1, 0, 0), fun _ => 0, fun _ => 0, fun _ => 0, 0, fun _ => 0)
theorem K_same {D : va_G} {cl : List vw_C} {tys : List (ClassId × FieldType)} {U : State} {a b : ClassId} (hK : va_K D cl tys U) (i j : Nat) (h1 : tys[i]? = some (a, .long)) (h2 : tys[j]? = some (b, .long)) : b = a := by
  have k1 : U.vm.findClass ("[" ++ FieldType.long.toString) = some a := (hK.2 i _ h1).2
  have k2 : U.vm.findClass ("[" ++ FieldType.long.toString) = some b := (hK.2 j _ h2).2
  exact Option.some.inj (k2.symm.trans k1)
theorem K_sameI {D : va_G} {cl : List vw_C} {tys : List (ClassId × FieldType)} {U : State} {a b : ClassId} (hK : va_K D cl tys U) (i j : Nat) (h1 : tys[i]? = some (a, .int)) (h2 : tys[j]? = some (b, .int)) : b = a := by
  have k1 : U.vm.findClass ("[" ++ FieldType.int.toString) = some a := (hK.2 i _ h1).2
  have k2 : U.vm.findClass ("[" ++ FieldType.int.toString) = some b := (hK.2 j _ h2).2
  exact Option.some.inj (k2.symm.trans k1)
abbrev rmX0_init : Room := { frames := 2, cells := 2, slots := 100, locals := 46 }
set_option maxHeartbeats 400000 in
set_option maxRecDepth 100000 in
theorem c_X0_init (l : Launch) (D : va_G) (h0 sz : Nat) : Met l yX0_init wsX0_init rmX0_init (va_Pc [.ref h0] (fun U => U.heap.size = sz ∧ va_P D vwCl [(h0, .inr (0, [.null, .null, .int 0, .int 0, .int 0, .int 0]))] U.heap ∧ va_K D vwCl [] U ∧ va_D (fun _ => True) [(h0, .inr (0, [.null, .null, .int 0, .int 0, .int 0, .int 0]))])) (va_Qv (fun _ : Unit => True) (fun _ t => ∃ (h1 h2 : Nat) (cA cB : ClassId), va_P D vwCl (FWd h0 h1 h2 cA cB st00) t.heap ∧ va_K D vwCl (FT cA cB) t ∧ va_D (va_A [(h0, .inr (0, [.null, .null, .int 0, .int 0, .int 0, .int 0]))] sz) (FWd h0 h1 h2 cA cB st00)) (va_A [(h0, .inr (0, [.null, .null, .int 0, .int 0, .int 0, .int 0]))] sz)) 2 100 (va_A [(h0, .inr (0, [.null, .null, .int 0, .int 0, .int 0, .int 0]))] sz) := by
  refine Met.ofW (cc := cX0_init) (maxL := 4) (ret := none) (by decide) rfl ?_
  intro p e s m args below meth c s₁ B hml hv
  obtain ⟨rfl, hsz, hP, hK, hD0⟩ := hv
  have hx := B.exec
  have hb := B.bytes
  have hr := B.returns
  have hts := atoms_spec (ws := wsX0_init) B.pre
  have hown : s.vm.findClass RX0 = some m.cls := findClass_of_methodNamed B.named
  have hlocks := B.notSynchronized
  have hin : meth.name = "<init>" := (name_of_methodNamed B.named B.method).1
  subst hsz
  have hD := hD0.self (sz := s.heap.size)
  generalize hAe : va_A [(h0, .inr (0, [.null, .null, .int 0, .int 0, .int 0, .int 0]))] s.heap.size = A at hD ⊢
  have hA : ∀ q : Nat, s.heap.size ≤ q → A q := fun q h => by rw [← hAe]; exact Or.inr h
  have hS : va_S A s.heap s.heap [] := va_S.rf
  have hP : va_P D vwCl [(h0, .inr (0, [.null, .null, .int 0, .int 0, .int 0, .int 0]))] s.heap := hP
  have hl := lv_entry ([.ref h0]) (n := 4) (Nat.le_of_ble_eq_true rfl)
  rw [lg_entry_eq]
  generalize (lg_sl ([.ref h0]) ++ List.replicate (4 - (lg_sl ([.ref h0])).length) Slot.unset).toArray = ls at hl ⊢
  have hl : lv_has ls 4 [(0, .ref h0)] := hl
  refine lv_aload_n hx hb dX0_init_0 rfl (lv_at hl 0 rfl) ?_
  refine W.objInit hx hb hown (hts (.methodLink RX0 1 objectInit) (by decide +kernel)) (hts (.instanceMethod objectInit) (by decide +kernel)) (hts _ (List.mem_cons_of_mem _ (List.mem_append_left _ (List.mem_of_getElem? (i := 2) rfl)))) rfl (by rw [hml]; exact hl.1) rfl dX0_init_1 (Nat.le_of_ble_eq_true rfl) (Nat.le_of_ble_eq_true rfl) ?_
  refine W.eq (g2 := F0 m 4 ls []) rfl ?_
  refine lv_aload_n hx hb dX0_init_4 rfl (lv_at hl 0 rfl) ?_
  refine lv_bipush (v := 80) hx hb dX0_init_5 (by decide) ?_
  refine va_newa (atype := .long) (a0 := (80, .inr (.inl (fun _ => 0)))) (ty := .long) hx hb (hts (.arrayClass .long) (by decide +kernel)) rfl hK hP hD hS hA (fun q9 => na_l q9 80) (by decide) (by decide) (by decide) (Nat.le_of_ble_eq_true rfl) (Nat.le_of_ble_eq_true rfl) dX0_init_7 (fun h1 cA H hK hP hD hS => ?_)
  have hP : va_P D vwCl [(h0, .inr (0, [.null, .null, .int 0, .int 0, .int 0, .int 0])), (h1, .inl (cA, 80, .inr (.inl (fun _ => 0))))] H := hP
  have hD : va_D A [(h0, .inr (0, [.null, .null, .int 0, .int 0, .int 0, .int 0])), (h1, .inl (cA, 80, .inr (.inl (fun _ => 0))))] := hD
  have hK : va_K D vwCl [(cA, .long)] s := hK
  refine W.widen (k := 1) (n := 80) (Nat.le_of_ble_eq_true rfl) (Nat.le_of_ble_eq_true rfl) ?_
  refine va_putF (D := D) (ci := 0) (v := .ref h1) (ty := .array .long) (C := RX0) (T := TX0) (N := 6) hx hb hts (by decide +kernel) tyX0 tyX0_ok nmX0 hown hK hP hD hS 0 rfl rfl 0 (by decide) (hts (.fieldLink RX0 9 "FadeLedger" "memory" "[J") (by decide +kernel)) (fun _ h9 => h9) rfl hin rfl (by decide +kernel) rfl rfl (Nat.le_of_ble_eq_true rfl) dX0_init_9 (fun H locs hP hD hS => ?_)
  have hP : va_P D vwCl [(h0, .inr (0, [.ref h1, .null, .int 0, .int 0, .int 0, .int 0])), (h1, .inl (cA, 80, .inr (.inl (fun _ => 0))))] H := hP
  have hD : va_D A [(h0, .inr (0, [.ref h1, .null, .int 0, .int 0, .int 0, .int 0])), (h1, .inl (cA, 80, .inr (.inl (fun _ => 0))))] := hD
  refine lv_aload_n hx hb dX0_init_12 rfl (lv_at hl 0 rfl) ?_
  refine lv_bipush (v := 20) hx hb dX0_init_13 (by decide) ?_
  refine va_newa (atype := .int) (a0 := (20, .inl (fun _ => 0))) (ty := .int) hx hb (hts (.arrayClass .int) (by decide +kernel)) rfl hK hP hD hS hA (fun q9 => na_i q9 20) (by decide) (by decide) (by decide) (Nat.le_of_ble_eq_true rfl) (Nat.le_of_ble_eq_true rfl) dX0_init_15 (fun h2 cB H hK hP hD hS => ?_)
  have hP : va_P D vwCl [(h0, .inr (0, [.ref h1, .null, .int 0, .int 0, .int 0, .int 0])), (h1, .inl (cA, 80, .inr (.inl (fun _ => 0)))), (h2, .inl (cB, 20, .inl (fun _ => 0)))] H := hP
  have hD : va_D A [(h0, .inr (0, [.ref h1, .null, .int 0, .int 0, .int 0, .int 0])), (h1, .inl (cA, 80, .inr (.inl (fun _ => 0)))), (h2, .inl (cB, 20, .inl (fun _ => 0)))] := hD
  have hK : va_K D vwCl [(cA, .long), (cB, .int)] s := hK
  refine W.widen (k := 2) (n := 100) (Nat.le_of_ble_eq_true rfl) (Nat.le_of_ble_eq_true rfl) ?_
  refine va_putF (D := D) (ci := 0) (v := .ref h2) (ty := .array .int) (C := RX0) (T := TX0) (N := 6) hx hb hts (by decide +kernel) tyX0 tyX0_ok nmX0 hown hK hP hD hS 0 rfl rfl 1 (by decide) (hts (.fieldLink RX0 13 "FadeLedger" "invalidPlanes" "[I") (by decide +kernel)) (fun _ h9 => h9) rfl hin rfl (by decide +kernel) rfl rfl (Nat.le_of_ble_eq_true rfl) dX0_init_17 (fun H locs hP hD hS => ?_)
  have hP : va_P D vwCl [(h0, .inr (0, [.ref h1, .ref h2, .int 0, .int 0, .int 0, .int 0])), (h1, .inl (cA, 80, .inr (.inl (fun _ => 0)))), (h2, .inl (cB, 20, .inl (fun _ => 0)))] H := hP
  have hD : va_D A [(h0, .inr (0, [.ref h1, .ref h2, .int 0, .int 0, .int 0, .int 0])), (h1, .inl (cA, 80, .inr (.inl (fun _ => 0)))), (h2, .inl (cB, 20, .inl (fun _ => 0)))] := hD
  refine lv_aload_n hx hb dX0_init_20 rfl (lv_at hl 0 rfl) ?_
  refine lv_iconst (v := 1) hx hb dX0_init_21 (by decide) ?_
  refine va_put (D := D) (ci := 0) (v := .int 1) (ty := .boolean) (C := RX0) (T := TX0) (N := 6) hx hb hts (by decide +kernel) tyX0 tyX0_ok nmX0 hown hK hP hD hS 0 rfl rfl 2 (by decide) (hts (.fieldLink RX0 17 "FadeLedger" "powered" "Z") (by decide +kernel)) (fun _ h9 => h9) rfl (by decide +kernel) rfl rfl (Nat.le_of_ble_eq_true rfl) dX0_init_22 (fun H locs hP hD hS => ?_)
  have hP : va_P D vwCl [(h0, .inr (0, [.ref h1, .ref h2, .int 1, .int 0, .int 0, .int 0])), (h1, .inl (cA, 80, .inr (.inl (fun _ => 0)))), (h2, .inl (cB, 20, .inl (fun _ => 0)))] H := hP
  have hD : va_D A [(h0, .inr (0, [.ref h1, .ref h2, .int 1, .int 0, .int 0, .int 0])), (h1, .inl (cA, 80, .inr (.inl (fun _ => 0)))), (h2, .inl (cB, 20, .inl (fun _ => 0)))] := hD
  refine lv_aload_n hx hb dX0_init_25 rfl (lv_at hl 0 rfl) ?_
  refine lv_iconst (v := (-1)) hx hb dX0_init_26 (by decide) ?_
  refine va_put (D := D) (ci := 0) (v := .int (-1)) (ty := .int) (C := RX0) (T := TX0) (N := 6) hx hb hts (by decide +kernel) tyX0 tyX0_ok nmX0 hown hK hP hD hS 0 rfl rfl 3 (by decide) (hts (.fieldLink RX0 21 "FadeLedger" "turnsLeft" "I") (by decide +kernel)) (fun _ h9 => h9) rfl (by decide +kernel) rfl rfl (Nat.le_of_ble_eq_true rfl) dX0_init_27 (fun H locs hP hD hS => ?_)
  have hP : va_P D vwCl [(h0, .inr (0, [.ref h1, .ref h2, .int 1, .int (-1), .int 0, .int 0])), (h1, .inl (cA, 80, .inr (.inl (fun _ => 0)))), (h2, .inl (cB, 20, .inl (fun _ => 0)))] H := hP
  have hD : va_D A [(h0, .inr (0, [.ref h1, .ref h2, .int 1, .int (-1), .int 0, .int 0])), (h1, .inl (cA, 80, .inr (.inl (fun _ => 0)))), (h2, .inl (cB, 20, .inl (fun _ => 0)))] := hD
  have hK : va_K D vwCl (FT cA cB) s := hK.sub [0, 1] rfl
  obtain ⟨w9, ew9⟩ : ∃ y9 : Int64, f_make 0 0 = y9 := ⟨_, rfl⟩
  have hP : va_P D vwCl (FWd h0 h1 h2 cA cB (((FI w9 0), fun _ => 0, 1, -1, 0, 0) : FS)) H := by rw [FI_0]; exact hP
  have hD : va_D A (FWd h0 h1 h2 cA cB (((FI w9 0), fun _ => 0, 1, -1, 0, 0) : FS)) := by rw [FI_0]; exact hD
  refine W.widen (k := 2) (n := 100) (Nat.le_of_ble_eq_true rfl) (Nat.le_of_ble_eq_true rfl) ?_
  have LOOP : ∀ (Q : State → Prop) (n i : Nat) (H : Heap) (locs : List Loc) (ls : Array Slot), i + n = 80 → va_P D vwCl (FWd h0 h1 h2 cA cB (((FI w9 i), fun _ => 0, 1, -1, 0, 0) : FS)) H → va_D A (FWd h0 h1 h2 cA cB (((FI w9 i), fun _ => 0, 1, -1, 0, 0) : FS)) → va_S A s.heap H locs → lv_has ls 4 [(0, .ref h0), (1, .long w9), (3, .int (nI i))] → (∀ (H : Heap) (locs : List Loc) (ls : Array Slot), va_P D vwCl (FWd h0 h1 h2 cA cB (((FI w9 80), fun _ => 0, 1, -1, 0, 0) : FS)) H → va_D A (FWd h0 h1 h2 cA cB (((FI w9 80), fun _ => 0, 1, -1, 0, 0) : FS)) → va_S A s.heap H locs → W p l e rmX0_init s m ([.ref h0] : List Value).toArray below meth c H locs 2 100 Q (F0 m 60 ls [])) → W p l e rmX0_init s m ([.ref h0] : List Value).toArray below meth c H locs 2 100 Q (F0 m 38 ls []) := by
    intro Q n
    induction n with
    | zero =>
      intro i H locs ls hin2 hP hD hS hl K
      have hi : i = 80 := by omega
      subst hi
      refine lv_iload_n hx hb dX0_init_38 rfl (lv_at hl 2 rfl) ?_
      refine lv_aload_n hx hb dX0_init_39 rfl (lv_at hl 0 rfl) ?_
      refine va_get (D := D) (ci := 0) (v := .ref h1) (C := RX0) (T := TX0) (N := 6) hx hb hts (by decide +kernel) hown hK hP 0 rfl rfl 0 (by decide) (hts (.fieldLink RX0 9 "FadeLedger" "memory" "[J") (by decide +kernel)) (fun _ h9 => h9) rfl dX0_init_40 ?_
      refine va_alen hx hb hK hP 1 0 rfl rfl (v := 80) (show Int32.ofNat 80 = 80 from by decide) dX0_init_43 ?_
      refine lv_icmp_ge (tgt := 60) hx hb dX0_init_44 (by decide) (fun c1 => ?_) (fun c1 => ?_)
      · exact K _ _ _ hP hD hS
      · exact absurd (by decide) c1
    | succ n ih =>
      intro i H locs ls hin2 hP hD hS hl K
      have hi : i < 80 := by omega
      have hi1 : nI i + 1 = nI (i + 1) := nI_1 i
      have hcl : (nI i).toNatClampNeg = i := nI_clamp (by omega)
      refine lv_iload_n hx hb dX0_init_38 rfl (lv_at hl 2 rfl) ?_
      refine lv_aload_n hx hb dX0_init_39 rfl (lv_at hl 0 rfl) ?_
      refine va_get (D := D) (ci := 0) (v := .ref h1) (C := RX0) (T := TX0) (N := 6) hx hb hts (by decide +kernel) hown hK hP 0 rfl rfl 0 (by decide) (hts (.fieldLink RX0 9 "FadeLedger" "memory" "[J") (by decide +kernel)) (fun _ h9 => h9) rfl dX0_init_40 ?_
      refine va_alen hx hb hK hP 1 0 rfl rfl (v := 80) (show Int32.ofNat 80 = 80 from by decide) dX0_init_43 ?_
      refine lv_icmp_ge (tgt := 60) hx hb dX0_init_44 (by decide) (fun c1 => ?_) (fun c1 => ?_)
      · exact absurd c1 (nI_ge hi (by decide))
      · refine lv_aload_n hx hb dX0_init_47 rfl (lv_at hl 0 rfl) ?_
        refine va_get (D := D) (ci := 0) (v := .ref h1) (C := RX0) (T := TX0) (N := 6) hx hb hts (by decide +kernel) hown hK hP 0 rfl rfl 0 (by decide) (hts (.fieldLink RX0 9 "FadeLedger" "memory" "[J") (by decide +kernel)) (fun _ h9 => h9) rfl dX0_init_48 ?_
        refine lv_iload_n hx hb dX0_init_51 rfl (lv_at hl 2 rfl) ?_
        refine lv_lload_n hx hb dX0_init_52 rfl (lv_at hl 1 rfl) ?_
        refine va_last hx hb hK hP hD hS 1 0 rfl rfl (vp_in_nI hi (by decide)) dX0_init_53 (fun H locs hP hD hS => ?_)
        obtain ⟨s2, t2⟩ : ∃ y9 : FS, ((vp_updL (((FI w9 i), fun _ => 0, 1, -1, 0, 0) : FS).1 (nI i).toNatClampNeg w9, (((FI w9 i), fun _ => 0, 1, -1, 0, 0) : FS).2.1, (((FI w9 i), fun _ => 0, 1, -1, 0, 0) : FS).2.2.1, (((FI w9 i), fun _ => 0, 1, -1, 0, 0) : FS).2.2.2.1, (((FI w9 i), fun _ => 0, 1, -1, 0, 0) : FS).2.2.2.2.1, (((FI w9 i), fun _ => 0, 1, -1, 0, 0) : FS).2.2.2.2.2) : FS) = y9 := ⟨_, rfl⟩
        replace hP : va_P D vwCl (FWd h0 h1 h2 cA cB s2) H := by rw [← t2]; exact hP
        replace hD : va_D A (FWd h0 h1 h2 cA cB s2) := by rw [← t2]; exact hD
        refine lv_iinc (v := (nI (i + 1))) (lv' := [(3, .int (nI (i + 1))), (0, .ref h0), (1, .long w9)]) hx hb dX0_init_54 hl (k := 2) rfl (by rw [← hi1]; rfl) (by decide) rfl (fun ls hl => ?_)
        refine lv_goto (tgt := 38) hx hb dX0_init_57 (by decide) ?_
        have hw : s2 = (((FI w9 (i + 1)), fun _ => 0, 1, -1, 0, 0) : FS) := by subst t2; dsimp only; rw [hcl, FI_S]
        rw [hw] at hP hD
        exact ih (i + 1) _ _ _ (by omega) hP hD hS (lv_sub hl [1, 2, 0] rfl) K
  refine lv_iconst (v := 0) hx hb dX0_init_30 (by decide) ?_
  refine lv_iconst (v := 0) hx hb dX0_init_31 (by decide) ?_
  refine cS_call (n := 2) (as := [.int 0, .int 0]) (rest := []) ⟨hx, hb, hml, hown, hts⟩ (c_X0_makeWord l 0 0) gX0_init_X0_makeWord rfl rfl rfl (by decide +kernel) ⟨Nat.le_of_ble_eq_true rfl, Nat.le_of_ble_eq_true rfl⟩ hl.1 rfl rfl (Nat.le_of_ble_eq_true rfl) dX0_init_32 ⟨Nat.le_of_ble_eq_true rfl, Nat.le_of_ble_eq_true rfl⟩ ?_
  refine tpl (fun v1 e1 => ?_)
  refine lv_lstore_n (lv' := [(1, .long v1), (0, .ref h0)]) hx hb dX0_init_35 rfl hl (by decide) rfl (fun ls hl => ?_)
  refine lv_iconst (v := 0) hx hb dX0_init_36 (by decide) ?_
  refine lv_istore_n (lv' := [(3, .int 0), (1, .long v1), (0, .ref h0)]) hx hb dX0_init_37 rfl hl (by decide) rfl (fun ls hl => ?_)
  replace hl : lv_has ls 4 [(3, .int 0), (1, .long w9), (0, .ref h0)] := by rw [← ew9, e1]; exact hl
  refine LOOP _ 80 0 _ _ _ (by decide) hP hD hS (by rw [nI_0]; exact lv_sub hl [2, 1, 0] rfl) (fun H locs ls hP hD hS => ?_)
  subst ew9
  have hP : va_P D vwCl (FWd h0 h1 h2 cA cB st00) H := by unfold st00; exact hP
  have hD : va_D A (FWd h0 h1 h2 cA cB st00) := by unfold st00; exact hD
  exact W.vret hx hb hr (fun t ht hW => ⟨⟨(), rfl, trivial, h1, h2, cA, cB, by rw [ht]; exact hP, va_K.moved hW.alike hK, hD⟩, hS.F ht⟩) hS.2.2 dX0_init_60
abbrev rmX1_init : Room := { frames := 2, cells := 6, slots := 888, locals := 47 }
set_option maxHeartbeats 400000 in
set_option maxRecDepth 100000 in
theorem c_X1_init (l : Launch) (D : va_G) (g0 sz : Nat) : Met l yX1_init wsX1_init rmX1_init (va_Pc [.ref g0] (fun U => U.heap.size = sz ∧ va_P D vwCl [(g0, .inr (1, [.null, .null, .int 0, .int 0, .int 0, .int 0, .null, .null, .null, .int 0, .null]))] U.heap ∧ va_K D vwCl [] U ∧ va_D (fun _ => True) [(g0, .inr (1, [.null, .null, .int 0, .int 0, .int 0, .int 0, .null, .null, .null, .int 0, .null]))])) (va_Qv (fun _ : Unit => True) (fun _ t => ∃ (g1 g2 g3 g4 g5 g6 : Nat) (cA cB : ClassId), va_P D vwCl (RWd g0 g1 g2 g3 g4 g5 g6 cA cB st01) t.heap ∧ va_K D vwCl (FT cA cB) t ∧ va_D (va_A [(g0, .inr (1, [.null, .null, .int 0, .int 0, .int 0, .int 0, .null, .null, .null, .int 0, .null]))] sz) (RWd g0 g1 g2 g3 g4 g5 g6 cA cB st01)) (va_A [(g0, .inr (1, [.null, .null, .int 0, .int 0, .int 0, .int 0, .null, .null, .null, .int 0, .null]))] sz)) 6 888 (va_A [(g0, .inr (1, [.null, .null, .int 0, .int 0, .int 0, .int 0, .null, .null, .null, .int 0, .null]))] sz) := by
  refine Met.ofW (cc := cX1_init) (maxL := 2) (ret := none) (by decide) rfl ?_
  intro p e s m args below meth c s₁ B hml hv
  obtain ⟨rfl, hsz, hP, hK, hD0⟩ := hv
  have hx := B.exec
  have hb := B.bytes
  have hr := B.returns
  have hts := atoms_spec (ws := wsX1_init) B.pre
  have hown : s.vm.findClass RX1 = some m.cls := findClass_of_methodNamed B.named
  have hlocks := B.notSynchronized
  have hin : meth.name = "<init>" := (name_of_methodNamed B.named B.method).1
  subst hsz
  have hD := hD0.self (sz := s.heap.size)
  generalize hAe : va_A [(g0, .inr (1, [.null, .null, .int 0, .int 0, .int 0, .int 0, .null, .null, .null, .int 0, .null]))] s.heap.size = A at hD ⊢
  have hA : ∀ q : Nat, s.heap.size ≤ q → A q := fun q h => by rw [← hAe]; exact Or.inr h
  have hS : va_S A s.heap s.heap [] := va_S.rf
  have hP : va_P D vwCl [(g0, .inr (1, [.null, .null, .int 0, .int 0, .int 0, .int 0, .null, .null, .null, .int 0, .null]))] s.heap := hP
  have hl := lv_entry ([.ref g0]) (n := 2) (Nat.le_of_ble_eq_true rfl)
  rw [lg_entry_eq]
  generalize (lg_sl ([.ref g0]) ++ List.replicate (2 - (lg_sl ([.ref g0])).length) Slot.unset).toArray = ls at hl ⊢
  have hl : lv_has ls 2 [(0, .ref g0)] := hl
  refine lv_aload_n hx hb dX1_init_0 rfl (lv_at hl 0 rfl) ?_
  refine W.objInit hx hb hown (hts (.methodLink RX1 1 objectInit) (by decide +kernel)) (hts (.instanceMethod objectInit) (by decide +kernel)) (hts _ (List.mem_cons_of_mem _ (List.mem_append_left _ (List.mem_of_getElem? (i := 2) rfl)))) rfl (by rw [hml]; exact hl.1) rfl dX1_init_1 (Nat.le_of_ble_eq_true rfl) (Nat.le_of_ble_eq_true rfl) ?_
  refine W.eq (g2 := F0 m 4 ls []) rfl ?_
  refine lv_aload_n hx hb dX1_init_4 rfl (lv_at hl 0 rfl) ?_
  refine lv_bipush (v := 80) hx hb dX1_init_5 (by decide) ?_
  refine va_newa (atype := .long) (a0 := (80, .inr (.inl (fun _ => 0)))) (ty := .long) hx hb (hts (.arrayClass .long) (by decide +kernel)) rfl hK hP hD hS hA (fun q9 => na_l q9 80) (by decide) (by decide) (by decide) (Nat.le_of_ble_eq_true rfl) (Nat.le_of_ble_eq_true rfl) dX1_init_7 (fun g1 cA H hK hP hD hS => ?_)
  have hP : va_P D vwCl [(g0, .inr (1, [.null, .null, .int 0, .int 0, .int 0, .int 0, .null, .null, .null, .int 0, .null])), (g1, .inl (cA, 80, .inr (.inl (fun _ => 0))))] H := hP
  have hD : va_D A [(g0, .inr (1, [.null, .null, .int 0, .int 0, .int 0, .int 0, .null, .null, .null, .int 0, .null])), (g1, .inl (cA, 80, .inr (.inl (fun _ => 0))))] := hD
  have hK : va_K D vwCl [(cA, .long)] s := hK
  refine W.widen (k := 1) (n := 80) (Nat.le_of_ble_eq_true rfl) (Nat.le_of_ble_eq_true rfl) ?_
  refine va_putF (D := D) (ci := 1) (v := .ref g1) (ty := .array .long) (C := RX1) (T := TX1) (N := 11) hx hb hts (by decide +kernel) tyX1 tyX1_ok nmX1 hown hK hP hD hS 0 rfl rfl 0 (by decide) (hts (.fieldLink RX1 7 "FadeLedgerModel" "words" "[J") (by decide +kernel)) (fun _ h9 => h9) rfl hin rfl (by decide +kernel) rfl rfl (Nat.le_of_ble_eq_true rfl) dX1_init_9 (fun H locs hP hD hS => ?_)
  have hP : va_P D vwCl [(g0, .inr (1, [.ref g1, .null, .int 0, .int 0, .int 0, .int 0, .null, .null, .null, .int 0, .null])), (g1, .inl (cA, 80, .inr (.inl (fun _ => 0))))] H := hP
  have hD : va_D A [(g0, .inr (1, [.ref g1, .null, .int 0, .int 0, .int 0, .int 0, .null, .null, .null, .int 0, .null])), (g1, .inl (cA, 80, .inr (.inl (fun _ => 0))))] := hD
  refine lv_aload_n hx hb dX1_init_12 rfl (lv_at hl 0 rfl) ?_
  refine lv_bipush (v := 20) hx hb dX1_init_13 (by decide) ?_
  refine va_newa (atype := .int) (a0 := (20, .inl (fun _ => 0))) (ty := .int) hx hb (hts (.arrayClass .int) (by decide +kernel)) rfl hK hP hD hS hA (fun q9 => na_i q9 20) (by decide) (by decide) (by decide) (Nat.le_of_ble_eq_true rfl) (Nat.le_of_ble_eq_true rfl) dX1_init_15 (fun g2 cB H hK hP hD hS => ?_)
  have hP : va_P D vwCl [(g0, .inr (1, [.ref g1, .null, .int 0, .int 0, .int 0, .int 0, .null, .null, .null, .int 0, .null])), (g1, .inl (cA, 80, .inr (.inl (fun _ => 0)))), (g2, .inl (cB, 20, .inl (fun _ => 0)))] H := hP
  have hD : va_D A [(g0, .inr (1, [.ref g1, .null, .int 0, .int 0, .int 0, .int 0, .null, .null, .null, .int 0, .null])), (g1, .inl (cA, 80, .inr (.inl (fun _ => 0)))), (g2, .inl (cB, 20, .inl (fun _ => 0)))] := hD
  have hK : va_K D vwCl [(cA, .long), (cB, .int)] s := hK
  refine W.widen (k := 2) (n := 100) (Nat.le_of_ble_eq_true rfl) (Nat.le_of_ble_eq_true rfl) ?_
  refine va_putF (D := D) (ci := 1) (v := .ref g2) (ty := .array .int) (C := RX1) (T := TX1) (N := 11) hx hb hts (by decide +kernel) tyX1 tyX1_ok nmX1 hown hK hP hD hS 0 rfl rfl 1 (by decide) (hts (.fieldLink RX1 13 "FadeLedgerModel" "losses" "[I") (by decide +kernel)) (fun _ h9 => h9) rfl hin rfl (by decide +kernel) rfl rfl (Nat.le_of_ble_eq_true rfl) dX1_init_17 (fun H locs hP hD hS => ?_)
  have hP : va_P D vwCl [(g0, .inr (1, [.ref g1, .ref g2, .int 0, .int 0, .int 0, .int 0, .null, .null, .null, .int 0, .null])), (g1, .inl (cA, 80, .inr (.inl (fun _ => 0)))), (g2, .inl (cB, 20, .inl (fun _ => 0)))] H := hP
  have hD : va_D A [(g0, .inr (1, [.ref g1, .ref g2, .int 0, .int 0, .int 0, .int 0, .null, .null, .null, .int 0, .null])), (g1, .inl (cA, 80, .inr (.inl (fun _ => 0)))), (g2, .inl (cB, 20, .inl (fun _ => 0)))] := hD
  refine lv_aload_n hx hb dX1_init_20 rfl (lv_at hl 0 rfl) ?_
  refine lv_iconst (v := 1) hx hb dX1_init_21 (by decide) ?_
  refine va_put (D := D) (ci := 1) (v := .int 1) (ty := .boolean) (C := RX1) (T := TX1) (N := 11) hx hb hts (by decide +kernel) tyX1 tyX1_ok nmX1 hown hK hP hD hS 0 rfl rfl 2 (by decide) (hts (.fieldLink RX1 17 "FadeLedgerModel" "power" "Z") (by decide +kernel)) (fun _ h9 => h9) rfl (by decide +kernel) rfl rfl (Nat.le_of_ble_eq_true rfl) dX1_init_22 (fun H locs hP hD hS => ?_)
  have hP : va_P D vwCl [(g0, .inr (1, [.ref g1, .ref g2, .int 1, .int 0, .int 0, .int 0, .null, .null, .null, .int 0, .null])), (g1, .inl (cA, 80, .inr (.inl (fun _ => 0)))), (g2, .inl (cB, 20, .inl (fun _ => 0)))] H := hP
  have hD : va_D A [(g0, .inr (1, [.ref g1, .ref g2, .int 1, .int 0, .int 0, .int 0, .null, .null, .null, .int 0, .null])), (g1, .inl (cA, 80, .inr (.inl (fun _ => 0)))), (g2, .inl (cB, 20, .inl (fun _ => 0)))] := hD
  refine lv_aload_n hx hb dX1_init_25 rfl (lv_at hl 0 rfl) ?_
  refine lv_iconst (v := (-1)) hx hb dX1_init_26 (by decide) ?_
  refine va_put (D := D) (ci := 1) (v := .int (-1)) (ty := .int) (C := RX1) (T := TX1) (N := 11) hx hb hts (by decide +kernel) tyX1 tyX1_ok nmX1 hown hK hP hD hS 0 rfl rfl 3 (by decide) (hts (.fieldLink RX1 21 "FadeLedgerModel" "left" "I") (by decide +kernel)) (fun _ h9 => h9) rfl (by decide +kernel) rfl rfl (Nat.le_of_ble_eq_true rfl) dX1_init_27 (fun H locs hP hD hS => ?_)
  have hP : va_P D vwCl [(g0, .inr (1, [.ref g1, .ref g2, .int 1, .int (-1), .int 0, .int 0, .null, .null, .null, .int 0, .null])), (g1, .inl (cA, 80, .inr (.inl (fun _ => 0)))), (g2, .inl (cB, 20, .inl (fun _ => 0)))] H := hP
  have hD : va_D A [(g0, .inr (1, [.ref g1, .ref g2, .int 1, .int (-1), .int 0, .int 0, .null, .null, .null, .int 0, .null])), (g1, .inl (cA, 80, .inr (.inl (fun _ => 0)))), (g2, .inl (cB, 20, .inl (fun _ => 0)))] := hD
  refine lv_aload_n hx hb dX1_init_30 rfl (lv_at hl 0 rfl) ?_
  refine lv_sipush (v := 256) hx hb dX1_init_31 (by decide) ?_
  refine va_newa (atype := .int) (a0 := (256, .inl (fun _ => 0))) (ty := .int) hx hb (hts (.arrayClass .int) (by decide +kernel)) rfl hK hP hD hS hA (fun q9 => na_i q9 256) (by decide) (by decide) (by decide) (Nat.le_of_ble_eq_true rfl) (Nat.le_of_ble_eq_true rfl) dX1_init_34 (fun g3 c3 H hK hP hD hS => ?_)
  have hP : va_P D vwCl [(g0, .inr (1, [.ref g1, .ref g2, .int 1, .int (-1), .int 0, .int 0, .null, .null, .null, .int 0, .null])), (g1, .inl (cA, 80, .inr (.inl (fun _ => 0)))), (g2, .inl (cB, 20, .inl (fun _ => 0))), (g3, .inl (c3, 256, .inl (fun _ => 0)))] H := hP
  have hD : va_D A [(g0, .inr (1, [.ref g1, .ref g2, .int 1, .int (-1), .int 0, .int 0, .null, .null, .null, .int 0, .null])), (g1, .inl (cA, 80, .inr (.inl (fun _ => 0)))), (g2, .inl (cB, 20, .inl (fun _ => 0))), (g3, .inl (c3, 256, .inl (fun _ => 0)))] := hD
  have hK : va_K D vwCl [(cA, .long), (cB, .int), (c3, .int)] s := hK
  refine W.widen (k := 3) (n := 356) (Nat.le_of_ble_eq_true rfl) (Nat.le_of_ble_eq_true rfl) ?_
  refine va_putF (D := D) (ci := 1) (v := .ref g3) (ty := .array .int) (C := RX1) (T := TX1) (N := 11) hx hb hts (by decide +kernel) tyX1 tyX1_ok nmX1 hown hK hP hD hS 0 rfl rfl 6 (by decide) (hts (.fieldLink RX1 25 "FadeLedgerModel" "kinds" "[I") (by decide +kernel)) (fun _ h9 => h9) rfl hin rfl (by decide +kernel) rfl rfl (Nat.le_of_ble_eq_true rfl) dX1_init_36 (fun H locs hP hD hS => ?_)
  have hP : va_P D vwCl [(g0, .inr (1, [.ref g1, .ref g2, .int 1, .int (-1), .int 0, .int 0, .ref g3, .null, .null, .int 0, .null])), (g1, .inl (cA, 80, .inr (.inl (fun _ => 0)))), (g2, .inl (cB, 20, .inl (fun _ => 0))), (g3, .inl (c3, 256, .inl (fun _ => 0)))] H := hP
  have hD : va_D A [(g0, .inr (1, [.ref g1, .ref g2, .int 1, .int (-1), .int 0, .int 0, .ref g3, .null, .null, .int 0, .null])), (g1, .inl (cA, 80, .inr (.inl (fun _ => 0)))), (g2, .inl (cB, 20, .inl (fun _ => 0))), (g3, .inl (c3, 256, .inl (fun _ => 0)))] := hD
  refine lv_aload_n hx hb dX1_init_39 rfl (lv_at hl 0 rfl) ?_
  refine lv_sipush (v := 256) hx hb dX1_init_40 (by decide) ?_
  refine va_newa (atype := .int) (a0 := (256, .inl (fun _ => 0))) (ty := .int) hx hb (hts (.arrayClass .int) (by decide +kernel)) rfl hK hP hD hS hA (fun q9 => na_i q9 256) (by decide) (by decide) (by decide) (Nat.le_of_ble_eq_true rfl) (Nat.le_of_ble_eq_true rfl) dX1_init_43 (fun g4 c4 H hK hP hD hS => ?_)
  have hP : va_P D vwCl [(g0, .inr (1, [.ref g1, .ref g2, .int 1, .int (-1), .int 0, .int 0, .ref g3, .null, .null, .int 0, .null])), (g1, .inl (cA, 80, .inr (.inl (fun _ => 0)))), (g2, .inl (cB, 20, .inl (fun _ => 0))), (g3, .inl (c3, 256, .inl (fun _ => 0))), (g4, .inl (c4, 256, .inl (fun _ => 0)))] H := hP
  have hD : va_D A [(g0, .inr (1, [.ref g1, .ref g2, .int 1, .int (-1), .int 0, .int 0, .ref g3, .null, .null, .int 0, .null])), (g1, .inl (cA, 80, .inr (.inl (fun _ => 0)))), (g2, .inl (cB, 20, .inl (fun _ => 0))), (g3, .inl (c3, 256, .inl (fun _ => 0))), (g4, .inl (c4, 256, .inl (fun _ => 0)))] := hD
  have hK : va_K D vwCl [(cA, .long), (cB, .int), (c3, .int), (c4, .int)] s := hK
  refine W.widen (k := 4) (n := 612) (Nat.le_of_ble_eq_true rfl) (Nat.le_of_ble_eq_true rfl) ?_
  refine va_putF (D := D) (ci := 1) (v := .ref g4) (ty := .array .int) (C := RX1) (T := TX1) (N := 11) hx hb hts (by decide +kernel) tyX1 tyX1_ok nmX1 hown hK hP hD hS 0 rfl rfl 7 (by decide) (hts (.fieldLink RX1 28 "FadeLedgerModel" "places" "[I") (by decide +kernel)) (fun _ h9 => h9) rfl hin rfl (by decide +kernel) rfl rfl (Nat.le_of_ble_eq_true rfl) dX1_init_45 (fun H locs hP hD hS => ?_)
  have hP : va_P D vwCl [(g0, .inr (1, [.ref g1, .ref g2, .int 1, .int (-1), .int 0, .int 0, .ref g3, .ref g4, .null, .int 0, .null])), (g1, .inl (cA, 80, .inr (.inl (fun _ => 0)))), (g2, .inl (cB, 20, .inl (fun _ => 0))), (g3, .inl (c3, 256, .inl (fun _ => 0))), (g4, .inl (c4, 256, .inl (fun _ => 0)))] H := hP
  have hD : va_D A [(g0, .inr (1, [.ref g1, .ref g2, .int 1, .int (-1), .int 0, .int 0, .ref g3, .ref g4, .null, .int 0, .null])), (g1, .inl (cA, 80, .inr (.inl (fun _ => 0)))), (g2, .inl (cB, 20, .inl (fun _ => 0))), (g3, .inl (c3, 256, .inl (fun _ => 0))), (g4, .inl (c4, 256, .inl (fun _ => 0)))] := hD
  refine lv_aload_n hx hb dX1_init_48 rfl (lv_at hl 0 rfl) ?_
  refine lv_sipush (v := 256) hx hb dX1_init_49 (by decide) ?_
  refine va_newa (atype := .long) (a0 := (256, .inr (.inl (fun _ => 0)))) (ty := .long) hx hb (hts (.arrayClass .long) (by decide +kernel)) rfl hK hP hD hS hA (fun q9 => na_l q9 256) (by decide) (by decide) (by decide) (Nat.le_of_ble_eq_true rfl) (Nat.le_of_ble_eq_true rfl) dX1_init_52 (fun g5 c5 H hK hP hD hS => ?_)
  have hP : va_P D vwCl [(g0, .inr (1, [.ref g1, .ref g2, .int 1, .int (-1), .int 0, .int 0, .ref g3, .ref g4, .null, .int 0, .null])), (g1, .inl (cA, 80, .inr (.inl (fun _ => 0)))), (g2, .inl (cB, 20, .inl (fun _ => 0))), (g3, .inl (c3, 256, .inl (fun _ => 0))), (g4, .inl (c4, 256, .inl (fun _ => 0))), (g5, .inl (c5, 256, .inr (.inl (fun _ => 0))))] H := hP
  have hD : va_D A [(g0, .inr (1, [.ref g1, .ref g2, .int 1, .int (-1), .int 0, .int 0, .ref g3, .ref g4, .null, .int 0, .null])), (g1, .inl (cA, 80, .inr (.inl (fun _ => 0)))), (g2, .inl (cB, 20, .inl (fun _ => 0))), (g3, .inl (c3, 256, .inl (fun _ => 0))), (g4, .inl (c4, 256, .inl (fun _ => 0))), (g5, .inl (c5, 256, .inr (.inl (fun _ => 0))))] := hD
  have hK : va_K D vwCl [(cA, .long), (cB, .int), (c3, .int), (c4, .int), (c5, .long)] s := hK
  refine W.widen (k := 5) (n := 868) (Nat.le_of_ble_eq_true rfl) (Nat.le_of_ble_eq_true rfl) ?_
  refine va_putF (D := D) (ci := 1) (v := .ref g5) (ty := .array .long) (C := RX1) (T := TX1) (N := 11) hx hb hts (by decide +kernel) tyX1 tyX1_ok nmX1 hown hK hP hD hS 0 rfl rfl 8 (by decide) (hts (.fieldLink RX1 31 "FadeLedgerModel" "puts" "[J") (by decide +kernel)) (fun _ h9 => h9) rfl hin rfl (by decide +kernel) rfl rfl (Nat.le_of_ble_eq_true rfl) dX1_init_54 (fun H locs hP hD hS => ?_)
  have hP : va_P D vwCl [(g0, .inr (1, [.ref g1, .ref g2, .int 1, .int (-1), .int 0, .int 0, .ref g3, .ref g4, .ref g5, .int 0, .null])), (g1, .inl (cA, 80, .inr (.inl (fun _ => 0)))), (g2, .inl (cB, 20, .inl (fun _ => 0))), (g3, .inl (c3, 256, .inl (fun _ => 0))), (g4, .inl (c4, 256, .inl (fun _ => 0))), (g5, .inl (c5, 256, .inr (.inl (fun _ => 0))))] H := hP
  have hD : va_D A [(g0, .inr (1, [.ref g1, .ref g2, .int 1, .int (-1), .int 0, .int 0, .ref g3, .ref g4, .ref g5, .int 0, .null])), (g1, .inl (cA, 80, .inr (.inl (fun _ => 0)))), (g2, .inl (cB, 20, .inl (fun _ => 0))), (g3, .inl (c3, 256, .inl (fun _ => 0))), (g4, .inl (c4, 256, .inl (fun _ => 0))), (g5, .inl (c5, 256, .inr (.inl (fun _ => 0))))] := hD
  refine lv_aload_n hx hb dX1_init_57 rfl (lv_at hl 0 rfl) ?_
  refine lv_bipush (v := 20) hx hb dX1_init_58 (by decide) ?_
  refine va_newa (atype := .long) (a0 := (20, .inr (.inl (fun _ => 0)))) (ty := .long) hx hb (hts (.arrayClass .long) (by decide +kernel)) rfl hK hP hD hS hA (fun q9 => na_l q9 20) (by decide) (by decide) (by decide) (Nat.le_of_ble_eq_true rfl) (Nat.le_of_ble_eq_true rfl) dX1_init_60 (fun g6 c6 H hK hP hD hS => ?_)
  have hP : va_P D vwCl [(g0, .inr (1, [.ref g1, .ref g2, .int 1, .int (-1), .int 0, .int 0, .ref g3, .ref g4, .ref g5, .int 0, .null])), (g1, .inl (cA, 80, .inr (.inl (fun _ => 0)))), (g2, .inl (cB, 20, .inl (fun _ => 0))), (g3, .inl (c3, 256, .inl (fun _ => 0))), (g4, .inl (c4, 256, .inl (fun _ => 0))), (g5, .inl (c5, 256, .inr (.inl (fun _ => 0)))), (g6, .inl (c6, 20, .inr (.inl (fun _ => 0))))] H := hP
  have hD : va_D A [(g0, .inr (1, [.ref g1, .ref g2, .int 1, .int (-1), .int 0, .int 0, .ref g3, .ref g4, .ref g5, .int 0, .null])), (g1, .inl (cA, 80, .inr (.inl (fun _ => 0)))), (g2, .inl (cB, 20, .inl (fun _ => 0))), (g3, .inl (c3, 256, .inl (fun _ => 0))), (g4, .inl (c4, 256, .inl (fun _ => 0))), (g5, .inl (c5, 256, .inr (.inl (fun _ => 0)))), (g6, .inl (c6, 20, .inr (.inl (fun _ => 0))))] := hD
  have hK : va_K D vwCl [(cA, .long), (cB, .int), (c3, .int), (c4, .int), (c5, .long), (c6, .long)] s := hK
  refine W.widen (k := 6) (n := 888) (Nat.le_of_ble_eq_true rfl) (Nat.le_of_ble_eq_true rfl) ?_
  refine va_putF (D := D) (ci := 1) (v := .ref g6) (ty := .array .long) (C := RX1) (T := TX1) (N := 11) hx hb hts (by decide +kernel) tyX1 tyX1_ok nmX1 hown hK hP hD hS 0 rfl rfl 10 (by decide) (hts (.fieldLink RX1 34 "FadeLedgerModel" "bests" "[J") (by decide +kernel)) (fun _ h9 => h9) rfl hin rfl (by decide +kernel) rfl rfl (Nat.le_of_ble_eq_true rfl) dX1_init_62 (fun H locs hP hD hS => ?_)
  have hP : va_P D vwCl [(g0, .inr (1, [.ref g1, .ref g2, .int 1, .int (-1), .int 0, .int 0, .ref g3, .ref g4, .ref g5, .int 0, .ref g6])), (g1, .inl (cA, 80, .inr (.inl (fun _ => 0)))), (g2, .inl (cB, 20, .inl (fun _ => 0))), (g3, .inl (c3, 256, .inl (fun _ => 0))), (g4, .inl (c4, 256, .inl (fun _ => 0))), (g5, .inl (c5, 256, .inr (.inl (fun _ => 0)))), (g6, .inl (c6, 20, .inr (.inl (fun _ => 0))))] H := hP
  have hD : va_D A [(g0, .inr (1, [.ref g1, .ref g2, .int 1, .int (-1), .int 0, .int 0, .ref g3, .ref g4, .ref g5, .int 0, .ref g6])), (g1, .inl (cA, 80, .inr (.inl (fun _ => 0)))), (g2, .inl (cB, 20, .inl (fun _ => 0))), (g3, .inl (c3, 256, .inl (fun _ => 0))), (g4, .inl (c4, 256, .inl (fun _ => 0))), (g5, .inl (c5, 256, .inr (.inl (fun _ => 0)))), (g6, .inl (c6, 20, .inr (.inl (fun _ => 0))))] := hD
  have u3 := K_sameI hK 1 2 rfl rfl
  have u4 := K_sameI hK 1 3 rfl rfl
  have u5 := K_same hK 0 4 rfl rfl
  have u6 := K_same hK 0 5 rfl rfl
  rw [u3, u4, u5, u6] at hP hD
  have hK : va_K D vwCl (FT cA cB) s := hK.sub [0, 1] rfl
  obtain ⟨w9, ew9⟩ : ∃ y9 : Int64, g_word 0 0 = y9 := ⟨_, rfl⟩
  have hP : va_P D vwCl (RWd g0 g1 g2 g3 g4 g5 g6 cA cB ((((FI w9 0), fun _ => 0, 1, -1, 0, 0), fun _ => 0, fun _ => 0, fun _ => 0, 0, fun _ => 0) : RS)) H := by rw [FI_0]; exact hP
  have hD : va_D A (RWd g0 g1 g2 g3 g4 g5 g6 cA cB ((((FI w9 0), fun _ => 0, 1, -1, 0, 0), fun _ => 0, fun _ => 0, fun _ => 0, 0, fun _ => 0) : RS)) := by rw [FI_0]; exact hD
  refine W.widen (k := 6) (n := 888) (Nat.le_of_ble_eq_true rfl) (Nat.le_of_ble_eq_true rfl) ?_
  have LOOP : ∀ (Q : State → Prop) (n i : Nat) (H : Heap) (locs : List Loc) (ls : Array Slot), i + n = 80 → va_P D vwCl (RWd g0 g1 g2 g3 g4 g5 g6 cA cB ((((FI w9 i), fun _ => 0, 1, -1, 0, 0), fun _ => 0, fun _ => 0, fun _ => 0, 0, fun _ => 0) : RS)) H → va_D A (RWd g0 g1 g2 g3 g4 g5 g6 cA cB ((((FI w9 i), fun _ => 0, 1, -1, 0, 0), fun _ => 0, fun _ => 0, fun _ => 0, 0, fun _ => 0) : RS)) → va_S A s.heap H locs → lv_has ls 2 [(0, .ref g0), (1, .int (nI i))] → (∀ (H : Heap) (locs : List Loc) (ls : Array Slot), va_P D vwCl (RWd g0 g1 g2 g3 g4 g5 g6 cA cB ((((FI w9 80), fun _ => 0, 1, -1, 0, 0), fun _ => 0, fun _ => 0, fun _ => 0, 0, fun _ => 0) : RS)) H → va_D A (RWd g0 g1 g2 g3 g4 g5 g6 cA cB ((((FI w9 80), fun _ => 0, 1, -1, 0, 0), fun _ => 0, fun _ => 0, fun _ => 0, 0, fun _ => 0) : RS)) → va_S A s.heap H locs → W p l e rmX1_init s m ([.ref g0] : List Value).toArray below meth c H locs 6 888 Q (F0 m 90 ls [])) → W p l e rmX1_init s m ([.ref g0] : List Value).toArray below meth c H locs 6 888 Q (F0 m 67 ls []) := by
    intro Q n
    induction n with
    | zero =>
      intro i H locs ls hin2 hP hD hS hl K
      have hi : i = 80 := by omega
      subst hi
      refine lv_iload_n hx hb dX1_init_67 rfl (lv_at hl 1 rfl) ?_
      refine lv_bipush (v := 80) hx hb dX1_init_68 (by decide) ?_
      refine lv_icmp_ge (tgt := 90) hx hb dX1_init_70 (by decide) (fun c1 => ?_) (fun c1 => ?_)
      · exact K _ _ _ hP hD hS
      · exact absurd (by decide) c1
    | succ n ih =>
      intro i H locs ls hin2 hP hD hS hl K
      have hi : i < 80 := by omega
      have hi1 : nI i + 1 = nI (i + 1) := nI_1 i
      have hcl : (nI i).toNatClampNeg = i := nI_clamp (by omega)
      refine lv_iload_n hx hb dX1_init_67 rfl (lv_at hl 1 rfl) ?_
      refine lv_bipush (v := 80) hx hb dX1_init_68 (by decide) ?_
      refine lv_icmp_ge (tgt := 90) hx hb dX1_init_70 (by decide) (fun c1 => ?_) (fun c1 => ?_)
      · exact absurd c1 (nI_ge hi (by decide))
      · refine lv_aload_n hx hb dX1_init_73 rfl (lv_at hl 0 rfl) ?_
        refine va_get (D := D) (ci := 1) (v := .ref g1) (C := RX1) (T := TX1) (N := 11) hx hb hts (by decide +kernel) hown hK hP 0 rfl rfl 0 (by decide) (hts (.fieldLink RX1 7 "FadeLedgerModel" "words" "[J") (by decide +kernel)) (fun _ h9 => h9) rfl dX1_init_74 ?_
        refine lv_iload_n hx hb dX1_init_77 rfl (lv_at hl 1 rfl) ?_
        refine lv_iconst (v := 0) hx hb dX1_init_78 (by decide) ?_
        refine lv_iconst (v := 0) hx hb dX1_init_79 (by decide) ?_
        refine cS_call (n := 2) (as := [.int 0, .int 0]) (rest := [.int (nI i), .ref g1]) ⟨hx, hb, hml, hown, hts⟩ (c_X1_wordOf l 0 0) gX1_init_X1_wordOf rfl rfl rfl (by decide +kernel) ⟨Nat.le_of_ble_eq_true rfl, Nat.le_of_ble_eq_true rfl⟩ hl.1 rfl rfl (Nat.le_of_ble_eq_true rfl) dX1_init_80 ⟨Nat.le_of_ble_eq_true rfl, Nat.le_of_ble_eq_true rfl⟩ ?_
        refine tpl (fun v2 e2 => ?_)
        refine va_last hx hb hK hP hD hS 1 0 rfl rfl (vp_in_nI hi (by decide)) dX1_init_83 (fun H locs hP hD hS => ?_)
        obtain ⟨s3, t3⟩ : ∃ y9 : RS, ((((vp_updL ((((FI w9 i), fun _ => 0, 1, -1, 0, 0), fun _ => 0, fun _ => 0, fun _ => 0, 0, fun _ => 0) : RS).1.1 (nI i).toNatClampNeg v2), ((((FI w9 i), fun _ => 0, 1, -1, 0, 0), fun _ => 0, fun _ => 0, fun _ => 0, 0, fun _ => 0) : RS).1.2.1, ((((FI w9 i), fun _ => 0, 1, -1, 0, 0), fun _ => 0, fun _ => 0, fun _ => 0, 0, fun _ => 0) : RS).1.2.2.1, ((((FI w9 i), fun _ => 0, 1, -1, 0, 0), fun _ => 0, fun _ => 0, fun _ => 0, 0, fun _ => 0) : RS).1.2.2.2.1, ((((FI w9 i), fun _ => 0, 1, -1, 0, 0), fun _ => 0, fun _ => 0, fun _ => 0, 0, fun _ => 0) : RS).1.2.2.2.2.1, ((((FI w9 i), fun _ => 0, 1, -1, 0, 0), fun _ => 0, fun _ => 0, fun _ => 0, 0, fun _ => 0) : RS).1.2.2.2.2.2), ((((FI w9 i), fun _ => 0, 1, -1, 0, 0), fun _ => 0, fun _ => 0, fun _ => 0, 0, fun _ => 0) : RS).2) : RS) = y9 := ⟨_, rfl⟩
        replace hP : va_P D vwCl (RWd g0 g1 g2 g3 g4 g5 g6 cA cB s3) H := by rw [← t3]; exact hP
        replace hD : va_D A (RWd g0 g1 g2 g3 g4 g5 g6 cA cB s3) := by rw [← t3]; exact hD
        refine lv_iinc (v := (nI (i + 1))) (lv' := [(1, .int (nI (i + 1))), (0, .ref g0)]) hx hb dX1_init_84 hl (k := 1) rfl (by rw [← hi1]; rfl) (by decide) rfl (fun ls hl => ?_)
        refine lv_goto (tgt := 67) hx hb dX1_init_87 (by decide) ?_
        have hw : s3 = ((((FI w9 (i + 1)), fun _ => 0, 1, -1, 0, 0), fun _ => 0, fun _ => 0, fun _ => 0, 0, fun _ => 0) : RS) := by subst e2; subst t3; dsimp only; rw [hcl, ew9, FI_S]
        rw [hw] at hP hD
        exact ih (i + 1) _ _ _ (by omega) hP hD hS (lv_sub hl [1, 0] rfl) K
  refine lv_iconst (v := 0) hx hb dX1_init_65 (by decide) ?_
  refine lv_istore_n (lv' := [(1, .int 0), (0, .ref g0)]) hx hb dX1_init_66 rfl hl (by decide) rfl (fun ls hl => ?_)
  refine LOOP _ 80 0 _ _ _ (by decide) hP hD hS (by rw [nI_0]; exact lv_sub hl [1, 0] rfl) (fun H locs ls hP hD hS => ?_)
  subst ew9
  have hP : va_P D vwCl (RWd g0 g1 g2 g3 g4 g5 g6 cA cB st01) H := by unfold st01; exact hP
  have hD : va_D A (RWd g0 g1 g2 g3 g4 g5 g6 cA cB st01) := by unfold st01; exact hD
  exact W.vret hx hb hr (fun t ht hW => ⟨⟨(), rfl, trivial, g1, g2, g3, g4, g5, g6, cA, cB, by rw [ht]; exact hP, va_K.moved hW.alike hK, hD⟩, hS.F ht⟩) hS.2.2 dX1_init_90
