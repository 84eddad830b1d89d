/-! rows for the reference's loop over its plan -/
theorem drop_at {α : Type} {L : List α} {i : Nat} {q : α} (h : L[i]? = some q) : L.drop i = q :: L.drop (i + 1) := by
  obtain ⟨hi, hq⟩ := List.getElem?_eq_some_iff.mp h
  rw [List.drop_eq_getElem_cons hi, hq]
theorem mod_in {x : Int32} (h : vp_in x 80) : vp_in (x - x / 20 * 20) 20 := by
  obtain ⟨j, hj, rfl⟩ := vp_in_of h (by decide)
  rw [show (20 : Int32) = nI 20 from rfl, pk_rem (by omega) (by decide) (by decide)]
  exact vp_in_nI (by omega) (by decide)
