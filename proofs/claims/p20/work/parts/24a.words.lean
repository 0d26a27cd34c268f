/-! words by appending: no list is compared -/
theorem gw_app {a b : List Cond} (ha : a.all goodWord = true) (hb : b.all goodWord = true) : (a ++ b).all goodWord = true := by
  rw [List.all_append, ha, hb]; rfl
theorem gw_mk {c : Cond} {own cal : List Cond} (h1 : (c :: own).all goodWord = true) (h2 : cal.all goodWord = true) : (c :: (own ++ cal)).all goodWord = true := by
  rw [List.all_cons] at h1 ⊢
  rw [List.all_append, h2, Bool.and_true]
  exact h1
theorem gw_in {big ws pre : List Cond} (h0 : pre.all (fun w => decide (w ∈ big) && goodWord w) = true) (h1 : ∀ w ∈ ws, w ∈ big) (h2 : ws.all goodWord = true) : GoodIn big (pre ++ ws) :=
  goodIn_app (goodIn_of pre h0) (fun w hw => ⟨h1 w hw, good_of_word (List.all_eq_true.mp h2 w hw)⟩)
theorem gw_in0 {big ws : List Cond} (h1 : ∀ w ∈ ws, w ∈ big) (h2 : ws.all goodWord = true) : GoodIn big ws := fun w hw => ⟨h1 w hw, good_of_word (List.all_eq_true.mp h2 w hw)⟩
