theorem swapP {D : va_G} {cl : List vw_C} {a b c : va_W} {H : Heap} (h : va_P D cl ((a ++ b) ++ c) H) : va_P D cl ((a ++ c) ++ b) H := ((app_l (app_l h)).app (app_r h)).app (app_r (app_l h))
theorem swapD {A : Nat → Prop} {a b c : va_W} (h : va_D A ((a ++ b) ++ c)) : va_D A ((a ++ c) ++ b) := by
  refine ((appD_l (appD_l h)).app (appD_r h) (fun i j p q hi hj e => ?_)).app (appD_r (appD_l h)) (fun i j p q hi hj e => ?_)
  · exact appD_x h (w := a ++ b) (i := i) (by rw [List.getElem?_append_left (List.getElem?_eq_some_iff.mp hi).1]; exact hi) hj e
  · by_cases hl : i < a.length
    · rw [List.getElem?_append_left hl] at hi
      exact appD_x (appD_l h) hi hj e
    · rw [List.getElem?_append_right (by omega)] at hi
      exact appD_x h (w := a ++ b) (la_get hj) hi e.symm
theorem gL_law_X5_m : (Cond.methodLink RL 98 yX5_init) ∈ wsL_law := by unfold wsL_law; simp only [List.mem_append]; exact Or.inl (Or.inl (Or.inl (by decide +kernel)))
theorem gL_law_X5_i : (Cond.instanceMethod yX5_init) ∈ wsL_law := by unfold wsL_law; simp only [List.mem_append]; exact Or.inl (Or.inl (Or.inl (by decide +kernel)))
