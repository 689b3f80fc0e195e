theorem fold_congr {L L' : Int → Int32} {c : List Int} (h : ∀ e ∈ c, isl (-e) → L (-e) = L' (-e)) : ∀ st : List Int32, c.foldl (ws L) st = c.foldl (ws L') st := by
  induction c with
  | nil => exact fun _ => rfl
  | cons e c ih =>
    intro st
    rw [List.foldl_cons, List.foldl_cons]
    have e1 : ws L st e = ws L' st e := by
      unfold ws
      by_cases q : isl (-e)
      · rw [h e (List.mem_cons_self ..) q]
      · rw [if_neg q, if_neg q]
    rw [e1]; exact ih (fun e' he => h e' (List.mem_cons_of_mem _ he)) _
theorem wgh_congr {L L' : Int → Int32} {c : List Int} (h : ∀ e ∈ c, isl (-e) → L (-e) = L' (-e)) : WGH L c = WGH L' c := by
  unfold WGH; rw [fold_congr h]
