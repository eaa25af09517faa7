def dq : Cond → Bool
  | .code _ _ n _ => decide (9 ≤ n)
  | _ => false
theorem goodIn_q {big : List Cond} (ws : List Cond) (ps qs : List Nat) (hp : ws.filter (fun w => !dq w) = ps.filterMap (fun i => big[i]?)) (hq : ws.filter dq = qs.filterMap (fun i => big[i]?)) (h : ws.all goodWord = true) : GoodIn big ws := by
  intro w hw
  have h1 := List.all_eq_true.mp h w hw
  refine ⟨?_, good_of_word h1⟩
  by_cases c : dq w = true
  · have h2 : w ∈ ws.filter dq := List.mem_filter.mpr ⟨hw, c⟩
    rw [hq] at h2
    obtain ⟨i, -, hi⟩ := List.mem_filterMap.mp h2
    exact List.mem_of_getElem? hi
  · have h2 : w ∈ ws.filter (fun w => !dq w) := List.mem_filter.mpr ⟨hw, by simp [c]⟩
    rw [hp] at h2
    obtain ⟨i, -, hi⟩ := List.mem_filterMap.mp h2
    exact List.mem_of_getElem? hi
theorem mem_pq {big : List Cond} (ws : List Cond) (ps qs : List Nat) (hp : ws.filter (fun w => k2_isCode w && !dq w) = ps.filterMap (fun i => big[i]?)) (hq : ws.filter dq = qs.filterMap (fun i => big[i]?)) (h : (ws.filter (fun w => !k2_isCode w)).all (fun w => decide (w ∈ big)) = true) : ∀ w ∈ ws, w ∈ big := by
  intro w hw
  by_cases c : dq w = true
  · have h2 : w ∈ ws.filter dq := List.mem_filter.mpr ⟨hw, c⟩
    rw [hq] at h2
    obtain ⟨i, -, hi⟩ := List.mem_filterMap.mp h2
    exact List.mem_of_getElem? hi
  · by_cases k : k2_isCode w = true
    · have h2 : w ∈ ws.filter (fun w => k2_isCode w && !dq w) := List.mem_filter.mpr ⟨hw, by simp [c, k]⟩
      rw [hp] at h2
      obtain ⟨i, -, hi⟩ := List.mem_filterMap.mp h2
      exact List.mem_of_getElem? hi
    · have h2 : w ∈ ws.filter (fun w => !k2_isCode w) := List.mem_filter.mpr ⟨hw, by simp [k]⟩
      exact of_decide_eq_true (List.all_eq_true.mp h w h2)

set_option maxRecDepth 20000 in
theorem in_wsL_law0_r1 : ∀ w ∈ wsL_law0_r1, w ∈ lw_tbl := fun w h => (goodIn_p wsL_law0_r1 [38, 41] (by decide +kernel) (by decide +kernel) w h).1
set_option maxRecDepth 20000 in
theorem in_wsL_law0_r2 : ∀ w ∈ wsL_law0_r2, w ∈ lw_tbl := fun w h => (goodIn_p wsL_law0_r2 [46, 74] (by decide +kernel) (by decide +kernel) w h).1
