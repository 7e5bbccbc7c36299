set_option maxRecDepth 20000 in
theorem wsL_law_in0_9 : ∀ w ∈ wsL_law0_r9, w ∈ lw_tbl := fun w h => (goodIn_p wsL_law0_r9 [364, 368, 372, 381, 375, 378] (by decide +kernel) (by decide +kernel) w h).1
def wsL_law0_r10_a : List Cond := [Cond.selects RX1 yX1_clearanceOf yX1_clearanceOf, Cond.code yX1_clearanceOf cX1_clearanceOf 3 (some .int), Cond.methodLink RL 117 yL_inspect, Cond.static yL_inspect, Cond.codeWith yL_inspect cL_inspect 3 (some .int) [(0, 13, 14, 13), (0, 13, 18, 19)], Cond.methodLink RL 52 yX1_inspect, Cond.instanceMethod yX1_inspect, Cond.selects RX1 yX1_inspect yX1_inspect, Cond.code yX1_inspect cX1_inspect 2 (some .boolean), Cond.methodLink RX1 149 yX1_isFinished, Cond.instanceMethod yX1_isFinished, Cond.selects RX1 yX1_isFinished yX1_isFinished, Cond.code yX1_isFinished cX1_isFinished 5 (some .boolean), Cond.methodLink RL 119 yL_pass, Cond.static yL_pass, Cond.codeWith yL_pass cL_pass 3 (some .int) [(0, 5, 6, 16), (0, 5, 10, 19)], Cond.methodLink RL 55 yX1_pass, Cond.instanceMethod yX1_pass, Cond.selects RX1 yX1_pass yX1_pass, Cond.code yX1_pass cX1_pass 4 (some .int), Cond.methodLink RL 152 yL_refuses, Cond.static yL_refuses]
set_option maxRecDepth 20000 in
theorem wsL_law0_r10_a_in : ∀ w ∈ wsL_law0_r10_a, w ∈ lw_tbl := fun w h => (goodIn_p wsL_law0_r10_a [385, 392, 397, 404] (by decide +kernel) (by decide +kernel) w h).1
def wsL_law0_r10_c : List Cond := [Cond.methodLink RL 121 yL_elementOf]
set_option maxRecDepth 20000 in
theorem wsL_law0_r10_c_in : ∀ w ∈ wsL_law0_r10_c, w ∈ lw_tbl := fun w h => (goodIn_p wsL_law0_r10_c [] (by decide +kernel) (by decide +kernel) w h).1
set_option maxRecDepth 20000 in
theorem wsL_law0_r10_b : Cond.code yL_refuses cL_refuses 12 (some .boolean) ∈ lw_tbl := List.mem_of_getElem? (i := 67) rfl
theorem wsL_law_in0_10 : ∀ w ∈ wsL_law0_r10, w ∈ lw_tbl := by
  intro w h
  have h : w ∈ wsL_law0_r10_a ++ [Cond.code yL_refuses cL_refuses 12 (some .boolean)] ++ wsL_law0_r10_c := h
  exact (List.mem_append.mp h).elim (fun h => (List.mem_append.mp h).elim (fun h => wsL_law0_r10_a_in w h) (fun h => (List.mem_singleton.mp h) ▸ wsL_law0_r10_b)) (fun h => wsL_law0_r10_c_in w h)
set_option maxRecDepth 20000 in
theorem wsL_law_in0_11 : ∀ w ∈ wsL_law0_r11, w ∈ lw_tbl := fun w h => (goodIn_p wsL_law0_r11 [412, 420, 427] (by decide +kernel) (by decide +kernel) w h).1
set_option maxRecDepth 20000 in
theorem wsL_law_in0_12 : ∀ w ∈ wsL_law0_r12, w ∈ lw_tbl := fun w h => (goodIn_p wsL_law0_r12 [431, 435, 442, 449] (by decide +kernel) (by decide +kernel) w h).1
