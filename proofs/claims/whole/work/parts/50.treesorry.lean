theorem mm_tree {c : CS} {r : RS} (hB : RB c r) (hI : IV r) : ∃ v c' r', f_X2_tree c = some (v, c') ∧ f_X3_tree r = some (v, r') ∧ RB c' r' ∧ IV r' ∧ ∃ m, m ≤ 200 ∧ R_wr r' = R_wr r + nI m := sorry
