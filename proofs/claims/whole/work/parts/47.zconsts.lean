theorem lc_Mo_188 : Cond.constant "LassoDeskModel" 188 100000 ∈ lw_tbl := q_tb 895 (by decide +kernel)
