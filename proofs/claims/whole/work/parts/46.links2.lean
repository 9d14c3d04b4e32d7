theorem ml_Wa_37 : Cond.methodLink "LassoDesk$Walk" 37 y_La_dutyFrom ∈ lw_tbl := q_tb 485 (by decide +kernel)
theorem ml_Wa_41 : Cond.methodLink "LassoDesk$Walk" 41 y_La_nextFrom ∈ lw_tbl := q_tb 489 (by decide +kernel)
