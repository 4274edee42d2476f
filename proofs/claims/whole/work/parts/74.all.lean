/-! all calls -/
theorem all_eq : AllEq Inv SXc SMc := ⟨eq_prisoner, eq_visitor, eq_isOf, eq_list, eq_order, eq_lift, eq_rivals, eq_move, eq_told, eq_feed, eq_trim, eq_right, eq_of, eq_ask, eq_why, eq_giveBack, eq_visit, eq_rule, eq_days, eq_hall, eq_comes, eq_sheet, eq_mark, eq_copy, eq_lose, eq_count⟩
