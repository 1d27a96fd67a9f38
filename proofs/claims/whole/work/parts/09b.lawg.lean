set_option maxRecDepth 20000 in
theorem gL_law_X1_placeOf : GoodIn lw_tbl (wsV RL 42 RX1 yX1_placeOf wsX1_placeOf) := goodIn_sub (by decide +kernel) (by decide +kernel)
set_option maxRecDepth 20000 in
theorem gL_law_X1_kind : GoodIn lw_tbl (wsV RL 46 RX1 yX1_kind wsX1_kind) := goodIn_sub (by decide +kernel) (by decide +kernel)
set_option maxRecDepth 20000 in
theorem gL_law_X1_run : GoodIn lw_tbl (wsV RL 51 RX1 yX1_run wsX1_run) := goodIn_sub (by decide +kernel) (by decide +kernel)
set_option maxRecDepth 20000 in
theorem gL_law_X1_compare : GoodIn lw_tbl (wsV RL 56 RX1 yX1_compare wsX1_compare) := goodIn_sub (by decide +kernel) (by decide +kernel)
set_option maxRecDepth 20000 in
theorem gL_law_X1_bytes : GoodIn lw_tbl (wsV RL 61 RX1 yX1_bytes wsX1_bytes) := goodIn_sub (by decide +kernel) (by decide +kernel)
