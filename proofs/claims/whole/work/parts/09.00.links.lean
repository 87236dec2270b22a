set_option maxRecDepth 100000 in
theorem gT_L_at : GoodIn lw_tbl (va_wsS RL 157 yL_at wsL_at) := goodIn_of _ (by decide +kernel)
set_option maxRecDepth 100000 in
theorem gT_L_canPlan : GoodIn lw_tbl (va_wsS RL 221 yL_canPlan wsL_canPlan) := goodIn_of _ (by decide +kernel)
set_option maxRecDepth 100000 in
theorem gT_L_card : GoodIn lw_tbl (va_wsS RL 140 yL_card wsL_card) := goodIn_of _ (by decide +kernel)
set_option maxRecDepth 100000 in
theorem gT_L_colour : GoodIn lw_tbl (va_wsS RL 182 yL_colour wsL_colour) := goodIn_of _ (by decide +kernel)
set_option maxRecDepth 100000 in
theorem gT_L_draw : GoodIn lw_tbl (va_wsS RL 192 yL_draw wsL_draw) := goodIn_of _ (by decide +kernel)
set_option maxRecDepth 100000 in
theorem gT_L_faultsOf : GoodIn lw_tbl (va_wsS RL 239 yL_faultsOf wsL_faultsOf) := goodIn_of _ (by decide +kernel)
set_option maxRecDepth 100000 in
theorem gT_L_firstFault : GoodIn lw_tbl (va_wsS RL 242 yL_firstFault wsL_firstFault) := goodIn_of _ (by decide +kernel)
set_option maxRecDepth 100000 in
theorem gT_L_hand : GoodIn lw_tbl (va_wsS RL 262 yL_hand wsL_hand) := goodIn_of _ (by decide +kernel)
