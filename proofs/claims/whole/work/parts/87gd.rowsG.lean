/-! stub -/
theorem gL_law_X8_read : GoodIn wsL_law (wsV RL 264 RX8 yX8_read wsX8_read) := by sorry
theorem ggL_law_L_errorPosition : GoodIn wsL_law wsL_errorPosition := by sorry
theorem gL_law_L_errorPosition : GoodIn wsL_law (va_wsS RL 265 yL_errorPosition wsL_errorPosition) := by sorry
theorem ggL_law_X8_errorPosition : GoodIn wsL_law wsX8_errorPosition := by sorry
theorem gL_law_X8_errorPosition : GoodIn wsL_law (wsV RL 267 RX8 yX8_errorPosition wsX8_errorPosition) := by sorry
theorem ggL_law_L_undo : GoodIn wsL_law wsL_undo := by sorry
theorem gL_law_L_undo : GoodIn wsL_law (va_wsS RL 268 yL_undo wsL_undo) := by sorry
theorem ggL_law_X8_undo : GoodIn wsL_law wsX8_undo := by sorry
theorem gL_law_X8_undo : GoodIn wsL_law (wsV RL 270 RX8 yX8_undo wsX8_undo) := by sorry
theorem ggL_law_X7_save : GoodIn wsL_law wsX7_save := by sorry
theorem gL_law_X7_save : GoodIn wsL_law (wsV RL 271 RX7 yX7_save wsX7_save) := by sorry
theorem ggL_law_X8_save : GoodIn wsL_law wsX8_save := by sorry
theorem gL_law_X8_save : GoodIn wsL_law (wsV RL 274 RX8 yX8_save wsX8_save) := by sorry
theorem ggL_law_L_restore : GoodIn wsL_law wsL_restore := by sorry
theorem gL_law_L_restore : GoodIn wsL_law (va_wsS RL 275 yL_restore wsL_restore) := by sorry
theorem ggL_law_X8_restore : GoodIn wsL_law wsX8_restore := by sorry
theorem gL_law_X8_restore : GoodIn wsL_law (wsV RL 277 RX8 yX8_restore wsX8_restore) := by sorry
