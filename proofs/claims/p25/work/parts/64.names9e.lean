set_option maxRecDepth 20000 in
theorem ggL_law_L_acts_p21 : GoodIn wsL_law wsX40 := goodIn_r _ [537, 538, 539, 540, 541, 542, 543, 544, 545, 546, 547] (by decide +kernel) (by decide +kernel)
set_option maxRecDepth 20000 in
theorem ggL_law_L_acts_p22 : GoodIn wsL_law wsX00 := goodIn_r _ [524, 525] (by decide +kernel) (by decide +kernel)
set_option maxRecDepth 20000 in
theorem ggL_law_L_acts_p23 : GoodIn wsL_law wsX50 := goodIn_r _ [526, 527, 528, 529, 530] (by decide +kernel) (by decide +kernel)
set_option maxRecDepth 20000 in
theorem ggL_law_L_acts_p24 : GoodIn wsL_law wsX30 := goodIn_r _ [531, 532, 533, 534, 535, 536] (by decide +kernel) (by decide +kernel)
theorem ggL_law_L_acts : GoodIn wsL_law wsL_acts := goodIn_app (a := [Cond.code yL_acts cL_acts 14 (some .boolean)]) ggL_law_L_acts_p0 (goodIn_app (goodIn_app (goodIn_app (goodIn_app (goodIn_app (goodIn_app (goodIn_app (goodIn_app ggL_law_L_acts_p1 (goodIn_app ggL_law_L_acts_p2 (goodIn_app ggL_law_L_acts_p3 (goodIn_app ggL_law_L_acts_p4 (goodIn_app ggL_law_L_acts_p5 (goodIn_app ggL_law_L_acts_p6 (goodIn_app ggL_law_L_acts_p7 (goodIn_app ggL_law_L_acts_p8 (goodIn_app ggL_law_L_acts_p9 (goodIn_app ggL_law_L_acts_p10 (goodIn_app ggL_law_L_acts_p11 (goodIn_app ggL_law_L_acts_p12 (goodIn_app ggL_law_L_acts_p13 (goodIn_app ggL_law_L_acts_p14 (goodIn_app ggL_law_L_acts_p15 (goodIn_app ggL_law_L_acts_p16 ggL_law_L_acts_p17)))))))))))))))) ggL_law_L_acts_p18) ggL_law_L_acts_p19) ggL_law_L_acts_p20) ggL_law_L_acts_p21) ggL_law_L_acts_p22) ggL_law_L_acts_p23) ggL_law_L_acts_p24)
set_option maxRecDepth 20000 in
theorem gL_law_L_acts : GoodIn wsL_law (va_wsS RL 113 yL_acts wsL_acts) := goodIn_app (goodIn_of _ (by decide +kernel)) ggL_law_L_acts
set_option maxRecDepth 20000 in
theorem ggL_law_L_low : GoodIn wsL_law wsL_low := goodIn_r _ [353, 354] (by decide +kernel) (by decide +kernel)
set_option maxRecDepth 20000 in
theorem gL_law_L_low : GoodIn wsL_law (va_wsS RL 41 yL_low wsL_low) := goodIn_app (goodIn_of _ (by decide +kernel)) ggL_law_L_low
