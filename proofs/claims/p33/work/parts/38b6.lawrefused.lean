set_option maxRecDepth 20000 in
theorem ggL_refused_L_faultPosition : GoodIn wsL_refused wsL_faultPosition := goodIn_ca (goodIn_r _ [841, 247, 842, 843, 844, 14, 845, 145, 146, 734, 846, 847, 848, 849, 850, 851, 852, 853, 854, 855, 856] (by decide +kernel) (by decide +kernel)) (goodIn_sub (fun _ h => List.mem_cons_of_mem _ (List.mem_append_left _ (List.mem_append_left _ (List.mem_append_right _ h)))) (by decide +kernel))
set_option maxRecDepth 20000 in
theorem gL_refused_L_faultPosition : GoodIn wsL_refused (va_wsS RL 251 yL_faultPosition wsL_faultPosition) := goodIn_app (goodIn_of _ (by decide +kernel)) ggL_refused_L_faultPosition
