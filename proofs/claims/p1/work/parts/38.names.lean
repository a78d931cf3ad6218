set_option maxRecDepth 20000 in
theorem ggL_draw_X5_draw : GoodIn wsL_draw wsX5_draw := goodIn_ca (goodIn_ca (goodIn_ca (goodIn_r _ [6, 7, 8, 9, 10, 11, 12, 13, 14, 5, 15, 16, 17, 18, 19, 20, 21, 22, 23, 24, 25, 26, 27, 28, 29, 30, 31, 32, 33, 34, 35, 36, 37, 38, 39, 40, 41, 42, 43, 44, 45, 46, 47, 48, 49, 50, 51, 52, 53, 54, 55, 56, 57, 58, 59, 60, 61, 62, 63, 64, 65, 66, 67, 68, 69, 70, 71, 72, 73, 74, 75, 76, 77, 78, 79] (by decide +kernel) (by decide +kernel)) (goodIn_sub (fun _ h => List.mem_cons_of_mem _ (List.mem_append_left _ (List.mem_append_left _ (List.mem_append_right _ h)))) (by decide +kernel))) (goodIn_sub (fun _ h => List.mem_cons_of_mem _ (List.mem_append_left _ (List.mem_append_right _ h))) (by decide +kernel))) (goodIn_sub (fun _ h => List.mem_cons_of_mem _ (List.mem_append_right _ h)) (by decide +kernel))
set_option maxRecDepth 20000 in
theorem gL_draw_X5_draw : GoodIn wsL_draw (wsV RL 17 RX5 yX5_draw wsX5_draw) := goodIn_app (goodIn_of _ (by decide +kernel)) ggL_draw_X5_draw
theorem dL_draw_0 : decode cL_draw 0 = .ok (.aload 7, 2) := by decide +kernel
theorem dL_draw_2 : decode cL_draw 2 = .ok (.iconst 0, 1) := by decide +kernel
theorem dL_draw_3 : decode cL_draw 3 = .ok (.aload_n 0, 1) := by decide +kernel
theorem dL_draw_4 : decode cL_draw 4 = .ok (.iload_n 1, 1) := by decide +kernel
theorem dL_draw_5 : decode cL_draw 5 = .ok (.iload_n 2, 1) := by decide +kernel
theorem dL_draw_6 : decode cL_draw 6 = .ok (.iload_n 3, 1) := by decide +kernel
theorem dL_draw_7 : decode cL_draw 7 = .ok (.iload 4, 2) := by decide +kernel
theorem dL_draw_9 : decode cL_draw 9 = .ok (.iload 5, 2) := by decide +kernel
theorem dL_draw_11 : decode cL_draw 11 = .ok (.iload 6, 2) := by decide +kernel
theorem dL_draw_13 : decode cL_draw 13 = .ok (.invokevirtual 17, 3) := by decide +kernel
theorem dL_draw_21 : decode cL_draw 21 = .ok (.astore 8, 2) := by decide +kernel
theorem dL_draw_23 : decode cL_draw 23 = .ok (.iconst 1, 1) := by decide +kernel
theorem dL_draw_24 : decode cL_draw 24 = .ok (.ireturn, 1) := by decide +kernel
set_option maxRecDepth 20000 in
theorem ggL_revise_X5_revise : GoodIn wsL_revise wsX5_revise := goodIn_ca (goodIn_ca (goodIn_r _ [6, 7, 8, 9, 10, 11, 12, 5, 13, 14, 15, 16, 17, 18, 19, 20, 21, 22, 23, 24, 25, 26, 27, 28, 29, 30, 31, 32, 33, 34, 35, 36, 37, 38, 39, 40, 41, 42, 43, 44, 45, 46, 47, 48, 49, 50, 51, 52, 53, 54, 55, 56] (by decide +kernel) (by decide +kernel)) (goodIn_sub (fun _ h => List.mem_cons_of_mem _ (List.mem_append_left _ (List.mem_append_right _ h))) (by decide +kernel))) (goodIn_sub (fun _ h => List.mem_cons_of_mem _ (List.mem_append_right _ h)) (by decide +kernel))
set_option maxRecDepth 20000 in
theorem gL_revise_X5_revise : GoodIn wsL_revise (wsV RL 23 RX5 yX5_revise wsX5_revise) := goodIn_app (goodIn_of _ (by decide +kernel)) ggL_revise_X5_revise
theorem dL_revise_0 : decode cL_revise 0 = .ok (.aload_n 2, 1) := by decide +kernel
theorem dL_revise_1 : decode cL_revise 1 = .ok (.iconst 0, 1) := by decide +kernel
theorem dL_revise_2 : decode cL_revise 2 = .ok (.aload_n 0, 1) := by decide +kernel
theorem dL_revise_3 : decode cL_revise 3 = .ok (.iload_n 1, 1) := by decide +kernel
theorem dL_revise_4 : decode cL_revise 4 = .ok (.invokevirtual 23, 3) := by decide +kernel
theorem dL_revise_12 : decode cL_revise 12 = .ok (.astore_n 3, 1) := by decide +kernel
theorem dL_revise_13 : decode cL_revise 13 = .ok (.iconst 1, 1) := by decide +kernel
theorem dL_revise_14 : decode cL_revise 14 = .ok (.ireturn, 1) := by decide +kernel
set_option maxRecDepth 20000 in
theorem ggL_check_X5_check : GoodIn wsL_check wsX5_check := goodIn_ca (goodIn_ca (goodIn_r _ [6, 7, 8, 9, 10, 11, 12, 5, 13, 14, 15, 16, 17, 18, 19, 20, 21, 22, 23, 24, 25, 26, 27, 28, 29, 30, 31, 32, 33, 34, 35, 36, 37, 38, 39, 40, 41, 42, 43, 44, 45, 46, 47, 48, 49, 50, 51, 52, 53, 54, 55, 56, 57, 58, 59, 60, 61, 62, 63, 64, 65, 66] (by decide +kernel) (by decide +kernel)) (goodIn_sub (fun _ h => List.mem_cons_of_mem _ (List.mem_append_left _ (List.mem_append_right _ h))) (by decide +kernel))) (goodIn_sub (fun _ h => List.mem_cons_of_mem _ (List.mem_append_right _ h)) (by decide +kernel))
set_option maxRecDepth 20000 in
theorem gL_check_X5_check : GoodIn wsL_check (wsV RL 26 RX5 yX5_check wsX5_check) := goodIn_app (goodIn_of _ (by decide +kernel)) ggL_check_X5_check
theorem dL_check_0 : decode cL_check 0 = .ok (.aload_n 2, 1) := by decide +kernel
theorem dL_check_1 : decode cL_check 1 = .ok (.iconst 0, 1) := by decide +kernel
theorem dL_check_2 : decode cL_check 2 = .ok (.aload_n 0, 1) := by decide +kernel
theorem dL_check_3 : decode cL_check 3 = .ok (.iload_n 1, 1) := by decide +kernel
theorem dL_check_4 : decode cL_check 4 = .ok (.invokevirtual 26, 3) := by decide +kernel
theorem dL_check_12 : decode cL_check 12 = .ok (.astore_n 3, 1) := by decide +kernel
theorem dL_check_13 : decode cL_check 13 = .ok (.iconst 1, 1) := by decide +kernel
theorem dL_check_14 : decode cL_check 14 = .ok (.ireturn, 1) := by decide +kernel
set_option maxRecDepth 20000 in
theorem ggL_issue_X5_issue : GoodIn wsL_issue wsX5_issue := goodIn_ca (goodIn_ca (goodIn_r _ [6, 7, 8, 9, 10, 11, 12, 5, 13, 14, 15, 16, 17, 18, 19, 20, 21, 22, 23, 24, 25, 26, 27, 28, 29, 30, 31, 32, 33, 34, 35, 36, 37, 38, 39, 40, 41, 42, 43, 44, 45, 46, 47, 48, 49, 50, 51, 52, 53, 54, 55, 56, 57, 58, 59, 60, 61, 62, 63, 64, 65, 66, 67, 68, 69, 70, 71, 72, 73, 74, 75, 76, 77, 78, 79, 80, 81, 82, 83, 84, 85, 86, 87, 88, 89, 90, 91, 92, 93, 94, 95, 96, 97, 98, 99, 100, 101, 102, 103, 104, 105, 106, 107, 108, 109, 110, 111, 112, 113, 114, 115, 116, 117, 118, 119, 120, 121, 122, 123, 124, 125, 126, 127, 128, 129, 130, 131] (by decide +kernel) (by decide +kernel)) (goodIn_sub (fun _ h => List.mem_cons_of_mem _ (List.mem_append_left _ (List.mem_append_right _ h))) (by decide +kernel))) (goodIn_sub (fun _ h => List.mem_cons_of_mem _ (List.mem_append_right _ h)) (by decide +kernel))
set_option maxRecDepth 20000 in
theorem gL_issue_X5_issue : GoodIn wsL_issue (wsV RL 29 RX5 yX5_issue wsX5_issue) := goodIn_app (goodIn_of _ (by decide +kernel)) ggL_issue_X5_issue
theorem dL_issue_0 : decode cL_issue 0 = .ok (.aload_n 2, 1) := by decide +kernel
theorem dL_issue_1 : decode cL_issue 1 = .ok (.iconst 0, 1) := by decide +kernel
theorem dL_issue_2 : decode cL_issue 2 = .ok (.aload_n 0, 1) := by decide +kernel
theorem dL_issue_3 : decode cL_issue 3 = .ok (.iload_n 1, 1) := by decide +kernel
theorem dL_issue_4 : decode cL_issue 4 = .ok (.invokevirtual 29, 3) := by decide +kernel
theorem dL_issue_12 : decode cL_issue 12 = .ok (.astore_n 3, 1) := by decide +kernel
theorem dL_issue_13 : decode cL_issue 13 = .ok (.iconst 1, 1) := by decide +kernel
theorem dL_issue_14 : decode cL_issue 14 = .ok (.ireturn, 1) := by decide +kernel
set_option maxRecDepth 20000 in
theorem ggL_refer_X5_refer : GoodIn wsL_refer wsX5_refer := goodIn_ca (goodIn_ca (goodIn_ca (goodIn_r _ [6, 7, 8, 9, 10, 11, 12, 13, 14, 15, 16, 17, 18, 19, 5, 20, 21, 22, 23, 24, 25, 26, 27, 28, 29, 30, 31, 32, 33, 34, 35, 36, 37, 38, 39, 40, 41, 42, 43, 44, 45, 46, 47, 48, 49, 50, 51, 52, 53, 54, 55, 56, 57, 58, 59, 60, 61, 62, 63, 64, 65, 66, 67, 68, 69, 70, 71, 72, 73, 74, 75, 76, 77, 78, 79, 80, 81, 82, 83, 84, 85, 86, 87, 88, 89, 90, 91, 92, 93, 94, 95, 96, 97, 98, 99, 100, 101, 102, 103, 104, 105, 106, 107, 108, 109, 110, 111, 112, 113, 114, 115, 116, 117, 118, 119, 120, 121, 122, 123, 124, 125, 126, 127, 128, 129] (by decide +kernel) (by decide +kernel)) (goodIn_sub (fun _ h => List.mem_cons_of_mem _ (List.mem_append_left _ (List.mem_append_left _ (List.mem_append_right _ h)))) (by decide +kernel))) (goodIn_sub (fun _ h => List.mem_cons_of_mem _ (List.mem_append_left _ (List.mem_append_right _ h))) (by decide +kernel))) (goodIn_sub (fun _ h => List.mem_cons_of_mem _ (List.mem_append_right _ h)) (by decide +kernel))
set_option maxRecDepth 20000 in
theorem gL_refer_X5_refer : GoodIn wsL_refer (wsV RL 32 RX5 yX5_refer wsX5_refer) := goodIn_app (goodIn_of _ (by decide +kernel)) ggL_refer_X5_refer
theorem dL_refer_0 : decode cL_refer 0 = .ok (.aload 4, 2) := by decide +kernel
theorem dL_refer_2 : decode cL_refer 2 = .ok (.iconst 0, 1) := by decide +kernel
theorem dL_refer_3 : decode cL_refer 3 = .ok (.aload_n 0, 1) := by decide +kernel
theorem dL_refer_4 : decode cL_refer 4 = .ok (.iload_n 1, 1) := by decide +kernel
theorem dL_refer_5 : decode cL_refer 5 = .ok (.iload_n 2, 1) := by decide +kernel
theorem dL_refer_6 : decode cL_refer 6 = .ok (.iload_n 3, 1) := by decide +kernel
theorem dL_refer_7 : decode cL_refer 7 = .ok (.invokevirtual 32, 3) := by decide +kernel
theorem dL_refer_15 : decode cL_refer 15 = .ok (.astore 5, 2) := by decide +kernel
theorem dL_refer_17 : decode cL_refer 17 = .ok (.iconst 1, 1) := by decide +kernel
theorem dL_refer_18 : decode cL_refer 18 = .ok (.ireturn, 1) := by decide +kernel
set_option maxRecDepth 20000 in
theorem ggL_ofSheet_X5_ofSheet : GoodIn wsL_ofSheet wsX5_ofSheet := goodIn_ca (goodIn_ca (goodIn_r _ [6, 7, 8, 9, 10, 11, 12, 5, 13, 14, 15, 16, 17, 18, 19, 20, 21, 22, 23, 24, 25, 26, 27, 28, 29, 30, 31, 32, 33, 34, 35, 36, 37, 38, 39, 40, 41, 42, 43, 44, 45, 46, 47, 48, 49, 50, 51, 52, 53, 54, 55, 56, 57, 58, 59, 60, 61, 62, 63, 64, 65, 66, 67, 68, 69, 70, 71, 72, 73, 74, 75, 76, 77, 78, 79, 80, 81, 82, 83, 84, 85, 86, 87, 88, 89, 90, 91, 92, 93] (by decide +kernel) (by decide +kernel)) (goodIn_sub (fun _ h => List.mem_cons_of_mem _ (List.mem_append_left _ (List.mem_append_right _ h))) (by decide +kernel))) (goodIn_sub (fun _ h => List.mem_cons_of_mem _ (List.mem_append_right _ h)) (by decide +kernel))
set_option maxRecDepth 20000 in
theorem gL_ofSheet_X5_ofSheet : GoodIn wsL_ofSheet (wsV RL 36 RX5 yX5_ofSheet wsX5_ofSheet) := goodIn_app (goodIn_of _ (by decide +kernel)) ggL_ofSheet_X5_ofSheet
theorem dL_ofSheet_0 : decode cL_ofSheet 0 = .ok (.aload_n 3, 1) := by decide +kernel
theorem dL_ofSheet_1 : decode cL_ofSheet 1 = .ok (.iconst 0, 1) := by decide +kernel
theorem dL_ofSheet_2 : decode cL_ofSheet 2 = .ok (.aload_n 0, 1) := by decide +kernel
theorem dL_ofSheet_3 : decode cL_ofSheet 3 = .ok (.iload_n 1, 1) := by decide +kernel
theorem dL_ofSheet_4 : decode cL_ofSheet 4 = .ok (.iload_n 2, 1) := by decide +kernel
theorem dL_ofSheet_5 : decode cL_ofSheet 5 = .ok (.invokevirtual 36, 3) := by decide +kernel
theorem dL_ofSheet_13 : decode cL_ofSheet 13 = .ok (.astore 4, 2) := by decide +kernel
theorem dL_ofSheet_15 : decode cL_ofSheet 15 = .ok (.iconst 1, 1) := by decide +kernel
theorem dL_ofSheet_16 : decode cL_ofSheet 16 = .ok (.ireturn, 1) := by decide +kernel
set_option maxRecDepth 20000 in
theorem ggL_status_X5_status : GoodIn wsL_status wsX5_status := goodIn_ca (goodIn_r _ [6, 7, 8, 9, 10, 11, 12, 5, 13, 14, 15, 16, 17, 18, 19, 20, 21, 22, 23, 24, 25, 26, 27, 28, 29, 30, 31, 32, 33, 34, 35, 36, 37, 38, 39, 40, 41, 42, 43] (by decide +kernel) (by decide +kernel)) (goodIn_sub (fun _ h => List.mem_cons_of_mem _ (List.mem_append_right _ h)) (by decide +kernel))
set_option maxRecDepth 20000 in
theorem gL_status_X5_status : GoodIn wsL_status (wsV RL 40 RX5 yX5_status wsX5_status) := goodIn_app (goodIn_of _ (by decide +kernel)) ggL_status_X5_status
theorem dL_status_0 : decode cL_status 0 = .ok (.aload_n 3, 1) := by decide +kernel
theorem dL_status_1 : decode cL_status 1 = .ok (.iconst 0, 1) := by decide +kernel
theorem dL_status_2 : decode cL_status 2 = .ok (.aload_n 0, 1) := by decide +kernel
theorem dL_status_3 : decode cL_status 3 = .ok (.iload_n 1, 1) := by decide +kernel
theorem dL_status_4 : decode cL_status 4 = .ok (.iload_n 2, 1) := by decide +kernel
theorem dL_status_5 : decode cL_status 5 = .ok (.invokevirtual 40, 3) := by decide +kernel
theorem dL_status_13 : decode cL_status 13 = .ok (.astore 4, 2) := by decide +kernel
theorem dL_status_15 : decode cL_status 15 = .ok (.iconst 1, 1) := by decide +kernel
theorem dL_status_16 : decode cL_status 16 = .ok (.ireturn, 1) := by decide +kernel
set_option maxRecDepth 20000 in
theorem ggL_holds_X5_holds : GoodIn wsL_holds wsX5_holds := goodIn_ca (goodIn_r _ [6, 7, 8, 9, 10, 11, 12, 13, 5, 14, 15, 16, 17, 18, 19, 20, 21, 22, 23, 24, 25, 26, 27, 28, 29, 30, 31, 32, 33, 34, 35, 36, 37, 38, 39, 40, 41, 42, 43, 44] (by decide +kernel) (by decide +kernel)) (goodIn_sub (fun _ h => List.mem_cons_of_mem _ (List.mem_append_right _ h)) (by decide +kernel))
set_option maxRecDepth 20000 in
theorem gL_holds_X5_holds : GoodIn wsL_holds (wsV RL 43 RX5 yX5_holds wsX5_holds) := goodIn_app (goodIn_of _ (by decide +kernel)) ggL_holds_X5_holds
theorem dL_holds_0 : decode cL_holds 0 = .ok (.aload_n 2, 1) := by decide +kernel
theorem dL_holds_1 : decode cL_holds 1 = .ok (.iconst 0, 1) := by decide +kernel
theorem dL_holds_2 : decode cL_holds 2 = .ok (.aload_n 0, 1) := by decide +kernel
theorem dL_holds_3 : decode cL_holds 3 = .ok (.iload_n 1, 1) := by decide +kernel
theorem dL_holds_4 : decode cL_holds 4 = .ok (.invokevirtual 43, 3) := by decide +kernel
theorem dL_holds_19 : decode cL_holds 19 = .ok (.astore_n 3, 1) := by decide +kernel
theorem dL_holds_20 : decode cL_holds 20 = .ok (.iconst 1, 1) := by decide +kernel
theorem dL_holds_21 : decode cL_holds 21 = .ok (.ireturn, 1) := by decide +kernel
set_option maxRecDepth 20000 in
theorem ggL_send_X5_send : GoodIn wsL_send wsX5_send := goodIn_ca (goodIn_ca (goodIn_r _ [6, 7, 8, 9, 10, 11, 12, 13, 14, 15, 16, 17, 18, 19, 5, 20, 21, 22, 23, 24, 25, 26, 27, 28, 29, 30, 31, 32, 33, 34, 35, 36, 37, 38, 39, 40, 41, 42, 43, 44, 45, 46, 47, 48, 49, 50, 51, 52, 53, 54, 55, 56, 57, 58, 59, 60, 61, 62, 63, 64, 65, 66, 67, 68, 69, 70, 71, 72] (by decide +kernel) (by decide +kernel)) (goodIn_sub (fun _ h => List.mem_cons_of_mem _ (List.mem_append_left _ (List.mem_append_right _ h))) (by decide +kernel))) (goodIn_sub (fun _ h => List.mem_cons_of_mem _ (List.mem_append_right _ h)) (by decide +kernel))
set_option maxRecDepth 20000 in
theorem gL_send_X5_send : GoodIn wsL_send (wsV RL 47 RX5 yX5_send wsX5_send) := goodIn_app (goodIn_of _ (by decide +kernel)) ggL_send_X5_send
theorem dL_send_0 : decode cL_send 0 = .ok (.aload_n 3, 1) := by decide +kernel
theorem dL_send_1 : decode cL_send 1 = .ok (.iconst 0, 1) := by decide +kernel
theorem dL_send_2 : decode cL_send 2 = .ok (.aload_n 0, 1) := by decide +kernel
theorem dL_send_3 : decode cL_send 3 = .ok (.iload_n 1, 1) := by decide +kernel
theorem dL_send_4 : decode cL_send 4 = .ok (.iload_n 2, 1) := by decide +kernel
theorem dL_send_5 : decode cL_send 5 = .ok (.invokevirtual 47, 3) := by decide +kernel
theorem dL_send_13 : decode cL_send 13 = .ok (.astore 4, 2) := by decide +kernel
theorem dL_send_15 : decode cL_send 15 = .ok (.iconst 1, 1) := by decide +kernel
theorem dL_send_16 : decode cL_send 16 = .ok (.ireturn, 1) := by decide +kernel
set_option maxRecDepth 20000 in
theorem ggL_receive_X5_receive : GoodIn wsL_receive wsX5_receive := goodIn_ca (goodIn_ca (goodIn_r _ [6, 7, 8, 9, 10, 11, 12, 13, 14, 15, 5, 16, 17, 18, 19, 20, 21, 22, 23, 24, 25, 26, 27, 28, 29, 30, 31, 32, 33, 34, 35, 36, 37, 38] (by decide +kernel) (by decide +kernel)) (goodIn_sub (fun _ h => List.mem_cons_of_mem _ (List.mem_append_left _ (List.mem_append_right _ h))) (by decide +kernel))) (goodIn_sub (fun _ h => List.mem_cons_of_mem _ (List.mem_append_right _ h)) (by decide +kernel))
set_option maxRecDepth 20000 in
theorem gL_receive_X5_receive : GoodIn wsL_receive (wsV RL 50 RX5 yX5_receive wsX5_receive) := goodIn_app (goodIn_of _ (by decide +kernel)) ggL_receive_X5_receive
theorem dL_receive_0 : decode cL_receive 0 = .ok (.aload_n 3, 1) := by decide +kernel
theorem dL_receive_1 : decode cL_receive 1 = .ok (.iconst 0, 1) := by decide +kernel
theorem dL_receive_2 : decode cL_receive 2 = .ok (.aload_n 0, 1) := by decide +kernel
theorem dL_receive_3 : decode cL_receive 3 = .ok (.iload_n 1, 1) := by decide +kernel
theorem dL_receive_4 : decode cL_receive 4 = .ok (.iload_n 2, 1) := by decide +kernel
theorem dL_receive_5 : decode cL_receive 5 = .ok (.invokevirtual 50, 3) := by decide +kernel
theorem dL_receive_13 : decode cL_receive 13 = .ok (.astore 4, 2) := by decide +kernel
theorem dL_receive_15 : decode cL_receive 15 = .ok (.iconst 1, 1) := by decide +kernel
theorem dL_receive_16 : decode cL_receive 16 = .ok (.ireturn, 1) := by decide +kernel
set_option maxRecDepth 20000 in
theorem ggL_has_X5_has : GoodIn wsL_has wsX5_has := goodIn_ca (goodIn_r _ [6, 7, 8, 9, 5, 10, 11, 12, 13, 14, 15, 16, 17, 18, 19, 20, 21, 22, 23, 24, 25, 26, 27, 28, 29, 30] (by decide +kernel) (by decide +kernel)) (goodIn_sub (fun _ h => List.mem_cons_of_mem _ (List.mem_append_right _ h)) (by decide +kernel))
set_option maxRecDepth 20000 in
theorem gL_has_X5_has : GoodIn wsL_has (wsV RL 53 RX5 yX5_has wsX5_has) := goodIn_app (goodIn_of _ (by decide +kernel)) ggL_has_X5_has
theorem dL_has_0 : decode cL_has 0 = .ok (.aload_n 3, 1) := by decide +kernel
theorem dL_has_1 : decode cL_has 1 = .ok (.iconst 0, 1) := by decide +kernel
theorem dL_has_2 : decode cL_has 2 = .ok (.aload_n 0, 1) := by decide +kernel
theorem dL_has_3 : decode cL_has 3 = .ok (.iload_n 1, 1) := by decide +kernel
theorem dL_has_4 : decode cL_has 4 = .ok (.iload_n 2, 1) := by decide +kernel
theorem dL_has_5 : decode cL_has 5 = .ok (.invokevirtual 53, 3) := by decide +kernel
theorem dL_has_13 : decode cL_has 13 = .ok (.astore 4, 2) := by decide +kernel
theorem dL_has_15 : decode cL_has 15 = .ok (.iconst 1, 1) := by decide +kernel
theorem dL_has_16 : decode cL_has 16 = .ok (.ireturn, 1) := by decide +kernel
set_option maxRecDepth 20000 in
theorem ggL_query_X5_query : GoodIn wsL_query wsX5_query := goodIn_ca (goodIn_ca (goodIn_ca (goodIn_r _ [6, 7, 8, 9, 10, 11, 12, 13, 14, 15, 16, 17, 5, 18, 19, 20, 21, 22, 23, 24, 25, 26, 27, 28, 29, 30, 31, 32, 33, 34, 35, 36, 37, 38, 39, 40, 41, 42, 43, 44, 45, 46, 47, 48, 49, 50, 51, 52, 53, 54, 55, 56, 57, 58, 59, 60, 61, 62, 63, 64, 65, 66, 67, 68, 69, 70, 71, 72, 73, 74, 75, 76, 77, 78, 79, 80, 81, 82, 83, 84, 85, 86, 87, 88, 89, 90, 91, 92, 93, 94, 95, 96, 97, 98, 99, 100, 101, 102, 103, 104, 105, 106, 107, 108, 109, 110, 111, 112, 113, 114, 115, 116, 117, 118, 119, 120, 121, 122, 123, 124, 125, 126, 127, 128] (by decide +kernel) (by decide +kernel)) (goodIn_sub (fun _ h => List.mem_cons_of_mem _ (List.mem_append_left _ (List.mem_append_left _ (List.mem_append_right _ h)))) (by decide +kernel))) (goodIn_sub (fun _ h => List.mem_cons_of_mem _ (List.mem_append_left _ (List.mem_append_right _ h))) (by decide +kernel))) (goodIn_sub (fun _ h => List.mem_cons_of_mem _ (List.mem_append_right _ h)) (by decide +kernel))
set_option maxRecDepth 20000 in
theorem gL_query_X5_query : GoodIn wsL_query (wsV RL 59 RX5 yX5_query wsX5_query) := goodIn_app (goodIn_of _ (by decide +kernel)) ggL_query_X5_query
theorem dL_query_0 : decode cL_query 0 = .ok (.aload 6, 2) := by decide +kernel
theorem dL_query_2 : decode cL_query 2 = .ok (.iconst 0, 1) := by decide +kernel
theorem dL_query_3 : decode cL_query 3 = .ok (.aload_n 0, 1) := by decide +kernel
theorem dL_query_4 : decode cL_query 4 = .ok (.iload_n 1, 1) := by decide +kernel
theorem dL_query_5 : decode cL_query 5 = .ok (.iload_n 2, 1) := by decide +kernel
theorem dL_query_6 : decode cL_query 6 = .ok (.iload_n 3, 1) := by decide +kernel
theorem dL_query_7 : decode cL_query 7 = .ok (.iload 4, 2) := by decide +kernel
theorem dL_query_9 : decode cL_query 9 = .ok (.iload 5, 2) := by decide +kernel
theorem dL_query_11 : decode cL_query 11 = .ok (.invokevirtual 59, 3) := by decide +kernel
theorem dL_query_19 : decode cL_query 19 = .ok (.astore 7, 2) := by decide +kernel
theorem dL_query_21 : decode cL_query 21 = .ok (.iconst 1, 1) := by decide +kernel
theorem dL_query_22 : decode cL_query 22 = .ok (.ireturn, 1) := by decide +kernel
set_option maxRecDepth 20000 in
theorem ggL_answer_X5_answer : GoodIn wsL_answer wsX5_answer := goodIn_ca (goodIn_ca (goodIn_r _ [6, 7, 8, 9, 10, 11, 12, 5, 13, 14, 15, 16, 17, 18, 19, 20, 21, 22, 23, 24, 25, 26, 27, 28, 29, 30, 31, 32] (by decide +kernel) (by decide +kernel)) (goodIn_sub (fun _ h => List.mem_cons_of_mem _ (List.mem_append_left _ (List.mem_append_right _ h))) (by decide +kernel))) (goodIn_sub (fun _ h => List.mem_cons_of_mem _ (List.mem_append_right _ h)) (by decide +kernel))
set_option maxRecDepth 20000 in
theorem gL_answer_X5_answer : GoodIn wsL_answer (wsV RL 63 RX5 yX5_answer wsX5_answer) := goodIn_app (goodIn_of _ (by decide +kernel)) ggL_answer_X5_answer
theorem dL_answer_0 : decode cL_answer 0 = .ok (.aload_n 3, 1) := by decide +kernel
theorem dL_answer_1 : decode cL_answer 1 = .ok (.iconst 0, 1) := by decide +kernel
theorem dL_answer_2 : decode cL_answer 2 = .ok (.aload_n 0, 1) := by decide +kernel
theorem dL_answer_3 : decode cL_answer 3 = .ok (.iload_n 1, 1) := by decide +kernel
theorem dL_answer_4 : decode cL_answer 4 = .ok (.iload_n 2, 1) := by decide +kernel
theorem dL_answer_5 : decode cL_answer 5 = .ok (.invokevirtual 63, 3) := by decide +kernel
theorem dL_answer_13 : decode cL_answer 13 = .ok (.astore 4, 2) := by decide +kernel
theorem dL_answer_15 : decode cL_answer 15 = .ok (.iconst 1, 1) := by decide +kernel
theorem dL_answer_16 : decode cL_answer 16 = .ok (.ireturn, 1) := by decide +kernel
set_option maxRecDepth 20000 in
theorem ggL_ofQuery_X5_ofQuery : GoodIn wsL_ofQuery wsX5_ofQuery := goodIn_ca (goodIn_r _ [6, 7, 8, 9, 10, 5, 11, 12, 13, 14, 15, 16, 17, 18, 19, 20, 21, 22, 23, 24, 25, 26, 27, 28, 29, 30] (by decide +kernel) (by decide +kernel)) (goodIn_sub (fun _ h => List.mem_cons_of_mem _ (List.mem_append_right _ h)) (by decide +kernel))
set_option maxRecDepth 20000 in
theorem gL_ofQuery_X5_ofQuery : GoodIn wsL_ofQuery (wsV RL 67 RX5 yX5_ofQuery wsX5_ofQuery) := goodIn_app (goodIn_of _ (by decide +kernel)) ggL_ofQuery_X5_ofQuery
theorem dL_ofQuery_0 : decode cL_ofQuery 0 = .ok (.aload_n 2, 1) := by decide +kernel
theorem dL_ofQuery_1 : decode cL_ofQuery 1 = .ok (.iconst 0, 1) := by decide +kernel
theorem dL_ofQuery_2 : decode cL_ofQuery 2 = .ok (.aload_n 0, 1) := by decide +kernel
theorem dL_ofQuery_3 : decode cL_ofQuery 3 = .ok (.iload_n 1, 1) := by decide +kernel
theorem dL_ofQuery_4 : decode cL_ofQuery 4 = .ok (.invokevirtual 67, 3) := by decide +kernel
theorem dL_ofQuery_12 : decode cL_ofQuery 12 = .ok (.astore_n 3, 1) := by decide +kernel
theorem dL_ofQuery_13 : decode cL_ofQuery 13 = .ok (.iconst 1, 1) := by decide +kernel
theorem dL_ofQuery_14 : decode cL_ofQuery 14 = .ok (.ireturn, 1) := by decide +kernel
set_option maxRecDepth 20000 in
theorem ggL_clash_X5_clash : GoodIn wsL_clash wsX5_clash := goodIn_ca (goodIn_ca (goodIn_r _ [6, 7, 8, 9, 5, 10, 11, 12, 13, 14, 15, 16, 17, 18, 19, 20, 21, 22, 23, 24, 25, 26, 27, 28, 29, 30, 31, 32, 33, 34, 35, 36, 37, 38, 39, 40, 41, 42, 43, 44, 45, 46, 47, 48, 49, 50, 51, 52, 53, 54, 55, 56, 57, 58, 59, 60, 61, 62] (by decide +kernel) (by decide +kernel)) (goodIn_sub (fun _ h => List.mem_cons_of_mem _ (List.mem_append_left _ (List.mem_append_right _ h))) (by decide +kernel))) (goodIn_sub (fun _ h => List.mem_cons_of_mem _ (List.mem_append_right _ h)) (by decide +kernel))
set_option maxRecDepth 20000 in
theorem gL_clash_X5_clash : GoodIn wsL_clash (wsV RL 70 RX5 yX5_clash wsX5_clash) := goodIn_app (goodIn_of _ (by decide +kernel)) ggL_clash_X5_clash
theorem dL_clash_0 : decode cL_clash 0 = .ok (.aload_n 3, 1) := by decide +kernel
theorem dL_clash_1 : decode cL_clash 1 = .ok (.iconst 0, 1) := by decide +kernel
theorem dL_clash_2 : decode cL_clash 2 = .ok (.aload_n 0, 1) := by decide +kernel
theorem dL_clash_3 : decode cL_clash 3 = .ok (.iload_n 1, 1) := by decide +kernel
theorem dL_clash_4 : decode cL_clash 4 = .ok (.iload_n 2, 1) := by decide +kernel
theorem dL_clash_5 : decode cL_clash 5 = .ok (.invokevirtual 70, 3) := by decide +kernel
theorem dL_clash_13 : decode cL_clash 13 = .ok (.astore 4, 2) := by decide +kernel
theorem dL_clash_15 : decode cL_clash 15 = .ok (.iconst 1, 1) := by decide +kernel
theorem dL_clash_16 : decode cL_clash 16 = .ok (.ireturn, 1) := by decide +kernel
set_option maxRecDepth 20000 in
theorem ggL_excuse_X5_excuse : GoodIn wsL_excuse wsX5_excuse := goodIn_ca (goodIn_ca (goodIn_r _ [6, 7, 8, 9, 10, 5, 11, 12, 13, 14, 15, 16, 17, 18, 19, 20, 21, 22, 23, 24, 25, 26, 27, 28, 29, 30, 31, 32, 33, 34, 35, 36, 37, 38, 39, 40, 41, 42, 43, 44, 45, 46, 47, 48, 49, 50, 51, 52, 53, 54, 55, 56, 57, 58, 59, 60, 61, 62, 63, 64, 65, 66, 67, 68, 69, 70, 71, 72, 73, 74, 75, 76, 77, 78, 79, 80, 81, 82, 83, 84, 85, 86, 87, 88, 89, 90, 91, 92, 93, 94, 95, 96, 97, 98, 99, 100, 101, 102, 103, 104, 105, 106, 107, 108, 109] (by decide +kernel) (by decide +kernel)) (goodIn_sub (fun _ h => List.mem_cons_of_mem _ (List.mem_append_left _ (List.mem_append_right _ h))) (by decide +kernel))) (goodIn_sub (fun _ h => List.mem_cons_of_mem _ (List.mem_append_right _ h)) (by decide +kernel))
set_option maxRecDepth 20000 in
theorem gL_excuse_X5_excuse : GoodIn wsL_excuse (wsV RL 73 RX5 yX5_excuse wsX5_excuse) := goodIn_app (goodIn_of _ (by decide +kernel)) ggL_excuse_X5_excuse
theorem dL_excuse_0 : decode cL_excuse 0 = .ok (.aload_n 3, 1) := by decide +kernel
theorem dL_excuse_1 : decode cL_excuse 1 = .ok (.iconst 0, 1) := by decide +kernel
theorem dL_excuse_2 : decode cL_excuse 2 = .ok (.aload_n 0, 1) := by decide +kernel
theorem dL_excuse_3 : decode cL_excuse 3 = .ok (.iload_n 1, 1) := by decide +kernel
theorem dL_excuse_4 : decode cL_excuse 4 = .ok (.iload_n 2, 1) := by decide +kernel
theorem dL_excuse_5 : decode cL_excuse 5 = .ok (.invokevirtual 73, 3) := by decide +kernel
theorem dL_excuse_20 : decode cL_excuse 20 = .ok (.astore 4, 2) := by decide +kernel
theorem dL_excuse_22 : decode cL_excuse 22 = .ok (.iconst 1, 1) := by decide +kernel
theorem dL_excuse_23 : decode cL_excuse 23 = .ok (.ireturn, 1) := by decide +kernel
set_option maxRecDepth 20000 in
theorem ggL_clouds_X5_clouds : GoodIn wsL_clouds wsX5_clouds := goodIn_ca (goodIn_ca (goodIn_r _ [6, 7, 8, 9, 5, 10, 11, 12, 13, 14, 15, 16, 17, 18, 19, 20, 21, 22, 23, 24, 25, 26, 27, 28, 29, 30, 31, 32, 33, 34, 35, 36, 37, 38, 39, 40, 41, 42, 43, 44, 45, 46, 47, 48, 49, 50, 51, 52, 53, 54, 55, 56, 57, 58, 59, 60, 61, 62, 63, 64, 65, 66, 67, 68, 69, 70] (by decide +kernel) (by decide +kernel)) (goodIn_sub (fun _ h => List.mem_cons_of_mem _ (List.mem_append_left _ (List.mem_append_right _ h))) (by decide +kernel))) (goodIn_sub (fun _ h => List.mem_cons_of_mem _ (List.mem_append_right _ h)) (by decide +kernel))
set_option maxRecDepth 20000 in
theorem gL_clouds_X5_clouds : GoodIn wsL_clouds (wsV RL 77 RX5 yX5_clouds wsX5_clouds) := goodIn_app (goodIn_of _ (by decide +kernel)) ggL_clouds_X5_clouds
theorem dL_clouds_0 : decode cL_clouds 0 = .ok (.aload 4, 2) := by decide +kernel
theorem dL_clouds_2 : decode cL_clouds 2 = .ok (.iconst 0, 1) := by decide +kernel
theorem dL_clouds_3 : decode cL_clouds 3 = .ok (.aload_n 0, 1) := by decide +kernel
theorem dL_clouds_4 : decode cL_clouds 4 = .ok (.iload_n 1, 1) := by decide +kernel
theorem dL_clouds_5 : decode cL_clouds 5 = .ok (.iload_n 2, 1) := by decide +kernel
theorem dL_clouds_6 : decode cL_clouds 6 = .ok (.iload_n 3, 1) := by decide +kernel
theorem dL_clouds_7 : decode cL_clouds 7 = .ok (.invokevirtual 77, 3) := by decide +kernel
theorem dL_clouds_15 : decode cL_clouds 15 = .ok (.astore 5, 2) := by decide +kernel
theorem dL_clouds_17 : decode cL_clouds 17 = .ok (.iconst 1, 1) := by decide +kernel
theorem dL_clouds_18 : decode cL_clouds 18 = .ok (.ireturn, 1) := by decide +kernel
set_option maxRecDepth 20000 in
theorem ggL_pack_X5_pack : GoodIn wsL_pack wsX5_pack := goodIn_ca (goodIn_ca (goodIn_ca (goodIn_r _ [6, 7, 8, 9, 10, 11, 12, 13, 14, 15, 16, 17, 5, 18, 19, 20, 21, 22, 23, 24, 25, 26, 27, 28, 29, 30, 31, 32, 33, 34, 35, 36, 37, 38, 39, 40, 41, 42, 43, 44, 45, 46, 47, 48, 49, 50, 51, 52, 53, 54, 55, 56] (by decide +kernel) (by decide +kernel)) (goodIn_sub (fun _ h => List.mem_cons_of_mem _ (List.mem_append_left _ (List.mem_append_left _ (List.mem_append_right _ h)))) (by decide +kernel))) (goodIn_sub (fun _ h => List.mem_cons_of_mem _ (List.mem_append_left _ (List.mem_append_right _ h))) (by decide +kernel))) (goodIn_sub (fun _ h => List.mem_cons_of_mem _ (List.mem_append_right _ h)) (by decide +kernel))
set_option maxRecDepth 20000 in
theorem gL_pack_X5_pack : GoodIn wsL_pack (wsV RL 80 RX5 yX5_pack wsX5_pack) := goodIn_app (goodIn_of _ (by decide +kernel)) ggL_pack_X5_pack
theorem dL_pack_0 : decode cL_pack 0 = .ok (.aload 4, 2) := by decide +kernel
theorem dL_pack_2 : decode cL_pack 2 = .ok (.iconst 0, 1) := by decide +kernel
theorem dL_pack_3 : decode cL_pack 3 = .ok (.aload_n 0, 1) := by decide +kernel
theorem dL_pack_4 : decode cL_pack 4 = .ok (.iload_n 1, 1) := by decide +kernel
theorem dL_pack_5 : decode cL_pack 5 = .ok (.iload_n 2, 1) := by decide +kernel
theorem dL_pack_6 : decode cL_pack 6 = .ok (.iload_n 3, 1) := by decide +kernel
theorem dL_pack_7 : decode cL_pack 7 = .ok (.invokevirtual 80, 3) := by decide +kernel
theorem dL_pack_15 : decode cL_pack 15 = .ok (.astore 5, 2) := by decide +kernel
theorem dL_pack_17 : decode cL_pack 17 = .ok (.iconst 1, 1) := by decide +kernel
theorem dL_pack_18 : decode cL_pack 18 = .ok (.ireturn, 1) := by decide +kernel
theorem dL_pack_19 : decode cL_pack 19 = .ok (.astore 5, 2) := by decide +kernel
theorem dL_pack_21 : decode cL_pack 21 = .ok (.iconst 2, 1) := by decide +kernel
theorem dL_pack_22 : decode cL_pack 22 = .ok (.ireturn, 1) := by decide +kernel
set_option maxRecDepth 20000 in
theorem ggL_place_X5_place : GoodIn wsL_place wsX5_place := goodIn_ca (goodIn_ca (goodIn_ca (goodIn_r _ [6, 7, 8, 9, 10, 11, 12, 5, 13, 14, 15, 16, 17, 18, 19, 20, 21, 22, 23, 24, 25, 26, 27, 28, 29, 30, 31, 32, 33, 34, 35, 36, 37, 38, 39, 40, 41, 42, 43, 44, 45, 46, 47, 48, 49, 50, 51, 52, 53, 54, 55, 56, 57, 58, 59, 60, 61, 62, 63, 64, 65, 66, 67, 68, 69, 70, 71, 72, 73, 74, 75, 76, 77, 78, 79, 80, 81, 82, 83, 84, 85, 86, 87, 88, 89, 90, 91, 92, 93, 94, 95, 96, 97, 98, 99, 100, 101, 102, 103, 104, 105, 106, 107, 108, 109, 110, 111, 112, 113, 114, 115, 116, 117, 118, 119, 120, 121, 122, 123, 124, 125, 126, 127] (by decide +kernel) (by decide +kernel)) (goodIn_sub (fun _ h => List.mem_cons_of_mem _ (List.mem_append_left _ (List.mem_append_left _ (List.mem_append_right _ h)))) (by decide +kernel))) (goodIn_sub (fun _ h => List.mem_cons_of_mem _ (List.mem_append_left _ (List.mem_append_right _ h))) (by decide +kernel))) (goodIn_sub (fun _ h => List.mem_cons_of_mem _ (List.mem_append_right _ h)) (by decide +kernel))
set_option maxRecDepth 20000 in
theorem gL_place_X5_place : GoodIn wsL_place (wsV RL 83 RX5 yX5_place wsX5_place) := goodIn_app (goodIn_of _ (by decide +kernel)) ggL_place_X5_place
theorem dL_place_0 : decode cL_place 0 = .ok (.aload 6, 2) := by decide +kernel
theorem dL_place_2 : decode cL_place 2 = .ok (.iconst 0, 1) := by decide +kernel
theorem dL_place_3 : decode cL_place 3 = .ok (.aload_n 0, 1) := by decide +kernel
theorem dL_place_4 : decode cL_place 4 = .ok (.iload_n 1, 1) := by decide +kernel
theorem dL_place_5 : decode cL_place 5 = .ok (.iload_n 2, 1) := by decide +kernel
theorem dL_place_6 : decode cL_place 6 = .ok (.iload_n 3, 1) := by decide +kernel
theorem dL_place_7 : decode cL_place 7 = .ok (.iload 4, 2) := by decide +kernel
theorem dL_place_9 : decode cL_place 9 = .ok (.iload 5, 2) := by decide +kernel
theorem dL_place_11 : decode cL_place 11 = .ok (.invokevirtual 83, 3) := by decide +kernel
theorem dL_place_19 : decode cL_place 19 = .ok (.astore 7, 2) := by decide +kernel
theorem dL_place_21 : decode cL_place 21 = .ok (.iconst 1, 1) := by decide +kernel
theorem dL_place_22 : decode cL_place 22 = .ok (.ireturn, 1) := by decide +kernel
set_option maxRecDepth 20000 in
theorem ggL_start_X5_start : GoodIn wsL_start wsX5_start := goodIn_ca (goodIn_ca (goodIn_r _ [6, 7, 8, 9, 10, 11, 12, 13, 5, 14, 15, 16, 17, 18, 19, 20, 21, 22, 23, 24, 25, 26, 27, 28, 29, 30, 31, 32, 33, 34, 35, 36, 37, 38, 39, 40, 41, 42, 43, 44, 45, 46, 47, 48, 49, 50, 51, 52, 53, 54, 55, 56, 57, 58, 59, 60, 61, 62, 63, 64, 65, 66, 67, 68, 69, 70, 71, 72, 73, 74, 75, 76, 77, 78, 79, 80, 81, 82, 83, 84, 85, 86, 87, 88, 89, 90, 91, 92, 93, 94, 95] (by decide +kernel) (by decide +kernel)) (goodIn_sub (fun _ h => List.mem_cons_of_mem _ (List.mem_append_left _ (List.mem_append_right _ h))) (by decide +kernel))) (goodIn_sub (fun _ h => List.mem_cons_of_mem _ (List.mem_append_right _ h)) (by decide +kernel))
set_option maxRecDepth 20000 in
theorem gL_start_X5_start : GoodIn wsL_start (wsV RL 86 RX5 yX5_start wsX5_start) := goodIn_app (goodIn_of _ (by decide +kernel)) ggL_start_X5_start
theorem dL_start_0 : decode cL_start 0 = .ok (.aload_n 2, 1) := by decide +kernel
theorem dL_start_1 : decode cL_start 1 = .ok (.iconst 0, 1) := by decide +kernel
theorem dL_start_2 : decode cL_start 2 = .ok (.aload_n 0, 1) := by decide +kernel
theorem dL_start_3 : decode cL_start 3 = .ok (.iload_n 1, 1) := by decide +kernel
theorem dL_start_4 : decode cL_start 4 = .ok (.invokevirtual 86, 3) := by decide +kernel
theorem dL_start_12 : decode cL_start 12 = .ok (.astore_n 3, 1) := by decide +kernel
theorem dL_start_13 : decode cL_start 13 = .ok (.iconst 1, 1) := by decide +kernel
theorem dL_start_14 : decode cL_start 14 = .ok (.ireturn, 1) := by decide +kernel
set_option maxRecDepth 20000 in
theorem ggL_ofPack_X5_ofPack : GoodIn wsL_ofPack wsX5_ofPack := goodIn_ca (goodIn_ca (goodIn_r _ [6, 7, 8, 9, 10, 11, 12, 13, 5, 14, 15, 16, 17, 18, 19, 20, 21, 22, 23, 24, 25, 26, 27, 28, 29, 30, 31, 32, 33, 34, 35, 36, 37, 38, 39, 40, 41, 42, 43, 44, 45, 46, 47, 48, 49, 50, 51, 52, 53, 54, 55, 56, 57, 58, 59, 60, 61, 62, 63, 64, 65, 66, 67, 68, 69, 70, 71, 72, 73, 74, 75, 76, 77, 78, 79, 80, 81, 82, 83, 84, 85, 86, 87, 88, 89, 90, 91, 92, 93, 94] (by decide +kernel) (by decide +kernel)) (goodIn_sub (fun _ h => List.mem_cons_of_mem _ (List.mem_append_left _ (List.mem_append_right _ h))) (by decide +kernel))) (goodIn_sub (fun _ h => List.mem_cons_of_mem _ (List.mem_append_right _ h)) (by decide +kernel))
set_option maxRecDepth 20000 in
theorem gL_ofPack_X5_ofPack : GoodIn wsL_ofPack (wsV RL 89 RX5 yX5_ofPack wsX5_ofPack) := goodIn_app (goodIn_of _ (by decide +kernel)) ggL_ofPack_X5_ofPack
theorem dL_ofPack_0 : decode cL_ofPack 0 = .ok (.aload_n 3, 1) := by decide +kernel
theorem dL_ofPack_1 : decode cL_ofPack 1 = .ok (.iconst 0, 1) := by decide +kernel
theorem dL_ofPack_2 : decode cL_ofPack 2 = .ok (.aload_n 0, 1) := by decide +kernel
theorem dL_ofPack_3 : decode cL_ofPack 3 = .ok (.iload_n 1, 1) := by decide +kernel
theorem dL_ofPack_4 : decode cL_ofPack 4 = .ok (.iload_n 2, 1) := by decide +kernel
theorem dL_ofPack_5 : decode cL_ofPack 5 = .ok (.invokevirtual 89, 3) := by decide +kernel
theorem dL_ofPack_13 : decode cL_ofPack 13 = .ok (.astore 4, 2) := by decide +kernel
theorem dL_ofPack_15 : decode cL_ofPack 15 = .ok (.iconst 1, 1) := by decide +kernel
theorem dL_ofPack_16 : decode cL_ofPack 16 = .ok (.ireturn, 1) := by decide +kernel
set_option maxRecDepth 20000 in
theorem ggL_stoppedBy_X5_stoppedBy : GoodIn wsL_stoppedBy wsX5_stoppedBy := goodIn_ca (goodIn_r _ [6, 7, 8, 9, 10, 5, 11, 12, 13, 14, 15, 16, 17, 18, 19, 20, 21, 22, 23, 24, 25, 26, 27, 28, 29, 30, 31, 32, 33, 34, 35, 36, 37, 38, 39, 40, 41, 42, 43, 44, 45, 46, 47, 48, 49, 50, 51, 52, 53, 54, 55, 56, 57, 58, 59, 60, 61, 62, 63, 64, 65, 66, 67, 68, 69, 70, 71, 72, 73, 74, 75, 76, 77, 78, 79, 80, 81, 82, 83, 84, 85, 86, 87, 88, 89, 90, 91, 92, 93, 94, 95, 96, 97, 98, 99, 100, 101, 102, 103, 104, 105, 106, 107, 108, 109, 110, 111, 112, 113, 114, 115, 116, 117, 118, 119, 120, 121] (by decide +kernel) (by decide +kernel)) (goodIn_sub (fun _ h => List.mem_cons_of_mem _ (List.mem_append_right _ h)) (by decide +kernel))
set_option maxRecDepth 20000 in
theorem gL_stoppedBy_X5_stoppedBy : GoodIn wsL_stoppedBy (wsV RL 95 RX5 yX5_stoppedBy wsX5_stoppedBy) := goodIn_app (goodIn_of _ (by decide +kernel)) ggL_stoppedBy_X5_stoppedBy
theorem dL_stoppedBy_0 : decode cL_stoppedBy 0 = .ok (.aload_n 2, 1) := by decide +kernel
theorem dL_stoppedBy_1 : decode cL_stoppedBy 1 = .ok (.iconst 0, 1) := by decide +kernel
theorem dL_stoppedBy_2 : decode cL_stoppedBy 2 = .ok (.aload_n 0, 1) := by decide +kernel
theorem dL_stoppedBy_3 : decode cL_stoppedBy 3 = .ok (.iload_n 1, 1) := by decide +kernel
theorem dL_stoppedBy_4 : decode cL_stoppedBy 4 = .ok (.invokevirtual 95, 3) := by decide +kernel
theorem dL_stoppedBy_12 : decode cL_stoppedBy 12 = .ok (.astore_n 3, 1) := by decide +kernel
theorem dL_stoppedBy_13 : decode cL_stoppedBy 13 = .ok (.iconst 1, 1) := by decide +kernel
theorem dL_stoppedBy_14 : decode cL_stoppedBy 14 = .ok (.ireturn, 1) := by decide +kernel
set_option maxRecDepth 20000 in
theorem ggL_freedBy_X5_freedBy : GoodIn wsL_freedBy wsX5_freedBy := goodIn_ca (goodIn_r _ [6, 7, 8, 9, 10, 5, 11, 12, 13, 14, 15, 16, 17, 18, 19, 20, 21, 22, 23, 24, 25, 26, 27, 28, 29, 30, 31, 32, 33, 34, 35, 36, 37, 38, 39, 40, 41, 42, 43, 44, 45, 46, 47, 48, 49, 50, 51, 52, 53, 54, 55, 56, 57, 58, 59, 60, 61, 62, 63, 64, 65, 66, 67, 68, 69, 70, 71, 72, 73, 74, 75, 76, 77, 78, 79, 80, 81, 82, 83, 84, 85, 86, 87, 88, 89, 90, 91, 92] (by decide +kernel) (by decide +kernel)) (goodIn_sub (fun _ h => List.mem_cons_of_mem _ (List.mem_append_right _ h)) (by decide +kernel))
set_option maxRecDepth 20000 in
theorem gL_freedBy_X5_freedBy : GoodIn wsL_freedBy (wsV RL 98 RX5 yX5_freedBy wsX5_freedBy) := goodIn_app (goodIn_of _ (by decide +kernel)) ggL_freedBy_X5_freedBy
theorem dL_freedBy_0 : decode cL_freedBy 0 = .ok (.aload_n 2, 1) := by decide +kernel
theorem dL_freedBy_1 : decode cL_freedBy 1 = .ok (.iconst 0, 1) := by decide +kernel
theorem dL_freedBy_2 : decode cL_freedBy 2 = .ok (.aload_n 0, 1) := by decide +kernel
theorem dL_freedBy_3 : decode cL_freedBy 3 = .ok (.iload_n 1, 1) := by decide +kernel
theorem dL_freedBy_4 : decode cL_freedBy 4 = .ok (.invokevirtual 98, 3) := by decide +kernel
theorem dL_freedBy_12 : decode cL_freedBy 12 = .ok (.astore_n 3, 1) := by decide +kernel
theorem dL_freedBy_13 : decode cL_freedBy 13 = .ok (.iconst 1, 1) := by decide +kernel
theorem dL_freedBy_14 : decode cL_freedBy 14 = .ok (.ireturn, 1) := by decide +kernel
