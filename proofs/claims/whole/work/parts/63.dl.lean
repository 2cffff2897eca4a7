set_option maxRecDepth 20000 in
theorem ggL_connector_X6_connector : GoodIn wsL_connector wsX6_connector := goodIn_ca (goodIn_ca (goodIn_r _ [6, 7, 8, 9, 10, 5, 11, 12, 13, 14, 15, 16, 17, 18, 19, 20, 21, 22, 23, 24, 25, 26, 27, 28, 29, 30, 31, 32, 33, 34, 35, 36, 37, 38, 39, 40, 41, 42] (by decide +kernel) (by decide +kernel)) (goodIn_sub (fun _ h => List.mem_cons_of_mem _ (List.mem_append_right _ h)) (by decide +kernel))) (goodIn_sub (fun _ h => List.mem_cons_of_mem _ (List.mem_append_left _ (List.mem_append_right _ h))) (by decide +kernel))
set_option maxRecDepth 20000 in
theorem gL_connector_X6_connector : GoodIn wsL_connector (wsV RL 7 RX6 yX6_connector wsX6_connector) := goodIn_app (goodIn_of _ (by decide +kernel)) ggL_connector_X6_connector
theorem dL_connector_0 : decode cL_connector 0 = .ok (.aload_n 2, 1) := by decide +kernel
theorem dL_connector_1 : decode cL_connector 1 = .ok (.iconst 0, 1) := by decide +kernel
theorem dL_connector_2 : decode cL_connector 2 = .ok (.aload_n 0, 1) := by decide +kernel
theorem dL_connector_3 : decode cL_connector 3 = .ok (.iload_n 1, 1) := by decide +kernel
theorem dL_connector_4 : decode cL_connector 4 = .ok (.invokevirtual 7, 3) := by decide +kernel
theorem dL_connector_7 : decode cL_connector 7 = .ok (.i2l, 1) := by decide +kernel
theorem dL_connector_8 : decode cL_connector 8 = .ok (.lastore, 1) := by decide +kernel
theorem dL_connector_9 : decode cL_connector 9 = .ok (.goto 6, 3) := by decide +kernel
theorem dL_connector_12 : decode cL_connector 12 = .ok (.astore_n 3, 1) := by decide +kernel
theorem dL_connector_13 : decode cL_connector 13 = .ok (.iconst 1, 1) := by decide +kernel
theorem dL_connector_14 : decode cL_connector 14 = .ok (.ireturn, 1) := by decide +kernel
theorem dL_connector_15 : decode cL_connector 15 = .ok (.iconst 0, 1) := by decide +kernel
theorem dL_connector_16 : decode cL_connector 16 = .ok (.ireturn, 1) := by decide +kernel
set_option maxRecDepth 20000 in
theorem ggL_bundle_X6_bundle : GoodIn wsL_bundle wsX6_bundle := goodIn_ca (goodIn_ca (goodIn_ca (goodIn_r _ [7, 8, 9, 10, 11, 12, 13, 14, 15, 16, 17, 6, 18, 19, 20, 21, 22, 23, 24, 25, 26, 27, 28, 29, 30, 31, 32, 33, 34, 35, 36, 37, 38, 39, 40, 41, 42, 43, 44, 45, 46, 47, 48, 49, 50, 51, 52, 53, 54, 55, 56, 57, 58, 59, 60, 61, 62, 63, 64, 65, 66, 67, 68, 69] (by decide +kernel) (by decide +kernel)) (goodIn_sub (fun _ h => List.mem_cons_of_mem _ (List.mem_append_left _ (List.mem_append_right _ h))) (by decide +kernel))) (goodIn_sub (fun _ h => List.mem_cons_of_mem _ (List.mem_append_right _ h)) (by decide +kernel))) (goodIn_sub (fun _ h => List.mem_cons_of_mem _ (List.mem_append_left _ (List.mem_append_left _ (List.mem_append_right _ h)))) (by decide +kernel))
set_option maxRecDepth 20000 in
theorem gL_bundle_X6_bundle : GoodIn wsL_bundle (wsV RL 15 RX6 yX6_bundle wsX6_bundle) := goodIn_app (goodIn_of _ (by decide +kernel)) ggL_bundle_X6_bundle
theorem dL_bundle_0 : decode cL_bundle 0 = .ok (.aload 5, 2) := by decide +kernel
theorem dL_bundle_2 : decode cL_bundle 2 = .ok (.iconst 0, 1) := by decide +kernel
theorem dL_bundle_3 : decode cL_bundle 3 = .ok (.aload_n 0, 1) := by decide +kernel
theorem dL_bundle_4 : decode cL_bundle 4 = .ok (.iload_n 1, 1) := by decide +kernel
theorem dL_bundle_5 : decode cL_bundle 5 = .ok (.iload_n 2, 1) := by decide +kernel
theorem dL_bundle_6 : decode cL_bundle 6 = .ok (.lload_n 3, 1) := by decide +kernel
theorem dL_bundle_7 : decode cL_bundle 7 = .ok (.invokevirtual 15, 3) := by decide +kernel
theorem dL_bundle_10 : decode cL_bundle 10 = .ok (.i2l, 1) := by decide +kernel
theorem dL_bundle_11 : decode cL_bundle 11 = .ok (.lastore, 1) := by decide +kernel
theorem dL_bundle_12 : decode cL_bundle 12 = .ok (.goto 11, 3) := by decide +kernel
theorem dL_bundle_15 : decode cL_bundle 15 = .ok (.astore 6, 2) := by decide +kernel
theorem dL_bundle_17 : decode cL_bundle 17 = .ok (.iconst 1, 1) := by decide +kernel
theorem dL_bundle_18 : decode cL_bundle 18 = .ok (.ireturn, 1) := by decide +kernel
theorem dL_bundle_19 : decode cL_bundle 19 = .ok (.astore 6, 2) := by decide +kernel
theorem dL_bundle_21 : decode cL_bundle 21 = .ok (.iconst 2, 1) := by decide +kernel
theorem dL_bundle_22 : decode cL_bundle 22 = .ok (.ireturn, 1) := by decide +kernel
theorem dL_bundle_23 : decode cL_bundle 23 = .ok (.iconst 0, 1) := by decide +kernel
theorem dL_bundle_24 : decode cL_bundle 24 = .ok (.ireturn, 1) := by decide +kernel
set_option maxRecDepth 20000 in
theorem ggL_wire_X6_wire : GoodIn wsL_wire wsX6_wire := goodIn_ca (goodIn_ca (goodIn_r _ [6, 7, 8, 9, 10, 5, 11, 12, 13, 14, 15, 16, 17, 18, 19, 20, 21, 22, 23, 24, 25, 26, 27, 28, 29, 30, 31, 32, 33, 34, 35, 36, 37, 38, 39, 40, 41, 42, 43, 44, 45, 46, 47, 48, 49, 50, 51, 52, 53, 54, 55, 56, 57, 58, 59, 60, 61, 62, 63, 64, 65, 66, 67, 68, 69, 70, 71, 72, 73, 74, 75, 76, 77, 78, 79, 80, 81] (by decide +kernel) (by decide +kernel)) (goodIn_sub (fun _ h => List.mem_cons_of_mem _ (List.mem_append_right _ h)) (by decide +kernel))) (goodIn_sub (fun _ h => List.mem_cons_of_mem _ (List.mem_append_left _ (List.mem_append_right _ h))) (by decide +kernel))
set_option maxRecDepth 20000 in
theorem gL_wire_X6_wire : GoodIn wsL_wire (wsV RL 21 RX6 yX6_wire wsX6_wire) := goodIn_app (goodIn_of _ (by decide +kernel)) ggL_wire_X6_wire
theorem dL_wire_0 : decode cL_wire 0 = .ok (.aload 5, 2) := by decide +kernel
theorem dL_wire_2 : decode cL_wire 2 = .ok (.iconst 0, 1) := by decide +kernel
theorem dL_wire_3 : decode cL_wire 3 = .ok (.aload_n 0, 1) := by decide +kernel
theorem dL_wire_4 : decode cL_wire 4 = .ok (.iload_n 1, 1) := by decide +kernel
theorem dL_wire_5 : decode cL_wire 5 = .ok (.iload_n 2, 1) := by decide +kernel
theorem dL_wire_6 : decode cL_wire 6 = .ok (.iload_n 3, 1) := by decide +kernel
theorem dL_wire_7 : decode cL_wire 7 = .ok (.iload 4, 2) := by decide +kernel
theorem dL_wire_9 : decode cL_wire 9 = .ok (.invokevirtual 21, 3) := by decide +kernel
theorem dL_wire_12 : decode cL_wire 12 = .ok (.i2l, 1) := by decide +kernel
theorem dL_wire_13 : decode cL_wire 13 = .ok (.lastore, 1) := by decide +kernel
theorem dL_wire_14 : decode cL_wire 14 = .ok (.goto 7, 3) := by decide +kernel
theorem dL_wire_17 : decode cL_wire 17 = .ok (.astore 6, 2) := by decide +kernel
theorem dL_wire_19 : decode cL_wire 19 = .ok (.iconst 1, 1) := by decide +kernel
theorem dL_wire_20 : decode cL_wire 20 = .ok (.ireturn, 1) := by decide +kernel
theorem dL_wire_21 : decode cL_wire 21 = .ok (.iconst 0, 1) := by decide +kernel
theorem dL_wire_22 : decode cL_wire 22 = .ok (.ireturn, 1) := by decide +kernel
set_option maxRecDepth 20000 in
theorem ggL_load_X6_load : GoodIn wsL_load wsX6_load := goodIn_ca (goodIn_ca (goodIn_ca (goodIn_r _ [7, 8, 9, 10, 11, 12, 13, 14, 15, 16, 17, 6, 18, 19, 20, 21, 22, 23, 24, 25, 26, 27, 28, 29, 30, 31, 32, 33, 34, 35, 36, 37, 38, 39, 40, 41, 42, 43, 44, 45, 46] (by decide +kernel) (by decide +kernel)) (goodIn_sub (fun _ h => List.mem_cons_of_mem _ (List.mem_append_left _ (List.mem_append_right _ h))) (by decide +kernel))) (goodIn_sub (fun _ h => List.mem_cons_of_mem _ (List.mem_append_right _ h)) (by decide +kernel))) (goodIn_sub (fun _ h => List.mem_cons_of_mem _ (List.mem_append_left _ (List.mem_append_left _ (List.mem_append_right _ h)))) (by decide +kernel))
set_option maxRecDepth 20000 in
theorem gL_load_X6_load : GoodIn wsL_load (wsV RL 25 RX6 yX6_load wsX6_load) := goodIn_app (goodIn_of _ (by decide +kernel)) ggL_load_X6_load
theorem dL_load_0 : decode cL_load 0 = .ok (.aload 6, 2) := by decide +kernel
theorem dL_load_2 : decode cL_load 2 = .ok (.iconst 0, 1) := by decide +kernel
theorem dL_load_3 : decode cL_load 3 = .ok (.aload_n 0, 1) := by decide +kernel
theorem dL_load_4 : decode cL_load 4 = .ok (.iload_n 1, 1) := by decide +kernel
theorem dL_load_5 : decode cL_load 5 = .ok (.lload_n 2, 1) := by decide +kernel
theorem dL_load_6 : decode cL_load 6 = .ok (.lload 4, 2) := by decide +kernel
theorem dL_load_8 : decode cL_load 8 = .ok (.invokevirtual 25, 3) := by decide +kernel
theorem dL_load_11 : decode cL_load 11 = .ok (.ifCond .eq 7, 3) := by decide +kernel
theorem dL_load_14 : decode cL_load 14 = .ok (.lconst 1, 1) := by decide +kernel
theorem dL_load_15 : decode cL_load 15 = .ok (.goto 4, 3) := by decide +kernel
theorem dL_load_18 : decode cL_load 18 = .ok (.lconst 0, 1) := by decide +kernel
theorem dL_load_19 : decode cL_load 19 = .ok (.lastore, 1) := by decide +kernel
theorem dL_load_20 : decode cL_load 20 = .ok (.goto 11, 3) := by decide +kernel
theorem dL_load_23 : decode cL_load 23 = .ok (.astore 7, 2) := by decide +kernel
theorem dL_load_25 : decode cL_load 25 = .ok (.iconst 1, 1) := by decide +kernel
theorem dL_load_26 : decode cL_load 26 = .ok (.ireturn, 1) := by decide +kernel
theorem dL_load_27 : decode cL_load 27 = .ok (.astore 7, 2) := by decide +kernel
theorem dL_load_29 : decode cL_load 29 = .ok (.iconst 2, 1) := by decide +kernel
theorem dL_load_30 : decode cL_load 30 = .ok (.ireturn, 1) := by decide +kernel
theorem dL_load_31 : decode cL_load 31 = .ok (.iconst 0, 1) := by decide +kernel
theorem dL_load_32 : decode cL_load 32 = .ok (.ireturn, 1) := by decide +kernel
set_option maxRecDepth 20000 in
theorem ggL_gauge_X6_gauge : GoodIn wsL_gauge wsX6_gauge := goodIn_ca (goodIn_ca (goodIn_r _ [6, 7, 8, 9, 10, 11, 12, 13, 14, 15, 16, 17, 5, 18, 19, 20, 21, 22, 23, 24, 25, 26, 27, 28, 29, 30, 31, 32, 33, 34, 35, 36, 37, 38, 39, 40, 41, 42, 43, 44, 45, 46, 47, 48, 49, 50, 51, 52, 53, 54, 55, 56, 57, 58, 59, 60, 61, 62, 63, 64, 65, 66, 67, 68, 69, 70, 71, 72, 73, 74, 75, 76, 77, 78, 79, 80, 81, 82, 83, 84, 85, 86, 87, 88, 89, 90, 91, 92, 93, 94, 95] (by decide +kernel) (by decide +kernel)) (goodIn_sub (fun _ h => List.mem_cons_of_mem _ (List.mem_append_right _ h)) (by decide +kernel))) (goodIn_sub (fun _ h => List.mem_cons_of_mem _ (List.mem_append_left _ (List.mem_append_right _ h))) (by decide +kernel))
set_option maxRecDepth 20000 in
theorem gL_gauge_X6_gauge : GoodIn wsL_gauge (wsV RL 29 RX6 yX6_gauge wsX6_gauge) := goodIn_app (goodIn_of _ (by decide +kernel)) ggL_gauge_X6_gauge
theorem dL_gauge_0 : decode cL_gauge 0 = .ok (.aload_n 2, 1) := by decide +kernel
theorem dL_gauge_1 : decode cL_gauge 1 = .ok (.iconst 0, 1) := by decide +kernel
theorem dL_gauge_2 : decode cL_gauge 2 = .ok (.aload_n 0, 1) := by decide +kernel
theorem dL_gauge_3 : decode cL_gauge 3 = .ok (.iload_n 1, 1) := by decide +kernel
theorem dL_gauge_4 : decode cL_gauge 4 = .ok (.invokevirtual 29, 3) := by decide +kernel
theorem dL_gauge_7 : decode cL_gauge 7 = .ok (.i2l, 1) := by decide +kernel
theorem dL_gauge_8 : decode cL_gauge 8 = .ok (.lastore, 1) := by decide +kernel
theorem dL_gauge_9 : decode cL_gauge 9 = .ok (.goto 6, 3) := by decide +kernel
theorem dL_gauge_12 : decode cL_gauge 12 = .ok (.astore_n 3, 1) := by decide +kernel
theorem dL_gauge_13 : decode cL_gauge 13 = .ok (.iconst 1, 1) := by decide +kernel
theorem dL_gauge_14 : decode cL_gauge 14 = .ok (.ireturn, 1) := by decide +kernel
theorem dL_gauge_15 : decode cL_gauge 15 = .ok (.iconst 0, 1) := by decide +kernel
theorem dL_gauge_16 : decode cL_gauge 16 = .ok (.ireturn, 1) := by decide +kernel
set_option maxRecDepth 20000 in
theorem ggL_table_X6_table : GoodIn wsL_table wsX6_table := goodIn_ca (goodIn_ca (goodIn_ca (goodIn_r _ [7, 8, 9, 10, 11, 6, 12, 13, 14, 15, 16, 17, 18, 19, 20, 21, 22, 23, 24, 25, 26, 27, 28, 29, 30, 31, 32, 33, 34, 35, 36, 37, 38, 39] (by decide +kernel) (by decide +kernel)) (goodIn_sub (fun _ h => List.mem_cons_of_mem _ (List.mem_append_left _ (List.mem_append_right _ h))) (by decide +kernel))) (goodIn_sub (fun _ h => List.mem_cons_of_mem _ (List.mem_append_right _ h)) (by decide +kernel))) (goodIn_sub (fun _ h => List.mem_cons_of_mem _ (List.mem_append_left _ (List.mem_append_left _ (List.mem_append_right _ h)))) (by decide +kernel))
set_option maxRecDepth 20000 in
theorem gL_table_X6_table : GoodIn wsL_table (wsV RL 32 RX6 yX6_table wsX6_table) := goodIn_app (goodIn_of _ (by decide +kernel)) ggL_table_X6_table
theorem dL_table_0 : decode cL_table 0 = .ok (.aload 8, 2) := by decide +kernel
theorem dL_table_2 : decode cL_table 2 = .ok (.iconst 0, 1) := by decide +kernel
theorem dL_table_3 : decode cL_table 3 = .ok (.aload_n 0, 1) := by decide +kernel
theorem dL_table_4 : decode cL_table 4 = .ok (.iload_n 1, 1) := by decide +kernel
theorem dL_table_5 : decode cL_table 5 = .ok (.lload_n 2, 1) := by decide +kernel
theorem dL_table_6 : decode cL_table 6 = .ok (.lload 4, 2) := by decide +kernel
theorem dL_table_8 : decode cL_table 8 = .ok (.lload 6, 2) := by decide +kernel
theorem dL_table_10 : decode cL_table 10 = .ok (.invokevirtual 32, 3) := by decide +kernel
theorem dL_table_13 : decode cL_table 13 = .ok (.ifCond .eq 7, 3) := by decide +kernel
theorem dL_table_16 : decode cL_table 16 = .ok (.lconst 1, 1) := by decide +kernel
theorem dL_table_17 : decode cL_table 17 = .ok (.goto 4, 3) := by decide +kernel
theorem dL_table_20 : decode cL_table 20 = .ok (.lconst 0, 1) := by decide +kernel
theorem dL_table_21 : decode cL_table 21 = .ok (.lastore, 1) := by decide +kernel
theorem dL_table_22 : decode cL_table 22 = .ok (.goto 11, 3) := by decide +kernel
theorem dL_table_25 : decode cL_table 25 = .ok (.astore 9, 2) := by decide +kernel
theorem dL_table_27 : decode cL_table 27 = .ok (.iconst 1, 1) := by decide +kernel
theorem dL_table_28 : decode cL_table 28 = .ok (.ireturn, 1) := by decide +kernel
theorem dL_table_29 : decode cL_table 29 = .ok (.astore 9, 2) := by decide +kernel
theorem dL_table_31 : decode cL_table 31 = .ok (.iconst 2, 1) := by decide +kernel
theorem dL_table_32 : decode cL_table 32 = .ok (.ireturn, 1) := by decide +kernel
theorem dL_table_33 : decode cL_table 33 = .ok (.iconst 0, 1) := by decide +kernel
theorem dL_table_34 : decode cL_table 34 = .ok (.ireturn, 1) := by decide +kernel
set_option maxRecDepth 20000 in
theorem ggL_length_X6_length : GoodIn wsL_length wsX6_length := goodIn_ca (goodIn_ca (goodIn_r _ [6, 7, 8, 9, 10, 11, 12, 13, 14, 15, 5, 16, 17, 18, 19, 20, 21, 22, 23, 24, 25, 26, 27, 28, 29, 30, 31, 32, 33, 34, 35, 36, 37, 38, 39, 40, 41, 42, 43, 44, 45, 46, 47, 48, 49, 50, 51, 52, 53, 54, 55, 56, 57, 58, 59, 60, 61, 62, 63, 64, 65, 66, 67] (by decide +kernel) (by decide +kernel)) (goodIn_sub (fun _ h => List.mem_cons_of_mem _ (List.mem_append_right _ h)) (by decide +kernel))) (goodIn_sub (fun _ h => List.mem_cons_of_mem _ (List.mem_append_left _ (List.mem_append_right _ h))) (by decide +kernel))
set_option maxRecDepth 20000 in
theorem gL_length_X6_length : GoodIn wsL_length (wsV RL 36 RX6 yX6_length wsX6_length) := goodIn_app (goodIn_of _ (by decide +kernel)) ggL_length_X6_length
theorem dL_length_0 : decode cL_length 0 = .ok (.aload_n 2, 1) := by decide +kernel
theorem dL_length_1 : decode cL_length 1 = .ok (.iconst 0, 1) := by decide +kernel
theorem dL_length_2 : decode cL_length 2 = .ok (.aload_n 0, 1) := by decide +kernel
theorem dL_length_3 : decode cL_length 3 = .ok (.iload_n 1, 1) := by decide +kernel
theorem dL_length_4 : decode cL_length 4 = .ok (.invokevirtual 36, 3) := by decide +kernel
theorem dL_length_7 : decode cL_length 7 = .ok (.lastore, 1) := by decide +kernel
theorem dL_length_8 : decode cL_length 8 = .ok (.goto 6, 3) := by decide +kernel
theorem dL_length_11 : decode cL_length 11 = .ok (.astore_n 3, 1) := by decide +kernel
theorem dL_length_12 : decode cL_length 12 = .ok (.iconst 1, 1) := by decide +kernel
theorem dL_length_13 : decode cL_length 13 = .ok (.ireturn, 1) := by decide +kernel
theorem dL_length_14 : decode cL_length 14 = .ok (.iconst 0, 1) := by decide +kernel
theorem dL_length_15 : decode cL_length 15 = .ok (.ireturn, 1) := by decide +kernel
set_option maxRecDepth 20000 in
theorem ggL_slack_X6_slack : GoodIn wsL_slack wsX6_slack := goodIn_ca (goodIn_r _ [6, 7, 8, 9, 10, 11, 5, 12, 13, 14, 15, 16, 17, 18, 19, 20, 21, 22, 23] (by decide +kernel) (by decide +kernel)) (goodIn_sub (fun _ h => List.mem_cons_of_mem _ (List.mem_append_right _ h)) (by decide +kernel))
set_option maxRecDepth 20000 in
theorem gL_slack_X6_slack : GoodIn wsL_slack (wsV RL 40 RX6 yX6_slack wsX6_slack) := goodIn_app (goodIn_of _ (by decide +kernel)) ggL_slack_X6_slack
theorem dL_slack_0 : decode cL_slack 0 = .ok (.aload 5, 2) := by decide +kernel
theorem dL_slack_2 : decode cL_slack 2 = .ok (.iconst 0, 1) := by decide +kernel
theorem dL_slack_3 : decode cL_slack 3 = .ok (.aload_n 0, 1) := by decide +kernel
theorem dL_slack_4 : decode cL_slack 4 = .ok (.lload_n 1, 1) := by decide +kernel
theorem dL_slack_5 : decode cL_slack 5 = .ok (.lload_n 3, 1) := by decide +kernel
theorem dL_slack_6 : decode cL_slack 6 = .ok (.invokevirtual 40, 3) := by decide +kernel
theorem dL_slack_9 : decode cL_slack 9 = .ok (.ifCond .eq 7, 3) := by decide +kernel
theorem dL_slack_12 : decode cL_slack 12 = .ok (.lconst 1, 1) := by decide +kernel
theorem dL_slack_13 : decode cL_slack 13 = .ok (.goto 4, 3) := by decide +kernel
theorem dL_slack_16 : decode cL_slack 16 = .ok (.lconst 0, 1) := by decide +kernel
theorem dL_slack_17 : decode cL_slack 17 = .ok (.lastore, 1) := by decide +kernel
theorem dL_slack_18 : decode cL_slack 18 = .ok (.goto 7, 3) := by decide +kernel
theorem dL_slack_21 : decode cL_slack 21 = .ok (.astore 6, 2) := by decide +kernel
theorem dL_slack_23 : decode cL_slack 23 = .ok (.iconst 1, 1) := by decide +kernel
theorem dL_slack_24 : decode cL_slack 24 = .ok (.ireturn, 1) := by decide +kernel
theorem dL_slack_25 : decode cL_slack 25 = .ok (.iconst 0, 1) := by decide +kernel
theorem dL_slack_26 : decode cL_slack 26 = .ok (.ireturn, 1) := by decide +kernel
set_option maxRecDepth 20000 in
theorem ggL_reel_X6_reel : GoodIn wsL_reel wsX6_reel := goodIn_ca (goodIn_ca (goodIn_r _ [6, 7, 8, 9, 10, 11, 12, 5, 13, 14, 15, 16, 17, 18, 19, 20, 21, 22, 23, 24, 25, 26, 27, 28, 29, 30, 31, 32, 33, 34, 35, 36, 37, 38, 39, 40, 41, 42, 43, 44, 45, 46, 47, 48, 49, 50, 51, 52, 53, 54, 55, 56, 57, 58, 59, 60, 61, 62, 63, 64, 65, 66, 67, 68, 69, 70, 71, 72, 73, 74, 75, 76, 77, 78, 79, 80, 81, 82, 83, 84, 85, 86, 87, 88, 89, 90, 91, 92, 93, 94, 95, 96, 97, 98, 99, 100, 101, 102, 103, 104, 105, 106, 107, 108, 109, 110, 111, 112, 113, 114, 115, 116, 117, 118, 119, 120, 121, 122, 123, 124, 125, 126, 127, 128, 129, 130, 131, 132, 133, 134, 135, 136, 137, 138, 139, 140, 141] (by decide +kernel) (by decide +kernel)) (goodIn_sub (fun _ h => List.mem_cons_of_mem _ (List.mem_append_right _ h)) (by decide +kernel))) (goodIn_sub (fun _ h => List.mem_cons_of_mem _ (List.mem_append_left _ (List.mem_append_right _ h))) (by decide +kernel))
set_option maxRecDepth 20000 in
theorem gL_reel_X6_reel : GoodIn wsL_reel (wsV RL 44 RX6 yX6_reel wsX6_reel) := goodIn_app (goodIn_of _ (by decide +kernel)) ggL_reel_X6_reel
theorem dL_reel_0 : decode cL_reel 0 = .ok (.aload_n 3, 1) := by decide +kernel
theorem dL_reel_1 : decode cL_reel 1 = .ok (.iconst 0, 1) := by decide +kernel
theorem dL_reel_2 : decode cL_reel 2 = .ok (.aload_n 0, 1) := by decide +kernel
theorem dL_reel_3 : decode cL_reel 3 = .ok (.lload_n 1, 1) := by decide +kernel
theorem dL_reel_4 : decode cL_reel 4 = .ok (.invokevirtual 44, 3) := by decide +kernel
theorem dL_reel_7 : decode cL_reel 7 = .ok (.i2l, 1) := by decide +kernel
theorem dL_reel_8 : decode cL_reel 8 = .ok (.lastore, 1) := by decide +kernel
theorem dL_reel_9 : decode cL_reel 9 = .ok (.goto 7, 3) := by decide +kernel
theorem dL_reel_12 : decode cL_reel 12 = .ok (.astore 4, 2) := by decide +kernel
theorem dL_reel_14 : decode cL_reel 14 = .ok (.iconst 1, 1) := by decide +kernel
theorem dL_reel_15 : decode cL_reel 15 = .ok (.ireturn, 1) := by decide +kernel
theorem dL_reel_16 : decode cL_reel 16 = .ok (.iconst 0, 1) := by decide +kernel
theorem dL_reel_17 : decode cL_reel 17 = .ok (.ireturn, 1) := by decide +kernel
set_option maxRecDepth 20000 in
theorem ggL_reelOf_X6_reelOf : GoodIn wsL_reelOf wsX6_reelOf := goodIn_ca (goodIn_ca (goodIn_r _ [6, 7, 8, 9, 10, 11, 12, 13, 14, 15, 16, 5, 17, 18, 19, 20, 21, 22, 23, 24, 25, 26, 27, 28, 29, 30, 31, 32, 33, 34, 35, 36, 37, 38, 39, 40, 41, 42, 43, 44, 45, 46, 47, 48] (by decide +kernel) (by decide +kernel)) (goodIn_sub (fun _ h => List.mem_cons_of_mem _ (List.mem_append_right _ h)) (by decide +kernel))) (goodIn_sub (fun _ h => List.mem_cons_of_mem _ (List.mem_append_left _ (List.mem_append_right _ h))) (by decide +kernel))
set_option maxRecDepth 20000 in
theorem gL_reelOf_X6_reelOf : GoodIn wsL_reelOf (wsV RL 48 RX6 yX6_reelOf wsX6_reelOf) := goodIn_app (goodIn_of _ (by decide +kernel)) ggL_reelOf_X6_reelOf
theorem dL_reelOf_0 : decode cL_reelOf 0 = .ok (.aload_n 2, 1) := by decide +kernel
theorem dL_reelOf_1 : decode cL_reelOf 1 = .ok (.iconst 0, 1) := by decide +kernel
theorem dL_reelOf_2 : decode cL_reelOf 2 = .ok (.aload_n 0, 1) := by decide +kernel
theorem dL_reelOf_3 : decode cL_reelOf 3 = .ok (.iload_n 1, 1) := by decide +kernel
theorem dL_reelOf_4 : decode cL_reelOf 4 = .ok (.invokevirtual 48, 3) := by decide +kernel
theorem dL_reelOf_7 : decode cL_reelOf 7 = .ok (.i2l, 1) := by decide +kernel
theorem dL_reelOf_8 : decode cL_reelOf 8 = .ok (.lastore, 1) := by decide +kernel
theorem dL_reelOf_9 : decode cL_reelOf 9 = .ok (.goto 6, 3) := by decide +kernel
theorem dL_reelOf_12 : decode cL_reelOf 12 = .ok (.astore_n 3, 1) := by decide +kernel
theorem dL_reelOf_13 : decode cL_reelOf 13 = .ok (.iconst 1, 1) := by decide +kernel
theorem dL_reelOf_14 : decode cL_reelOf 14 = .ok (.ireturn, 1) := by decide +kernel
theorem dL_reelOf_15 : decode cL_reelOf 15 = .ok (.iconst 0, 1) := by decide +kernel
theorem dL_reelOf_16 : decode cL_reelOf 16 = .ok (.ireturn, 1) := by decide +kernel
set_option maxRecDepth 20000 in
theorem ggL_splice_X6_splice : GoodIn wsL_splice wsX6_splice := goodIn_ca (goodIn_ca (goodIn_r _ [6, 7, 8, 9, 10, 11, 12, 13, 14, 15, 16, 5, 17, 18, 19, 20, 21, 22, 23, 24, 25, 26, 27, 28, 29, 30, 31, 32, 33, 34, 35, 36, 37, 38, 39, 40, 41, 42, 43, 44, 45, 46, 47, 48, 49, 50, 51] (by decide +kernel) (by decide +kernel)) (goodIn_sub (fun _ h => List.mem_cons_of_mem _ (List.mem_append_right _ h)) (by decide +kernel))) (goodIn_sub (fun _ h => List.mem_cons_of_mem _ (List.mem_append_left _ (List.mem_append_right _ h))) (by decide +kernel))
set_option maxRecDepth 20000 in
theorem gL_splice_X6_splice : GoodIn wsL_splice (wsV RL 51 RX6 yX6_splice wsX6_splice) := goodIn_app (goodIn_of _ (by decide +kernel)) ggL_splice_X6_splice
theorem dL_splice_0 : decode cL_splice 0 = .ok (.aload_n 3, 1) := by decide +kernel
theorem dL_splice_1 : decode cL_splice 1 = .ok (.iconst 0, 1) := by decide +kernel
theorem dL_splice_2 : decode cL_splice 2 = .ok (.aload_n 0, 1) := by decide +kernel
theorem dL_splice_3 : decode cL_splice 3 = .ok (.iload_n 1, 1) := by decide +kernel
theorem dL_splice_4 : decode cL_splice 4 = .ok (.iload_n 2, 1) := by decide +kernel
theorem dL_splice_5 : decode cL_splice 5 = .ok (.invokevirtual 51, 3) := by decide +kernel
theorem dL_splice_8 : decode cL_splice 8 = .ok (.i2l, 1) := by decide +kernel
theorem dL_splice_9 : decode cL_splice 9 = .ok (.lastore, 1) := by decide +kernel
theorem dL_splice_10 : decode cL_splice 10 = .ok (.goto 7, 3) := by decide +kernel
theorem dL_splice_13 : decode cL_splice 13 = .ok (.astore 4, 2) := by decide +kernel
theorem dL_splice_15 : decode cL_splice 15 = .ok (.iconst 1, 1) := by decide +kernel
theorem dL_splice_16 : decode cL_splice 16 = .ok (.ireturn, 1) := by decide +kernel
theorem dL_splice_17 : decode cL_splice 17 = .ok (.iconst 0, 1) := by decide +kernel
theorem dL_splice_18 : decode cL_splice 18 = .ok (.ireturn, 1) := by decide +kernel
set_option maxRecDepth 20000 in
theorem ggL_joined_X6_joined : GoodIn wsL_joined wsX6_joined := goodIn_ca (goodIn_ca (goodIn_r _ [6, 7, 8, 9, 10, 11, 5, 12, 13, 14, 15, 16, 17, 18, 19, 20, 21, 22, 23, 24, 25, 26, 27, 28, 29, 30, 31, 32, 33, 34, 35, 36, 37, 38, 39, 40, 41, 42, 43, 44, 45, 46, 47, 48, 49, 50, 51, 52, 53, 54, 55, 56, 57, 58, 59, 60, 61, 62, 63, 64, 65, 66, 67, 68, 69, 70, 71] (by decide +kernel) (by decide +kernel)) (goodIn_sub (fun _ h => List.mem_cons_of_mem _ (List.mem_append_right _ h)) (by decide +kernel))) (goodIn_sub (fun _ h => List.mem_cons_of_mem _ (List.mem_append_left _ (List.mem_append_right _ h))) (by decide +kernel))
set_option maxRecDepth 20000 in
theorem gL_joined_X6_joined : GoodIn wsL_joined (wsV RL 55 RX6 yX6_joined wsX6_joined) := goodIn_app (goodIn_of _ (by decide +kernel)) ggL_joined_X6_joined
theorem dL_joined_0 : decode cL_joined 0 = .ok (.aload 5, 2) := by decide +kernel
theorem dL_joined_2 : decode cL_joined 2 = .ok (.iconst 0, 1) := by decide +kernel
theorem dL_joined_3 : decode cL_joined 3 = .ok (.aload_n 0, 1) := by decide +kernel
theorem dL_joined_4 : decode cL_joined 4 = .ok (.iload_n 1, 1) := by decide +kernel
theorem dL_joined_5 : decode cL_joined 5 = .ok (.iload_n 2, 1) := by decide +kernel
theorem dL_joined_6 : decode cL_joined 6 = .ok (.iload_n 3, 1) := by decide +kernel
theorem dL_joined_7 : decode cL_joined 7 = .ok (.iload 4, 2) := by decide +kernel
theorem dL_joined_9 : decode cL_joined 9 = .ok (.invokevirtual 55, 3) := by decide +kernel
theorem dL_joined_12 : decode cL_joined 12 = .ok (.ifCond .eq 7, 3) := by decide +kernel
theorem dL_joined_15 : decode cL_joined 15 = .ok (.lconst 1, 1) := by decide +kernel
theorem dL_joined_16 : decode cL_joined 16 = .ok (.goto 4, 3) := by decide +kernel
theorem dL_joined_19 : decode cL_joined 19 = .ok (.lconst 0, 1) := by decide +kernel
theorem dL_joined_20 : decode cL_joined 20 = .ok (.lastore, 1) := by decide +kernel
theorem dL_joined_21 : decode cL_joined 21 = .ok (.goto 7, 3) := by decide +kernel
theorem dL_joined_24 : decode cL_joined 24 = .ok (.astore 6, 2) := by decide +kernel
theorem dL_joined_26 : decode cL_joined 26 = .ok (.iconst 1, 1) := by decide +kernel
theorem dL_joined_27 : decode cL_joined 27 = .ok (.ireturn, 1) := by decide +kernel
theorem dL_joined_28 : decode cL_joined 28 = .ok (.iconst 0, 1) := by decide +kernel
theorem dL_joined_29 : decode cL_joined 29 = .ok (.ireturn, 1) := by decide +kernel
set_option maxRecDepth 20000 in
theorem ggL_colour_X6_colour : GoodIn wsL_colour wsX6_colour := goodIn_ca (goodIn_ca (goodIn_r _ [6, 7, 8, 9, 10, 11, 12, 13, 14, 15, 5, 16, 17, 18, 19, 20, 21, 22, 23, 24, 25, 26, 27, 28, 29, 30, 31, 32, 33, 34, 35, 36, 37, 38] (by decide +kernel) (by decide +kernel)) (goodIn_sub (fun _ h => List.mem_cons_of_mem _ (List.mem_append_right _ h)) (by decide +kernel))) (goodIn_sub (fun _ h => List.mem_cons_of_mem _ (List.mem_append_left _ (List.mem_append_right _ h))) (by decide +kernel))
set_option maxRecDepth 20000 in
theorem gL_colour_X6_colour : GoodIn wsL_colour (wsV RL 59 RX6 yX6_colour wsX6_colour) := goodIn_app (goodIn_of _ (by decide +kernel)) ggL_colour_X6_colour
theorem dL_colour_0 : decode cL_colour 0 = .ok (.aload_n 2, 1) := by decide +kernel
theorem dL_colour_1 : decode cL_colour 1 = .ok (.iconst 0, 1) := by decide +kernel
theorem dL_colour_2 : decode cL_colour 2 = .ok (.aload_n 0, 1) := by decide +kernel
theorem dL_colour_3 : decode cL_colour 3 = .ok (.iload_n 1, 1) := by decide +kernel
theorem dL_colour_4 : decode cL_colour 4 = .ok (.invokevirtual 59, 3) := by decide +kernel
theorem dL_colour_7 : decode cL_colour 7 = .ok (.i2l, 1) := by decide +kernel
theorem dL_colour_8 : decode cL_colour 8 = .ok (.lastore, 1) := by decide +kernel
theorem dL_colour_9 : decode cL_colour 9 = .ok (.goto 6, 3) := by decide +kernel
theorem dL_colour_12 : decode cL_colour 12 = .ok (.astore_n 3, 1) := by decide +kernel
theorem dL_colour_13 : decode cL_colour 13 = .ok (.iconst 1, 1) := by decide +kernel
theorem dL_colour_14 : decode cL_colour 14 = .ok (.ireturn, 1) := by decide +kernel
theorem dL_colour_15 : decode cL_colour 15 = .ok (.iconst 0, 1) := by decide +kernel
theorem dL_colour_16 : decode cL_colour 16 = .ok (.ireturn, 1) := by decide +kernel
set_option maxRecDepth 20000 in
theorem ggL_has_X6_has : GoodIn wsL_has wsX6_has := goodIn_ca (goodIn_ca (goodIn_r _ [6, 7, 8, 9, 10, 11, 12, 13, 14, 15, 16, 5, 17, 18, 19, 20, 21, 22, 23, 24, 25, 26, 27, 28, 29, 30, 31, 32, 33, 34, 35, 36, 37, 38, 39, 40, 41, 42, 43, 44, 45, 46, 47, 48, 49, 50, 51, 52, 53, 54, 55] (by decide +kernel) (by decide +kernel)) (goodIn_sub (fun _ h => List.mem_cons_of_mem _ (List.mem_append_right _ h)) (by decide +kernel))) (goodIn_sub (fun _ h => List.mem_cons_of_mem _ (List.mem_append_left _ (List.mem_append_right _ h))) (by decide +kernel))
set_option maxRecDepth 20000 in
theorem gL_has_X6_has : GoodIn wsL_has (wsV RL 62 RX6 yX6_has wsX6_has) := goodIn_app (goodIn_of _ (by decide +kernel)) ggL_has_X6_has
theorem dL_has_0 : decode cL_has 0 = .ok (.aload 4, 2) := by decide +kernel
theorem dL_has_2 : decode cL_has 2 = .ok (.iconst 0, 1) := by decide +kernel
theorem dL_has_3 : decode cL_has 3 = .ok (.aload_n 0, 1) := by decide +kernel
theorem dL_has_4 : decode cL_has 4 = .ok (.iload_n 1, 1) := by decide +kernel
theorem dL_has_5 : decode cL_has 5 = .ok (.iload_n 2, 1) := by decide +kernel
theorem dL_has_6 : decode cL_has 6 = .ok (.iload_n 3, 1) := by decide +kernel
theorem dL_has_7 : decode cL_has 7 = .ok (.invokevirtual 62, 3) := by decide +kernel
theorem dL_has_10 : decode cL_has 10 = .ok (.ifCond .eq 7, 3) := by decide +kernel
theorem dL_has_13 : decode cL_has 13 = .ok (.lconst 1, 1) := by decide +kernel
theorem dL_has_14 : decode cL_has 14 = .ok (.goto 4, 3) := by decide +kernel
theorem dL_has_17 : decode cL_has 17 = .ok (.lconst 0, 1) := by decide +kernel
theorem dL_has_18 : decode cL_has 18 = .ok (.lastore, 1) := by decide +kernel
theorem dL_has_19 : decode cL_has 19 = .ok (.goto 7, 3) := by decide +kernel
theorem dL_has_22 : decode cL_has 22 = .ok (.astore 5, 2) := by decide +kernel
theorem dL_has_24 : decode cL_has 24 = .ok (.iconst 1, 1) := by decide +kernel
theorem dL_has_25 : decode cL_has 25 = .ok (.ireturn, 1) := by decide +kernel
theorem dL_has_26 : decode cL_has 26 = .ok (.iconst 0, 1) := by decide +kernel
theorem dL_has_27 : decode cL_has 27 = .ok (.ireturn, 1) := by decide +kernel
set_option maxRecDepth 20000 in
theorem ggL_told_X6_told : GoodIn wsL_told wsX6_told := goodIn_ca (goodIn_ca (goodIn_r _ [6, 7, 8, 9, 10, 5, 11, 12, 13, 14, 15, 16, 17, 18, 19, 20, 21, 22, 23, 24, 25, 26, 27, 28, 29, 30, 31, 32, 33, 34, 35, 36, 37, 38, 39, 40, 41, 42, 43, 44, 45, 46, 47, 48, 49, 50, 51, 52, 53, 54, 55, 56, 57, 58, 59, 60, 61] (by decide +kernel) (by decide +kernel)) (goodIn_sub (fun _ h => List.mem_cons_of_mem _ (List.mem_append_right _ h)) (by decide +kernel))) (goodIn_sub (fun _ h => List.mem_cons_of_mem _ (List.mem_append_left _ (List.mem_append_right _ h))) (by decide +kernel))
set_option maxRecDepth 20000 in
theorem gL_told_X6_told : GoodIn wsL_told (wsV RL 66 RX6 yX6_told wsX6_told) := goodIn_app (goodIn_of _ (by decide +kernel)) ggL_told_X6_told
theorem dL_told_0 : decode cL_told 0 = .ok (.aload_n 3, 1) := by decide +kernel
theorem dL_told_1 : decode cL_told 1 = .ok (.iconst 0, 1) := by decide +kernel
theorem dL_told_2 : decode cL_told 2 = .ok (.aload_n 0, 1) := by decide +kernel
theorem dL_told_3 : decode cL_told 3 = .ok (.iload_n 1, 1) := by decide +kernel
theorem dL_told_4 : decode cL_told 4 = .ok (.iload_n 2, 1) := by decide +kernel
theorem dL_told_5 : decode cL_told 5 = .ok (.invokevirtual 66, 3) := by decide +kernel
theorem dL_told_8 : decode cL_told 8 = .ok (.i2l, 1) := by decide +kernel
theorem dL_told_9 : decode cL_told 9 = .ok (.lastore, 1) := by decide +kernel
theorem dL_told_10 : decode cL_told 10 = .ok (.goto 7, 3) := by decide +kernel
theorem dL_told_13 : decode cL_told 13 = .ok (.astore 4, 2) := by decide +kernel
theorem dL_told_15 : decode cL_told 15 = .ok (.iconst 1, 1) := by decide +kernel
theorem dL_told_16 : decode cL_told 16 = .ok (.ireturn, 1) := by decide +kernel
theorem dL_told_17 : decode cL_told 17 = .ok (.iconst 0, 1) := by decide +kernel
theorem dL_told_18 : decode cL_told 18 = .ok (.ireturn, 1) := by decide +kernel
set_option maxRecDepth 20000 in
theorem ggL_command_X6_command : GoodIn wsL_command wsX6_command := goodIn_ca (goodIn_ca (goodIn_r _ [6, 7, 8, 9, 10, 11, 12, 13, 14, 15, 16, 5, 17, 18, 19, 20, 21, 22, 23, 24, 25, 26, 27, 28, 29, 30, 31, 32, 33, 34, 35, 36, 37, 38, 39, 40, 41, 42, 43, 44, 45, 46, 47, 48, 49, 50, 51, 52, 53, 54, 55, 56, 57, 58, 59, 60, 61, 62, 63, 64, 65, 66, 67, 68, 69, 70, 71, 72, 73, 74, 75, 76, 77, 78, 79, 80, 81, 82, 83, 84, 85, 86, 87, 88, 89, 90, 91, 92, 93, 94, 95, 96, 97, 98, 99, 100, 101, 102, 103, 104, 105, 106, 107, 108, 109, 110, 111, 112, 113, 114, 115, 116, 117, 118, 119, 120, 121, 122, 123, 124, 125, 126, 127, 128, 129, 130, 131, 132, 133, 134, 135, 136, 137, 138, 139, 140, 141, 142, 143, 144, 145, 146, 147, 148, 149, 150, 151, 152, 153, 154, 155, 156, 157, 158, 159, 160, 161, 162, 163, 164, 165, 166, 167, 168, 169, 170, 171, 172, 173, 174, 175, 176, 177, 178, 179, 180, 181, 182, 183, 184, 185, 186, 187, 188, 189, 190, 191, 192, 193, 194, 195, 196, 197, 198, 199, 200, 201, 202, 203, 204, 205, 206, 207, 208, 209, 210, 211, 212, 213, 214, 215, 216, 217, 218, 219, 220, 221, 222, 223, 224, 225, 226, 227, 228, 229, 230, 231, 232, 233, 234, 235, 236, 237, 238, 239, 240, 241, 242, 243, 244, 245, 246, 247, 248, 249, 250, 251, 252, 253, 254, 255, 256, 257, 258, 259, 260, 261, 262, 263, 264, 265, 266, 267, 268, 269, 270, 271, 272, 273, 274, 275, 276, 277, 278, 279, 280, 281, 282, 283, 284] (by decide +kernel) (by decide +kernel)) (goodIn_sub (fun _ h => List.mem_cons_of_mem _ (List.mem_append_right _ h)) (by decide +kernel))) (goodIn_sub (fun _ h => List.mem_cons_of_mem _ (List.mem_append_left _ (List.mem_append_right _ h))) (by decide +kernel))
set_option maxRecDepth 20000 in
theorem gL_command_X6_command : GoodIn wsL_command (wsV RL 69 RX6 yX6_command wsX6_command) := goodIn_app (goodIn_of _ (by decide +kernel)) ggL_command_X6_command
theorem dL_command_0 : decode cL_command 0 = .ok (.aload_n 3, 1) := by decide +kernel
theorem dL_command_1 : decode cL_command 1 = .ok (.iconst 0, 1) := by decide +kernel
theorem dL_command_2 : decode cL_command 2 = .ok (.aload_n 0, 1) := by decide +kernel
theorem dL_command_3 : decode cL_command 3 = .ok (.iload_n 1, 1) := by decide +kernel
theorem dL_command_4 : decode cL_command 4 = .ok (.iload_n 2, 1) := by decide +kernel
theorem dL_command_5 : decode cL_command 5 = .ok (.invokevirtual 69, 3) := by decide +kernel
theorem dL_command_8 : decode cL_command 8 = .ok (.i2l, 1) := by decide +kernel
theorem dL_command_9 : decode cL_command 9 = .ok (.lastore, 1) := by decide +kernel
theorem dL_command_10 : decode cL_command 10 = .ok (.goto 7, 3) := by decide +kernel
theorem dL_command_13 : decode cL_command 13 = .ok (.astore 4, 2) := by decide +kernel
theorem dL_command_15 : decode cL_command 15 = .ok (.iconst 1, 1) := by decide +kernel
theorem dL_command_16 : decode cL_command 16 = .ok (.ireturn, 1) := by decide +kernel
theorem dL_command_17 : decode cL_command 17 = .ok (.iconst 0, 1) := by decide +kernel
theorem dL_command_18 : decode cL_command 18 = .ok (.ireturn, 1) := by decide +kernel
