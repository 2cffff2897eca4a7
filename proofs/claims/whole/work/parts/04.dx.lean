set_option maxRecDepth 20000 in
theorem ggX0_init_J7_fill_53178 : GoodIn wsX0_init wsJ7_fill_53178 := goodIn_r _ [17] (by decide +kernel) (by decide +kernel)
set_option maxRecDepth 20000 in
theorem gX0_init_J7_fill_53178 : GoodIn wsX0_init (va_wsS RX0 39 yJ7_fill_53178 wsJ7_fill_53178) := goodIn_app (goodIn_of _ (by decide +kernel)) ggX0_init_J7_fill_53178
theorem dX0_init_0 : decode cX0_init 0 = .ok (.aload_n 0, 1) := by decide +kernel
theorem dX0_init_1 : decode cX0_init 1 = .ok (.invokespecial 3, 3) := by decide +kernel
theorem dX0_init_4 : decode cX0_init 4 = .ok (.aload_n 0, 1) := by decide +kernel
theorem dX0_init_5 : decode cX0_init 5 = .ok (.bipush 24, 2) := by decide +kernel
theorem dX0_init_7 : decode cX0_init 7 = .ok (.newarray .int, 2) := by decide +kernel
theorem dX0_init_9 : decode cX0_init 9 = .ok (.putfield 9, 3) := by decide +kernel
theorem dX0_init_12 : decode cX0_init 12 = .ok (.aload_n 0, 1) := by decide +kernel
theorem dX0_init_13 : decode cX0_init 13 = .ok (.bipush 24, 2) := by decide +kernel
theorem dX0_init_15 : decode cX0_init 15 = .ok (.newarray .int, 2) := by decide +kernel
theorem dX0_init_17 : decode cX0_init 17 = .ok (.putfield 15, 3) := by decide +kernel
theorem dX0_init_20 : decode cX0_init 20 = .ok (.aload_n 0, 1) := by decide +kernel
theorem dX0_init_21 : decode cX0_init 21 = .ok (.bipush 24, 2) := by decide +kernel
theorem dX0_init_23 : decode cX0_init 23 = .ok (.newarray .long, 2) := by decide +kernel
theorem dX0_init_25 : decode cX0_init 25 = .ok (.putfield 18, 3) := by decide +kernel
theorem dX0_init_28 : decode cX0_init 28 = .ok (.aload_n 0, 1) := by decide +kernel
theorem dX0_init_29 : decode cX0_init 29 = .ok (.bipush 24, 2) := by decide +kernel
theorem dX0_init_31 : decode cX0_init 31 = .ok (.newarray .long, 2) := by decide +kernel
theorem dX0_init_33 : decode cX0_init 33 = .ok (.putfield 22, 3) := by decide +kernel
theorem dX0_init_36 : decode cX0_init 36 = .ok (.aload_n 0, 1) := by decide +kernel
theorem dX0_init_37 : decode cX0_init 37 = .ok (.bipush 24, 2) := by decide +kernel
theorem dX0_init_39 : decode cX0_init 39 = .ok (.newarray .int, 2) := by decide +kernel
theorem dX0_init_41 : decode cX0_init 41 = .ok (.putfield 25, 3) := by decide +kernel
theorem dX0_init_44 : decode cX0_init 44 = .ok (.aload_n 0, 1) := by decide +kernel
theorem dX0_init_45 : decode cX0_init 45 = .ok (.iconst 0, 1) := by decide +kernel
theorem dX0_init_46 : decode cX0_init 46 = .ok (.putfield 28, 3) := by decide +kernel
theorem dX0_init_49 : decode cX0_init 49 = .ok (.aload_n 0, 1) := by decide +kernel
theorem dX0_init_50 : decode cX0_init 50 = .ok (.iconst 0, 1) := by decide +kernel
theorem dX0_init_51 : decode cX0_init 51 = .ok (.putfield 32, 3) := by decide +kernel
theorem dX0_init_54 : decode cX0_init 54 = .ok (.aload_n 0, 1) := by decide +kernel
theorem dX0_init_55 : decode cX0_init 55 = .ok (.lconst 0, 1) := by decide +kernel
theorem dX0_init_56 : decode cX0_init 56 = .ok (.putfield 35, 3) := by decide +kernel
theorem dX0_init_59 : decode cX0_init 59 = .ok (.aload_n 0, 1) := by decide +kernel
theorem dX0_init_60 : decode cX0_init 60 = .ok (.getfield 9, 3) := by decide +kernel
theorem dX0_init_63 : decode cX0_init 63 = .ok (.iconst (-1), 1) := by decide +kernel
theorem dX0_init_64 : decode cX0_init 64 = .ok (.invokestatic 39, 3) := by decide +kernel
theorem dX0_init_67 : decode cX0_init 67 = .ok (.return_, 1) := by decide +kernel
theorem dX0_numberOf_0 : decode cX0_numberOf 0 = .ok (.aload_n 0, 1) := by decide +kernel
theorem dX0_numberOf_1 : decode cX0_numberOf 1 = .ok (.getfield 9, 3) := by decide +kernel
theorem dX0_numberOf_4 : decode cX0_numberOf 4 = .ok (.iload_n 1, 1) := by decide +kernel
theorem dX0_numberOf_5 : decode cX0_numberOf 5 = .ok (.iaload, 1) := by decide +kernel
theorem dX0_numberOf_6 : decode cX0_numberOf 6 = .ok (.ireturn, 1) := by decide +kernel
set_option maxRecDepth 20000 in
theorem ggX0_begin_J7_fill_53178 : GoodIn wsX0_begin wsJ7_fill_53178 := goodIn_r _ [7] (by decide +kernel) (by decide +kernel)
set_option maxRecDepth 20000 in
theorem gX0_begin_J7_fill_53178 : GoodIn wsX0_begin (va_wsS RX0 39 yJ7_fill_53178 wsJ7_fill_53178) := goodIn_app (goodIn_of _ (by decide +kernel)) ggX0_begin_J7_fill_53178
set_option maxRecDepth 20000 in
theorem ggX0_begin_J7_fill_d0a16 : GoodIn wsX0_begin wsJ7_fill_d0a16 := goodIn_r _ [10] (by decide +kernel) (by decide +kernel)
set_option maxRecDepth 20000 in
theorem gX0_begin_J7_fill_d0a16 : GoodIn wsX0_begin (va_wsS RX0 45 yJ7_fill_d0a16 wsJ7_fill_d0a16) := goodIn_app (goodIn_of _ (by decide +kernel)) ggX0_begin_J7_fill_d0a16
theorem dX0_begin_0 : decode cX0_begin 0 = .ok (.aload_n 0, 1) := by decide +kernel
theorem dX0_begin_1 : decode cX0_begin 1 = .ok (.getfield 9, 3) := by decide +kernel
theorem dX0_begin_4 : decode cX0_begin 4 = .ok (.iconst (-1), 1) := by decide +kernel
theorem dX0_begin_5 : decode cX0_begin 5 = .ok (.invokestatic 39, 3) := by decide +kernel
theorem dX0_begin_8 : decode cX0_begin 8 = .ok (.aload_n 0, 1) := by decide +kernel
theorem dX0_begin_9 : decode cX0_begin 9 = .ok (.getfield 22, 3) := by decide +kernel
theorem dX0_begin_12 : decode cX0_begin 12 = .ok (.lconst 0, 1) := by decide +kernel
theorem dX0_begin_13 : decode cX0_begin 13 = .ok (.invokestatic 45, 3) := by decide +kernel
theorem dX0_begin_16 : decode cX0_begin 16 = .ok (.aload_n 0, 1) := by decide +kernel
theorem dX0_begin_17 : decode cX0_begin 17 = .ok (.iconst 0, 1) := by decide +kernel
theorem dX0_begin_18 : decode cX0_begin 18 = .ok (.putfield 28, 3) := by decide +kernel
theorem dX0_begin_21 : decode cX0_begin 21 = .ok (.return_, 1) := by decide +kernel
theorem dX0_addPiece_0 : decode cX0_addPiece 0 = .ok (.aload_n 0, 1) := by decide +kernel
theorem dX0_addPiece_1 : decode cX0_addPiece 1 = .ok (.getfield 28, 3) := by decide +kernel
theorem dX0_addPiece_4 : decode cX0_addPiece 4 = .ok (.bipush 24, 2) := by decide +kernel
theorem dX0_addPiece_6 : decode cX0_addPiece 6 = .ok (.if_icmp .lt 4, 3) := by decide +kernel
theorem dX0_addPiece_9 : decode cX0_addPiece 9 = .ok (.return_, 1) := by decide +kernel
theorem dX0_addPiece_10 : decode cX0_addPiece 10 = .ok (.aload_n 0, 1) := by decide +kernel
theorem dX0_addPiece_11 : decode cX0_addPiece 11 = .ok (.getfield 15, 3) := by decide +kernel
theorem dX0_addPiece_14 : decode cX0_addPiece 14 = .ok (.aload_n 0, 1) := by decide +kernel
theorem dX0_addPiece_15 : decode cX0_addPiece 15 = .ok (.getfield 28, 3) := by decide +kernel
theorem dX0_addPiece_18 : decode cX0_addPiece 18 = .ok (.iload_n 1, 1) := by decide +kernel
theorem dX0_addPiece_19 : decode cX0_addPiece 19 = .ok (.iastore, 1) := by decide +kernel
theorem dX0_addPiece_20 : decode cX0_addPiece 20 = .ok (.aload_n 0, 1) := by decide +kernel
theorem dX0_addPiece_21 : decode cX0_addPiece 21 = .ok (.getfield 18, 3) := by decide +kernel
theorem dX0_addPiece_24 : decode cX0_addPiece 24 = .ok (.aload_n 0, 1) := by decide +kernel
theorem dX0_addPiece_25 : decode cX0_addPiece 25 = .ok (.getfield 28, 3) := by decide +kernel
theorem dX0_addPiece_28 : decode cX0_addPiece 28 = .ok (.lload_n 2, 1) := by decide +kernel
theorem dX0_addPiece_29 : decode cX0_addPiece 29 = .ok (.lastore, 1) := by decide +kernel
theorem dX0_addPiece_30 : decode cX0_addPiece 30 = .ok (.aload_n 0, 1) := by decide +kernel
theorem dX0_addPiece_31 : decode cX0_addPiece 31 = .ok (.dup, 1) := by decide +kernel
theorem dX0_addPiece_32 : decode cX0_addPiece 32 = .ok (.getfield 28, 3) := by decide +kernel
theorem dX0_addPiece_35 : decode cX0_addPiece 35 = .ok (.iconst 1, 1) := by decide +kernel
theorem dX0_addPiece_36 : decode cX0_addPiece 36 = .ok (.iadd, 1) := by decide +kernel
theorem dX0_addPiece_37 : decode cX0_addPiece 37 = .ok (.putfield 28, 3) := by decide +kernel
theorem dX0_addPiece_40 : decode cX0_addPiece 40 = .ok (.return_, 1) := by decide +kernel
set_option maxRecDepth 20000 in
theorem ggX0_pack_X0_packOnFewest : GoodIn wsX0_pack wsX0_packOnFewest := goodIn_ca (goodIn_r _ [8, 2, 9, 10, 11, 12, 7, 13, 14, 15, 16, 17, 18, 19, 20, 21, 22, 23, 24, 25, 3, 26, 27, 28, 29, 30, 31, 32, 33, 1, 46, 47, 48, 49, 50, 51, 52, 53] (by decide +kernel) (by decide +kernel)) (goodIn_sub (fun _ h => List.mem_cons_of_mem _ (List.mem_append_right _ h)) (by decide +kernel))
set_option maxRecDepth 20000 in
theorem gX0_pack_X0_packOnFewest : GoodIn wsX0_pack (wsV RX0 48 RX0 yX0_packOnFewest wsX0_packOnFewest) := goodIn_app (goodIn_of _ (by decide +kernel)) ggX0_pack_X0_packOnFewest
set_option maxRecDepth 20000 in
theorem ggX0_pack_X0_packLongestFirst : GoodIn wsX0_pack wsX0_packLongestFirst := goodIn_ca (goodIn_r _ [37, 2, 25, 3, 18, 19, 26, 27, 28, 29, 38, 39, 40, 7, 41, 42, 43, 44, 45, 30, 31, 32, 33, 1, 46, 47, 48, 49, 50, 51, 52, 53] (by decide +kernel) (by decide +kernel)) (goodIn_sub (fun _ h => List.mem_cons_of_mem _ (List.mem_append_right _ h)) (by decide +kernel))
set_option maxRecDepth 20000 in
theorem gX0_pack_X0_packLongestFirst : GoodIn wsX0_pack (wsV RX0 52 RX0 yX0_packLongestFirst wsX0_packLongestFirst) := goodIn_app (goodIn_of _ (by decide +kernel)) ggX0_pack_X0_packLongestFirst
theorem dX0_pack_0 : decode cX0_pack 0 = .ok (.aload_n 0, 1) := by decide +kernel
theorem dX0_pack_1 : decode cX0_pack 1 = .ok (.lload_n 1, 1) := by decide +kernel
theorem dX0_pack_2 : decode cX0_pack 2 = .ok (.putfield 35, 3) := by decide +kernel
theorem dX0_pack_5 : decode cX0_pack 5 = .ok (.iconst 0, 1) := by decide +kernel
theorem dX0_pack_6 : decode cX0_pack 6 = .ok (.istore_n 3, 1) := by decide +kernel
theorem dX0_pack_7 : decode cX0_pack 7 = .ok (.iload_n 3, 1) := by decide +kernel
theorem dX0_pack_8 : decode cX0_pack 8 = .ok (.aload_n 0, 1) := by decide +kernel
theorem dX0_pack_9 : decode cX0_pack 9 = .ok (.getfield 28, 3) := by decide +kernel
theorem dX0_pack_12 : decode cX0_pack 12 = .ok (.if_icmp .ge 25, 3) := by decide +kernel
theorem dX0_pack_15 : decode cX0_pack 15 = .ok (.aload_n 0, 1) := by decide +kernel
theorem dX0_pack_16 : decode cX0_pack 16 = .ok (.getfield 18, 3) := by decide +kernel
theorem dX0_pack_19 : decode cX0_pack 19 = .ok (.iload_n 3, 1) := by decide +kernel
theorem dX0_pack_20 : decode cX0_pack 20 = .ok (.laload, 1) := by decide +kernel
theorem dX0_pack_21 : decode cX0_pack 21 = .ok (.aload_n 0, 1) := by decide +kernel
theorem dX0_pack_22 : decode cX0_pack 22 = .ok (.getfield 35, 3) := by decide +kernel
theorem dX0_pack_25 : decode cX0_pack 25 = .ok (.lcmp, 1) := by decide +kernel
theorem dX0_pack_26 : decode cX0_pack 26 = .ok (.ifCond .le 5, 3) := by decide +kernel
theorem dX0_pack_29 : decode cX0_pack 29 = .ok (.iconst (-1), 1) := by decide +kernel
theorem dX0_pack_30 : decode cX0_pack 30 = .ok (.ireturn, 1) := by decide +kernel
theorem dX0_pack_31 : decode cX0_pack 31 = .ok (.iinc 3 1, 3) := by decide +kernel
theorem dX0_pack_34 : decode cX0_pack 34 = .ok (.goto (-27), 3) := by decide +kernel
theorem dX0_pack_37 : decode cX0_pack 37 = .ok (.aload_n 0, 1) := by decide +kernel
theorem dX0_pack_38 : decode cX0_pack 38 = .ok (.getfield 28, 3) := by decide +kernel
theorem dX0_pack_41 : decode cX0_pack 41 = .ok (.bipush 8, 2) := by decide +kernel
theorem dX0_pack_43 : decode cX0_pack 43 = .ok (.if_icmp .gt 10, 3) := by decide +kernel
theorem dX0_pack_46 : decode cX0_pack 46 = .ok (.aload_n 0, 1) := by decide +kernel
theorem dX0_pack_47 : decode cX0_pack 47 = .ok (.invokevirtual 48, 3) := by decide +kernel
theorem dX0_pack_50 : decode cX0_pack 50 = .ok (.goto 7, 3) := by decide +kernel
theorem dX0_pack_53 : decode cX0_pack 53 = .ok (.aload_n 0, 1) := by decide +kernel
theorem dX0_pack_54 : decode cX0_pack 54 = .ok (.invokevirtual 52, 3) := by decide +kernel
theorem dX0_pack_57 : decode cX0_pack 57 = .ok (.ireturn, 1) := by decide +kernel
set_option maxRecDepth 20000 in
theorem ggX0_packOnFewest_X0_placeFrom : GoodIn wsX0_packOnFewest wsX0_placeFrom := goodIn_ca (goodIn_r _ [7, 2, 1, 8, 9, 10, 6, 11, 12, 13, 14, 15, 16, 17, 18, 19, 20, 21, 22, 23, 24, 25, 26, 27, 28, 29, 3, 4, 5, 30, 31, 32, 33, 34, 35, 36, 37] (by decide +kernel) (by decide +kernel)) (goodIn_sub (fun _ h => List.mem_cons_of_mem _ (List.mem_append_right _ h)) (by decide +kernel))
set_option maxRecDepth 20000 in
theorem gX0_packOnFewest_X0_placeFrom : GoodIn wsX0_packOnFewest (wsV RX0 55 RX0 yX0_placeFrom wsX0_placeFrom) := goodIn_app (goodIn_of _ (by decide +kernel)) ggX0_packOnFewest_X0_placeFrom
theorem dX0_packOnFewest_0 : decode cX0_packOnFewest 0 = .ok (.aload_n 0, 1) := by decide +kernel
theorem dX0_packOnFewest_1 : decode cX0_packOnFewest 1 = .ok (.aload_n 0, 1) := by decide +kernel
theorem dX0_packOnFewest_2 : decode cX0_packOnFewest 2 = .ok (.getfield 28, 3) := by decide +kernel
theorem dX0_packOnFewest_5 : decode cX0_packOnFewest 5 = .ok (.iconst 1, 1) := by decide +kernel
theorem dX0_packOnFewest_6 : decode cX0_packOnFewest 6 = .ok (.iadd, 1) := by decide +kernel
theorem dX0_packOnFewest_7 : decode cX0_packOnFewest 7 = .ok (.putfield 32, 3) := by decide +kernel
theorem dX0_packOnFewest_10 : decode cX0_packOnFewest 10 = .ok (.aload_n 0, 1) := by decide +kernel
theorem dX0_packOnFewest_11 : decode cX0_packOnFewest 11 = .ok (.iconst 0, 1) := by decide +kernel
theorem dX0_packOnFewest_12 : decode cX0_packOnFewest 12 = .ok (.iconst 0, 1) := by decide +kernel
theorem dX0_packOnFewest_13 : decode cX0_packOnFewest 13 = .ok (.invokevirtual 55, 3) := by decide +kernel
theorem dX0_packOnFewest_16 : decode cX0_packOnFewest 16 = .ok (.aload_n 0, 1) := by decide +kernel
theorem dX0_packOnFewest_17 : decode cX0_packOnFewest 17 = .ok (.getfield 32, 3) := by decide +kernel
theorem dX0_packOnFewest_20 : decode cX0_packOnFewest 20 = .ok (.ireturn, 1) := by decide +kernel
set_option maxRecDepth 20000 in
theorem ggX0_placeFrom_X0_keepTrial : GoodIn wsX0_placeFrom wsX0_keepTrial := goodIn_ca (goodIn_r _ [7, 1, 2, 8, 9, 10, 29, 30, 31, 32, 33, 34, 35, 36] (by decide +kernel) (by decide +kernel)) (goodIn_sub (fun _ h => List.mem_cons_of_mem _ (List.mem_append_right _ h)) (by decide +kernel))
set_option maxRecDepth 20000 in
theorem gX0_placeFrom_X0_keepTrial : GoodIn wsX0_placeFrom (wsV RX0 59 RX0 yX0_keepTrial wsX0_keepTrial) := goodIn_app (goodIn_of _ (by decide +kernel)) ggX0_placeFrom_X0_keepTrial
set_option maxRecDepth 20000 in
theorem ggX0_placeFrom_X0_placeOn : GoodIn wsX0_placeFrom wsX0_placeOn := goodIn_ca (goodIn_r _ [14, 15, 16, 10, 17, 18, 19, 20, 21, 22, 23, 6, 24, 25, 26, 27, 28, 0, 1, 2, 3, 4, 5, 7, 8, 9, 11, 12, 13, 29, 30, 31, 32, 33, 34, 35, 36] (by decide +kernel) (by decide +kernel)) (goodIn_sub (fun _ h => List.mem_cons_of_mem _ (List.mem_append_right _ h)) (by decide +kernel))
set_option maxRecDepth 20000 in
theorem gX0_placeFrom_X0_placeOn : GoodIn wsX0_placeFrom (wsV RX0 63 RX0 yX0_placeOn wsX0_placeOn) := goodIn_app (goodIn_of _ (by decide +kernel)) ggX0_placeFrom_X0_placeOn
theorem dX0_placeFrom_0 : decode cX0_placeFrom 0 = .ok (.iload_n 2, 1) := by decide +kernel
theorem dX0_placeFrom_1 : decode cX0_placeFrom 1 = .ok (.aload_n 0, 1) := by decide +kernel
theorem dX0_placeFrom_2 : decode cX0_placeFrom 2 = .ok (.getfield 32, 3) := by decide +kernel
theorem dX0_placeFrom_5 : decode cX0_placeFrom 5 = .ok (.if_icmp .lt 4, 3) := by decide +kernel
theorem dX0_placeFrom_8 : decode cX0_placeFrom 8 = .ok (.return_, 1) := by decide +kernel
theorem dX0_placeFrom_9 : decode cX0_placeFrom 9 = .ok (.iload_n 1, 1) := by decide +kernel
theorem dX0_placeFrom_10 : decode cX0_placeFrom 10 = .ok (.aload_n 0, 1) := by decide +kernel
theorem dX0_placeFrom_11 : decode cX0_placeFrom 11 = .ok (.getfield 28, 3) := by decide +kernel
theorem dX0_placeFrom_14 : decode cX0_placeFrom 14 = .ok (.if_icmp .lt 9, 3) := by decide +kernel
theorem dX0_placeFrom_17 : decode cX0_placeFrom 17 = .ok (.aload_n 0, 1) := by decide +kernel
theorem dX0_placeFrom_18 : decode cX0_placeFrom 18 = .ok (.iload_n 2, 1) := by decide +kernel
theorem dX0_placeFrom_19 : decode cX0_placeFrom 19 = .ok (.invokevirtual 59, 3) := by decide +kernel
theorem dX0_placeFrom_22 : decode cX0_placeFrom 22 = .ok (.return_, 1) := by decide +kernel
theorem dX0_placeFrom_23 : decode cX0_placeFrom 23 = .ok (.iconst 0, 1) := by decide +kernel
theorem dX0_placeFrom_24 : decode cX0_placeFrom 24 = .ok (.istore_n 3, 1) := by decide +kernel
theorem dX0_placeFrom_25 : decode cX0_placeFrom 25 = .ok (.iload_n 3, 1) := by decide +kernel
theorem dX0_placeFrom_26 : decode cX0_placeFrom 26 = .ok (.iload_n 2, 1) := by decide +kernel
theorem dX0_placeFrom_27 : decode cX0_placeFrom 27 = .ok (.if_icmp .gt 16, 3) := by decide +kernel
theorem dX0_placeFrom_30 : decode cX0_placeFrom 30 = .ok (.aload_n 0, 1) := by decide +kernel
theorem dX0_placeFrom_31 : decode cX0_placeFrom 31 = .ok (.iload_n 1, 1) := by decide +kernel
theorem dX0_placeFrom_32 : decode cX0_placeFrom 32 = .ok (.iload_n 3, 1) := by decide +kernel
theorem dX0_placeFrom_33 : decode cX0_placeFrom 33 = .ok (.iload_n 2, 1) := by decide +kernel
theorem dX0_placeFrom_34 : decode cX0_placeFrom 34 = .ok (.invokevirtual 63, 3) := by decide +kernel
theorem dX0_placeFrom_37 : decode cX0_placeFrom 37 = .ok (.iinc 3 1, 3) := by decide +kernel
theorem dX0_placeFrom_40 : decode cX0_placeFrom 40 = .ok (.goto (-15), 3) := by decide +kernel
theorem dX0_placeFrom_43 : decode cX0_placeFrom 43 = .ok (.return_, 1) := by decide +kernel
set_option maxRecDepth 20000 in
theorem ggX0_placeOn_X0_hasRoom : GoodIn wsX0_placeOn wsX0_hasRoom := goodIn_ca (goodIn_r _ [12, 1, 2, 13, 29, 30, 31, 32, 33, 34, 35, 36] (by decide +kernel) (by decide +kernel)) (goodIn_sub (fun _ h => List.mem_cons_of_mem _ (List.mem_append_right _ h)) (by decide +kernel))
set_option maxRecDepth 20000 in
theorem gX0_placeOn_X0_hasRoom : GoodIn wsX0_placeOn (wsV RX0 67 RX0 yX0_hasRoom wsX0_hasRoom) := goodIn_app (goodIn_of _ (by decide +kernel)) ggX0_placeOn_X0_hasRoom
set_option maxRecDepth 20000 in
theorem ggX0_placeOn_X0_placeFrom : GoodIn wsX0_placeOn wsX0_placeFrom := goodIn_ca (goodIn_r _ [17, 18, 19, 20, 21, 22, 11, 23, 24, 25, 3, 26, 27, 28, 0, 1, 2, 4, 5, 6, 7, 8, 9, 10, 12, 13, 14, 15, 16, 29, 30, 31, 32, 33, 34, 35, 36] (by decide +kernel) (by decide +kernel)) (goodIn_sub (fun _ h => List.mem_cons_of_mem _ (List.mem_append_right _ h)) (by decide +kernel))
set_option maxRecDepth 20000 in
theorem gX0_placeOn_X0_placeFrom : GoodIn wsX0_placeOn (wsV RX0 55 RX0 yX0_placeFrom wsX0_placeFrom) := goodIn_app (goodIn_of _ (by decide +kernel)) ggX0_placeOn_X0_placeFrom
theorem dX0_placeOn_0 : decode cX0_placeOn 0 = .ok (.aload_n 0, 1) := by decide +kernel
theorem dX0_placeOn_1 : decode cX0_placeOn 1 = .ok (.iload_n 2, 1) := by decide +kernel
theorem dX0_placeOn_2 : decode cX0_placeOn 2 = .ok (.iload_n 1, 1) := by decide +kernel
theorem dX0_placeOn_3 : decode cX0_placeOn 3 = .ok (.invokevirtual 67, 3) := by decide +kernel
theorem dX0_placeOn_6 : decode cX0_placeOn 6 = .ok (.ifCond .ne 4, 3) := by decide +kernel
theorem dX0_placeOn_9 : decode cX0_placeOn 9 = .ok (.return_, 1) := by decide +kernel
theorem dX0_placeOn_10 : decode cX0_placeOn 10 = .ok (.aload_n 0, 1) := by decide +kernel
theorem dX0_placeOn_11 : decode cX0_placeOn 11 = .ok (.getfield 22, 3) := by decide +kernel
theorem dX0_placeOn_14 : decode cX0_placeOn 14 = .ok (.iload_n 2, 1) := by decide +kernel
theorem dX0_placeOn_15 : decode cX0_placeOn 15 = .ok (.dup2, 1) := by decide +kernel
theorem dX0_placeOn_16 : decode cX0_placeOn 16 = .ok (.laload, 1) := by decide +kernel
theorem dX0_placeOn_17 : decode cX0_placeOn 17 = .ok (.aload_n 0, 1) := by decide +kernel
theorem dX0_placeOn_18 : decode cX0_placeOn 18 = .ok (.getfield 18, 3) := by decide +kernel
theorem dX0_placeOn_21 : decode cX0_placeOn 21 = .ok (.iload_n 1, 1) := by decide +kernel
theorem dX0_placeOn_22 : decode cX0_placeOn 22 = .ok (.laload, 1) := by decide +kernel
theorem dX0_placeOn_23 : decode cX0_placeOn 23 = .ok (.ladd, 1) := by decide +kernel
theorem dX0_placeOn_24 : decode cX0_placeOn 24 = .ok (.lastore, 1) := by decide +kernel
theorem dX0_placeOn_25 : decode cX0_placeOn 25 = .ok (.aload_n 0, 1) := by decide +kernel
theorem dX0_placeOn_26 : decode cX0_placeOn 26 = .ok (.getfield 25, 3) := by decide +kernel
theorem dX0_placeOn_29 : decode cX0_placeOn 29 = .ok (.iload_n 1, 1) := by decide +kernel
theorem dX0_placeOn_30 : decode cX0_placeOn 30 = .ok (.iload_n 2, 1) := by decide +kernel
theorem dX0_placeOn_31 : decode cX0_placeOn 31 = .ok (.iastore, 1) := by decide +kernel
theorem dX0_placeOn_32 : decode cX0_placeOn 32 = .ok (.aload_n 0, 1) := by decide +kernel
theorem dX0_placeOn_33 : decode cX0_placeOn 33 = .ok (.iload_n 1, 1) := by decide +kernel
theorem dX0_placeOn_34 : decode cX0_placeOn 34 = .ok (.iconst 1, 1) := by decide +kernel
theorem dX0_placeOn_35 : decode cX0_placeOn 35 = .ok (.iadd, 1) := by decide +kernel
theorem dX0_placeOn_36 : decode cX0_placeOn 36 = .ok (.iload_n 3, 1) := by decide +kernel
theorem dX0_placeOn_37 : decode cX0_placeOn 37 = .ok (.iload_n 2, 1) := by decide +kernel
theorem dX0_placeOn_38 : decode cX0_placeOn 38 = .ok (.iconst 1, 1) := by decide +kernel
theorem dX0_placeOn_39 : decode cX0_placeOn 39 = .ok (.iadd, 1) := by decide +kernel
theorem dX0_placeOn_40 : decode cX0_placeOn 40 = .ok (.invokestatic 71, 3) := by decide +kernel
theorem dX0_placeOn_43 : decode cX0_placeOn 43 = .ok (.invokevirtual 55, 3) := by decide +kernel
theorem dX0_placeOn_46 : decode cX0_placeOn 46 = .ok (.aload_n 0, 1) := by decide +kernel
theorem dX0_placeOn_47 : decode cX0_placeOn 47 = .ok (.getfield 22, 3) := by decide +kernel
theorem dX0_placeOn_50 : decode cX0_placeOn 50 = .ok (.iload_n 2, 1) := by decide +kernel
theorem dX0_placeOn_51 : decode cX0_placeOn 51 = .ok (.dup2, 1) := by decide +kernel
theorem dX0_placeOn_52 : decode cX0_placeOn 52 = .ok (.laload, 1) := by decide +kernel
theorem dX0_placeOn_53 : decode cX0_placeOn 53 = .ok (.aload_n 0, 1) := by decide +kernel
theorem dX0_placeOn_54 : decode cX0_placeOn 54 = .ok (.getfield 18, 3) := by decide +kernel
theorem dX0_placeOn_57 : decode cX0_placeOn 57 = .ok (.iload_n 1, 1) := by decide +kernel
theorem dX0_placeOn_58 : decode cX0_placeOn 58 = .ok (.laload, 1) := by decide +kernel
theorem dX0_placeOn_59 : decode cX0_placeOn 59 = .ok (.lsub, 1) := by decide +kernel
theorem dX0_placeOn_60 : decode cX0_placeOn 60 = .ok (.lastore, 1) := by decide +kernel
theorem dX0_placeOn_61 : decode cX0_placeOn 61 = .ok (.return_, 1) := by decide +kernel
theorem dX0_keepTrial_0 : decode cX0_keepTrial 0 = .ok (.aload_n 0, 1) := by decide +kernel
theorem dX0_keepTrial_1 : decode cX0_keepTrial 1 = .ok (.iload_n 1, 1) := by decide +kernel
theorem dX0_keepTrial_2 : decode cX0_keepTrial 2 = .ok (.putfield 32, 3) := by decide +kernel
theorem dX0_keepTrial_5 : decode cX0_keepTrial 5 = .ok (.iconst 0, 1) := by decide +kernel
theorem dX0_keepTrial_6 : decode cX0_keepTrial 6 = .ok (.istore_n 2, 1) := by decide +kernel
theorem dX0_keepTrial_7 : decode cX0_keepTrial 7 = .ok (.iload_n 2, 1) := by decide +kernel
theorem dX0_keepTrial_8 : decode cX0_keepTrial 8 = .ok (.aload_n 0, 1) := by decide +kernel
theorem dX0_keepTrial_9 : decode cX0_keepTrial 9 = .ok (.getfield 28, 3) := by decide +kernel
theorem dX0_keepTrial_12 : decode cX0_keepTrial 12 = .ok (.if_icmp .ge 26, 3) := by decide +kernel
theorem dX0_keepTrial_15 : decode cX0_keepTrial 15 = .ok (.aload_n 0, 1) := by decide +kernel
theorem dX0_keepTrial_16 : decode cX0_keepTrial 16 = .ok (.getfield 9, 3) := by decide +kernel
theorem dX0_keepTrial_19 : decode cX0_keepTrial 19 = .ok (.aload_n 0, 1) := by decide +kernel
theorem dX0_keepTrial_20 : decode cX0_keepTrial 20 = .ok (.getfield 15, 3) := by decide +kernel
theorem dX0_keepTrial_23 : decode cX0_keepTrial 23 = .ok (.iload_n 2, 1) := by decide +kernel
theorem dX0_keepTrial_24 : decode cX0_keepTrial 24 = .ok (.iaload, 1) := by decide +kernel
theorem dX0_keepTrial_25 : decode cX0_keepTrial 25 = .ok (.aload_n 0, 1) := by decide +kernel
theorem dX0_keepTrial_26 : decode cX0_keepTrial 26 = .ok (.getfield 25, 3) := by decide +kernel
theorem dX0_keepTrial_29 : decode cX0_keepTrial 29 = .ok (.iload_n 2, 1) := by decide +kernel
theorem dX0_keepTrial_30 : decode cX0_keepTrial 30 = .ok (.iaload, 1) := by decide +kernel
theorem dX0_keepTrial_31 : decode cX0_keepTrial 31 = .ok (.iastore, 1) := by decide +kernel
theorem dX0_keepTrial_32 : decode cX0_keepTrial 32 = .ok (.iinc 2 1, 3) := by decide +kernel
theorem dX0_keepTrial_35 : decode cX0_keepTrial 35 = .ok (.goto (-28), 3) := by decide +kernel
theorem dX0_keepTrial_38 : decode cX0_keepTrial 38 = .ok (.return_, 1) := by decide +kernel
set_option maxRecDepth 20000 in
theorem ggX0_packLongestFirst_X0_longestLeft : GoodIn wsX0_packLongestFirst wsX0_longestLeft := goodIn_ca (goodIn_r _ [14, 1, 4, 5, 3, 24, 25, 26, 27, 28, 29, 30, 31] (by decide +kernel) (by decide +kernel)) (goodIn_sub (fun _ h => List.mem_cons_of_mem _ (List.mem_append_right _ h)) (by decide +kernel))
set_option maxRecDepth 20000 in
theorem gX0_packLongestFirst_X0_longestLeft : GoodIn wsX0_packLongestFirst (wsV RX0 77 RX0 yX0_longestLeft wsX0_longestLeft) := goodIn_app (goodIn_of _ (by decide +kernel)) ggX0_packLongestFirst_X0_longestLeft
set_option maxRecDepth 20000 in
theorem ggX0_packLongestFirst_X0_lowestWithRoom : GoodIn wsX0_packLongestFirst wsX0_lowestWithRoom := goodIn_ca (goodIn_r _ [18, 19, 20, 21, 13, 22, 2, 3, 23, 24, 25, 26, 27, 28, 29, 30, 31] (by decide +kernel) (by decide +kernel)) (goodIn_sub (fun _ h => List.mem_cons_of_mem _ (List.mem_append_right _ h)) (by decide +kernel))
set_option maxRecDepth 20000 in
theorem gX0_packLongestFirst_X0_lowestWithRoom : GoodIn wsX0_packLongestFirst (wsV RX0 80 RX0 yX0_lowestWithRoom wsX0_lowestWithRoom) := goodIn_app (goodIn_of _ (by decide +kernel)) ggX0_packLongestFirst_X0_lowestWithRoom
theorem dX0_packLongestFirst_0 : decode cX0_packLongestFirst 0 = .ok (.iconst 0, 1) := by decide +kernel
theorem dX0_packLongestFirst_1 : decode cX0_packLongestFirst 1 = .ok (.istore_n 1, 1) := by decide +kernel
theorem dX0_packLongestFirst_2 : decode cX0_packLongestFirst 2 = .ok (.iconst 0, 1) := by decide +kernel
theorem dX0_packLongestFirst_3 : decode cX0_packLongestFirst 3 = .ok (.istore_n 2, 1) := by decide +kernel
theorem dX0_packLongestFirst_4 : decode cX0_packLongestFirst 4 = .ok (.iload_n 2, 1) := by decide +kernel
theorem dX0_packLongestFirst_5 : decode cX0_packLongestFirst 5 = .ok (.aload_n 0, 1) := by decide +kernel
theorem dX0_packLongestFirst_6 : decode cX0_packLongestFirst 6 = .ok (.getfield 28, 3) := by decide +kernel
theorem dX0_packLongestFirst_9 : decode cX0_packLongestFirst 9 = .ok (.if_icmp .ge 76, 3) := by decide +kernel
theorem dX0_packLongestFirst_12 : decode cX0_packLongestFirst 12 = .ok (.aload_n 0, 1) := by decide +kernel
theorem dX0_packLongestFirst_13 : decode cX0_packLongestFirst 13 = .ok (.invokevirtual 77, 3) := by decide +kernel
theorem dX0_packLongestFirst_16 : decode cX0_packLongestFirst 16 = .ok (.istore_n 3, 1) := by decide +kernel
theorem dX0_packLongestFirst_17 : decode cX0_packLongestFirst 17 = .ok (.iload_n 3, 1) := by decide +kernel
theorem dX0_packLongestFirst_18 : decode cX0_packLongestFirst 18 = .ok (.iconst (-1), 1) := by decide +kernel
theorem dX0_packLongestFirst_19 : decode cX0_packLongestFirst 19 = .ok (.if_icmp .ne 7, 3) := by decide +kernel
theorem dX0_packLongestFirst_22 : decode cX0_packLongestFirst 22 = .ok (.iconst (-1), 1) := by decide +kernel
theorem dX0_packLongestFirst_23 : decode cX0_packLongestFirst 23 = .ok (.goto 8, 3) := by decide +kernel
theorem dX0_packLongestFirst_26 : decode cX0_packLongestFirst 26 = .ok (.aload_n 0, 1) := by decide +kernel
theorem dX0_packLongestFirst_27 : decode cX0_packLongestFirst 27 = .ok (.iload_n 3, 1) := by decide +kernel
theorem dX0_packLongestFirst_28 : decode cX0_packLongestFirst 28 = .ok (.invokevirtual 80, 3) := by decide +kernel
theorem dX0_packLongestFirst_31 : decode cX0_packLongestFirst 31 = .ok (.istore 4, 2) := by decide +kernel
theorem dX0_packLongestFirst_33 : decode cX0_packLongestFirst 33 = .ok (.iload 4, 2) := by decide +kernel
theorem dX0_packLongestFirst_35 : decode cX0_packLongestFirst 35 = .ok (.iconst (-1), 1) := by decide +kernel
theorem dX0_packLongestFirst_36 : decode cX0_packLongestFirst 36 = .ok (.if_icmp .ne 5, 3) := by decide +kernel
theorem dX0_packLongestFirst_39 : decode cX0_packLongestFirst 39 = .ok (.iload_n 1, 1) := by decide +kernel
theorem dX0_packLongestFirst_40 : decode cX0_packLongestFirst 40 = .ok (.ireturn, 1) := by decide +kernel
theorem dX0_packLongestFirst_41 : decode cX0_packLongestFirst 41 = .ok (.aload_n 0, 1) := by decide +kernel
theorem dX0_packLongestFirst_42 : decode cX0_packLongestFirst 42 = .ok (.getfield 22, 3) := by decide +kernel
theorem dX0_packLongestFirst_45 : decode cX0_packLongestFirst 45 = .ok (.iload 4, 2) := by decide +kernel
theorem dX0_packLongestFirst_47 : decode cX0_packLongestFirst 47 = .ok (.dup2, 1) := by decide +kernel
theorem dX0_packLongestFirst_48 : decode cX0_packLongestFirst 48 = .ok (.laload, 1) := by decide +kernel
theorem dX0_packLongestFirst_49 : decode cX0_packLongestFirst 49 = .ok (.aload_n 0, 1) := by decide +kernel
theorem dX0_packLongestFirst_50 : decode cX0_packLongestFirst 50 = .ok (.getfield 18, 3) := by decide +kernel
theorem dX0_packLongestFirst_53 : decode cX0_packLongestFirst 53 = .ok (.iload_n 3, 1) := by decide +kernel
theorem dX0_packLongestFirst_54 : decode cX0_packLongestFirst 54 = .ok (.laload, 1) := by decide +kernel
theorem dX0_packLongestFirst_55 : decode cX0_packLongestFirst 55 = .ok (.ladd, 1) := by decide +kernel
theorem dX0_packLongestFirst_56 : decode cX0_packLongestFirst 56 = .ok (.lastore, 1) := by decide +kernel
theorem dX0_packLongestFirst_57 : decode cX0_packLongestFirst 57 = .ok (.aload_n 0, 1) := by decide +kernel
theorem dX0_packLongestFirst_58 : decode cX0_packLongestFirst 58 = .ok (.getfield 9, 3) := by decide +kernel
theorem dX0_packLongestFirst_61 : decode cX0_packLongestFirst 61 = .ok (.aload_n 0, 1) := by decide +kernel
theorem dX0_packLongestFirst_62 : decode cX0_packLongestFirst 62 = .ok (.getfield 15, 3) := by decide +kernel
theorem dX0_packLongestFirst_65 : decode cX0_packLongestFirst 65 = .ok (.iload_n 3, 1) := by decide +kernel
theorem dX0_packLongestFirst_66 : decode cX0_packLongestFirst 66 = .ok (.iaload, 1) := by decide +kernel
theorem dX0_packLongestFirst_67 : decode cX0_packLongestFirst 67 = .ok (.iload 4, 2) := by decide +kernel
theorem dX0_packLongestFirst_69 : decode cX0_packLongestFirst 69 = .ok (.iastore, 1) := by decide +kernel
theorem dX0_packLongestFirst_70 : decode cX0_packLongestFirst 70 = .ok (.iload_n 1, 1) := by decide +kernel
theorem dX0_packLongestFirst_71 : decode cX0_packLongestFirst 71 = .ok (.iload 4, 2) := by decide +kernel
theorem dX0_packLongestFirst_73 : decode cX0_packLongestFirst 73 = .ok (.iconst 1, 1) := by decide +kernel
theorem dX0_packLongestFirst_74 : decode cX0_packLongestFirst 74 = .ok (.iadd, 1) := by decide +kernel
theorem dX0_packLongestFirst_75 : decode cX0_packLongestFirst 75 = .ok (.invokestatic 71, 3) := by decide +kernel
theorem dX0_packLongestFirst_78 : decode cX0_packLongestFirst 78 = .ok (.istore_n 1, 1) := by decide +kernel
theorem dX0_packLongestFirst_79 : decode cX0_packLongestFirst 79 = .ok (.iinc 2 1, 3) := by decide +kernel
theorem dX0_packLongestFirst_82 : decode cX0_packLongestFirst 82 = .ok (.goto (-78), 3) := by decide +kernel
theorem dX0_packLongestFirst_85 : decode cX0_packLongestFirst 85 = .ok (.iload_n 1, 1) := by decide +kernel
theorem dX0_packLongestFirst_86 : decode cX0_packLongestFirst 86 = .ok (.ireturn, 1) := by decide +kernel
theorem dX0_longestLeft_0 : decode cX0_longestLeft 0 = .ok (.iconst (-1), 1) := by decide +kernel
theorem dX0_longestLeft_1 : decode cX0_longestLeft 1 = .ok (.istore_n 1, 1) := by decide +kernel
theorem dX0_longestLeft_2 : decode cX0_longestLeft 2 = .ok (.iconst 0, 1) := by decide +kernel
theorem dX0_longestLeft_3 : decode cX0_longestLeft 3 = .ok (.istore_n 2, 1) := by decide +kernel
theorem dX0_longestLeft_4 : decode cX0_longestLeft 4 = .ok (.iload_n 2, 1) := by decide +kernel
theorem dX0_longestLeft_5 : decode cX0_longestLeft 5 = .ok (.aload_n 0, 1) := by decide +kernel
theorem dX0_longestLeft_6 : decode cX0_longestLeft 6 = .ok (.getfield 28, 3) := by decide +kernel
theorem dX0_longestLeft_9 : decode cX0_longestLeft 9 = .ok (.if_icmp .ge 57, 3) := by decide +kernel
theorem dX0_longestLeft_12 : decode cX0_longestLeft 12 = .ok (.aload_n 0, 1) := by decide +kernel
theorem dX0_longestLeft_13 : decode cX0_longestLeft 13 = .ok (.getfield 9, 3) := by decide +kernel
theorem dX0_longestLeft_16 : decode cX0_longestLeft 16 = .ok (.aload_n 0, 1) := by decide +kernel
theorem dX0_longestLeft_17 : decode cX0_longestLeft 17 = .ok (.getfield 15, 3) := by decide +kernel
theorem dX0_longestLeft_20 : decode cX0_longestLeft 20 = .ok (.iload_n 2, 1) := by decide +kernel
theorem dX0_longestLeft_21 : decode cX0_longestLeft 21 = .ok (.iaload, 1) := by decide +kernel
theorem dX0_longestLeft_22 : decode cX0_longestLeft 22 = .ok (.iaload, 1) := by decide +kernel
theorem dX0_longestLeft_23 : decode cX0_longestLeft 23 = .ok (.iconst (-1), 1) := by decide +kernel
theorem dX0_longestLeft_24 : decode cX0_longestLeft 24 = .ok (.if_icmp .ne 7, 3) := by decide +kernel
theorem dX0_longestLeft_27 : decode cX0_longestLeft 27 = .ok (.iconst 1, 1) := by decide +kernel
theorem dX0_longestLeft_28 : decode cX0_longestLeft 28 = .ok (.goto 4, 3) := by decide +kernel
theorem dX0_longestLeft_31 : decode cX0_longestLeft 31 = .ok (.iconst 0, 1) := by decide +kernel
theorem dX0_longestLeft_32 : decode cX0_longestLeft 32 = .ok (.istore_n 3, 1) := by decide +kernel
theorem dX0_longestLeft_33 : decode cX0_longestLeft 33 = .ok (.iload_n 3, 1) := by decide +kernel
theorem dX0_longestLeft_34 : decode cX0_longestLeft 34 = .ok (.ifCond .eq 26, 3) := by decide +kernel
theorem dX0_longestLeft_37 : decode cX0_longestLeft 37 = .ok (.iload_n 1, 1) := by decide +kernel
theorem dX0_longestLeft_38 : decode cX0_longestLeft 38 = .ok (.iconst (-1), 1) := by decide +kernel
theorem dX0_longestLeft_39 : decode cX0_longestLeft 39 = .ok (.if_icmp .eq 19, 3) := by decide +kernel
theorem dX0_longestLeft_42 : decode cX0_longestLeft 42 = .ok (.aload_n 0, 1) := by decide +kernel
theorem dX0_longestLeft_43 : decode cX0_longestLeft 43 = .ok (.getfield 18, 3) := by decide +kernel
theorem dX0_longestLeft_46 : decode cX0_longestLeft 46 = .ok (.iload_n 2, 1) := by decide +kernel
theorem dX0_longestLeft_47 : decode cX0_longestLeft 47 = .ok (.laload, 1) := by decide +kernel
theorem dX0_longestLeft_48 : decode cX0_longestLeft 48 = .ok (.aload_n 0, 1) := by decide +kernel
theorem dX0_longestLeft_49 : decode cX0_longestLeft 49 = .ok (.getfield 18, 3) := by decide +kernel
theorem dX0_longestLeft_52 : decode cX0_longestLeft 52 = .ok (.iload_n 1, 1) := by decide +kernel
theorem dX0_longestLeft_53 : decode cX0_longestLeft 53 = .ok (.laload, 1) := by decide +kernel
theorem dX0_longestLeft_54 : decode cX0_longestLeft 54 = .ok (.lcmp, 1) := by decide +kernel
theorem dX0_longestLeft_55 : decode cX0_longestLeft 55 = .ok (.ifCond .le 5, 3) := by decide +kernel
theorem dX0_longestLeft_58 : decode cX0_longestLeft 58 = .ok (.iload_n 2, 1) := by decide +kernel
theorem dX0_longestLeft_59 : decode cX0_longestLeft 59 = .ok (.istore_n 1, 1) := by decide +kernel
theorem dX0_longestLeft_60 : decode cX0_longestLeft 60 = .ok (.iinc 2 1, 3) := by decide +kernel
theorem dX0_longestLeft_63 : decode cX0_longestLeft 63 = .ok (.goto (-59), 3) := by decide +kernel
theorem dX0_longestLeft_66 : decode cX0_longestLeft 66 = .ok (.iload_n 1, 1) := by decide +kernel
theorem dX0_longestLeft_67 : decode cX0_longestLeft 67 = .ok (.ireturn, 1) := by decide +kernel
set_option maxRecDepth 20000 in
theorem ggX0_lowestWithRoom_X0_hasRoom : GoodIn wsX0_lowestWithRoom wsX0_hasRoom := goodIn_ca (goodIn_r _ [5, 6, 7, 8, 9, 10, 11, 12, 13, 14, 15, 16] (by decide +kernel) (by decide +kernel)) (goodIn_sub (fun _ h => List.mem_cons_of_mem _ (List.mem_append_right _ h)) (by decide +kernel))
set_option maxRecDepth 20000 in
theorem gX0_lowestWithRoom_X0_hasRoom : GoodIn wsX0_lowestWithRoom (wsV RX0 67 RX0 yX0_hasRoom wsX0_hasRoom) := goodIn_app (goodIn_of _ (by decide +kernel)) ggX0_lowestWithRoom_X0_hasRoom
theorem dX0_lowestWithRoom_0 : decode cX0_lowestWithRoom 0 = .ok (.iconst 0, 1) := by decide +kernel
theorem dX0_lowestWithRoom_1 : decode cX0_lowestWithRoom 1 = .ok (.istore_n 2, 1) := by decide +kernel
theorem dX0_lowestWithRoom_2 : decode cX0_lowestWithRoom 2 = .ok (.iload_n 2, 1) := by decide +kernel
theorem dX0_lowestWithRoom_3 : decode cX0_lowestWithRoom 3 = .ok (.bipush 24, 2) := by decide +kernel
theorem dX0_lowestWithRoom_5 : decode cX0_lowestWithRoom 5 = .ok (.if_icmp .ge 20, 3) := by decide +kernel
theorem dX0_lowestWithRoom_8 : decode cX0_lowestWithRoom 8 = .ok (.aload_n 0, 1) := by decide +kernel
theorem dX0_lowestWithRoom_9 : decode cX0_lowestWithRoom 9 = .ok (.iload_n 2, 1) := by decide +kernel
theorem dX0_lowestWithRoom_10 : decode cX0_lowestWithRoom 10 = .ok (.iload_n 1, 1) := by decide +kernel
theorem dX0_lowestWithRoom_11 : decode cX0_lowestWithRoom 11 = .ok (.invokevirtual 67, 3) := by decide +kernel
theorem dX0_lowestWithRoom_14 : decode cX0_lowestWithRoom 14 = .ok (.ifCond .eq 5, 3) := by decide +kernel
theorem dX0_lowestWithRoom_17 : decode cX0_lowestWithRoom 17 = .ok (.iload_n 2, 1) := by decide +kernel
theorem dX0_lowestWithRoom_18 : decode cX0_lowestWithRoom 18 = .ok (.ireturn, 1) := by decide +kernel
theorem dX0_lowestWithRoom_19 : decode cX0_lowestWithRoom 19 = .ok (.iinc 2 1, 3) := by decide +kernel
theorem dX0_lowestWithRoom_22 : decode cX0_lowestWithRoom 22 = .ok (.goto (-20), 3) := by decide +kernel
theorem dX0_lowestWithRoom_25 : decode cX0_lowestWithRoom 25 = .ok (.iconst (-1), 1) := by decide +kernel
theorem dX0_lowestWithRoom_26 : decode cX0_lowestWithRoom 26 = .ok (.ireturn, 1) := by decide +kernel
theorem dX0_hasRoom_0 : decode cX0_hasRoom 0 = .ok (.aload_n 0, 1) := by decide +kernel
theorem dX0_hasRoom_1 : decode cX0_hasRoom 1 = .ok (.getfield 22, 3) := by decide +kernel
theorem dX0_hasRoom_4 : decode cX0_hasRoom 4 = .ok (.iload_n 1, 1) := by decide +kernel
theorem dX0_hasRoom_5 : decode cX0_hasRoom 5 = .ok (.laload, 1) := by decide +kernel
theorem dX0_hasRoom_6 : decode cX0_hasRoom 6 = .ok (.aload_n 0, 1) := by decide +kernel
theorem dX0_hasRoom_7 : decode cX0_hasRoom 7 = .ok (.getfield 18, 3) := by decide +kernel
theorem dX0_hasRoom_10 : decode cX0_hasRoom 10 = .ok (.iload_n 2, 1) := by decide +kernel
theorem dX0_hasRoom_11 : decode cX0_hasRoom 11 = .ok (.laload, 1) := by decide +kernel
theorem dX0_hasRoom_12 : decode cX0_hasRoom 12 = .ok (.ladd, 1) := by decide +kernel
theorem dX0_hasRoom_13 : decode cX0_hasRoom 13 = .ok (.aload_n 0, 1) := by decide +kernel
theorem dX0_hasRoom_14 : decode cX0_hasRoom 14 = .ok (.getfield 35, 3) := by decide +kernel
theorem dX0_hasRoom_17 : decode cX0_hasRoom 17 = .ok (.lcmp, 1) := by decide +kernel
theorem dX0_hasRoom_18 : decode cX0_hasRoom 18 = .ok (.ifCond .gt 7, 3) := by decide +kernel
theorem dX0_hasRoom_21 : decode cX0_hasRoom 21 = .ok (.iconst 1, 1) := by decide +kernel
theorem dX0_hasRoom_22 : decode cX0_hasRoom 22 = .ok (.goto 4, 3) := by decide +kernel
theorem dX0_hasRoom_25 : decode cX0_hasRoom 25 = .ok (.iconst 0, 1) := by decide +kernel
theorem dX0_hasRoom_26 : decode cX0_hasRoom 26 = .ok (.ireturn, 1) := by decide +kernel
theorem dX1_init_0 : decode cX1_init 0 = .ok (.aload_n 0, 1) := by decide +kernel
theorem dX1_init_1 : decode cX1_init 1 = .ok (.invokespecial 3, 3) := by decide +kernel
theorem dX1_init_4 : decode cX1_init 4 = .ok (.aload_n 0, 1) := by decide +kernel
theorem dX1_init_5 : decode cX1_init 5 = .ok (.bipush 24, 2) := by decide +kernel
theorem dX1_init_7 : decode cX1_init 7 = .ok (.newarray .int, 2) := by decide +kernel
theorem dX1_init_9 : decode cX1_init 9 = .ok (.putfield 9, 3) := by decide +kernel
theorem dX1_init_12 : decode cX1_init 12 = .ok (.aload_n 0, 1) := by decide +kernel
theorem dX1_init_13 : decode cX1_init 13 = .ok (.bipush 24, 2) := by decide +kernel
theorem dX1_init_15 : decode cX1_init 15 = .ok (.newarray .int, 2) := by decide +kernel
theorem dX1_init_17 : decode cX1_init 17 = .ok (.putfield 15, 3) := by decide +kernel
theorem dX1_init_20 : decode cX1_init 20 = .ok (.aload_n 0, 1) := by decide +kernel
theorem dX1_init_21 : decode cX1_init 21 = .ok (.iconst 0, 1) := by decide +kernel
theorem dX1_init_22 : decode cX1_init 22 = .ok (.putfield 18, 3) := by decide +kernel
theorem dX1_init_25 : decode cX1_init 25 = .ok (.iconst 0, 1) := by decide +kernel
theorem dX1_init_26 : decode cX1_init 26 = .ok (.istore_n 1, 1) := by decide +kernel
theorem dX1_init_27 : decode cX1_init 27 = .ok (.iload_n 1, 1) := by decide +kernel
theorem dX1_init_28 : decode cX1_init 28 = .ok (.bipush 24, 2) := by decide +kernel
theorem dX1_init_30 : decode cX1_init 30 = .ok (.if_icmp .ge 16, 3) := by decide +kernel
theorem dX1_init_33 : decode cX1_init 33 = .ok (.aload_n 0, 1) := by decide +kernel
theorem dX1_init_34 : decode cX1_init 34 = .ok (.getfield 15, 3) := by decide +kernel
theorem dX1_init_37 : decode cX1_init 37 = .ok (.iload_n 1, 1) := by decide +kernel
theorem dX1_init_38 : decode cX1_init 38 = .ok (.iload_n 1, 1) := by decide +kernel
theorem dX1_init_39 : decode cX1_init 39 = .ok (.iastore, 1) := by decide +kernel
theorem dX1_init_40 : decode cX1_init 40 = .ok (.iinc 1 1, 3) := by decide +kernel
theorem dX1_init_43 : decode cX1_init 43 = .ok (.goto (-16), 3) := by decide +kernel
theorem dX1_init_46 : decode cX1_init 46 = .ok (.return_, 1) := by decide +kernel
theorem dX1_inOneGroup_0 : decode cX1_inOneGroup 0 = .ok (.aload_n 0, 1) := by decide +kernel
theorem dX1_inOneGroup_1 : decode cX1_inOneGroup 1 = .ok (.getfield 15, 3) := by decide +kernel
theorem dX1_inOneGroup_4 : decode cX1_inOneGroup 4 = .ok (.iload_n 1, 1) := by decide +kernel
theorem dX1_inOneGroup_5 : decode cX1_inOneGroup 5 = .ok (.iaload, 1) := by decide +kernel
theorem dX1_inOneGroup_6 : decode cX1_inOneGroup 6 = .ok (.aload_n 0, 1) := by decide +kernel
theorem dX1_inOneGroup_7 : decode cX1_inOneGroup 7 = .ok (.getfield 15, 3) := by decide +kernel
theorem dX1_inOneGroup_10 : decode cX1_inOneGroup 10 = .ok (.iload_n 2, 1) := by decide +kernel
theorem dX1_inOneGroup_11 : decode cX1_inOneGroup 11 = .ok (.iaload, 1) := by decide +kernel
theorem dX1_inOneGroup_12 : decode cX1_inOneGroup 12 = .ok (.if_icmp .ne 7, 3) := by decide +kernel
theorem dX1_inOneGroup_15 : decode cX1_inOneGroup 15 = .ok (.iconst 1, 1) := by decide +kernel
theorem dX1_inOneGroup_16 : decode cX1_inOneGroup 16 = .ok (.goto 4, 3) := by decide +kernel
theorem dX1_inOneGroup_19 : decode cX1_inOneGroup 19 = .ok (.iconst 0, 1) := by decide +kernel
theorem dX1_inOneGroup_20 : decode cX1_inOneGroup 20 = .ok (.ireturn, 1) := by decide +kernel
set_option maxRecDepth 20000 in
theorem ggX1_add_X6_hasBit : GoodIn wsX1_add wsX6_hasBit := goodIn_r _ [6] (by decide +kernel) (by decide +kernel)
set_option maxRecDepth 20000 in
theorem gX1_add_X6_hasBit_n22 : GoodIn wsX1_add (wsX6_hasBit) := ggX1_add_X6_hasBit
set_option maxRecDepth 20000 in
theorem ggX1_add_X1_mergeGroups : GoodIn wsX1_add wsX1_mergeGroups := goodIn_ca (goodIn_r _ [11, 3, 12, 13, 14] (by decide +kernel) (by decide +kernel)) (goodIn_sub (fun _ h => List.mem_cons_of_mem _ (List.mem_append_right _ h)) (by decide +kernel))
set_option maxRecDepth 20000 in
theorem gX1_add_X1_mergeGroups : GoodIn wsX1_add (wsV RX1 26 RX1 yX1_mergeGroups wsX1_mergeGroups) := goodIn_app (goodIn_of _ (by decide +kernel)) ggX1_add_X1_mergeGroups
theorem dX1_add_0 : decode cX1_add 0 = .ok (.iload_n 1, 1) := by decide +kernel
theorem dX1_add_1 : decode cX1_add 1 = .ok (.iload_n 2, 1) := by decide +kernel
theorem dX1_add_2 : decode cX1_add 2 = .ok (.if_icmp .eq 25, 3) := by decide +kernel
theorem dX1_add_5 : decode cX1_add 5 = .ok (.aload_n 0, 1) := by decide +kernel
theorem dX1_add_6 : decode cX1_add 6 = .ok (.getfield 18, 3) := by decide +kernel
theorem dX1_add_9 : decode cX1_add 9 = .ok (.bipush 20, 2) := by decide +kernel
theorem dX1_add_11 : decode cX1_add 11 = .ok (.if_icmp .ge 16, 3) := by decide +kernel
theorem dX1_add_14 : decode cX1_add 14 = .ok (.aload_n 0, 1) := by decide +kernel
theorem dX1_add_15 : decode cX1_add 15 = .ok (.getfield 9, 3) := by decide +kernel
theorem dX1_add_18 : decode cX1_add 18 = .ok (.iload_n 1, 1) := by decide +kernel
theorem dX1_add_19 : decode cX1_add 19 = .ok (.iaload, 1) := by decide +kernel
theorem dX1_add_20 : decode cX1_add 20 = .ok (.iload_n 2, 1) := by decide +kernel
theorem dX1_add_21 : decode cX1_add 21 = .ok (.invokestatic 22, 3) := by decide +kernel
theorem dX1_add_24 : decode cX1_add 24 = .ok (.ifCond .eq 5, 3) := by decide +kernel
theorem dX1_add_27 : decode cX1_add 27 = .ok (.iconst (-1), 1) := by decide +kernel
theorem dX1_add_28 : decode cX1_add 28 = .ok (.ireturn, 1) := by decide +kernel
theorem dX1_add_29 : decode cX1_add 29 = .ok (.aload_n 0, 1) := by decide +kernel
theorem dX1_add_30 : decode cX1_add 30 = .ok (.getfield 9, 3) := by decide +kernel
theorem dX1_add_33 : decode cX1_add 33 = .ok (.iload_n 1, 1) := by decide +kernel
theorem dX1_add_34 : decode cX1_add 34 = .ok (.dup2, 1) := by decide +kernel
theorem dX1_add_35 : decode cX1_add 35 = .ok (.iaload, 1) := by decide +kernel
theorem dX1_add_36 : decode cX1_add 36 = .ok (.iconst 1, 1) := by decide +kernel
theorem dX1_add_37 : decode cX1_add 37 = .ok (.iload_n 2, 1) := by decide +kernel
theorem dX1_add_38 : decode cX1_add 38 = .ok (.ishl, 1) := by decide +kernel
theorem dX1_add_39 : decode cX1_add 39 = .ok (.ior, 1) := by decide +kernel
theorem dX1_add_40 : decode cX1_add 40 = .ok (.iastore, 1) := by decide +kernel
theorem dX1_add_41 : decode cX1_add 41 = .ok (.aload_n 0, 1) := by decide +kernel
theorem dX1_add_42 : decode cX1_add 42 = .ok (.getfield 9, 3) := by decide +kernel
theorem dX1_add_45 : decode cX1_add 45 = .ok (.iload_n 2, 1) := by decide +kernel
theorem dX1_add_46 : decode cX1_add 46 = .ok (.dup2, 1) := by decide +kernel
theorem dX1_add_47 : decode cX1_add 47 = .ok (.iaload, 1) := by decide +kernel
theorem dX1_add_48 : decode cX1_add 48 = .ok (.iconst 1, 1) := by decide +kernel
theorem dX1_add_49 : decode cX1_add 49 = .ok (.iload_n 1, 1) := by decide +kernel
theorem dX1_add_50 : decode cX1_add 50 = .ok (.ishl, 1) := by decide +kernel
theorem dX1_add_51 : decode cX1_add 51 = .ok (.ior, 1) := by decide +kernel
theorem dX1_add_52 : decode cX1_add 52 = .ok (.iastore, 1) := by decide +kernel
theorem dX1_add_53 : decode cX1_add 53 = .ok (.aload_n 0, 1) := by decide +kernel
theorem dX1_add_54 : decode cX1_add 54 = .ok (.aload_n 0, 1) := by decide +kernel
theorem dX1_add_55 : decode cX1_add 55 = .ok (.getfield 15, 3) := by decide +kernel
theorem dX1_add_58 : decode cX1_add 58 = .ok (.iload_n 1, 1) := by decide +kernel
theorem dX1_add_59 : decode cX1_add 59 = .ok (.iaload, 1) := by decide +kernel
theorem dX1_add_60 : decode cX1_add 60 = .ok (.aload_n 0, 1) := by decide +kernel
theorem dX1_add_61 : decode cX1_add 61 = .ok (.getfield 15, 3) := by decide +kernel
theorem dX1_add_64 : decode cX1_add 64 = .ok (.iload_n 2, 1) := by decide +kernel
theorem dX1_add_65 : decode cX1_add 65 = .ok (.iaload, 1) := by decide +kernel
theorem dX1_add_66 : decode cX1_add 66 = .ok (.invokevirtual 26, 3) := by decide +kernel
theorem dX1_add_69 : decode cX1_add 69 = .ok (.aload_n 0, 1) := by decide +kernel
theorem dX1_add_70 : decode cX1_add 70 = .ok (.dup, 1) := by decide +kernel
theorem dX1_add_71 : decode cX1_add 71 = .ok (.getfield 18, 3) := by decide +kernel
theorem dX1_add_74 : decode cX1_add 74 = .ok (.iconst 1, 1) := by decide +kernel
theorem dX1_add_75 : decode cX1_add 75 = .ok (.iadd, 1) := by decide +kernel
theorem dX1_add_76 : decode cX1_add 76 = .ok (.putfield 18, 3) := by decide +kernel
theorem dX1_add_79 : decode cX1_add 79 = .ok (.aload_n 0, 1) := by decide +kernel
theorem dX1_add_80 : decode cX1_add 80 = .ok (.getfield 18, 3) := by decide +kernel
theorem dX1_add_83 : decode cX1_add 83 = .ok (.ireturn, 1) := by decide +kernel
theorem dX1_mergeGroups_0 : decode cX1_mergeGroups 0 = .ok (.iconst 0, 1) := by decide +kernel
theorem dX1_mergeGroups_1 : decode cX1_mergeGroups 1 = .ok (.istore_n 3, 1) := by decide +kernel
theorem dX1_mergeGroups_2 : decode cX1_mergeGroups 2 = .ok (.iload_n 3, 1) := by decide +kernel
theorem dX1_mergeGroups_3 : decode cX1_mergeGroups 3 = .ok (.bipush 24, 2) := by decide +kernel
theorem dX1_mergeGroups_5 : decode cX1_mergeGroups 5 = .ok (.if_icmp .ge 26, 3) := by decide +kernel
theorem dX1_mergeGroups_8 : decode cX1_mergeGroups 8 = .ok (.aload_n 0, 1) := by decide +kernel
theorem dX1_mergeGroups_9 : decode cX1_mergeGroups 9 = .ok (.getfield 15, 3) := by decide +kernel
theorem dX1_mergeGroups_12 : decode cX1_mergeGroups 12 = .ok (.iload_n 3, 1) := by decide +kernel
theorem dX1_mergeGroups_13 : decode cX1_mergeGroups 13 = .ok (.iaload, 1) := by decide +kernel
theorem dX1_mergeGroups_14 : decode cX1_mergeGroups 14 = .ok (.iload_n 2, 1) := by decide +kernel
theorem dX1_mergeGroups_15 : decode cX1_mergeGroups 15 = .ok (.if_icmp .ne 10, 3) := by decide +kernel
theorem dX1_mergeGroups_18 : decode cX1_mergeGroups 18 = .ok (.aload_n 0, 1) := by decide +kernel
theorem dX1_mergeGroups_19 : decode cX1_mergeGroups 19 = .ok (.getfield 15, 3) := by decide +kernel
theorem dX1_mergeGroups_22 : decode cX1_mergeGroups 22 = .ok (.iload_n 3, 1) := by decide +kernel
theorem dX1_mergeGroups_23 : decode cX1_mergeGroups 23 = .ok (.iload_n 1, 1) := by decide +kernel
theorem dX1_mergeGroups_24 : decode cX1_mergeGroups 24 = .ok (.iastore, 1) := by decide +kernel
theorem dX1_mergeGroups_25 : decode cX1_mergeGroups 25 = .ok (.iinc 3 1, 3) := by decide +kernel
theorem dX1_mergeGroups_28 : decode cX1_mergeGroups 28 = .ok (.goto (-26), 3) := by decide +kernel
theorem dX1_mergeGroups_31 : decode cX1_mergeGroups 31 = .ok (.return_, 1) := by decide +kernel
theorem dX2_init_0 : decode cX2_init 0 = .ok (.aload_n 0, 1) := by decide +kernel
theorem dX2_init_1 : decode cX2_init 1 = .ok (.invokespecial 3, 3) := by decide +kernel
theorem dX2_init_4 : decode cX2_init 4 = .ok (.aload_n 0, 1) := by decide +kernel
theorem dX2_init_5 : decode cX2_init 5 = .ok (.bipush 10, 2) := by decide +kernel
theorem dX2_init_7 : decode cX2_init 7 = .ok (.newarray .long, 2) := by decide +kernel
theorem dX2_init_9 : decode cX2_init 9 = .ok (.putfield 9, 3) := by decide +kernel
theorem dX2_init_12 : decode cX2_init 12 = .ok (.aload_n 0, 1) := by decide +kernel
theorem dX2_init_13 : decode cX2_init 13 = .ok (.bipush 10, 2) := by decide +kernel
theorem dX2_init_15 : decode cX2_init 15 = .ok (.newarray .long, 2) := by decide +kernel
theorem dX2_init_17 : decode cX2_init 17 = .ok (.putfield 15, 3) := by decide +kernel
theorem dX2_init_20 : decode cX2_init 20 = .ok (.aload_n 0, 1) := by decide +kernel
theorem dX2_init_21 : decode cX2_init 21 = .ok (.bipush 10, 2) := by decide +kernel
theorem dX2_init_23 : decode cX2_init 23 = .ok (.newarray .long, 2) := by decide +kernel
theorem dX2_init_25 : decode cX2_init 25 = .ok (.putfield 18, 3) := by decide +kernel
theorem dX2_init_28 : decode cX2_init 28 = .ok (.return_, 1) := by decide +kernel
theorem dX2_tellRow_0 : decode cX2_tellRow 0 = .ok (.aload_n 0, 1) := by decide +kernel
theorem dX2_tellRow_1 : decode cX2_tellRow 1 = .ok (.getfield 9, 3) := by decide +kernel
theorem dX2_tellRow_4 : decode cX2_tellRow 4 = .ok (.iload_n 1, 1) := by decide +kernel
theorem dX2_tellRow_5 : decode cX2_tellRow 5 = .ok (.laload, 1) := by decide +kernel
theorem dX2_tellRow_6 : decode cX2_tellRow 6 = .ok (.lload_n 2, 1) := by decide +kernel
theorem dX2_tellRow_7 : decode cX2_tellRow 7 = .ok (.lcmp, 1) := by decide +kernel
theorem dX2_tellRow_8 : decode cX2_tellRow 8 = .ok (.ifCond .ne 27, 3) := by decide +kernel
theorem dX2_tellRow_11 : decode cX2_tellRow 11 = .ok (.aload_n 0, 1) := by decide +kernel
theorem dX2_tellRow_12 : decode cX2_tellRow 12 = .ok (.getfield 15, 3) := by decide +kernel
theorem dX2_tellRow_15 : decode cX2_tellRow 15 = .ok (.iload_n 1, 1) := by decide +kernel
theorem dX2_tellRow_16 : decode cX2_tellRow 16 = .ok (.laload, 1) := by decide +kernel
theorem dX2_tellRow_17 : decode cX2_tellRow 17 = .ok (.lload 4, 2) := by decide +kernel
theorem dX2_tellRow_19 : decode cX2_tellRow 19 = .ok (.lcmp, 1) := by decide +kernel
theorem dX2_tellRow_20 : decode cX2_tellRow 20 = .ok (.ifCond .ne 15, 3) := by decide +kernel
theorem dX2_tellRow_23 : decode cX2_tellRow 23 = .ok (.aload_n 0, 1) := by decide +kernel
theorem dX2_tellRow_24 : decode cX2_tellRow 24 = .ok (.getfield 18, 3) := by decide +kernel
theorem dX2_tellRow_27 : decode cX2_tellRow 27 = .ok (.iload_n 1, 1) := by decide +kernel
theorem dX2_tellRow_28 : decode cX2_tellRow 28 = .ok (.laload, 1) := by decide +kernel
theorem dX2_tellRow_29 : decode cX2_tellRow 29 = .ok (.lload 6, 2) := by decide +kernel
theorem dX2_tellRow_31 : decode cX2_tellRow 31 = .ok (.lcmp, 1) := by decide +kernel
theorem dX2_tellRow_32 : decode cX2_tellRow 32 = .ok (.ifCond .eq 7, 3) := by decide +kernel
theorem dX2_tellRow_35 : decode cX2_tellRow 35 = .ok (.iconst 1, 1) := by decide +kernel
theorem dX2_tellRow_36 : decode cX2_tellRow 36 = .ok (.goto 4, 3) := by decide +kernel
theorem dX2_tellRow_39 : decode cX2_tellRow 39 = .ok (.iconst 0, 1) := by decide +kernel
theorem dX2_tellRow_40 : decode cX2_tellRow 40 = .ok (.istore 8, 2) := by decide +kernel
theorem dX2_tellRow_42 : decode cX2_tellRow 42 = .ok (.aload_n 0, 1) := by decide +kernel
theorem dX2_tellRow_43 : decode cX2_tellRow 43 = .ok (.getfield 9, 3) := by decide +kernel
theorem dX2_tellRow_46 : decode cX2_tellRow 46 = .ok (.iload_n 1, 1) := by decide +kernel
theorem dX2_tellRow_47 : decode cX2_tellRow 47 = .ok (.lload_n 2, 1) := by decide +kernel
theorem dX2_tellRow_48 : decode cX2_tellRow 48 = .ok (.lastore, 1) := by decide +kernel
theorem dX2_tellRow_49 : decode cX2_tellRow 49 = .ok (.aload_n 0, 1) := by decide +kernel
theorem dX2_tellRow_50 : decode cX2_tellRow 50 = .ok (.getfield 15, 3) := by decide +kernel
theorem dX2_tellRow_53 : decode cX2_tellRow 53 = .ok (.iload_n 1, 1) := by decide +kernel
theorem dX2_tellRow_54 : decode cX2_tellRow 54 = .ok (.lload 4, 2) := by decide +kernel
theorem dX2_tellRow_56 : decode cX2_tellRow 56 = .ok (.lastore, 1) := by decide +kernel
theorem dX2_tellRow_57 : decode cX2_tellRow 57 = .ok (.aload_n 0, 1) := by decide +kernel
theorem dX2_tellRow_58 : decode cX2_tellRow 58 = .ok (.getfield 18, 3) := by decide +kernel
theorem dX2_tellRow_61 : decode cX2_tellRow 61 = .ok (.iload_n 1, 1) := by decide +kernel
theorem dX2_tellRow_62 : decode cX2_tellRow 62 = .ok (.lload 6, 2) := by decide +kernel
theorem dX2_tellRow_64 : decode cX2_tellRow 64 = .ok (.lastore, 1) := by decide +kernel
theorem dX2_tellRow_65 : decode cX2_tellRow 65 = .ok (.iload 8, 2) := by decide +kernel
theorem dX2_tellRow_67 : decode cX2_tellRow 67 = .ok (.ireturn, 1) := by decide +kernel
set_option maxRecDepth 20000 in
theorem ggX2_leastThatWillDo_X2_willDo : GoodIn wsX2_leastThatWillDo wsX2_willDo := goodIn_ca (goodIn_r _ [7, 2, 8, 9, 10, 11, 12, 13] (by decide +kernel) (by decide +kernel)) (goodIn_sub (fun _ h => List.mem_cons_of_mem _ (List.mem_append_right _ h)) (by decide +kernel))
set_option maxRecDepth 20000 in
theorem gX2_leastThatWillDo_X2_willDo : GoodIn wsX2_leastThatWillDo (wsV RX2 23 RX2 yX2_willDo wsX2_willDo) := goodIn_app (goodIn_of _ (by decide +kernel)) ggX2_leastThatWillDo_X2_willDo
theorem dX2_leastThatWillDo_0 : decode cX2_leastThatWillDo 0 = .ok (.iconst (-1), 1) := by decide +kernel
theorem dX2_leastThatWillDo_1 : decode cX2_leastThatWillDo 1 = .ok (.istore 7, 2) := by decide +kernel
theorem dX2_leastThatWillDo_3 : decode cX2_leastThatWillDo 3 = .ok (.ldc2_w 21, 3) := by decide +kernel
theorem dX2_leastThatWillDo_6 : decode cX2_leastThatWillDo 6 = .ok (.lstore 8, 2) := by decide +kernel
theorem dX2_leastThatWillDo_8 : decode cX2_leastThatWillDo 8 = .ok (.iconst 0, 1) := by decide +kernel
theorem dX2_leastThatWillDo_9 : decode cX2_leastThatWillDo 9 = .ok (.istore 10, 2) := by decide +kernel
theorem dX2_leastThatWillDo_11 : decode cX2_leastThatWillDo 11 = .ok (.iload 10, 2) := by decide +kernel
theorem dX2_leastThatWillDo_13 : decode cX2_leastThatWillDo 13 = .ok (.bipush 10, 2) := by decide +kernel
theorem dX2_leastThatWillDo_15 : decode cX2_leastThatWillDo 15 = .ok (.if_icmp .ge 48, 3) := by decide +kernel
theorem dX2_leastThatWillDo_18 : decode cX2_leastThatWillDo 18 = .ok (.aload_n 0, 1) := by decide +kernel
theorem dX2_leastThatWillDo_19 : decode cX2_leastThatWillDo 19 = .ok (.getfield 9, 3) := by decide +kernel
theorem dX2_leastThatWillDo_22 : decode cX2_leastThatWillDo 22 = .ok (.iload 10, 2) := by decide +kernel
theorem dX2_leastThatWillDo_24 : decode cX2_leastThatWillDo 24 = .ok (.laload, 1) := by decide +kernel
theorem dX2_leastThatWillDo_25 : decode cX2_leastThatWillDo 25 = .ok (.lload 8, 2) := by decide +kernel
theorem dX2_leastThatWillDo_27 : decode cX2_leastThatWillDo 27 = .ok (.lcmp, 1) := by decide +kernel
theorem dX2_leastThatWillDo_28 : decode cX2_leastThatWillDo 28 = .ok (.ifCond .ge 29, 3) := by decide +kernel
theorem dX2_leastThatWillDo_31 : decode cX2_leastThatWillDo 31 = .ok (.aload_n 0, 1) := by decide +kernel
theorem dX2_leastThatWillDo_32 : decode cX2_leastThatWillDo 32 = .ok (.iload 10, 2) := by decide +kernel
theorem dX2_leastThatWillDo_34 : decode cX2_leastThatWillDo 34 = .ok (.lload_n 1, 1) := by decide +kernel
theorem dX2_leastThatWillDo_35 : decode cX2_leastThatWillDo 35 = .ok (.lload_n 3, 1) := by decide +kernel
theorem dX2_leastThatWillDo_36 : decode cX2_leastThatWillDo 36 = .ok (.lload 5, 2) := by decide +kernel
theorem dX2_leastThatWillDo_38 : decode cX2_leastThatWillDo 38 = .ok (.invokevirtual 23, 3) := by decide +kernel
theorem dX2_leastThatWillDo_41 : decode cX2_leastThatWillDo 41 = .ok (.ifCond .eq 16, 3) := by decide +kernel
theorem dX2_leastThatWillDo_44 : decode cX2_leastThatWillDo 44 = .ok (.iload 10, 2) := by decide +kernel
theorem dX2_leastThatWillDo_46 : decode cX2_leastThatWillDo 46 = .ok (.istore 7, 2) := by decide +kernel
theorem dX2_leastThatWillDo_48 : decode cX2_leastThatWillDo 48 = .ok (.aload_n 0, 1) := by decide +kernel
theorem dX2_leastThatWillDo_49 : decode cX2_leastThatWillDo 49 = .ok (.getfield 9, 3) := by decide +kernel
theorem dX2_leastThatWillDo_52 : decode cX2_leastThatWillDo 52 = .ok (.iload 10, 2) := by decide +kernel
theorem dX2_leastThatWillDo_54 : decode cX2_leastThatWillDo 54 = .ok (.laload, 1) := by decide +kernel
theorem dX2_leastThatWillDo_55 : decode cX2_leastThatWillDo 55 = .ok (.lstore 8, 2) := by decide +kernel
theorem dX2_leastThatWillDo_57 : decode cX2_leastThatWillDo 57 = .ok (.iinc 10 1, 3) := by decide +kernel
theorem dX2_leastThatWillDo_60 : decode cX2_leastThatWillDo 60 = .ok (.goto (-49), 3) := by decide +kernel
theorem dX2_leastThatWillDo_63 : decode cX2_leastThatWillDo 63 = .ok (.iload 7, 2) := by decide +kernel
theorem dX2_leastThatWillDo_65 : decode cX2_leastThatWillDo 65 = .ok (.ireturn, 1) := by decide +kernel
theorem dX2_willDo_0 : decode cX2_willDo 0 = .ok (.aload_n 0, 1) := by decide +kernel
theorem dX2_willDo_1 : decode cX2_willDo 1 = .ok (.getfield 9, 3) := by decide +kernel
theorem dX2_willDo_4 : decode cX2_willDo 4 = .ok (.iload_n 1, 1) := by decide +kernel
theorem dX2_willDo_5 : decode cX2_willDo 5 = .ok (.laload, 1) := by decide +kernel
theorem dX2_willDo_6 : decode cX2_willDo 6 = .ok (.lconst 0, 1) := by decide +kernel
theorem dX2_willDo_7 : decode cX2_willDo 7 = .ok (.lcmp, 1) := by decide +kernel
theorem dX2_willDo_8 : decode cX2_willDo 8 = .ok (.ifCond .le 39, 3) := by decide +kernel
theorem dX2_willDo_11 : decode cX2_willDo 11 = .ok (.aload_n 0, 1) := by decide +kernel
theorem dX2_willDo_12 : decode cX2_willDo 12 = .ok (.getfield 15, 3) := by decide +kernel
theorem dX2_willDo_15 : decode cX2_willDo 15 = .ok (.iload_n 1, 1) := by decide +kernel
theorem dX2_willDo_16 : decode cX2_willDo 16 = .ok (.laload, 1) := by decide +kernel
theorem dX2_willDo_17 : decode cX2_willDo 17 = .ok (.lload_n 2, 1) := by decide +kernel
theorem dX2_willDo_18 : decode cX2_willDo 18 = .ok (.lcmp, 1) := by decide +kernel
theorem dX2_willDo_19 : decode cX2_willDo 19 = .ok (.ifCond .lt 28, 3) := by decide +kernel
theorem dX2_willDo_22 : decode cX2_willDo 22 = .ok (.lload_n 2, 1) := by decide +kernel
theorem dX2_willDo_23 : decode cX2_willDo 23 = .ok (.aload_n 0, 1) := by decide +kernel
theorem dX2_willDo_24 : decode cX2_willDo 24 = .ok (.getfield 18, 3) := by decide +kernel
theorem dX2_willDo_27 : decode cX2_willDo 27 = .ok (.iload_n 1, 1) := by decide +kernel
theorem dX2_willDo_28 : decode cX2_willDo 28 = .ok (.laload, 1) := by decide +kernel
theorem dX2_willDo_29 : decode cX2_willDo 29 = .ok (.lmul, 1) := by decide +kernel
theorem dX2_willDo_30 : decode cX2_willDo 30 = .ok (.lload 6, 2) := by decide +kernel
theorem dX2_willDo_32 : decode cX2_willDo 32 = .ok (.lmul, 1) := by decide +kernel
theorem dX2_willDo_33 : decode cX2_willDo 33 = .ok (.lload 4, 2) := by decide +kernel
theorem dX2_willDo_35 : decode cX2_willDo 35 = .ok (.ldc2_w 27, 3) := by decide +kernel
theorem dX2_willDo_38 : decode cX2_willDo 38 = .ok (.lmul, 1) := by decide +kernel
theorem dX2_willDo_39 : decode cX2_willDo 39 = .ok (.lcmp, 1) := by decide +kernel
theorem dX2_willDo_40 : decode cX2_willDo 40 = .ok (.ifCond .gt 7, 3) := by decide +kernel
theorem dX2_willDo_43 : decode cX2_willDo 43 = .ok (.iconst 1, 1) := by decide +kernel
theorem dX2_willDo_44 : decode cX2_willDo 44 = .ok (.goto 4, 3) := by decide +kernel
theorem dX2_willDo_47 : decode cX2_willDo 47 = .ok (.iconst 0, 1) := by decide +kernel
theorem dX2_willDo_48 : decode cX2_willDo 48 = .ok (.ireturn, 1) := by decide +kernel
theorem dX3_init_0 : decode cX3_init 0 = .ok (.aload_n 0, 1) := by decide +kernel
theorem dX3_init_1 : decode cX3_init 1 = .ok (.invokespecial 3, 3) := by decide +kernel
theorem dX3_init_4 : decode cX3_init 4 = .ok (.aload_n 0, 1) := by decide +kernel
theorem dX3_init_5 : decode cX3_init 5 = .ok (.bipush 16, 2) := by decide +kernel
theorem dX3_init_7 : decode cX3_init 7 = .ok (.newarray .int, 2) := by decide +kernel
theorem dX3_init_9 : decode cX3_init 9 = .ok (.putfield 9, 3) := by decide +kernel
theorem dX3_init_12 : decode cX3_init 12 = .ok (.aload_n 0, 1) := by decide +kernel
theorem dX3_init_13 : decode cX3_init 13 = .ok (.bipush 15, 2) := by decide +kernel
theorem dX3_init_15 : decode cX3_init 15 = .ok (.newarray .int, 2) := by decide +kernel
theorem dX3_init_17 : decode cX3_init 17 = .ok (.putfield 15, 3) := by decide +kernel
theorem dX3_init_20 : decode cX3_init 20 = .ok (.aload_n 0, 1) := by decide +kernel
theorem dX3_init_21 : decode cX3_init 21 = .ok (.bipush 15, 2) := by decide +kernel
theorem dX3_init_23 : decode cX3_init 23 = .ok (.newarray .int, 2) := by decide +kernel
theorem dX3_init_25 : decode cX3_init 25 = .ok (.putfield 18, 3) := by decide +kernel
theorem dX3_init_28 : decode cX3_init 28 = .ok (.aload_n 0, 1) := by decide +kernel
theorem dX3_init_29 : decode cX3_init 29 = .ok (.bipush 15, 2) := by decide +kernel
theorem dX3_init_31 : decode cX3_init 31 = .ok (.newarray .int, 2) := by decide +kernel
theorem dX3_init_33 : decode cX3_init 33 = .ok (.putfield 21, 3) := by decide +kernel
theorem dX3_init_36 : decode cX3_init 36 = .ok (.aload_n 0, 1) := by decide +kernel
theorem dX3_init_37 : decode cX3_init 37 = .ok (.sipush 256, 3) := by decide +kernel
theorem dX3_init_40 : decode cX3_init 40 = .ok (.newarray .long, 2) := by decide +kernel
theorem dX3_init_42 : decode cX3_init 42 = .ok (.putfield 24, 3) := by decide +kernel
theorem dX3_init_45 : decode cX3_init 45 = .ok (.aload_n 0, 1) := by decide +kernel
theorem dX3_init_46 : decode cX3_init 46 = .ok (.iconst 0, 1) := by decide +kernel
theorem dX3_init_47 : decode cX3_init 47 = .ok (.putfield 28, 3) := by decide +kernel
theorem dX3_init_50 : decode cX3_init 50 = .ok (.aload_n 0, 1) := by decide +kernel
theorem dX3_init_51 : decode cX3_init 51 = .ok (.iconst 0, 1) := by decide +kernel
theorem dX3_init_52 : decode cX3_init 52 = .ok (.putfield 32, 3) := by decide +kernel
theorem dX3_init_55 : decode cX3_init 55 = .ok (.return_, 1) := by decide +kernel
theorem dX3_nodeCount_0 : decode cX3_nodeCount 0 = .ok (.aload_n 0, 1) := by decide +kernel
theorem dX3_nodeCount_1 : decode cX3_nodeCount 1 = .ok (.getfield 28, 3) := by decide +kernel
theorem dX3_nodeCount_4 : decode cX3_nodeCount 4 = .ok (.ireturn, 1) := by decide +kernel
theorem dX3_bundleCount_0 : decode cX3_bundleCount 0 = .ok (.aload_n 0, 1) := by decide +kernel
theorem dX3_bundleCount_1 : decode cX3_bundleCount 1 = .ok (.getfield 32, 3) := by decide +kernel
theorem dX3_bundleCount_4 : decode cX3_bundleCount 4 = .ok (.ireturn, 1) := by decide +kernel
theorem dX3_cavitiesOf_0 : decode cX3_cavitiesOf 0 = .ok (.aload_n 0, 1) := by decide +kernel
theorem dX3_cavitiesOf_1 : decode cX3_cavitiesOf 1 = .ok (.getfield 9, 3) := by decide +kernel
theorem dX3_cavitiesOf_4 : decode cX3_cavitiesOf 4 = .ok (.iload_n 1, 1) := by decide +kernel
theorem dX3_cavitiesOf_5 : decode cX3_cavitiesOf 5 = .ok (.iaload, 1) := by decide +kernel
theorem dX3_cavitiesOf_6 : decode cX3_cavitiesOf 6 = .ok (.ireturn, 1) := by decide +kernel
theorem dX3_firstNode_0 : decode cX3_firstNode 0 = .ok (.aload_n 0, 1) := by decide +kernel
theorem dX3_firstNode_1 : decode cX3_firstNode 1 = .ok (.getfield 15, 3) := by decide +kernel
theorem dX3_firstNode_4 : decode cX3_firstNode 4 = .ok (.iload_n 1, 1) := by decide +kernel
theorem dX3_firstNode_5 : decode cX3_firstNode 5 = .ok (.iaload, 1) := by decide +kernel
theorem dX3_firstNode_6 : decode cX3_firstNode 6 = .ok (.ireturn, 1) := by decide +kernel
theorem dX3_otherNode_0 : decode cX3_otherNode 0 = .ok (.aload_n 0, 1) := by decide +kernel
theorem dX3_otherNode_1 : decode cX3_otherNode 1 = .ok (.getfield 18, 3) := by decide +kernel
theorem dX3_otherNode_4 : decode cX3_otherNode 4 = .ok (.iload_n 1, 1) := by decide +kernel
theorem dX3_otherNode_5 : decode cX3_otherNode 5 = .ok (.iaload, 1) := by decide +kernel
theorem dX3_otherNode_6 : decode cX3_otherNode 6 = .ok (.ireturn, 1) := by decide +kernel
theorem dX3_bundleLength_0 : decode cX3_bundleLength 0 = .ok (.aload_n 0, 1) := by decide +kernel
theorem dX3_bundleLength_1 : decode cX3_bundleLength 1 = .ok (.getfield 21, 3) := by decide +kernel
theorem dX3_bundleLength_4 : decode cX3_bundleLength 4 = .ok (.iload_n 1, 1) := by decide +kernel
theorem dX3_bundleLength_5 : decode cX3_bundleLength 5 = .ok (.iaload, 1) := by decide +kernel
theorem dX3_bundleLength_6 : decode cX3_bundleLength 6 = .ok (.ireturn, 1) := by decide +kernel
theorem dX3_wayBetween_0 : decode cX3_wayBetween 0 = .ok (.aload_n 0, 1) := by decide +kernel
theorem dX3_wayBetween_1 : decode cX3_wayBetween 1 = .ok (.getfield 24, 3) := by decide +kernel
theorem dX3_wayBetween_4 : decode cX3_wayBetween 4 = .ok (.iload_n 1, 1) := by decide +kernel
theorem dX3_wayBetween_5 : decode cX3_wayBetween 5 = .ok (.bipush 16, 2) := by decide +kernel
theorem dX3_wayBetween_7 : decode cX3_wayBetween 7 = .ok (.imul, 1) := by decide +kernel
theorem dX3_wayBetween_8 : decode cX3_wayBetween 8 = .ok (.iload_n 2, 1) := by decide +kernel
theorem dX3_wayBetween_9 : decode cX3_wayBetween 9 = .ok (.iadd, 1) := by decide +kernel
theorem dX3_wayBetween_10 : decode cX3_wayBetween 10 = .ok (.laload, 1) := by decide +kernel
theorem dX3_wayBetween_11 : decode cX3_wayBetween 11 = .ok (.lreturn, 1) := by decide +kernel
set_option maxRecDepth 20000 in
theorem ggX3_addNode_X3_setWay : GoodIn wsX3_addNode wsX3_setWay := goodIn_ca (goodIn_r _ [8, 9, 10, 11, 12, 13, 14, 15, 16] (by decide +kernel) (by decide +kernel)) (goodIn_sub (fun _ h => List.mem_cons_of_mem _ (List.mem_append_right _ h)) (by decide +kernel))
set_option maxRecDepth 20000 in
theorem gX3_addNode_X3_setWay : GoodIn wsX3_addNode (wsV RX3 37 RX3 yX3_setWay wsX3_setWay) := goodIn_app (goodIn_of _ (by decide +kernel)) ggX3_addNode_X3_setWay
theorem dX3_addNode_0 : decode cX3_addNode 0 = .ok (.aload_n 0, 1) := by decide +kernel
theorem dX3_addNode_1 : decode cX3_addNode 1 = .ok (.getfield 28, 3) := by decide +kernel
theorem dX3_addNode_4 : decode cX3_addNode 4 = .ok (.bipush 16, 2) := by decide +kernel
theorem dX3_addNode_6 : decode cX3_addNode 6 = .ok (.if_icmp .lt 5, 3) := by decide +kernel
theorem dX3_addNode_9 : decode cX3_addNode 9 = .ok (.iconst (-1), 1) := by decide +kernel
theorem dX3_addNode_10 : decode cX3_addNode 10 = .ok (.ireturn, 1) := by decide +kernel
theorem dX3_addNode_11 : decode cX3_addNode 11 = .ok (.aload_n 0, 1) := by decide +kernel
theorem dX3_addNode_12 : decode cX3_addNode 12 = .ok (.getfield 9, 3) := by decide +kernel
theorem dX3_addNode_15 : decode cX3_addNode 15 = .ok (.aload_n 0, 1) := by decide +kernel
theorem dX3_addNode_16 : decode cX3_addNode 16 = .ok (.getfield 28, 3) := by decide +kernel
theorem dX3_addNode_19 : decode cX3_addNode 19 = .ok (.iload_n 1, 1) := by decide +kernel
theorem dX3_addNode_20 : decode cX3_addNode 20 = .ok (.iastore, 1) := by decide +kernel
theorem dX3_addNode_21 : decode cX3_addNode 21 = .ok (.iconst 0, 1) := by decide +kernel
theorem dX3_addNode_22 : decode cX3_addNode 22 = .ok (.istore_n 2, 1) := by decide +kernel
theorem dX3_addNode_23 : decode cX3_addNode 23 = .ok (.iload_n 2, 1) := by decide +kernel
theorem dX3_addNode_24 : decode cX3_addNode 24 = .ok (.aload_n 0, 1) := by decide +kernel
theorem dX3_addNode_25 : decode cX3_addNode 25 = .ok (.getfield 28, 3) := by decide +kernel
theorem dX3_addNode_28 : decode cX3_addNode 28 = .ok (.if_icmp .ge 21, 3) := by decide +kernel
theorem dX3_addNode_31 : decode cX3_addNode 31 = .ok (.aload_n 0, 1) := by decide +kernel
theorem dX3_addNode_32 : decode cX3_addNode 32 = .ok (.aload_n 0, 1) := by decide +kernel
theorem dX3_addNode_33 : decode cX3_addNode 33 = .ok (.getfield 28, 3) := by decide +kernel
theorem dX3_addNode_36 : decode cX3_addNode 36 = .ok (.iload_n 2, 1) := by decide +kernel
theorem dX3_addNode_37 : decode cX3_addNode 37 = .ok (.ldc2_w 35, 3) := by decide +kernel
theorem dX3_addNode_40 : decode cX3_addNode 40 = .ok (.invokevirtual 37, 3) := by decide +kernel
theorem dX3_addNode_43 : decode cX3_addNode 43 = .ok (.iinc 2 1, 3) := by decide +kernel
theorem dX3_addNode_46 : decode cX3_addNode 46 = .ok (.goto (-23), 3) := by decide +kernel
theorem dX3_addNode_49 : decode cX3_addNode 49 = .ok (.aload_n 0, 1) := by decide +kernel
theorem dX3_addNode_50 : decode cX3_addNode 50 = .ok (.aload_n 0, 1) := by decide +kernel
theorem dX3_addNode_51 : decode cX3_addNode 51 = .ok (.getfield 28, 3) := by decide +kernel
theorem dX3_addNode_54 : decode cX3_addNode 54 = .ok (.aload_n 0, 1) := by decide +kernel
theorem dX3_addNode_55 : decode cX3_addNode 55 = .ok (.getfield 28, 3) := by decide +kernel
theorem dX3_addNode_58 : decode cX3_addNode 58 = .ok (.lconst 0, 1) := by decide +kernel
theorem dX3_addNode_59 : decode cX3_addNode 59 = .ok (.invokevirtual 37, 3) := by decide +kernel
theorem dX3_addNode_62 : decode cX3_addNode 62 = .ok (.aload_n 0, 1) := by decide +kernel
theorem dX3_addNode_63 : decode cX3_addNode 63 = .ok (.dup, 1) := by decide +kernel
theorem dX3_addNode_64 : decode cX3_addNode 64 = .ok (.getfield 28, 3) := by decide +kernel
theorem dX3_addNode_67 : decode cX3_addNode 67 = .ok (.iconst 1, 1) := by decide +kernel
theorem dX3_addNode_68 : decode cX3_addNode 68 = .ok (.iadd, 1) := by decide +kernel
theorem dX3_addNode_69 : decode cX3_addNode 69 = .ok (.putfield 28, 3) := by decide +kernel
theorem dX3_addNode_72 : decode cX3_addNode 72 = .ok (.aload_n 0, 1) := by decide +kernel
theorem dX3_addNode_73 : decode cX3_addNode 73 = .ok (.getfield 28, 3) := by decide +kernel
theorem dX3_addNode_76 : decode cX3_addNode 76 = .ok (.iconst 1, 1) := by decide +kernel
theorem dX3_addNode_77 : decode cX3_addNode 77 = .ok (.isub, 1) := by decide +kernel
theorem dX3_addNode_78 : decode cX3_addNode 78 = .ok (.ireturn, 1) := by decide +kernel
set_option maxRecDepth 20000 in
theorem ggX3_addBundle_X3_wayBetween : GoodIn wsX3_addBundle wsX3_wayBetween := goodIn_ca (goodIn_r _ [10, 11, 28, 29, 30, 31, 32, 33, 34] (by decide +kernel) (by decide +kernel)) (goodIn_sub (fun _ h => List.mem_cons_of_mem _ (List.mem_append_right _ h)) (by decide +kernel))
set_option maxRecDepth 20000 in
theorem gX3_addBundle_X3_wayBetween : GoodIn wsX3_addBundle (wsV RX3 41 RX3 yX3_wayBetween wsX3_wayBetween) := goodIn_app (goodIn_of _ (by decide +kernel)) ggX3_addBundle_X3_wayBetween
set_option maxRecDepth 20000 in
theorem ggX3_addBundle_X3_joinTrees : GoodIn wsX3_addBundle wsX3_joinTrees := goodIn_ca (goodIn_r _ [15, 16, 17, 18, 19, 9, 20, 1, 6, 7, 8, 10, 11, 21, 22, 23, 24, 25, 26, 27, 28, 29, 30, 31, 32, 33, 34] (by decide +kernel) (by decide +kernel)) (goodIn_sub (fun _ h => List.mem_cons_of_mem _ (List.mem_append_right _ h)) (by decide +kernel))
set_option maxRecDepth 20000 in
theorem gX3_addBundle_X3_joinTrees : GoodIn wsX3_addBundle (wsV RX3 45 RX3 yX3_joinTrees wsX3_joinTrees) := goodIn_app (goodIn_of _ (by decide +kernel)) ggX3_addBundle_X3_joinTrees
theorem dX3_addBundle_0 : decode cX3_addBundle 0 = .ok (.aload_n 0, 1) := by decide +kernel
theorem dX3_addBundle_1 : decode cX3_addBundle 1 = .ok (.iload_n 1, 1) := by decide +kernel
theorem dX3_addBundle_2 : decode cX3_addBundle 2 = .ok (.iload_n 2, 1) := by decide +kernel
theorem dX3_addBundle_3 : decode cX3_addBundle 3 = .ok (.invokevirtual 41, 3) := by decide +kernel
theorem dX3_addBundle_6 : decode cX3_addBundle 6 = .ok (.ldc2_w 35, 3) := by decide +kernel
theorem dX3_addBundle_9 : decode cX3_addBundle 9 = .ok (.lcmp, 1) := by decide +kernel
theorem dX3_addBundle_10 : decode cX3_addBundle 10 = .ok (.ifCond .ne 12, 3) := by decide +kernel
theorem dX3_addBundle_13 : decode cX3_addBundle 13 = .ok (.aload_n 0, 1) := by decide +kernel
theorem dX3_addBundle_14 : decode cX3_addBundle 14 = .ok (.getfield 32, 3) := by decide +kernel
theorem dX3_addBundle_17 : decode cX3_addBundle 17 = .ok (.bipush 15, 2) := by decide +kernel
theorem dX3_addBundle_19 : decode cX3_addBundle 19 = .ok (.if_icmp .lt 5, 3) := by decide +kernel
theorem dX3_addBundle_22 : decode cX3_addBundle 22 = .ok (.iconst (-1), 1) := by decide +kernel
theorem dX3_addBundle_23 : decode cX3_addBundle 23 = .ok (.ireturn, 1) := by decide +kernel
theorem dX3_addBundle_24 : decode cX3_addBundle 24 = .ok (.aload_n 0, 1) := by decide +kernel
theorem dX3_addBundle_25 : decode cX3_addBundle 25 = .ok (.getfield 15, 3) := by decide +kernel
theorem dX3_addBundle_28 : decode cX3_addBundle 28 = .ok (.aload_n 0, 1) := by decide +kernel
theorem dX3_addBundle_29 : decode cX3_addBundle 29 = .ok (.getfield 32, 3) := by decide +kernel
theorem dX3_addBundle_32 : decode cX3_addBundle 32 = .ok (.iload_n 1, 1) := by decide +kernel
theorem dX3_addBundle_33 : decode cX3_addBundle 33 = .ok (.iastore, 1) := by decide +kernel
theorem dX3_addBundle_34 : decode cX3_addBundle 34 = .ok (.aload_n 0, 1) := by decide +kernel
theorem dX3_addBundle_35 : decode cX3_addBundle 35 = .ok (.getfield 18, 3) := by decide +kernel
theorem dX3_addBundle_38 : decode cX3_addBundle 38 = .ok (.aload_n 0, 1) := by decide +kernel
theorem dX3_addBundle_39 : decode cX3_addBundle 39 = .ok (.getfield 32, 3) := by decide +kernel
theorem dX3_addBundle_42 : decode cX3_addBundle 42 = .ok (.iload_n 2, 1) := by decide +kernel
theorem dX3_addBundle_43 : decode cX3_addBundle 43 = .ok (.iastore, 1) := by decide +kernel
theorem dX3_addBundle_44 : decode cX3_addBundle 44 = .ok (.aload_n 0, 1) := by decide +kernel
theorem dX3_addBundle_45 : decode cX3_addBundle 45 = .ok (.getfield 21, 3) := by decide +kernel
theorem dX3_addBundle_48 : decode cX3_addBundle 48 = .ok (.aload_n 0, 1) := by decide +kernel
theorem dX3_addBundle_49 : decode cX3_addBundle 49 = .ok (.getfield 32, 3) := by decide +kernel
theorem dX3_addBundle_52 : decode cX3_addBundle 52 = .ok (.lload_n 3, 1) := by decide +kernel
theorem dX3_addBundle_53 : decode cX3_addBundle 53 = .ok (.l2i, 1) := by decide +kernel
theorem dX3_addBundle_54 : decode cX3_addBundle 54 = .ok (.iastore, 1) := by decide +kernel
theorem dX3_addBundle_55 : decode cX3_addBundle 55 = .ok (.aload_n 0, 1) := by decide +kernel
theorem dX3_addBundle_56 : decode cX3_addBundle 56 = .ok (.iload_n 1, 1) := by decide +kernel
theorem dX3_addBundle_57 : decode cX3_addBundle 57 = .ok (.iload_n 2, 1) := by decide +kernel
theorem dX3_addBundle_58 : decode cX3_addBundle 58 = .ok (.lload_n 3, 1) := by decide +kernel
theorem dX3_addBundle_59 : decode cX3_addBundle 59 = .ok (.invokevirtual 45, 3) := by decide +kernel
theorem dX3_addBundle_62 : decode cX3_addBundle 62 = .ok (.aload_n 0, 1) := by decide +kernel
theorem dX3_addBundle_63 : decode cX3_addBundle 63 = .ok (.dup, 1) := by decide +kernel
theorem dX3_addBundle_64 : decode cX3_addBundle 64 = .ok (.getfield 32, 3) := by decide +kernel
theorem dX3_addBundle_67 : decode cX3_addBundle 67 = .ok (.iconst 1, 1) := by decide +kernel
theorem dX3_addBundle_68 : decode cX3_addBundle 68 = .ok (.iadd, 1) := by decide +kernel
theorem dX3_addBundle_69 : decode cX3_addBundle 69 = .ok (.putfield 32, 3) := by decide +kernel
theorem dX3_addBundle_72 : decode cX3_addBundle 72 = .ok (.aload_n 0, 1) := by decide +kernel
theorem dX3_addBundle_73 : decode cX3_addBundle 73 = .ok (.getfield 32, 3) := by decide +kernel
theorem dX3_addBundle_76 : decode cX3_addBundle 76 = .ok (.iconst 1, 1) := by decide +kernel
theorem dX3_addBundle_77 : decode cX3_addBundle 77 = .ok (.isub, 1) := by decide +kernel
theorem dX3_addBundle_78 : decode cX3_addBundle 78 = .ok (.ireturn, 1) := by decide +kernel
set_option maxRecDepth 20000 in
theorem ggX3_joinTrees_X3_treeOf : GoodIn wsX3_joinTrees wsX3_treeOf := goodIn_ca (goodIn_r _ [6, 1, 7, 8, 9, 10, 5, 11, 12, 20, 21, 22, 23, 24, 25, 26] (by decide +kernel) (by decide +kernel)) (goodIn_sub (fun _ h => List.mem_cons_of_mem _ (List.mem_append_right _ h)) (by decide +kernel))
set_option maxRecDepth 20000 in
theorem gX3_joinTrees_X3_treeOf : GoodIn wsX3_joinTrees (wsV RX3 48 RX3 yX3_treeOf wsX3_treeOf) := goodIn_app (goodIn_of _ (by decide +kernel)) ggX3_joinTrees_X3_treeOf
set_option maxRecDepth 20000 in
theorem ggX3_joinTrees_X6_hasBit : GoodIn wsX3_joinTrees wsX6_hasBit := goodIn_r _ [15] (by decide +kernel) (by decide +kernel)
set_option maxRecDepth 20000 in
theorem gX3_joinTrees_X6_hasBit_n52 : GoodIn wsX3_joinTrees (wsX6_hasBit) := ggX3_joinTrees_X6_hasBit
set_option maxRecDepth 20000 in
theorem ggX3_joinTrees_X3_wayBetween : GoodIn wsX3_joinTrees wsX3_wayBetween := goodIn_ca (goodIn_r _ [11, 12, 20, 21, 22, 23, 24, 25, 26] (by decide +kernel) (by decide +kernel)) (goodIn_sub (fun _ h => List.mem_cons_of_mem _ (List.mem_append_right _ h)) (by decide +kernel))
set_option maxRecDepth 20000 in
theorem gX3_joinTrees_X3_wayBetween : GoodIn wsX3_joinTrees (wsV RX3 41 RX3 yX3_wayBetween wsX3_wayBetween) := goodIn_app (goodIn_of _ (by decide +kernel)) ggX3_joinTrees_X3_wayBetween
set_option maxRecDepth 20000 in
theorem ggX3_joinTrees_X3_setWay : GoodIn wsX3_joinTrees wsX3_setWay := goodIn_ca (goodIn_r _ [19, 12, 20, 21, 22, 23, 24, 25, 26] (by decide +kernel) (by decide +kernel)) (goodIn_sub (fun _ h => List.mem_cons_of_mem _ (List.mem_append_right _ h)) (by decide +kernel))
set_option maxRecDepth 20000 in
theorem gX3_joinTrees_X3_setWay : GoodIn wsX3_joinTrees (wsV RX3 37 RX3 yX3_setWay wsX3_setWay) := goodIn_app (goodIn_of _ (by decide +kernel)) ggX3_joinTrees_X3_setWay
theorem dX3_joinTrees_0 : decode cX3_joinTrees 0 = .ok (.aload_n 0, 1) := by decide +kernel
theorem dX3_joinTrees_1 : decode cX3_joinTrees 1 = .ok (.iload_n 1, 1) := by decide +kernel
theorem dX3_joinTrees_2 : decode cX3_joinTrees 2 = .ok (.invokevirtual 48, 3) := by decide +kernel
theorem dX3_joinTrees_5 : decode cX3_joinTrees 5 = .ok (.istore 5, 2) := by decide +kernel
theorem dX3_joinTrees_7 : decode cX3_joinTrees 7 = .ok (.aload_n 0, 1) := by decide +kernel
theorem dX3_joinTrees_8 : decode cX3_joinTrees 8 = .ok (.iload_n 2, 1) := by decide +kernel
theorem dX3_joinTrees_9 : decode cX3_joinTrees 9 = .ok (.invokevirtual 48, 3) := by decide +kernel
theorem dX3_joinTrees_12 : decode cX3_joinTrees 12 = .ok (.istore 6, 2) := by decide +kernel
theorem dX3_joinTrees_14 : decode cX3_joinTrees 14 = .ok (.iconst 0, 1) := by decide +kernel
theorem dX3_joinTrees_15 : decode cX3_joinTrees 15 = .ok (.istore 7, 2) := by decide +kernel
theorem dX3_joinTrees_17 : decode cX3_joinTrees 17 = .ok (.iload 7, 2) := by decide +kernel
theorem dX3_joinTrees_19 : decode cX3_joinTrees 19 = .ok (.aload_n 0, 1) := by decide +kernel
theorem dX3_joinTrees_20 : decode cX3_joinTrees 20 = .ok (.getfield 28, 3) := by decide +kernel
theorem dX3_joinTrees_23 : decode cX3_joinTrees 23 = .ok (.if_icmp .ge 72, 3) := by decide +kernel
theorem dX3_joinTrees_26 : decode cX3_joinTrees 26 = .ok (.iconst 0, 1) := by decide +kernel
theorem dX3_joinTrees_27 : decode cX3_joinTrees 27 = .ok (.istore 8, 2) := by decide +kernel
theorem dX3_joinTrees_29 : decode cX3_joinTrees 29 = .ok (.iload 8, 2) := by decide +kernel
theorem dX3_joinTrees_31 : decode cX3_joinTrees 31 = .ok (.aload_n 0, 1) := by decide +kernel
theorem dX3_joinTrees_32 : decode cX3_joinTrees 32 = .ok (.getfield 28, 3) := by decide +kernel
theorem dX3_joinTrees_35 : decode cX3_joinTrees 35 = .ok (.if_icmp .ge 54, 3) := by decide +kernel
theorem dX3_joinTrees_38 : decode cX3_joinTrees 38 = .ok (.iload 5, 2) := by decide +kernel
theorem dX3_joinTrees_40 : decode cX3_joinTrees 40 = .ok (.iload 7, 2) := by decide +kernel
theorem dX3_joinTrees_42 : decode cX3_joinTrees 42 = .ok (.invokestatic 52, 3) := by decide +kernel
theorem dX3_joinTrees_45 : decode cX3_joinTrees 45 = .ok (.ifCond .eq 38, 3) := by decide +kernel
theorem dX3_joinTrees_48 : decode cX3_joinTrees 48 = .ok (.iload 6, 2) := by decide +kernel
theorem dX3_joinTrees_50 : decode cX3_joinTrees 50 = .ok (.iload 8, 2) := by decide +kernel
theorem dX3_joinTrees_52 : decode cX3_joinTrees 52 = .ok (.invokestatic 52, 3) := by decide +kernel
theorem dX3_joinTrees_55 : decode cX3_joinTrees 55 = .ok (.ifCond .eq 28, 3) := by decide +kernel
theorem dX3_joinTrees_58 : decode cX3_joinTrees 58 = .ok (.aload_n 0, 1) := by decide +kernel
theorem dX3_joinTrees_59 : decode cX3_joinTrees 59 = .ok (.iload 7, 2) := by decide +kernel
theorem dX3_joinTrees_61 : decode cX3_joinTrees 61 = .ok (.iload 8, 2) := by decide +kernel
theorem dX3_joinTrees_63 : decode cX3_joinTrees 63 = .ok (.aload_n 0, 1) := by decide +kernel
theorem dX3_joinTrees_64 : decode cX3_joinTrees 64 = .ok (.iload 7, 2) := by decide +kernel
theorem dX3_joinTrees_66 : decode cX3_joinTrees 66 = .ok (.iload_n 1, 1) := by decide +kernel
theorem dX3_joinTrees_67 : decode cX3_joinTrees 67 = .ok (.invokevirtual 41, 3) := by decide +kernel
theorem dX3_joinTrees_70 : decode cX3_joinTrees 70 = .ok (.lload_n 3, 1) := by decide +kernel
theorem dX3_joinTrees_71 : decode cX3_joinTrees 71 = .ok (.ladd, 1) := by decide +kernel
theorem dX3_joinTrees_72 : decode cX3_joinTrees 72 = .ok (.aload_n 0, 1) := by decide +kernel
theorem dX3_joinTrees_73 : decode cX3_joinTrees 73 = .ok (.iload_n 2, 1) := by decide +kernel
theorem dX3_joinTrees_74 : decode cX3_joinTrees 74 = .ok (.iload 8, 2) := by decide +kernel
theorem dX3_joinTrees_76 : decode cX3_joinTrees 76 = .ok (.invokevirtual 41, 3) := by decide +kernel
theorem dX3_joinTrees_79 : decode cX3_joinTrees 79 = .ok (.ladd, 1) := by decide +kernel
theorem dX3_joinTrees_80 : decode cX3_joinTrees 80 = .ok (.invokevirtual 37, 3) := by decide +kernel
theorem dX3_joinTrees_83 : decode cX3_joinTrees 83 = .ok (.iinc 8 1, 3) := by decide +kernel
theorem dX3_joinTrees_86 : decode cX3_joinTrees 86 = .ok (.goto (-57), 3) := by decide +kernel
theorem dX3_joinTrees_89 : decode cX3_joinTrees 89 = .ok (.iinc 7 1, 3) := by decide +kernel
theorem dX3_joinTrees_92 : decode cX3_joinTrees 92 = .ok (.goto (-75), 3) := by decide +kernel
theorem dX3_joinTrees_95 : decode cX3_joinTrees 95 = .ok (.return_, 1) := by decide +kernel
set_option maxRecDepth 20000 in
theorem ggX3_treeOf_X3_wayBetween : GoodIn wsX3_treeOf wsX3_wayBetween := goodIn_ca (goodIn_r _ [7, 8, 9, 10, 11, 12, 13, 14, 15] (by decide +kernel) (by decide +kernel)) (goodIn_sub (fun _ h => List.mem_cons_of_mem _ (List.mem_append_right _ h)) (by decide +kernel))
set_option maxRecDepth 20000 in
theorem gX3_treeOf_X3_wayBetween : GoodIn wsX3_treeOf (wsV RX3 41 RX3 yX3_wayBetween wsX3_wayBetween) := goodIn_app (goodIn_of _ (by decide +kernel)) ggX3_treeOf_X3_wayBetween
theorem dX3_treeOf_0 : decode cX3_treeOf 0 = .ok (.iconst 0, 1) := by decide +kernel
theorem dX3_treeOf_1 : decode cX3_treeOf 1 = .ok (.istore_n 2, 1) := by decide +kernel
theorem dX3_treeOf_2 : decode cX3_treeOf 2 = .ok (.iconst 0, 1) := by decide +kernel
theorem dX3_treeOf_3 : decode cX3_treeOf 3 = .ok (.istore_n 3, 1) := by decide +kernel
theorem dX3_treeOf_4 : decode cX3_treeOf 4 = .ok (.iload_n 3, 1) := by decide +kernel
theorem dX3_treeOf_5 : decode cX3_treeOf 5 = .ok (.aload_n 0, 1) := by decide +kernel
theorem dX3_treeOf_6 : decode cX3_treeOf 6 = .ok (.getfield 28, 3) := by decide +kernel
theorem dX3_treeOf_9 : decode cX3_treeOf 9 = .ok (.if_icmp .ge 28, 3) := by decide +kernel
theorem dX3_treeOf_12 : decode cX3_treeOf 12 = .ok (.aload_n 0, 1) := by decide +kernel
theorem dX3_treeOf_13 : decode cX3_treeOf 13 = .ok (.iload_n 1, 1) := by decide +kernel
theorem dX3_treeOf_14 : decode cX3_treeOf 14 = .ok (.iload_n 3, 1) := by decide +kernel
theorem dX3_treeOf_15 : decode cX3_treeOf 15 = .ok (.invokevirtual 41, 3) := by decide +kernel
theorem dX3_treeOf_18 : decode cX3_treeOf 18 = .ok (.ldc2_w 35, 3) := by decide +kernel
theorem dX3_treeOf_21 : decode cX3_treeOf 21 = .ok (.lcmp, 1) := by decide +kernel
theorem dX3_treeOf_22 : decode cX3_treeOf 22 = .ok (.ifCond .eq 9, 3) := by decide +kernel
theorem dX3_treeOf_25 : decode cX3_treeOf 25 = .ok (.iload_n 2, 1) := by decide +kernel
theorem dX3_treeOf_26 : decode cX3_treeOf 26 = .ok (.iconst 1, 1) := by decide +kernel
theorem dX3_treeOf_27 : decode cX3_treeOf 27 = .ok (.iload_n 3, 1) := by decide +kernel
theorem dX3_treeOf_28 : decode cX3_treeOf 28 = .ok (.ishl, 1) := by decide +kernel
theorem dX3_treeOf_29 : decode cX3_treeOf 29 = .ok (.ior, 1) := by decide +kernel
theorem dX3_treeOf_30 : decode cX3_treeOf 30 = .ok (.istore_n 2, 1) := by decide +kernel
theorem dX3_treeOf_31 : decode cX3_treeOf 31 = .ok (.iinc 3 1, 3) := by decide +kernel
theorem dX3_treeOf_34 : decode cX3_treeOf 34 = .ok (.goto (-30), 3) := by decide +kernel
theorem dX3_treeOf_37 : decode cX3_treeOf 37 = .ok (.iload_n 2, 1) := by decide +kernel
theorem dX3_treeOf_38 : decode cX3_treeOf 38 = .ok (.ireturn, 1) := by decide +kernel
theorem dX3_setWay_0 : decode cX3_setWay 0 = .ok (.aload_n 0, 1) := by decide +kernel
theorem dX3_setWay_1 : decode cX3_setWay 1 = .ok (.getfield 24, 3) := by decide +kernel
theorem dX3_setWay_4 : decode cX3_setWay 4 = .ok (.iload_n 1, 1) := by decide +kernel
theorem dX3_setWay_5 : decode cX3_setWay 5 = .ok (.bipush 16, 2) := by decide +kernel
theorem dX3_setWay_7 : decode cX3_setWay 7 = .ok (.imul, 1) := by decide +kernel
theorem dX3_setWay_8 : decode cX3_setWay 8 = .ok (.iload_n 2, 1) := by decide +kernel
theorem dX3_setWay_9 : decode cX3_setWay 9 = .ok (.iadd, 1) := by decide +kernel
theorem dX3_setWay_10 : decode cX3_setWay 10 = .ok (.lload_n 3, 1) := by decide +kernel
theorem dX3_setWay_11 : decode cX3_setWay 11 = .ok (.lastore, 1) := by decide +kernel
theorem dX3_setWay_12 : decode cX3_setWay 12 = .ok (.aload_n 0, 1) := by decide +kernel
theorem dX3_setWay_13 : decode cX3_setWay 13 = .ok (.getfield 24, 3) := by decide +kernel
theorem dX3_setWay_16 : decode cX3_setWay 16 = .ok (.iload_n 2, 1) := by decide +kernel
theorem dX3_setWay_17 : decode cX3_setWay 17 = .ok (.bipush 16, 2) := by decide +kernel
theorem dX3_setWay_19 : decode cX3_setWay 19 = .ok (.imul, 1) := by decide +kernel
theorem dX3_setWay_20 : decode cX3_setWay 20 = .ok (.iload_n 1, 1) := by decide +kernel
theorem dX3_setWay_21 : decode cX3_setWay 21 = .ok (.iadd, 1) := by decide +kernel
theorem dX3_setWay_22 : decode cX3_setWay 22 = .ok (.lload_n 3, 1) := by decide +kernel
theorem dX3_setWay_23 : decode cX3_setWay 23 = .ok (.lastore, 1) := by decide +kernel
theorem dX3_setWay_24 : decode cX3_setWay 24 = .ok (.return_, 1) := by decide +kernel
theorem dX4_init_0 : decode cX4_init 0 = .ok (.aload_n 0, 1) := by decide +kernel
theorem dX4_init_1 : decode cX4_init 1 = .ok (.invokespecial 3, 3) := by decide +kernel
theorem dX4_init_4 : decode cX4_init 4 = .ok (.aload_n 0, 1) := by decide +kernel
theorem dX4_init_5 : decode cX4_init 5 = .ok (.bipush 6, 2) := by decide +kernel
theorem dX4_init_7 : decode cX4_init 7 = .ok (.newarray .int, 2) := by decide +kernel
theorem dX4_init_9 : decode cX4_init 9 = .ok (.putfield 9, 3) := by decide +kernel
theorem dX4_init_12 : decode cX4_init 12 = .ok (.aload_n 0, 1) := by decide +kernel
theorem dX4_init_13 : decode cX4_init 13 = .ok (.bipush 6, 2) := by decide +kernel
theorem dX4_init_15 : decode cX4_init 15 = .ok (.newarray .int, 2) := by decide +kernel
theorem dX4_init_17 : decode cX4_init 17 = .ok (.putfield 15, 3) := by decide +kernel
theorem dX4_init_20 : decode cX4_init 20 = .ok (.aload_n 0, 1) := by decide +kernel
theorem dX4_init_21 : decode cX4_init 21 = .ok (.iconst 0, 1) := by decide +kernel
theorem dX4_init_22 : decode cX4_init 22 = .ok (.putfield 18, 3) := by decide +kernel
theorem dX4_init_25 : decode cX4_init 25 = .ok (.return_, 1) := by decide +kernel
theorem dX4_count_0 : decode cX4_count 0 = .ok (.aload_n 0, 1) := by decide +kernel
theorem dX4_count_1 : decode cX4_count 1 = .ok (.getfield 18, 3) := by decide +kernel
theorem dX4_count_4 : decode cX4_count 4 = .ok (.ireturn, 1) := by decide +kernel
theorem dX4_add_0 : decode cX4_add 0 = .ok (.aload_n 0, 1) := by decide +kernel
theorem dX4_add_1 : decode cX4_add 1 = .ok (.getfield 18, 3) := by decide +kernel
theorem dX4_add_4 : decode cX4_add 4 = .ok (.bipush 6, 2) := by decide +kernel
theorem dX4_add_6 : decode cX4_add 6 = .ok (.if_icmp .lt 5, 3) := by decide +kernel
theorem dX4_add_9 : decode cX4_add 9 = .ok (.iconst (-1), 1) := by decide +kernel
theorem dX4_add_10 : decode cX4_add 10 = .ok (.ireturn, 1) := by decide +kernel
theorem dX4_add_11 : decode cX4_add 11 = .ok (.aload_n 0, 1) := by decide +kernel
theorem dX4_add_12 : decode cX4_add 12 = .ok (.dup, 1) := by decide +kernel
theorem dX4_add_13 : decode cX4_add 13 = .ok (.getfield 18, 3) := by decide +kernel
theorem dX4_add_16 : decode cX4_add 16 = .ok (.iconst 1, 1) := by decide +kernel
theorem dX4_add_17 : decode cX4_add 17 = .ok (.iadd, 1) := by decide +kernel
theorem dX4_add_18 : decode cX4_add 18 = .ok (.putfield 18, 3) := by decide +kernel
theorem dX4_add_21 : decode cX4_add 21 = .ok (.aload_n 0, 1) := by decide +kernel
theorem dX4_add_22 : decode cX4_add 22 = .ok (.getfield 18, 3) := by decide +kernel
theorem dX4_add_25 : decode cX4_add 25 = .ok (.iconst 1, 1) := by decide +kernel
theorem dX4_add_26 : decode cX4_add 26 = .ok (.isub, 1) := by decide +kernel
theorem dX4_add_27 : decode cX4_add 27 = .ok (.ireturn, 1) := by decide +kernel
set_option maxRecDepth 20000 in
theorem ggX4_tellWire_X4_isOn : GoodIn wsX4_tellWire wsX4_isOn := goodIn_ca (goodIn_r _ [7, 1, 2, 8, 9, 10, 11, 12, 13] (by decide +kernel) (by decide +kernel)) (goodIn_sub (fun _ h => List.mem_cons_of_mem _ (List.mem_append_right _ h)) (by decide +kernel))
set_option maxRecDepth 20000 in
theorem gX4_tellWire_X4_isOn : GoodIn wsX4_tellWire (wsV RX4 22 RX4 yX4_isOn wsX4_isOn) := goodIn_app (goodIn_of _ (by decide +kernel)) ggX4_tellWire_X4_isOn
theorem dX4_tellWire_0 : decode cX4_tellWire 0 = .ok (.aload_n 0, 1) := by decide +kernel
theorem dX4_tellWire_1 : decode cX4_tellWire 1 = .ok (.iload_n 1, 1) := by decide +kernel
theorem dX4_tellWire_2 : decode cX4_tellWire 2 = .ok (.iload_n 2, 1) := by decide +kernel
theorem dX4_tellWire_3 : decode cX4_tellWire 3 = .ok (.invokevirtual 22, 3) := by decide +kernel
theorem dX4_tellWire_6 : decode cX4_tellWire 6 = .ok (.istore 4, 2) := by decide +kernel
theorem dX4_tellWire_8 : decode cX4_tellWire 8 = .ok (.iconst 1, 1) := by decide +kernel
theorem dX4_tellWire_9 : decode cX4_tellWire 9 = .ok (.iload_n 2, 1) := by decide +kernel
theorem dX4_tellWire_10 : decode cX4_tellWire 10 = .ok (.ishl, 1) := by decide +kernel
theorem dX4_tellWire_11 : decode cX4_tellWire 11 = .ok (.istore 5, 2) := by decide +kernel
theorem dX4_tellWire_13 : decode cX4_tellWire 13 = .ok (.aload_n 0, 1) := by decide +kernel
theorem dX4_tellWire_14 : decode cX4_tellWire 14 = .ok (.getfield 9, 3) := by decide +kernel
theorem dX4_tellWire_17 : decode cX4_tellWire 17 = .ok (.iload_n 1, 1) := by decide +kernel
theorem dX4_tellWire_18 : decode cX4_tellWire 18 = .ok (.dup2, 1) := by decide +kernel
theorem dX4_tellWire_19 : decode cX4_tellWire 19 = .ok (.iaload, 1) := by decide +kernel
theorem dX4_tellWire_20 : decode cX4_tellWire 20 = .ok (.iload 5, 2) := by decide +kernel
theorem dX4_tellWire_22 : decode cX4_tellWire 22 = .ok (.ior, 1) := by decide +kernel
theorem dX4_tellWire_23 : decode cX4_tellWire 23 = .ok (.iastore, 1) := by decide +kernel
theorem dX4_tellWire_24 : decode cX4_tellWire 24 = .ok (.aload_n 0, 1) := by decide +kernel
theorem dX4_tellWire_25 : decode cX4_tellWire 25 = .ok (.getfield 15, 3) := by decide +kernel
theorem dX4_tellWire_28 : decode cX4_tellWire 28 = .ok (.iload_n 1, 1) := by decide +kernel
theorem dX4_tellWire_29 : decode cX4_tellWire 29 = .ok (.iload_n 3, 1) := by decide +kernel
theorem dX4_tellWire_30 : decode cX4_tellWire 30 = .ok (.ifCond .eq 15, 3) := by decide +kernel
theorem dX4_tellWire_33 : decode cX4_tellWire 33 = .ok (.aload_n 0, 1) := by decide +kernel
theorem dX4_tellWire_34 : decode cX4_tellWire 34 = .ok (.getfield 15, 3) := by decide +kernel
theorem dX4_tellWire_37 : decode cX4_tellWire 37 = .ok (.iload_n 1, 1) := by decide +kernel
theorem dX4_tellWire_38 : decode cX4_tellWire 38 = .ok (.iaload, 1) := by decide +kernel
theorem dX4_tellWire_39 : decode cX4_tellWire 39 = .ok (.iload 5, 2) := by decide +kernel
theorem dX4_tellWire_41 : decode cX4_tellWire 41 = .ok (.ior, 1) := by decide +kernel
theorem dX4_tellWire_42 : decode cX4_tellWire 42 = .ok (.goto 14, 3) := by decide +kernel
theorem dX4_tellWire_45 : decode cX4_tellWire 45 = .ok (.aload_n 0, 1) := by decide +kernel
theorem dX4_tellWire_46 : decode cX4_tellWire 46 = .ok (.getfield 15, 3) := by decide +kernel
theorem dX4_tellWire_49 : decode cX4_tellWire 49 = .ok (.iload_n 1, 1) := by decide +kernel
theorem dX4_tellWire_50 : decode cX4_tellWire 50 = .ok (.iaload, 1) := by decide +kernel
theorem dX4_tellWire_51 : decode cX4_tellWire 51 = .ok (.iload 5, 2) := by decide +kernel
theorem dX4_tellWire_53 : decode cX4_tellWire 53 = .ok (.iconst (-1), 1) := by decide +kernel
theorem dX4_tellWire_54 : decode cX4_tellWire 54 = .ok (.ixor, 1) := by decide +kernel
theorem dX4_tellWire_55 : decode cX4_tellWire 55 = .ok (.iand, 1) := by decide +kernel
theorem dX4_tellWire_56 : decode cX4_tellWire 56 = .ok (.iastore, 1) := by decide +kernel
theorem dX4_tellWire_57 : decode cX4_tellWire 57 = .ok (.iload 4, 2) := by decide +kernel
theorem dX4_tellWire_59 : decode cX4_tellWire 59 = .ok (.iload_n 3, 1) := by decide +kernel
theorem dX4_tellWire_60 : decode cX4_tellWire 60 = .ok (.if_icmp .eq 7, 3) := by decide +kernel
theorem dX4_tellWire_63 : decode cX4_tellWire 63 = .ok (.iconst 1, 1) := by decide +kernel
theorem dX4_tellWire_64 : decode cX4_tellWire 64 = .ok (.goto 4, 3) := by decide +kernel
theorem dX4_tellWire_67 : decode cX4_tellWire 67 = .ok (.iconst 0, 1) := by decide +kernel
theorem dX4_tellWire_68 : decode cX4_tellWire 68 = .ok (.ireturn, 1) := by decide +kernel
set_option maxRecDepth 20000 in
theorem ggX4_wireOff_X4_isOn : GoodIn wsX4_wireOff wsX4_isOn := goodIn_ca (goodIn_r _ [6, 7, 8, 9, 10, 11, 12, 13, 14] (by decide +kernel) (by decide +kernel)) (goodIn_sub (fun _ h => List.mem_cons_of_mem _ (List.mem_append_right _ h)) (by decide +kernel))
set_option maxRecDepth 20000 in
theorem gX4_wireOff_X4_isOn : GoodIn wsX4_wireOff (wsV RX4 22 RX4 yX4_isOn wsX4_isOn) := goodIn_app (goodIn_of _ (by decide +kernel)) ggX4_wireOff_X4_isOn
theorem dX4_wireOff_0 : decode cX4_wireOff 0 = .ok (.iload_n 1, 1) := by decide +kernel
theorem dX4_wireOff_1 : decode cX4_wireOff 1 = .ok (.ifCond .lt 10, 3) := by decide +kernel
theorem dX4_wireOff_4 : decode cX4_wireOff 4 = .ok (.aload_n 0, 1) := by decide +kernel
theorem dX4_wireOff_5 : decode cX4_wireOff 5 = .ok (.getfield 18, 3) := by decide +kernel
theorem dX4_wireOff_8 : decode cX4_wireOff 8 = .ok (.ifCond .ne 5, 3) := by decide +kernel
theorem dX4_wireOff_11 : decode cX4_wireOff 11 = .ok (.iconst (-1), 1) := by decide +kernel
theorem dX4_wireOff_12 : decode cX4_wireOff 12 = .ok (.ireturn, 1) := by decide +kernel
theorem dX4_wireOff_13 : decode cX4_wireOff 13 = .ok (.iconst 0, 1) := by decide +kernel
theorem dX4_wireOff_14 : decode cX4_wireOff 14 = .ok (.istore_n 3, 1) := by decide +kernel
theorem dX4_wireOff_15 : decode cX4_wireOff 15 = .ok (.iconst 0, 1) := by decide +kernel
theorem dX4_wireOff_16 : decode cX4_wireOff 16 = .ok (.istore 4, 2) := by decide +kernel
theorem dX4_wireOff_18 : decode cX4_wireOff 18 = .ok (.iload 4, 2) := by decide +kernel
theorem dX4_wireOff_20 : decode cX4_wireOff 20 = .ok (.iload_n 2, 1) := by decide +kernel
theorem dX4_wireOff_21 : decode cX4_wireOff 21 = .ok (.if_icmp .ge 35, 3) := by decide +kernel
theorem dX4_wireOff_24 : decode cX4_wireOff 24 = .ok (.aload_n 0, 1) := by decide +kernel
theorem dX4_wireOff_25 : decode cX4_wireOff 25 = .ok (.aload_n 0, 1) := by decide +kernel
theorem dX4_wireOff_26 : decode cX4_wireOff 26 = .ok (.getfield 18, 3) := by decide +kernel
theorem dX4_wireOff_29 : decode cX4_wireOff 29 = .ok (.iconst 1, 1) := by decide +kernel
theorem dX4_wireOff_30 : decode cX4_wireOff 30 = .ok (.isub, 1) := by decide +kernel
theorem dX4_wireOff_31 : decode cX4_wireOff 31 = .ok (.iload 4, 2) := by decide +kernel
theorem dX4_wireOff_33 : decode cX4_wireOff 33 = .ok (.invokevirtual 22, 3) := by decide +kernel
theorem dX4_wireOff_36 : decode cX4_wireOff 36 = .ok (.ifCond .ne 14, 3) := by decide +kernel
theorem dX4_wireOff_39 : decode cX4_wireOff 39 = .ok (.iload_n 3, 1) := by decide +kernel
theorem dX4_wireOff_40 : decode cX4_wireOff 40 = .ok (.iload_n 1, 1) := by decide +kernel
theorem dX4_wireOff_41 : decode cX4_wireOff 41 = .ok (.if_icmp .ne 6, 3) := by decide +kernel
theorem dX4_wireOff_44 : decode cX4_wireOff 44 = .ok (.iload 4, 2) := by decide +kernel
theorem dX4_wireOff_46 : decode cX4_wireOff 46 = .ok (.ireturn, 1) := by decide +kernel
theorem dX4_wireOff_47 : decode cX4_wireOff 47 = .ok (.iinc 3 1, 3) := by decide +kernel
theorem dX4_wireOff_50 : decode cX4_wireOff 50 = .ok (.iinc 4 1, 3) := by decide +kernel
theorem dX4_wireOff_53 : decode cX4_wireOff 53 = .ok (.goto (-35), 3) := by decide +kernel
theorem dX4_wireOff_56 : decode cX4_wireOff 56 = .ok (.iconst (-1), 1) := by decide +kernel
theorem dX4_wireOff_57 : decode cX4_wireOff 57 = .ok (.ireturn, 1) := by decide +kernel
set_option maxRecDepth 20000 in
theorem ggX4_isOn_X6_hasBit : GoodIn wsX4_isOn wsX6_hasBit := goodIn_r _ [5] (by decide +kernel) (by decide +kernel)
set_option maxRecDepth 20000 in
theorem gX4_isOn_X6_hasBit_n26 : GoodIn wsX4_isOn (wsX6_hasBit) := ggX4_isOn_X6_hasBit
theorem dX4_isOn_0 : decode cX4_isOn 0 = .ok (.iload_n 1, 1) := by decide +kernel
theorem dX4_isOn_1 : decode cX4_isOn 1 = .ok (.istore_n 3, 1) := by decide +kernel
theorem dX4_isOn_2 : decode cX4_isOn 2 = .ok (.iload_n 3, 1) := by decide +kernel
theorem dX4_isOn_3 : decode cX4_isOn 3 = .ok (.ifCond .lt 33, 3) := by decide +kernel
theorem dX4_isOn_6 : decode cX4_isOn 6 = .ok (.aload_n 0, 1) := by decide +kernel
theorem dX4_isOn_7 : decode cX4_isOn 7 = .ok (.getfield 9, 3) := by decide +kernel
theorem dX4_isOn_10 : decode cX4_isOn 10 = .ok (.iload_n 3, 1) := by decide +kernel
theorem dX4_isOn_11 : decode cX4_isOn 11 = .ok (.iaload, 1) := by decide +kernel
theorem dX4_isOn_12 : decode cX4_isOn 12 = .ok (.iload_n 2, 1) := by decide +kernel
theorem dX4_isOn_13 : decode cX4_isOn 13 = .ok (.invokestatic 26, 3) := by decide +kernel
theorem dX4_isOn_16 : decode cX4_isOn 16 = .ok (.ifCond .eq 14, 3) := by decide +kernel
theorem dX4_isOn_19 : decode cX4_isOn 19 = .ok (.aload_n 0, 1) := by decide +kernel
theorem dX4_isOn_20 : decode cX4_isOn 20 = .ok (.getfield 15, 3) := by decide +kernel
theorem dX4_isOn_23 : decode cX4_isOn 23 = .ok (.iload_n 3, 1) := by decide +kernel
theorem dX4_isOn_24 : decode cX4_isOn 24 = .ok (.iaload, 1) := by decide +kernel
theorem dX4_isOn_25 : decode cX4_isOn 25 = .ok (.iload_n 2, 1) := by decide +kernel
theorem dX4_isOn_26 : decode cX4_isOn 26 = .ok (.invokestatic 26, 3) := by decide +kernel
theorem dX4_isOn_29 : decode cX4_isOn 29 = .ok (.ireturn, 1) := by decide +kernel
theorem dX4_isOn_30 : decode cX4_isOn 30 = .ok (.iinc 3 (-1), 3) := by decide +kernel
theorem dX4_isOn_33 : decode cX4_isOn 33 = .ok (.goto (-31), 3) := by decide +kernel
theorem dX4_isOn_36 : decode cX4_isOn 36 = .ok (.iconst 1, 1) := by decide +kernel
theorem dX4_isOn_37 : decode cX4_isOn 37 = .ok (.ireturn, 1) := by decide +kernel
theorem dX5_init_0 : decode cX5_init 0 = .ok (.aload_n 0, 1) := by decide +kernel
theorem dX5_init_1 : decode cX5_init 1 = .ok (.invokespecial 3, 3) := by decide +kernel
theorem dX5_init_4 : decode cX5_init 4 = .ok (.aload_n 0, 1) := by decide +kernel
theorem dX5_init_5 : decode cX5_init 5 = .ok (.bipush 24, 2) := by decide +kernel
theorem dX5_init_7 : decode cX5_init 7 = .ok (.newarray .int, 2) := by decide +kernel
theorem dX5_init_9 : decode cX5_init 9 = .ok (.putfield 9, 3) := by decide +kernel
theorem dX5_init_12 : decode cX5_init 12 = .ok (.aload_n 0, 1) := by decide +kernel
theorem dX5_init_13 : decode cX5_init 13 = .ok (.bipush 24, 2) := by decide +kernel
theorem dX5_init_15 : decode cX5_init 15 = .ok (.newarray .int, 2) := by decide +kernel
theorem dX5_init_17 : decode cX5_init 17 = .ok (.putfield 15, 3) := by decide +kernel
theorem dX5_init_20 : decode cX5_init 20 = .ok (.aload_n 0, 1) := by decide +kernel
theorem dX5_init_21 : decode cX5_init 21 = .ok (.bipush 24, 2) := by decide +kernel
theorem dX5_init_23 : decode cX5_init 23 = .ok (.newarray .int, 2) := by decide +kernel
theorem dX5_init_25 : decode cX5_init 25 = .ok (.putfield 18, 3) := by decide +kernel
theorem dX5_init_28 : decode cX5_init 28 = .ok (.aload_n 0, 1) := by decide +kernel
theorem dX5_init_29 : decode cX5_init 29 = .ok (.bipush 24, 2) := by decide +kernel
theorem dX5_init_31 : decode cX5_init 31 = .ok (.newarray .long, 2) := by decide +kernel
theorem dX5_init_33 : decode cX5_init 33 = .ok (.putfield 21, 3) := by decide +kernel
theorem dX5_init_36 : decode cX5_init 36 = .ok (.aload_n 0, 1) := by decide +kernel
theorem dX5_init_37 : decode cX5_init 37 = .ok (.bipush 24, 2) := by decide +kernel
theorem dX5_init_39 : decode cX5_init 39 = .ok (.newarray .long, 2) := by decide +kernel
theorem dX5_init_41 : decode cX5_init 41 = .ok (.putfield 25, 3) := by decide +kernel
theorem dX5_init_44 : decode cX5_init 44 = .ok (.aload_n 0, 1) := by decide +kernel
theorem dX5_init_45 : decode cX5_init 45 = .ok (.iconst 0, 1) := by decide +kernel
theorem dX5_init_46 : decode cX5_init 46 = .ok (.putfield 28, 3) := by decide +kernel
theorem dX5_init_49 : decode cX5_init 49 = .ok (.return_, 1) := by decide +kernel
theorem dX5_count_0 : decode cX5_count 0 = .ok (.aload_n 0, 1) := by decide +kernel
theorem dX5_count_1 : decode cX5_count 1 = .ok (.getfield 28, 3) := by decide +kernel
theorem dX5_count_4 : decode cX5_count 4 = .ok (.ireturn, 1) := by decide +kernel
theorem dX5_firstEnd_0 : decode cX5_firstEnd 0 = .ok (.aload_n 0, 1) := by decide +kernel
theorem dX5_firstEnd_1 : decode cX5_firstEnd 1 = .ok (.getfield 9, 3) := by decide +kernel
theorem dX5_firstEnd_4 : decode cX5_firstEnd 4 = .ok (.iload_n 1, 1) := by decide +kernel
theorem dX5_firstEnd_5 : decode cX5_firstEnd 5 = .ok (.iaload, 1) := by decide +kernel
theorem dX5_firstEnd_6 : decode cX5_firstEnd 6 = .ok (.ireturn, 1) := by decide +kernel
theorem dX5_otherEnd_0 : decode cX5_otherEnd 0 = .ok (.aload_n 0, 1) := by decide +kernel
theorem dX5_otherEnd_1 : decode cX5_otherEnd 1 = .ok (.getfield 15, 3) := by decide +kernel
theorem dX5_otherEnd_4 : decode cX5_otherEnd 4 = .ok (.iload_n 1, 1) := by decide +kernel
theorem dX5_otherEnd_5 : decode cX5_otherEnd 5 = .ok (.iaload, 1) := by decide +kernel
theorem dX5_otherEnd_6 : decode cX5_otherEnd 6 = .ok (.ireturn, 1) := by decide +kernel
theorem dX5_colourOf_0 : decode cX5_colourOf 0 = .ok (.aload_n 0, 1) := by decide +kernel
theorem dX5_colourOf_1 : decode cX5_colourOf 1 = .ok (.getfield 18, 3) := by decide +kernel
theorem dX5_colourOf_4 : decode cX5_colourOf 4 = .ok (.iload_n 1, 1) := by decide +kernel
theorem dX5_colourOf_5 : decode cX5_colourOf 5 = .ok (.iaload, 1) := by decide +kernel
theorem dX5_colourOf_6 : decode cX5_colourOf 6 = .ok (.ireturn, 1) := by decide +kernel
theorem dX5_loadOf_0 : decode cX5_loadOf 0 = .ok (.aload_n 0, 1) := by decide +kernel
theorem dX5_loadOf_1 : decode cX5_loadOf 1 = .ok (.getfield 21, 3) := by decide +kernel
theorem dX5_loadOf_4 : decode cX5_loadOf 4 = .ok (.iload_n 1, 1) := by decide +kernel
theorem dX5_loadOf_5 : decode cX5_loadOf 5 = .ok (.laload, 1) := by decide +kernel
theorem dX5_loadOf_6 : decode cX5_loadOf 6 = .ok (.lreturn, 1) := by decide +kernel
theorem dX5_dropOf_0 : decode cX5_dropOf 0 = .ok (.aload_n 0, 1) := by decide +kernel
theorem dX5_dropOf_1 : decode cX5_dropOf 1 = .ok (.getfield 25, 3) := by decide +kernel
theorem dX5_dropOf_4 : decode cX5_dropOf 4 = .ok (.iload_n 1, 1) := by decide +kernel
theorem dX5_dropOf_5 : decode cX5_dropOf 5 = .ok (.laload, 1) := by decide +kernel
theorem dX5_dropOf_6 : decode cX5_dropOf 6 = .ok (.lreturn, 1) := by decide +kernel
theorem dX5_wireAt_0 : decode cX5_wireAt 0 = .ok (.iconst 0, 1) := by decide +kernel
theorem dX5_wireAt_1 : decode cX5_wireAt 1 = .ok (.istore_n 2, 1) := by decide +kernel
theorem dX5_wireAt_2 : decode cX5_wireAt 2 = .ok (.iload_n 2, 1) := by decide +kernel
theorem dX5_wireAt_3 : decode cX5_wireAt 3 = .ok (.aload_n 0, 1) := by decide +kernel
theorem dX5_wireAt_4 : decode cX5_wireAt 4 = .ok (.getfield 28, 3) := by decide +kernel
theorem dX5_wireAt_7 : decode cX5_wireAt 7 = .ok (.if_icmp .ge 31, 3) := by decide +kernel
theorem dX5_wireAt_10 : decode cX5_wireAt 10 = .ok (.aload_n 0, 1) := by decide +kernel
theorem dX5_wireAt_11 : decode cX5_wireAt 11 = .ok (.getfield 9, 3) := by decide +kernel
theorem dX5_wireAt_14 : decode cX5_wireAt 14 = .ok (.iload_n 2, 1) := by decide +kernel
theorem dX5_wireAt_15 : decode cX5_wireAt 15 = .ok (.iaload, 1) := by decide +kernel
theorem dX5_wireAt_16 : decode cX5_wireAt 16 = .ok (.iload_n 1, 1) := by decide +kernel
theorem dX5_wireAt_17 : decode cX5_wireAt 17 = .ok (.if_icmp .eq 13, 3) := by decide +kernel
theorem dX5_wireAt_20 : decode cX5_wireAt 20 = .ok (.aload_n 0, 1) := by decide +kernel
theorem dX5_wireAt_21 : decode cX5_wireAt 21 = .ok (.getfield 15, 3) := by decide +kernel
theorem dX5_wireAt_24 : decode cX5_wireAt 24 = .ok (.iload_n 2, 1) := by decide +kernel
theorem dX5_wireAt_25 : decode cX5_wireAt 25 = .ok (.iaload, 1) := by decide +kernel
theorem dX5_wireAt_26 : decode cX5_wireAt 26 = .ok (.iload_n 1, 1) := by decide +kernel
theorem dX5_wireAt_27 : decode cX5_wireAt 27 = .ok (.if_icmp .ne 5, 3) := by decide +kernel
theorem dX5_wireAt_30 : decode cX5_wireAt 30 = .ok (.iload_n 2, 1) := by decide +kernel
theorem dX5_wireAt_31 : decode cX5_wireAt 31 = .ok (.ireturn, 1) := by decide +kernel
theorem dX5_wireAt_32 : decode cX5_wireAt 32 = .ok (.iinc 2 1, 3) := by decide +kernel
theorem dX5_wireAt_35 : decode cX5_wireAt 35 = .ok (.goto (-33), 3) := by decide +kernel
theorem dX5_wireAt_38 : decode cX5_wireAt 38 = .ok (.iconst (-1), 1) := by decide +kernel
theorem dX5_wireAt_39 : decode cX5_wireAt 39 = .ok (.ireturn, 1) := by decide +kernel
set_option maxRecDepth 20000 in
theorem ggX5_add_X5_wireAt : GoodIn wsX5_add wsX5_wireAt := goodIn_ca (goodIn_r _ [12, 1, 3, 4, 26, 27, 28, 29, 30, 31] (by decide +kernel) (by decide +kernel)) (goodIn_sub (fun _ h => List.mem_cons_of_mem _ (List.mem_append_right _ h)) (by decide +kernel))
set_option maxRecDepth 20000 in
theorem gX5_add_X5_wireAt : GoodIn wsX5_add (wsV RX5 32 RX5 yX5_wireAt wsX5_wireAt) := goodIn_app (goodIn_of _ (by decide +kernel)) ggX5_add_X5_wireAt
set_option maxRecDepth 20000 in
theorem ggX5_add_X6_nodeOf : GoodIn wsX5_add wsX6_nodeOf := goodIn_r _ [15] (by decide +kernel) (by decide +kernel)
set_option maxRecDepth 20000 in
theorem gX5_add_X6_nodeOf_n36 : GoodIn wsX5_add (wsX6_nodeOf) := ggX5_add_X6_nodeOf
set_option maxRecDepth 20000 in
theorem ggX5_add_X5_freeColour : GoodIn wsX5_add wsX5_freeColour := goodIn_ca (goodIn_r _ [19, 1, 2, 20, 21, 22, 11, 23, 3, 4, 13, 14, 15, 24, 25, 26, 27, 28, 29, 30, 31] (by decide +kernel) (by decide +kernel)) (goodIn_sub (fun _ h => List.mem_cons_of_mem _ (List.mem_append_right _ h)) (by decide +kernel))
set_option maxRecDepth 20000 in
theorem gX5_add_X5_freeColour : GoodIn wsX5_add (wsV RX5 39 RX5 yX5_freeColour wsX5_freeColour) := goodIn_app (goodIn_of _ (by decide +kernel)) ggX5_add_X5_freeColour
theorem dX5_add_0 : decode cX5_add 0 = .ok (.aload_n 0, 1) := by decide +kernel
theorem dX5_add_1 : decode cX5_add 1 = .ok (.getfield 28, 3) := by decide +kernel
theorem dX5_add_4 : decode cX5_add 4 = .ok (.bipush 24, 2) := by decide +kernel
theorem dX5_add_6 : decode cX5_add 6 = .ok (.if_icmp .ge 26, 3) := by decide +kernel
theorem dX5_add_9 : decode cX5_add 9 = .ok (.iload_n 1, 1) := by decide +kernel
theorem dX5_add_10 : decode cX5_add 10 = .ok (.iload_n 2, 1) := by decide +kernel
theorem dX5_add_11 : decode cX5_add 11 = .ok (.if_icmp .eq 21, 3) := by decide +kernel
theorem dX5_add_14 : decode cX5_add 14 = .ok (.aload_n 0, 1) := by decide +kernel
theorem dX5_add_15 : decode cX5_add 15 = .ok (.iload_n 1, 1) := by decide +kernel
theorem dX5_add_16 : decode cX5_add 16 = .ok (.invokevirtual 32, 3) := by decide +kernel
theorem dX5_add_19 : decode cX5_add 19 = .ok (.iconst (-1), 1) := by decide +kernel
theorem dX5_add_20 : decode cX5_add 20 = .ok (.if_icmp .ne 12, 3) := by decide +kernel
theorem dX5_add_23 : decode cX5_add 23 = .ok (.aload_n 0, 1) := by decide +kernel
theorem dX5_add_24 : decode cX5_add 24 = .ok (.iload_n 2, 1) := by decide +kernel
theorem dX5_add_25 : decode cX5_add 25 = .ok (.invokevirtual 32, 3) := by decide +kernel
theorem dX5_add_28 : decode cX5_add 28 = .ok (.iconst (-1), 1) := by decide +kernel
theorem dX5_add_29 : decode cX5_add 29 = .ok (.if_icmp .eq 5, 3) := by decide +kernel
theorem dX5_add_32 : decode cX5_add 32 = .ok (.iconst (-1), 1) := by decide +kernel
theorem dX5_add_33 : decode cX5_add 33 = .ok (.ireturn, 1) := by decide +kernel
theorem dX5_add_34 : decode cX5_add 34 = .ok (.aload_n 0, 1) := by decide +kernel
theorem dX5_add_35 : decode cX5_add 35 = .ok (.getfield 18, 3) := by decide +kernel
theorem dX5_add_38 : decode cX5_add 38 = .ok (.aload_n 0, 1) := by decide +kernel
theorem dX5_add_39 : decode cX5_add 39 = .ok (.getfield 28, 3) := by decide +kernel
theorem dX5_add_42 : decode cX5_add 42 = .ok (.aload_n 0, 1) := by decide +kernel
theorem dX5_add_43 : decode cX5_add 43 = .ok (.iload_n 1, 1) := by decide +kernel
theorem dX5_add_44 : decode cX5_add 44 = .ok (.invokestatic 36, 3) := by decide +kernel
theorem dX5_add_47 : decode cX5_add 47 = .ok (.iload_n 2, 1) := by decide +kernel
theorem dX5_add_48 : decode cX5_add 48 = .ok (.invokestatic 36, 3) := by decide +kernel
theorem dX5_add_51 : decode cX5_add 51 = .ok (.invokevirtual 39, 3) := by decide +kernel
theorem dX5_add_54 : decode cX5_add 54 = .ok (.iastore, 1) := by decide +kernel
theorem dX5_add_55 : decode cX5_add 55 = .ok (.aload_n 0, 1) := by decide +kernel
theorem dX5_add_56 : decode cX5_add 56 = .ok (.getfield 9, 3) := by decide +kernel
theorem dX5_add_59 : decode cX5_add 59 = .ok (.aload_n 0, 1) := by decide +kernel
theorem dX5_add_60 : decode cX5_add 60 = .ok (.getfield 28, 3) := by decide +kernel
theorem dX5_add_63 : decode cX5_add 63 = .ok (.iload_n 1, 1) := by decide +kernel
theorem dX5_add_64 : decode cX5_add 64 = .ok (.iastore, 1) := by decide +kernel
theorem dX5_add_65 : decode cX5_add 65 = .ok (.aload_n 0, 1) := by decide +kernel
theorem dX5_add_66 : decode cX5_add 66 = .ok (.getfield 15, 3) := by decide +kernel
theorem dX5_add_69 : decode cX5_add 69 = .ok (.aload_n 0, 1) := by decide +kernel
theorem dX5_add_70 : decode cX5_add 70 = .ok (.getfield 28, 3) := by decide +kernel
theorem dX5_add_73 : decode cX5_add 73 = .ok (.iload_n 2, 1) := by decide +kernel
theorem dX5_add_74 : decode cX5_add 74 = .ok (.iastore, 1) := by decide +kernel
theorem dX5_add_75 : decode cX5_add 75 = .ok (.aload_n 0, 1) := by decide +kernel
theorem dX5_add_76 : decode cX5_add 76 = .ok (.getfield 21, 3) := by decide +kernel
theorem dX5_add_79 : decode cX5_add 79 = .ok (.aload_n 0, 1) := by decide +kernel
theorem dX5_add_80 : decode cX5_add 80 = .ok (.getfield 28, 3) := by decide +kernel
theorem dX5_add_83 : decode cX5_add 83 = .ok (.lconst 0, 1) := by decide +kernel
theorem dX5_add_84 : decode cX5_add 84 = .ok (.lastore, 1) := by decide +kernel
theorem dX5_add_85 : decode cX5_add 85 = .ok (.aload_n 0, 1) := by decide +kernel
theorem dX5_add_86 : decode cX5_add 86 = .ok (.getfield 25, 3) := by decide +kernel
theorem dX5_add_89 : decode cX5_add 89 = .ok (.aload_n 0, 1) := by decide +kernel
theorem dX5_add_90 : decode cX5_add 90 = .ok (.getfield 28, 3) := by decide +kernel
theorem dX5_add_93 : decode cX5_add 93 = .ok (.ldc2_w 43, 3) := by decide +kernel
theorem dX5_add_96 : decode cX5_add 96 = .ok (.lastore, 1) := by decide +kernel
theorem dX5_add_97 : decode cX5_add 97 = .ok (.aload_n 0, 1) := by decide +kernel
theorem dX5_add_98 : decode cX5_add 98 = .ok (.dup, 1) := by decide +kernel
theorem dX5_add_99 : decode cX5_add 99 = .ok (.getfield 28, 3) := by decide +kernel
theorem dX5_add_102 : decode cX5_add 102 = .ok (.iconst 1, 1) := by decide +kernel
theorem dX5_add_103 : decode cX5_add 103 = .ok (.iadd, 1) := by decide +kernel
theorem dX5_add_104 : decode cX5_add 104 = .ok (.putfield 28, 3) := by decide +kernel
theorem dX5_add_107 : decode cX5_add 107 = .ok (.aload_n 0, 1) := by decide +kernel
theorem dX5_add_108 : decode cX5_add 108 = .ok (.getfield 28, 3) := by decide +kernel
theorem dX5_add_111 : decode cX5_add 111 = .ok (.iconst 1, 1) := by decide +kernel
theorem dX5_add_112 : decode cX5_add 112 = .ok (.isub, 1) := by decide +kernel
theorem dX5_add_113 : decode cX5_add 113 = .ok (.ireturn, 1) := by decide +kernel
theorem dX5_tellLoad_0 : decode cX5_tellLoad 0 = .ok (.aload_n 0, 1) := by decide +kernel
theorem dX5_tellLoad_1 : decode cX5_tellLoad 1 = .ok (.getfield 21, 3) := by decide +kernel
theorem dX5_tellLoad_4 : decode cX5_tellLoad 4 = .ok (.iload_n 1, 1) := by decide +kernel
theorem dX5_tellLoad_5 : decode cX5_tellLoad 5 = .ok (.laload, 1) := by decide +kernel
theorem dX5_tellLoad_6 : decode cX5_tellLoad 6 = .ok (.lload_n 2, 1) := by decide +kernel
theorem dX5_tellLoad_7 : decode cX5_tellLoad 7 = .ok (.lcmp, 1) := by decide +kernel
theorem dX5_tellLoad_8 : decode cX5_tellLoad 8 = .ok (.ifCond .ne 15, 3) := by decide +kernel
theorem dX5_tellLoad_11 : decode cX5_tellLoad 11 = .ok (.aload_n 0, 1) := by decide +kernel
theorem dX5_tellLoad_12 : decode cX5_tellLoad 12 = .ok (.getfield 25, 3) := by decide +kernel
theorem dX5_tellLoad_15 : decode cX5_tellLoad 15 = .ok (.iload_n 1, 1) := by decide +kernel
theorem dX5_tellLoad_16 : decode cX5_tellLoad 16 = .ok (.laload, 1) := by decide +kernel
theorem dX5_tellLoad_17 : decode cX5_tellLoad 17 = .ok (.lload 4, 2) := by decide +kernel
theorem dX5_tellLoad_19 : decode cX5_tellLoad 19 = .ok (.lcmp, 1) := by decide +kernel
theorem dX5_tellLoad_20 : decode cX5_tellLoad 20 = .ok (.ifCond .eq 7, 3) := by decide +kernel
theorem dX5_tellLoad_23 : decode cX5_tellLoad 23 = .ok (.iconst 1, 1) := by decide +kernel
theorem dX5_tellLoad_24 : decode cX5_tellLoad 24 = .ok (.goto 4, 3) := by decide +kernel
theorem dX5_tellLoad_27 : decode cX5_tellLoad 27 = .ok (.iconst 0, 1) := by decide +kernel
theorem dX5_tellLoad_28 : decode cX5_tellLoad 28 = .ok (.istore 6, 2) := by decide +kernel
theorem dX5_tellLoad_30 : decode cX5_tellLoad 30 = .ok (.aload_n 0, 1) := by decide +kernel
theorem dX5_tellLoad_31 : decode cX5_tellLoad 31 = .ok (.getfield 21, 3) := by decide +kernel
theorem dX5_tellLoad_34 : decode cX5_tellLoad 34 = .ok (.iload_n 1, 1) := by decide +kernel
theorem dX5_tellLoad_35 : decode cX5_tellLoad 35 = .ok (.lload_n 2, 1) := by decide +kernel
theorem dX5_tellLoad_36 : decode cX5_tellLoad 36 = .ok (.lastore, 1) := by decide +kernel
theorem dX5_tellLoad_37 : decode cX5_tellLoad 37 = .ok (.aload_n 0, 1) := by decide +kernel
theorem dX5_tellLoad_38 : decode cX5_tellLoad 38 = .ok (.getfield 25, 3) := by decide +kernel
theorem dX5_tellLoad_41 : decode cX5_tellLoad 41 = .ok (.iload_n 1, 1) := by decide +kernel
theorem dX5_tellLoad_42 : decode cX5_tellLoad 42 = .ok (.lload 4, 2) := by decide +kernel
theorem dX5_tellLoad_44 : decode cX5_tellLoad 44 = .ok (.lastore, 1) := by decide +kernel
theorem dX5_tellLoad_45 : decode cX5_tellLoad 45 = .ok (.iload 6, 2) := by decide +kernel
theorem dX5_tellLoad_47 : decode cX5_tellLoad 47 = .ok (.ireturn, 1) := by decide +kernel
set_option maxRecDepth 20000 in
theorem ggX5_freeColour_X5_endsAt : GoodIn wsX5_freeColour wsX5_endsAt := goodIn_ca (goodIn_r _ [7, 8, 9, 10, 11, 12, 15, 16, 17, 18, 19, 20] (by decide +kernel) (by decide +kernel)) (goodIn_sub (fun _ h => List.mem_cons_of_mem _ (List.mem_append_right _ h)) (by decide +kernel))
set_option maxRecDepth 20000 in
theorem gX5_freeColour_X5_endsAt : GoodIn wsX5_freeColour (wsV RX5 45 RX5 yX5_endsAt wsX5_endsAt) := goodIn_app (goodIn_of _ (by decide +kernel)) ggX5_freeColour_X5_endsAt
set_option maxRecDepth 20000 in
theorem ggX5_freeColour_X6_hasBit : GoodIn wsX5_freeColour wsX6_hasBit := goodIn_r _ [14] (by decide +kernel) (by decide +kernel)
set_option maxRecDepth 20000 in
theorem gX5_freeColour_X6_hasBit_n49 : GoodIn wsX5_freeColour (wsX6_hasBit) := ggX5_freeColour_X6_hasBit
theorem dX5_freeColour_0 : decode cX5_freeColour 0 = .ok (.iconst 0, 1) := by decide +kernel
theorem dX5_freeColour_1 : decode cX5_freeColour 1 = .ok (.istore_n 3, 1) := by decide +kernel
theorem dX5_freeColour_2 : decode cX5_freeColour 2 = .ok (.iconst 0, 1) := by decide +kernel
theorem dX5_freeColour_3 : decode cX5_freeColour 3 = .ok (.istore 4, 2) := by decide +kernel
theorem dX5_freeColour_5 : decode cX5_freeColour 5 = .ok (.iload 4, 2) := by decide +kernel
theorem dX5_freeColour_7 : decode cX5_freeColour 7 = .ok (.aload_n 0, 1) := by decide +kernel
theorem dX5_freeColour_8 : decode cX5_freeColour 8 = .ok (.getfield 28, 3) := by decide +kernel
theorem dX5_freeColour_11 : decode cX5_freeColour 11 = .ok (.if_icmp .ge 41, 3) := by decide +kernel
theorem dX5_freeColour_14 : decode cX5_freeColour 14 = .ok (.aload_n 0, 1) := by decide +kernel
theorem dX5_freeColour_15 : decode cX5_freeColour 15 = .ok (.iload 4, 2) := by decide +kernel
theorem dX5_freeColour_17 : decode cX5_freeColour 17 = .ok (.iload_n 1, 1) := by decide +kernel
theorem dX5_freeColour_18 : decode cX5_freeColour 18 = .ok (.invokevirtual 45, 3) := by decide +kernel
theorem dX5_freeColour_21 : decode cX5_freeColour 21 = .ok (.ifCond .ne 13, 3) := by decide +kernel
theorem dX5_freeColour_24 : decode cX5_freeColour 24 = .ok (.aload_n 0, 1) := by decide +kernel
theorem dX5_freeColour_25 : decode cX5_freeColour 25 = .ok (.iload 4, 2) := by decide +kernel
theorem dX5_freeColour_27 : decode cX5_freeColour 27 = .ok (.iload_n 2, 1) := by decide +kernel
theorem dX5_freeColour_28 : decode cX5_freeColour 28 = .ok (.invokevirtual 45, 3) := by decide +kernel
theorem dX5_freeColour_31 : decode cX5_freeColour 31 = .ok (.ifCond .eq 15, 3) := by decide +kernel
theorem dX5_freeColour_34 : decode cX5_freeColour 34 = .ok (.iload_n 3, 1) := by decide +kernel
theorem dX5_freeColour_35 : decode cX5_freeColour 35 = .ok (.iconst 1, 1) := by decide +kernel
theorem dX5_freeColour_36 : decode cX5_freeColour 36 = .ok (.aload_n 0, 1) := by decide +kernel
theorem dX5_freeColour_37 : decode cX5_freeColour 37 = .ok (.getfield 18, 3) := by decide +kernel
theorem dX5_freeColour_40 : decode cX5_freeColour 40 = .ok (.iload 4, 2) := by decide +kernel
theorem dX5_freeColour_42 : decode cX5_freeColour 42 = .ok (.iaload, 1) := by decide +kernel
theorem dX5_freeColour_43 : decode cX5_freeColour 43 = .ok (.ishl, 1) := by decide +kernel
theorem dX5_freeColour_44 : decode cX5_freeColour 44 = .ok (.ior, 1) := by decide +kernel
theorem dX5_freeColour_45 : decode cX5_freeColour 45 = .ok (.istore_n 3, 1) := by decide +kernel
theorem dX5_freeColour_46 : decode cX5_freeColour 46 = .ok (.iinc 4 1, 3) := by decide +kernel
theorem dX5_freeColour_49 : decode cX5_freeColour 49 = .ok (.goto (-44), 3) := by decide +kernel
theorem dX5_freeColour_52 : decode cX5_freeColour 52 = .ok (.iconst 0, 1) := by decide +kernel
theorem dX5_freeColour_53 : decode cX5_freeColour 53 = .ok (.istore 4, 2) := by decide +kernel
theorem dX5_freeColour_55 : decode cX5_freeColour 55 = .ok (.iload 4, 2) := by decide +kernel
theorem dX5_freeColour_57 : decode cX5_freeColour 57 = .ok (.bipush 24, 2) := by decide +kernel
theorem dX5_freeColour_59 : decode cX5_freeColour 59 = .ok (.if_icmp .ge 18, 3) := by decide +kernel
theorem dX5_freeColour_62 : decode cX5_freeColour 62 = .ok (.iload_n 3, 1) := by decide +kernel
theorem dX5_freeColour_63 : decode cX5_freeColour 63 = .ok (.iload 4, 2) := by decide +kernel
theorem dX5_freeColour_65 : decode cX5_freeColour 65 = .ok (.invokestatic 49, 3) := by decide +kernel
theorem dX5_freeColour_68 : decode cX5_freeColour 68 = .ok (.ifCond .eq 9, 3) := by decide +kernel
theorem dX5_freeColour_71 : decode cX5_freeColour 71 = .ok (.iinc 4 1, 3) := by decide +kernel
theorem dX5_freeColour_74 : decode cX5_freeColour 74 = .ok (.goto (-19), 3) := by decide +kernel
theorem dX5_freeColour_77 : decode cX5_freeColour 77 = .ok (.iload 4, 2) := by decide +kernel
theorem dX5_freeColour_79 : decode cX5_freeColour 79 = .ok (.ireturn, 1) := by decide +kernel
set_option maxRecDepth 20000 in
theorem ggX5_endsAt_X6_nodeOf : GoodIn wsX5_endsAt wsX6_nodeOf := goodIn_r _ [5] (by decide +kernel) (by decide +kernel)
set_option maxRecDepth 20000 in
theorem gX5_endsAt_X6_nodeOf_n36 : GoodIn wsX5_endsAt (wsX6_nodeOf) := ggX5_endsAt_X6_nodeOf
theorem dX5_endsAt_0 : decode cX5_endsAt 0 = .ok (.aload_n 0, 1) := by decide +kernel
theorem dX5_endsAt_1 : decode cX5_endsAt 1 = .ok (.getfield 9, 3) := by decide +kernel
theorem dX5_endsAt_4 : decode cX5_endsAt 4 = .ok (.iload_n 1, 1) := by decide +kernel
theorem dX5_endsAt_5 : decode cX5_endsAt 5 = .ok (.iaload, 1) := by decide +kernel
theorem dX5_endsAt_6 : decode cX5_endsAt 6 = .ok (.invokestatic 36, 3) := by decide +kernel
theorem dX5_endsAt_9 : decode cX5_endsAt 9 = .ok (.iload_n 2, 1) := by decide +kernel
theorem dX5_endsAt_10 : decode cX5_endsAt 10 = .ok (.if_icmp .eq 16, 3) := by decide +kernel
theorem dX5_endsAt_13 : decode cX5_endsAt 13 = .ok (.aload_n 0, 1) := by decide +kernel
theorem dX5_endsAt_14 : decode cX5_endsAt 14 = .ok (.getfield 15, 3) := by decide +kernel
theorem dX5_endsAt_17 : decode cX5_endsAt 17 = .ok (.iload_n 1, 1) := by decide +kernel
theorem dX5_endsAt_18 : decode cX5_endsAt 18 = .ok (.iaload, 1) := by decide +kernel
theorem dX5_endsAt_19 : decode cX5_endsAt 19 = .ok (.invokestatic 36, 3) := by decide +kernel
theorem dX5_endsAt_22 : decode cX5_endsAt 22 = .ok (.iload_n 2, 1) := by decide +kernel
theorem dX5_endsAt_23 : decode cX5_endsAt 23 = .ok (.if_icmp .ne 7, 3) := by decide +kernel
theorem dX5_endsAt_26 : decode cX5_endsAt 26 = .ok (.iconst 1, 1) := by decide +kernel
theorem dX5_endsAt_27 : decode cX5_endsAt 27 = .ok (.goto 4, 3) := by decide +kernel
theorem dX5_endsAt_30 : decode cX5_endsAt 30 = .ok (.iconst 0, 1) := by decide +kernel
theorem dX5_endsAt_31 : decode cX5_endsAt 31 = .ok (.ireturn, 1) := by decide +kernel
set_option maxRecDepth 20000 in
theorem ggX6_init_X3_init : GoodIn wsX6_init wsX3_init := goodIn_r _ [35, 36, 2, 3, 37, 38, 39, 40, 41, 42, 43, 44, 45, 110, 111, 112, 113, 114, 115, 116] (by decide +kernel) (by decide +kernel)
set_option maxRecDepth 20000 in
theorem gX6_init_X3_init_n9 : GoodIn wsX6_init (wsX3_init) := ggX6_init_X3_init
set_option maxRecDepth 20000 in
theorem ggX6_init_X5_init : GoodIn wsX6_init wsX5_init := goodIn_r _ [47, 48, 2, 3, 37, 49, 50, 51, 42, 52, 53, 54, 126, 127, 128, 129, 130, 131] (by decide +kernel) (by decide +kernel)
set_option maxRecDepth 20000 in
theorem gX6_init_X5_init_n18 : GoodIn wsX6_init (wsX5_init) := ggX6_init_X5_init
set_option maxRecDepth 20000 in
theorem ggX6_init_X2_init : GoodIn wsX6_init wsX2_init := goodIn_r _ [56, 57, 2, 3, 42, 58, 59, 60, 132, 133, 134] (by decide +kernel) (by decide +kernel)
set_option maxRecDepth 20000 in
theorem gX6_init_X2_init_n25 : GoodIn wsX6_init (wsX2_init) := ggX6_init_X2_init
set_option maxRecDepth 20000 in
theorem ggX6_init_X0_init : GoodIn wsX6_init wsX0_init := goodIn_r _ [63, 64, 2, 3, 37, 65, 66, 42, 67, 68, 69, 70, 71, 72, 73, 74, 75, 76, 135, 136, 137, 138, 139, 140, 141, 142] (by decide +kernel) (by decide +kernel)
set_option maxRecDepth 20000 in
theorem gX6_init_X0_init : GoodIn wsX6_init (wsX0_init) := ggX6_init_X0_init
set_option maxRecDepth 20000 in
theorem ggX6_init_X1_init : GoodIn wsX6_init wsX1_init := goodIn_ca (goodIn_r _ [79, 80, 2, 3, 37, 81, 82, 83, 143, 144, 145] (by decide +kernel) (by decide +kernel)) (goodIn_sub (fun _ h => List.mem_cons_of_mem _ (List.mem_append_right _ h)) (by decide +kernel))
set_option maxRecDepth 20000 in
theorem gX6_init_X1_init : GoodIn wsX6_init (wsX1_init) := ggX6_init_X1_init
set_option maxRecDepth 20000 in
theorem ggX6_init_X4_init : GoodIn wsX6_init wsX4_init := goodIn_r _ [85, 86, 2, 3, 37, 87, 88, 89, 146, 147, 148] (by decide +kernel) (by decide +kernel)
set_option maxRecDepth 20000 in
theorem gX6_init_X4_init_n46 : GoodIn wsX6_init (wsX4_init) := ggX6_init_X4_init
set_option maxRecDepth 20000 in
theorem ggX6_init_J4_init_da8c8 : GoodIn wsX6_init wsJ4_init_da8c8 := goodIn_r _ [92, 93, 94, 95, 96, 97, 2, 3, 98, 99, 100, 101, 102, 103, 104, 105, 106, 107, 108, 109, 149, 150, 151, 152] (by decide +kernel) (by decide +kernel)
set_option maxRecDepth 20000 in
theorem gX6_init_J4_init_da8c8 : GoodIn wsX6_init (wsJ4_init_da8c8) := ggX6_init_J4_init_da8c8
theorem dX6_init_0 : decode cX6_init 0 = .ok (.aload_n 0, 1) := by decide +kernel
theorem dX6_init_1 : decode cX6_init 1 = .ok (.invokespecial 1, 3) := by decide +kernel
theorem dX6_init_4 : decode cX6_init 4 = .ok (.aload_n 0, 1) := by decide +kernel
theorem dX6_init_5 : decode cX6_init 5 = .ok (.new 7, 3) := by decide +kernel
theorem dX6_init_8 : decode cX6_init 8 = .ok (.dup, 1) := by decide +kernel
theorem dX6_init_9 : decode cX6_init 9 = .ok (.invokespecial 9, 3) := by decide +kernel
theorem dX6_init_12 : decode cX6_init 12 = .ok (.putfield 10, 3) := by decide +kernel
theorem dX6_init_15 : decode cX6_init 15 = .ok (.aload_n 0, 1) := by decide +kernel
theorem dX6_init_16 : decode cX6_init 16 = .ok (.new 16, 3) := by decide +kernel
theorem dX6_init_19 : decode cX6_init 19 = .ok (.dup, 1) := by decide +kernel
theorem dX6_init_20 : decode cX6_init 20 = .ok (.invokespecial 18, 3) := by decide +kernel
theorem dX6_init_23 : decode cX6_init 23 = .ok (.putfield 19, 3) := by decide +kernel
theorem dX6_init_26 : decode cX6_init 26 = .ok (.aload_n 0, 1) := by decide +kernel
theorem dX6_init_27 : decode cX6_init 27 = .ok (.new 23, 3) := by decide +kernel
theorem dX6_init_30 : decode cX6_init 30 = .ok (.dup, 1) := by decide +kernel
theorem dX6_init_31 : decode cX6_init 31 = .ok (.invokespecial 25, 3) := by decide +kernel
theorem dX6_init_34 : decode cX6_init 34 = .ok (.putfield 26, 3) := by decide +kernel
theorem dX6_init_37 : decode cX6_init 37 = .ok (.aload_n 0, 1) := by decide +kernel
theorem dX6_init_38 : decode cX6_init 38 = .ok (.new 30, 3) := by decide +kernel
theorem dX6_init_41 : decode cX6_init 41 = .ok (.dup, 1) := by decide +kernel
theorem dX6_init_42 : decode cX6_init 42 = .ok (.invokespecial 32, 3) := by decide +kernel
theorem dX6_init_45 : decode cX6_init 45 = .ok (.putfield 33, 3) := by decide +kernel
theorem dX6_init_48 : decode cX6_init 48 = .ok (.aload_n 0, 1) := by decide +kernel
theorem dX6_init_49 : decode cX6_init 49 = .ok (.new 37, 3) := by decide +kernel
theorem dX6_init_52 : decode cX6_init 52 = .ok (.dup, 1) := by decide +kernel
theorem dX6_init_53 : decode cX6_init 53 = .ok (.invokespecial 39, 3) := by decide +kernel
theorem dX6_init_56 : decode cX6_init 56 = .ok (.putfield 40, 3) := by decide +kernel
theorem dX6_init_59 : decode cX6_init 59 = .ok (.aload_n 0, 1) := by decide +kernel
theorem dX6_init_60 : decode cX6_init 60 = .ok (.new 44, 3) := by decide +kernel
theorem dX6_init_63 : decode cX6_init 63 = .ok (.dup, 1) := by decide +kernel
theorem dX6_init_64 : decode cX6_init 64 = .ok (.invokespecial 46, 3) := by decide +kernel
theorem dX6_init_67 : decode cX6_init 67 = .ok (.putfield 47, 3) := by decide +kernel
theorem dX6_init_70 : decode cX6_init 70 = .ok (.aload_n 0, 1) := by decide +kernel
theorem dX6_init_71 : decode cX6_init 71 = .ok (.new 51, 3) := by decide +kernel
theorem dX6_init_74 : decode cX6_init 74 = .ok (.dup, 1) := by decide +kernel
theorem dX6_init_75 : decode cX6_init 75 = .ok (.invokespecial 53, 3) := by decide +kernel
theorem dX6_init_78 : decode cX6_init 78 = .ok (.putfield 54, 3) := by decide +kernel
theorem dX6_init_81 : decode cX6_init 81 = .ok (.aload_n 0, 1) := by decide +kernel
theorem dX6_init_82 : decode cX6_init 82 = .ok (.lconst 0, 1) := by decide +kernel
theorem dX6_init_83 : decode cX6_init 83 = .ok (.putfield 58, 3) := by decide +kernel
theorem dX6_init_86 : decode cX6_init 86 = .ok (.aload_n 0, 1) := by decide +kernel
theorem dX6_init_87 : decode cX6_init 87 = .ok (.lconst 1, 1) := by decide +kernel
theorem dX6_init_88 : decode cX6_init 88 = .ok (.putfield 62, 3) := by decide +kernel
theorem dX6_init_91 : decode cX6_init 91 = .ok (.return_, 1) := by decide +kernel
set_option maxRecDepth 20000 in
theorem ggX6_connector_X6_checkNumber : GoodIn wsX6_connector wsX6_checkNumber := goodIn_ca (goodIn_r _ [6, 7, 8] (by decide +kernel) (by decide +kernel)) (goodIn_sub (fun _ h => List.mem_cons_of_mem _ (List.mem_append_left _ (List.mem_append_right _ h))) (by decide +kernel))
set_option maxRecDepth 20000 in
theorem gX6_connector_X6_checkNumber : GoodIn wsX6_connector (va_wsS RX6 67 yX6_checkNumber wsX6_checkNumber) := goodIn_app (goodIn_of _ (by decide +kernel)) ggX6_connector_X6_checkNumber
set_option maxRecDepth 20000 in
theorem ggX6_connector_X3_addNode : GoodIn wsX6_connector wsX3_addNode := goodIn_ca (goodIn_r _ [13, 14, 15, 16, 17, 18, 19, 12, 20, 21, 31, 32, 33, 34, 35, 36, 37] (by decide +kernel) (by decide +kernel)) (goodIn_sub (fun _ h => List.mem_cons_of_mem _ (List.mem_append_right _ h)) (by decide +kernel))
set_option maxRecDepth 20000 in
theorem gX6_connector_X3_addNode : GoodIn wsX6_connector (wsV RX6 71 RX3 yX3_addNode wsX3_addNode) := goodIn_app (goodIn_of _ (by decide +kernel)) ggX6_connector_X3_addNode
theorem dX6_connector_0 : decode cX6_connector 0 = .ok (.iload_n 1, 1) := by decide +kernel
theorem dX6_connector_1 : decode cX6_connector 1 = .ok (.i2l, 1) := by decide +kernel
theorem dX6_connector_2 : decode cX6_connector 2 = .ok (.lconst 1, 1) := by decide +kernel
theorem dX6_connector_3 : decode cX6_connector 3 = .ok (.ldc2_w 65, 3) := by decide +kernel
theorem dX6_connector_6 : decode cX6_connector 6 = .ok (.invokestatic 67, 3) := by decide +kernel
theorem dX6_connector_9 : decode cX6_connector 9 = .ok (.aload_n 0, 1) := by decide +kernel
theorem dX6_connector_10 : decode cX6_connector 10 = .ok (.getfield 10, 3) := by decide +kernel
theorem dX6_connector_13 : decode cX6_connector 13 = .ok (.iload_n 1, 1) := by decide +kernel
theorem dX6_connector_14 : decode cX6_connector 14 = .ok (.invokevirtual 71, 3) := by decide +kernel
theorem dX6_connector_17 : decode cX6_connector 17 = .ok (.ireturn, 1) := by decide +kernel
set_option maxRecDepth 20000 in
theorem ggX6_node_X3_addNode : GoodIn wsX6_node wsX3_addNode := goodIn_ca (goodIn_r _ [6, 7, 8, 9, 10, 11, 12, 5, 13, 14, 24, 25, 26, 27, 28, 29, 30] (by decide +kernel) (by decide +kernel)) (goodIn_sub (fun _ h => List.mem_cons_of_mem _ (List.mem_append_right _ h)) (by decide +kernel))
set_option maxRecDepth 20000 in
theorem gX6_node_X3_addNode : GoodIn wsX6_node (wsV RX6 71 RX3 yX3_addNode wsX3_addNode) := goodIn_app (goodIn_of _ (by decide +kernel)) ggX6_node_X3_addNode
theorem dX6_node_0 : decode cX6_node 0 = .ok (.aload_n 0, 1) := by decide +kernel
theorem dX6_node_1 : decode cX6_node 1 = .ok (.getfield 10, 3) := by decide +kernel
theorem dX6_node_4 : decode cX6_node 4 = .ok (.iconst 0, 1) := by decide +kernel
theorem dX6_node_5 : decode cX6_node 5 = .ok (.invokevirtual 71, 3) := by decide +kernel
theorem dX6_node_8 : decode cX6_node 8 = .ok (.ireturn, 1) := by decide +kernel
set_option maxRecDepth 20000 in
theorem ggX6_bundle_X3_nodeCount : GoodIn wsX6_bundle wsX3_nodeCount := goodIn_r _ [7, 8, 57, 58, 59, 60, 61, 62, 63] (by decide +kernel) (by decide +kernel)
set_option maxRecDepth 20000 in
theorem gX6_bundle_X3_nodeCount : GoodIn wsX6_bundle (wsV RX6 75 RX3 yX3_nodeCount wsX3_nodeCount) := goodIn_app (goodIn_of _ (by decide +kernel)) ggX6_bundle_X3_nodeCount
set_option maxRecDepth 20000 in
theorem ggX6_bundle_X6_checkIndex : GoodIn wsX6_bundle wsX6_checkIndex := goodIn_ca (goodIn_r _ [12, 13, 14] (by decide +kernel) (by decide +kernel)) (goodIn_sub (fun _ h => List.mem_cons_of_mem _ (List.mem_append_left _ (List.mem_append_left _ (List.mem_append_right _ h)))) (by decide +kernel))
set_option maxRecDepth 20000 in
theorem gX6_bundle_X6_checkIndex : GoodIn wsX6_bundle (va_wsS RX6 79 yX6_checkIndex wsX6_checkIndex) := goodIn_app (goodIn_of _ (by decide +kernel)) ggX6_bundle_X6_checkIndex
set_option maxRecDepth 20000 in
theorem ggX6_bundle_X6_checkNumber : GoodIn wsX6_bundle wsX6_checkNumber := goodIn_ca (goodIn_r _ [17, 18, 19] (by decide +kernel) (by decide +kernel)) (goodIn_sub (fun _ h => List.mem_cons_of_mem _ (List.mem_append_left _ (List.mem_append_right _ h))) (by decide +kernel))
set_option maxRecDepth 20000 in
theorem gX6_bundle_X6_checkNumber : GoodIn wsX6_bundle (va_wsS RX6 67 yX6_checkNumber wsX6_checkNumber) := goodIn_app (goodIn_of _ (by decide +kernel)) ggX6_bundle_X6_checkNumber
set_option maxRecDepth 20000 in
theorem ggX6_bundle_X3_addBundle : GoodIn wsX6_bundle wsX3_addBundle := goodIn_ca (goodIn_r _ [23, 24, 25, 26, 27, 28, 29, 30, 31, 6, 32, 33, 34, 35, 36, 37, 8, 38, 39, 40, 41, 42, 11, 43, 44, 45, 46, 47, 57, 58, 59, 60, 61, 62, 63] (by decide +kernel) (by decide +kernel)) (goodIn_sub (fun _ h => List.mem_cons_of_mem _ (List.mem_append_right _ h)) (by decide +kernel))
set_option maxRecDepth 20000 in
theorem gX6_bundle_X3_addBundle : GoodIn wsX6_bundle (wsV RX6 85 RX3 yX3_addBundle wsX3_addBundle) := goodIn_app (goodIn_of _ (by decide +kernel)) ggX6_bundle_X3_addBundle
theorem dX6_bundle_0 : decode cX6_bundle 0 = .ok (.iload_n 1, 1) := by decide +kernel
theorem dX6_bundle_1 : decode cX6_bundle 1 = .ok (.aload_n 0, 1) := by decide +kernel
theorem dX6_bundle_2 : decode cX6_bundle 2 = .ok (.getfield 10, 3) := by decide +kernel
theorem dX6_bundle_5 : decode cX6_bundle 5 = .ok (.invokevirtual 75, 3) := by decide +kernel
theorem dX6_bundle_8 : decode cX6_bundle 8 = .ok (.invokestatic 79, 3) := by decide +kernel
theorem dX6_bundle_11 : decode cX6_bundle 11 = .ok (.iload_n 2, 1) := by decide +kernel
theorem dX6_bundle_12 : decode cX6_bundle 12 = .ok (.aload_n 0, 1) := by decide +kernel
theorem dX6_bundle_13 : decode cX6_bundle 13 = .ok (.getfield 10, 3) := by decide +kernel
theorem dX6_bundle_16 : decode cX6_bundle 16 = .ok (.invokevirtual 75, 3) := by decide +kernel
theorem dX6_bundle_19 : decode cX6_bundle 19 = .ok (.invokestatic 79, 3) := by decide +kernel
theorem dX6_bundle_22 : decode cX6_bundle 22 = .ok (.lload_n 3, 1) := by decide +kernel
theorem dX6_bundle_23 : decode cX6_bundle 23 = .ok (.lconst 1, 1) := by decide +kernel
theorem dX6_bundle_24 : decode cX6_bundle 24 = .ok (.ldc2_w 83, 3) := by decide +kernel
theorem dX6_bundle_27 : decode cX6_bundle 27 = .ok (.invokestatic 67, 3) := by decide +kernel
theorem dX6_bundle_30 : decode cX6_bundle 30 = .ok (.aload_n 0, 1) := by decide +kernel
theorem dX6_bundle_31 : decode cX6_bundle 31 = .ok (.getfield 10, 3) := by decide +kernel
theorem dX6_bundle_34 : decode cX6_bundle 34 = .ok (.iload_n 1, 1) := by decide +kernel
theorem dX6_bundle_35 : decode cX6_bundle 35 = .ok (.iload_n 2, 1) := by decide +kernel
theorem dX6_bundle_36 : decode cX6_bundle 36 = .ok (.lload_n 3, 1) := by decide +kernel
theorem dX6_bundle_37 : decode cX6_bundle 37 = .ok (.invokevirtual 85, 3) := by decide +kernel
theorem dX6_bundle_40 : decode cX6_bundle 40 = .ok (.ireturn, 1) := by decide +kernel
set_option maxRecDepth 20000 in
theorem ggX6_wire_X6_checkCavity : GoodIn wsX6_wire wsX6_checkCavity := goodIn_ca (goodIn_ca (goodIn_r _ [6, 7, 8, 9, 10, 11, 12, 13, 14, 15, 5, 16, 17, 18, 19, 20, 21, 22, 23, 55, 56, 57, 58, 59, 60, 61, 62, 63, 64, 65, 66, 67, 68, 69, 70] (by decide +kernel) (by decide +kernel)) (goodIn_sub (fun _ h => List.mem_cons_of_mem _ (List.mem_append_left _ (List.mem_append_right _ h))) (by decide +kernel))) (goodIn_sub (fun _ h => List.mem_cons_of_mem _ (List.mem_append_right _ h)) (by decide +kernel))
set_option maxRecDepth 20000 in
theorem gX6_wire_X6_checkCavity : GoodIn wsX6_wire (wsV RX6 89 RX6 yX6_checkCavity wsX6_checkCavity) := goodIn_app (goodIn_of _ (by decide +kernel)) ggX6_wire_X6_checkCavity
set_option maxRecDepth 20000 in
theorem ggX6_wire_X6_endOf : GoodIn wsX6_wire wsX6_endOf := goodIn_r _ [26] (by decide +kernel) (by decide +kernel)
set_option maxRecDepth 20000 in
theorem gX6_wire_X6_endOf : GoodIn wsX6_wire (va_wsS RX6 92 yX6_endOf wsX6_endOf) := goodIn_app (goodIn_of _ (by decide +kernel)) ggX6_wire_X6_endOf
set_option maxRecDepth 20000 in
theorem ggX6_wire_X5_add : GoodIn wsX6_wire wsX5_add := goodIn_ca (goodIn_r _ [31, 32, 33, 34, 35, 36, 37, 38, 39, 40, 41, 30, 42, 43, 5, 44, 45, 46, 47, 48, 49, 50, 51, 52, 53, 54, 71, 72, 73, 74, 75, 76] (by decide +kernel) (by decide +kernel)) (goodIn_sub (fun _ h => List.mem_cons_of_mem _ (List.mem_append_right _ h)) (by decide +kernel))
set_option maxRecDepth 20000 in
theorem gX6_wire_X5_add : GoodIn wsX6_wire (wsV RX6 96 RX5 yX5_add wsX5_add) := goodIn_app (goodIn_of _ (by decide +kernel)) ggX6_wire_X5_add
theorem dX6_wire_0 : decode cX6_wire 0 = .ok (.aload_n 0, 1) := by decide +kernel
theorem dX6_wire_1 : decode cX6_wire 1 = .ok (.iload_n 1, 1) := by decide +kernel
theorem dX6_wire_2 : decode cX6_wire 2 = .ok (.iload_n 2, 1) := by decide +kernel
theorem dX6_wire_3 : decode cX6_wire 3 = .ok (.invokevirtual 89, 3) := by decide +kernel
theorem dX6_wire_6 : decode cX6_wire 6 = .ok (.aload_n 0, 1) := by decide +kernel
theorem dX6_wire_7 : decode cX6_wire 7 = .ok (.iload_n 3, 1) := by decide +kernel
theorem dX6_wire_8 : decode cX6_wire 8 = .ok (.iload 4, 2) := by decide +kernel
theorem dX6_wire_10 : decode cX6_wire 10 = .ok (.invokevirtual 89, 3) := by decide +kernel
theorem dX6_wire_13 : decode cX6_wire 13 = .ok (.aload_n 0, 1) := by decide +kernel
theorem dX6_wire_14 : decode cX6_wire 14 = .ok (.getfield 19, 3) := by decide +kernel
theorem dX6_wire_17 : decode cX6_wire 17 = .ok (.iload_n 1, 1) := by decide +kernel
theorem dX6_wire_18 : decode cX6_wire 18 = .ok (.iload_n 2, 1) := by decide +kernel
theorem dX6_wire_19 : decode cX6_wire 19 = .ok (.invokestatic 92, 3) := by decide +kernel
theorem dX6_wire_22 : decode cX6_wire 22 = .ok (.iload_n 3, 1) := by decide +kernel
theorem dX6_wire_23 : decode cX6_wire 23 = .ok (.iload 4, 2) := by decide +kernel
theorem dX6_wire_25 : decode cX6_wire 25 = .ok (.invokestatic 92, 3) := by decide +kernel
theorem dX6_wire_28 : decode cX6_wire 28 = .ok (.invokevirtual 96, 3) := by decide +kernel
theorem dX6_wire_31 : decode cX6_wire 31 = .ok (.ireturn, 1) := by decide +kernel
set_option maxRecDepth 20000 in
theorem ggX6_load_X5_count : GoodIn wsX6_load wsX5_count := goodIn_r _ [7, 8, 35, 36, 37, 38, 39, 40] (by decide +kernel) (by decide +kernel)
set_option maxRecDepth 20000 in
theorem gX6_load_X5_count : GoodIn wsX6_load (wsV RX6 99 RX5 yX5_count wsX5_count) := goodIn_app (goodIn_of _ (by decide +kernel)) ggX6_load_X5_count
set_option maxRecDepth 20000 in
theorem ggX6_load_X6_checkIndex : GoodIn wsX6_load wsX6_checkIndex := goodIn_ca (goodIn_r _ [12, 13, 14] (by decide +kernel) (by decide +kernel)) (goodIn_sub (fun _ h => List.mem_cons_of_mem _ (List.mem_append_left _ (List.mem_append_left _ (List.mem_append_right _ h)))) (by decide +kernel))
set_option maxRecDepth 20000 in
theorem gX6_load_X6_checkIndex : GoodIn wsX6_load (va_wsS RX6 79 yX6_checkIndex wsX6_checkIndex) := goodIn_app (goodIn_of _ (by decide +kernel)) ggX6_load_X6_checkIndex
set_option maxRecDepth 20000 in
theorem ggX6_load_X6_checkNumber : GoodIn wsX6_load wsX6_checkNumber := goodIn_ca (goodIn_r _ [17, 18, 19] (by decide +kernel) (by decide +kernel)) (goodIn_sub (fun _ h => List.mem_cons_of_mem _ (List.mem_append_left _ (List.mem_append_right _ h))) (by decide +kernel))
set_option maxRecDepth 20000 in
theorem gX6_load_X6_checkNumber : GoodIn wsX6_load (va_wsS RX6 67 yX6_checkNumber wsX6_checkNumber) := goodIn_app (goodIn_of _ (by decide +kernel)) ggX6_load_X6_checkNumber
set_option maxRecDepth 20000 in
theorem ggX6_load_X5_tellLoad : GoodIn wsX6_load wsX5_tellLoad := goodIn_ca (goodIn_r _ [23, 24, 25, 35, 36, 37, 38, 39, 40] (by decide +kernel) (by decide +kernel)) (goodIn_sub (fun _ h => List.mem_cons_of_mem _ (List.mem_append_right _ h)) (by decide +kernel))
set_option maxRecDepth 20000 in
theorem gX6_load_X5_tellLoad : GoodIn wsX6_load (wsV RX6 104 RX5 yX5_tellLoad wsX5_tellLoad) := goodIn_app (goodIn_of _ (by decide +kernel)) ggX6_load_X5_tellLoad
theorem dX6_load_0 : decode cX6_load 0 = .ok (.iload_n 1, 1) := by decide +kernel
theorem dX6_load_1 : decode cX6_load 1 = .ok (.aload_n 0, 1) := by decide +kernel
theorem dX6_load_2 : decode cX6_load 2 = .ok (.getfield 19, 3) := by decide +kernel
theorem dX6_load_5 : decode cX6_load 5 = .ok (.invokevirtual 99, 3) := by decide +kernel
theorem dX6_load_8 : decode cX6_load 8 = .ok (.invokestatic 79, 3) := by decide +kernel
theorem dX6_load_11 : decode cX6_load 11 = .ok (.lload_n 2, 1) := by decide +kernel
theorem dX6_load_12 : decode cX6_load 12 = .ok (.lconst 0, 1) := by decide +kernel
theorem dX6_load_13 : decode cX6_load 13 = .ok (.ldc2_w 102, 3) := by decide +kernel
theorem dX6_load_16 : decode cX6_load 16 = .ok (.invokestatic 67, 3) := by decide +kernel
theorem dX6_load_19 : decode cX6_load 19 = .ok (.lload 4, 2) := by decide +kernel
theorem dX6_load_21 : decode cX6_load 21 = .ok (.lconst 0, 1) := by decide +kernel
theorem dX6_load_22 : decode cX6_load 22 = .ok (.ldc2_w 102, 3) := by decide +kernel
theorem dX6_load_25 : decode cX6_load 25 = .ok (.invokestatic 67, 3) := by decide +kernel
theorem dX6_load_28 : decode cX6_load 28 = .ok (.aload_n 0, 1) := by decide +kernel
theorem dX6_load_29 : decode cX6_load 29 = .ok (.getfield 19, 3) := by decide +kernel
theorem dX6_load_32 : decode cX6_load 32 = .ok (.iload_n 1, 1) := by decide +kernel
theorem dX6_load_33 : decode cX6_load 33 = .ok (.lload_n 2, 1) := by decide +kernel
theorem dX6_load_34 : decode cX6_load 34 = .ok (.lload 4, 2) := by decide +kernel
theorem dX6_load_36 : decode cX6_load 36 = .ok (.invokevirtual 104, 3) := by decide +kernel
theorem dX6_load_39 : decode cX6_load 39 = .ok (.ireturn, 1) := by decide +kernel
set_option maxRecDepth 20000 in
theorem ggX6_gauge_X5_count : GoodIn wsX6_gauge wsX5_count := goodIn_r _ [8, 9, 75, 76, 77, 78, 79, 80] (by decide +kernel) (by decide +kernel)
set_option maxRecDepth 20000 in
theorem gX6_gauge_X5_count : GoodIn wsX6_gauge (wsV RX6 99 RX5 yX5_count wsX5_count) := goodIn_app (goodIn_of _ (by decide +kernel)) ggX6_gauge_X5_count
set_option maxRecDepth 20000 in
theorem ggX6_gauge_X6_checkIndex : GoodIn wsX6_gauge wsX6_checkIndex := goodIn_ca (goodIn_r _ [13, 14, 15] (by decide +kernel) (by decide +kernel)) (goodIn_sub (fun _ h => List.mem_cons_of_mem _ (List.mem_append_left _ (List.mem_append_right _ h))) (by decide +kernel))
set_option maxRecDepth 20000 in
theorem gX6_gauge_X6_checkIndex : GoodIn wsX6_gauge (va_wsS RX6 79 yX6_checkIndex wsX6_checkIndex) := goodIn_app (goodIn_of _ (by decide +kernel)) ggX6_gauge_X6_checkIndex
set_option maxRecDepth 20000 in
theorem ggX6_gauge_X6_cutLength : GoodIn wsX6_gauge wsX6_cutLength := goodIn_ca (goodIn_r _ [19, 20, 1, 2, 21, 22, 23, 24, 25, 7, 26, 27, 28, 29, 12, 30, 31, 32, 33, 34, 35, 36, 37, 38, 39, 40, 41, 66, 67, 68, 69, 70, 71, 72, 73, 74, 75, 76, 77, 78, 79, 80, 81, 82, 83, 84, 85, 86, 87] (by decide +kernel) (by decide +kernel)) (goodIn_sub (fun _ h => List.mem_cons_of_mem _ (List.mem_append_right _ h)) (by decide +kernel))
set_option maxRecDepth 20000 in
theorem gX6_gauge_X6_cutLength : GoodIn wsX6_gauge (wsV RX6 108 RX6 yX6_cutLength wsX6_cutLength) := goodIn_app (goodIn_of _ (by decide +kernel)) ggX6_gauge_X6_cutLength
set_option maxRecDepth 20000 in
theorem ggX6_gauge_X5_loadOf : GoodIn wsX6_gauge wsX5_loadOf := goodIn_ca (goodIn_r _ [45, 46, 75, 76, 77, 78, 79, 80] (by decide +kernel) (by decide +kernel)) (goodIn_sub (fun _ h => List.mem_cons_of_mem _ (List.mem_append_right _ h)) (by decide +kernel))
set_option maxRecDepth 20000 in
theorem gX6_gauge_X5_loadOf : GoodIn wsX6_gauge (wsV RX6 114 RX5 yX5_loadOf wsX5_loadOf) := goodIn_app (goodIn_of _ (by decide +kernel)) ggX6_gauge_X5_loadOf
set_option maxRecDepth 20000 in
theorem ggX6_gauge_X5_dropOf : GoodIn wsX6_gauge wsX5_dropOf := goodIn_ca (goodIn_r _ [50, 51, 75, 76, 77, 78, 79, 80] (by decide +kernel) (by decide +kernel)) (goodIn_sub (fun _ h => List.mem_cons_of_mem _ (List.mem_append_right _ h)) (by decide +kernel))
set_option maxRecDepth 20000 in
theorem gX6_gauge_X5_dropOf : GoodIn wsX6_gauge (wsV RX6 117 RX5 yX5_dropOf wsX5_dropOf) := goodIn_app (goodIn_of _ (by decide +kernel)) ggX6_gauge_X5_dropOf
set_option maxRecDepth 20000 in
theorem ggX6_gauge_X2_leastThatWillDo : GoodIn wsX6_gauge wsX2_leastThatWillDo := goodIn_ca (goodIn_r _ [56, 57, 58, 59, 60, 61, 55, 62, 63, 64, 65, 88, 89, 90] (by decide +kernel) (by decide +kernel)) (goodIn_sub (fun _ h => List.mem_cons_of_mem _ (List.mem_append_right _ h)) (by decide +kernel))
set_option maxRecDepth 20000 in
theorem gX6_gauge_X2_leastThatWillDo : GoodIn wsX6_gauge (wsV RX6 120 RX2 yX2_leastThatWillDo wsX2_leastThatWillDo) := goodIn_app (goodIn_of _ (by decide +kernel)) ggX6_gauge_X2_leastThatWillDo
theorem dX6_gauge_0 : decode cX6_gauge 0 = .ok (.iload_n 1, 1) := by decide +kernel
theorem dX6_gauge_1 : decode cX6_gauge 1 = .ok (.aload_n 0, 1) := by decide +kernel
theorem dX6_gauge_2 : decode cX6_gauge 2 = .ok (.getfield 19, 3) := by decide +kernel
theorem dX6_gauge_5 : decode cX6_gauge 5 = .ok (.invokevirtual 99, 3) := by decide +kernel
theorem dX6_gauge_8 : decode cX6_gauge 8 = .ok (.invokestatic 79, 3) := by decide +kernel
theorem dX6_gauge_11 : decode cX6_gauge 11 = .ok (.aload_n 0, 1) := by decide +kernel
theorem dX6_gauge_12 : decode cX6_gauge 12 = .ok (.iload_n 1, 1) := by decide +kernel
theorem dX6_gauge_13 : decode cX6_gauge 13 = .ok (.invokevirtual 108, 3) := by decide +kernel
theorem dX6_gauge_16 : decode cX6_gauge 16 = .ok (.lstore_n 2, 1) := by decide +kernel
theorem dX6_gauge_17 : decode cX6_gauge 17 = .ok (.lload_n 2, 1) := by decide +kernel
theorem dX6_gauge_18 : decode cX6_gauge 18 = .ok (.ldc2_w 112, 3) := by decide +kernel
theorem dX6_gauge_21 : decode cX6_gauge 21 = .ok (.lcmp, 1) := by decide +kernel
theorem dX6_gauge_22 : decode cX6_gauge 22 = .ok (.ifCond .ne 5, 3) := by decide +kernel
theorem dX6_gauge_25 : decode cX6_gauge 25 = .ok (.iconst (-1), 1) := by decide +kernel
theorem dX6_gauge_26 : decode cX6_gauge 26 = .ok (.ireturn, 1) := by decide +kernel
theorem dX6_gauge_27 : decode cX6_gauge 27 = .ok (.aload_n 0, 1) := by decide +kernel
theorem dX6_gauge_28 : decode cX6_gauge 28 = .ok (.getfield 26, 3) := by decide +kernel
theorem dX6_gauge_31 : decode cX6_gauge 31 = .ok (.aload_n 0, 1) := by decide +kernel
theorem dX6_gauge_32 : decode cX6_gauge 32 = .ok (.getfield 19, 3) := by decide +kernel
theorem dX6_gauge_35 : decode cX6_gauge 35 = .ok (.iload_n 1, 1) := by decide +kernel
theorem dX6_gauge_36 : decode cX6_gauge 36 = .ok (.invokevirtual 114, 3) := by decide +kernel
theorem dX6_gauge_39 : decode cX6_gauge 39 = .ok (.aload_n 0, 1) := by decide +kernel
theorem dX6_gauge_40 : decode cX6_gauge 40 = .ok (.getfield 19, 3) := by decide +kernel
theorem dX6_gauge_43 : decode cX6_gauge 43 = .ok (.iload_n 1, 1) := by decide +kernel
theorem dX6_gauge_44 : decode cX6_gauge 44 = .ok (.invokevirtual 117, 3) := by decide +kernel
theorem dX6_gauge_47 : decode cX6_gauge 47 = .ok (.lload_n 2, 1) := by decide +kernel
theorem dX6_gauge_48 : decode cX6_gauge 48 = .ok (.invokevirtual 120, 3) := by decide +kernel
theorem dX6_gauge_51 : decode cX6_gauge 51 = .ok (.ireturn, 1) := by decide +kernel
set_option maxRecDepth 20000 in
theorem ggX6_table_X6_checkIndex : GoodIn wsX6_table wsX6_checkIndex := goodIn_ca (goodIn_r _ [6, 7, 8] (by decide +kernel) (by decide +kernel)) (goodIn_sub (fun _ h => List.mem_cons_of_mem _ (List.mem_append_left _ (List.mem_append_left _ (List.mem_append_right _ h)))) (by decide +kernel))
set_option maxRecDepth 20000 in
theorem gX6_table_X6_checkIndex : GoodIn wsX6_table (va_wsS RX6 79 yX6_checkIndex wsX6_checkIndex) := goodIn_app (goodIn_of _ (by decide +kernel)) ggX6_table_X6_checkIndex
set_option maxRecDepth 20000 in
theorem ggX6_table_X6_checkNumber : GoodIn wsX6_table wsX6_checkNumber := goodIn_ca (goodIn_r _ [11, 12, 13] (by decide +kernel) (by decide +kernel)) (goodIn_sub (fun _ h => List.mem_cons_of_mem _ (List.mem_append_left _ (List.mem_append_right _ h))) (by decide +kernel))
set_option maxRecDepth 20000 in
theorem gX6_table_X6_checkNumber : GoodIn wsX6_table (va_wsS RX6 67 yX6_checkNumber wsX6_checkNumber) := goodIn_app (goodIn_of _ (by decide +kernel)) ggX6_table_X6_checkNumber
set_option maxRecDepth 20000 in
theorem ggX6_table_X2_tellRow : GoodIn wsX6_table wsX2_tellRow := goodIn_ca (goodIn_r _ [18, 19, 20, 21, 31, 32, 33] (by decide +kernel) (by decide +kernel)) (goodIn_sub (fun _ h => List.mem_cons_of_mem _ (List.mem_append_right _ h)) (by decide +kernel))
set_option maxRecDepth 20000 in
theorem gX6_table_X2_tellRow : GoodIn wsX6_table (wsV RX6 124 RX2 yX2_tellRow wsX2_tellRow) := goodIn_app (goodIn_of _ (by decide +kernel)) ggX6_table_X2_tellRow
theorem dX6_table_0 : decode cX6_table 0 = .ok (.iload_n 1, 1) := by decide +kernel
theorem dX6_table_1 : decode cX6_table 1 = .ok (.bipush 10, 2) := by decide +kernel
theorem dX6_table_3 : decode cX6_table 3 = .ok (.invokestatic 79, 3) := by decide +kernel
theorem dX6_table_6 : decode cX6_table 6 = .ok (.lload_n 2, 1) := by decide +kernel
theorem dX6_table_7 : decode cX6_table 7 = .ok (.lconst 1, 1) := by decide +kernel
theorem dX6_table_8 : decode cX6_table 8 = .ok (.ldc2_w 102, 3) := by decide +kernel
theorem dX6_table_11 : decode cX6_table 11 = .ok (.invokestatic 67, 3) := by decide +kernel
theorem dX6_table_14 : decode cX6_table 14 = .ok (.lload 4, 2) := by decide +kernel
theorem dX6_table_16 : decode cX6_table 16 = .ok (.lconst 1, 1) := by decide +kernel
theorem dX6_table_17 : decode cX6_table 17 = .ok (.ldc2_w 102, 3) := by decide +kernel
theorem dX6_table_20 : decode cX6_table 20 = .ok (.invokestatic 67, 3) := by decide +kernel
theorem dX6_table_23 : decode cX6_table 23 = .ok (.lload 6, 2) := by decide +kernel
theorem dX6_table_25 : decode cX6_table 25 = .ok (.lconst 1, 1) := by decide +kernel
theorem dX6_table_26 : decode cX6_table 26 = .ok (.ldc2_w 102, 3) := by decide +kernel
theorem dX6_table_29 : decode cX6_table 29 = .ok (.invokestatic 67, 3) := by decide +kernel
theorem dX6_table_32 : decode cX6_table 32 = .ok (.aload_n 0, 1) := by decide +kernel
theorem dX6_table_33 : decode cX6_table 33 = .ok (.getfield 26, 3) := by decide +kernel
theorem dX6_table_36 : decode cX6_table 36 = .ok (.iload_n 1, 1) := by decide +kernel
theorem dX6_table_37 : decode cX6_table 37 = .ok (.lload_n 2, 1) := by decide +kernel
theorem dX6_table_38 : decode cX6_table 38 = .ok (.lload 4, 2) := by decide +kernel
theorem dX6_table_40 : decode cX6_table 40 = .ok (.lload 6, 2) := by decide +kernel
theorem dX6_table_42 : decode cX6_table 42 = .ok (.invokevirtual 124, 3) := by decide +kernel
theorem dX6_table_45 : decode cX6_table 45 = .ok (.ireturn, 1) := by decide +kernel
set_option maxRecDepth 20000 in
theorem ggX6_length_X5_count : GoodIn wsX6_length wsX5_count := goodIn_r _ [6, 7, 50, 51, 52, 53, 54, 55] (by decide +kernel) (by decide +kernel)
set_option maxRecDepth 20000 in
theorem gX6_length_X5_count : GoodIn wsX6_length (wsV RX6 99 RX5 yX5_count wsX5_count) := goodIn_app (goodIn_of _ (by decide +kernel)) ggX6_length_X5_count
set_option maxRecDepth 20000 in
theorem ggX6_length_X6_checkIndex : GoodIn wsX6_length wsX6_checkIndex := goodIn_ca (goodIn_r _ [11, 12, 13] (by decide +kernel) (by decide +kernel)) (goodIn_sub (fun _ h => List.mem_cons_of_mem _ (List.mem_append_left _ (List.mem_append_right _ h))) (by decide +kernel))
set_option maxRecDepth 20000 in
theorem gX6_length_X6_checkIndex : GoodIn wsX6_length (va_wsS RX6 79 yX6_checkIndex wsX6_checkIndex) := goodIn_app (goodIn_of _ (by decide +kernel)) ggX6_length_X6_checkIndex
set_option maxRecDepth 20000 in
theorem ggX6_length_X6_cutLength : GoodIn wsX6_length wsX6_cutLength := goodIn_ca (goodIn_r _ [17, 18, 1, 19, 20, 21, 22, 23, 24, 5, 25, 26, 27, 28, 10, 29, 30, 31, 32, 33, 34, 35, 36, 37, 38, 39, 40, 41, 42, 43, 44, 45, 46, 47, 48, 49, 50, 51, 52, 53, 54, 55, 56, 57, 58, 59, 60, 61, 62] (by decide +kernel) (by decide +kernel)) (goodIn_sub (fun _ h => List.mem_cons_of_mem _ (List.mem_append_right _ h)) (by decide +kernel))
set_option maxRecDepth 20000 in
theorem gX6_length_X6_cutLength : GoodIn wsX6_length (wsV RX6 108 RX6 yX6_cutLength wsX6_cutLength) := goodIn_app (goodIn_of _ (by decide +kernel)) ggX6_length_X6_cutLength
theorem dX6_length_0 : decode cX6_length 0 = .ok (.iload_n 1, 1) := by decide +kernel
theorem dX6_length_1 : decode cX6_length 1 = .ok (.aload_n 0, 1) := by decide +kernel
theorem dX6_length_2 : decode cX6_length 2 = .ok (.getfield 19, 3) := by decide +kernel
theorem dX6_length_5 : decode cX6_length 5 = .ok (.invokevirtual 99, 3) := by decide +kernel
theorem dX6_length_8 : decode cX6_length 8 = .ok (.invokestatic 79, 3) := by decide +kernel
theorem dX6_length_11 : decode cX6_length 11 = .ok (.aload_n 0, 1) := by decide +kernel
theorem dX6_length_12 : decode cX6_length 12 = .ok (.iload_n 1, 1) := by decide +kernel
theorem dX6_length_13 : decode cX6_length 13 = .ok (.invokevirtual 108, 3) := by decide +kernel
theorem dX6_length_16 : decode cX6_length 16 = .ok (.lreturn, 1) := by decide +kernel
set_option maxRecDepth 20000 in
theorem ggX6_slack_X6_checkNumber : GoodIn wsX6_slack wsX6_checkNumber := goodIn_ca (goodIn_r _ [7, 8, 9] (by decide +kernel) (by decide +kernel)) (goodIn_sub (fun _ h => List.mem_cons_of_mem _ (List.mem_append_right _ h)) (by decide +kernel))
set_option maxRecDepth 20000 in
theorem gX6_slack_X6_checkNumber : GoodIn wsX6_slack (va_wsS RX6 67 yX6_checkNumber wsX6_checkNumber) := goodIn_app (goodIn_of _ (by decide +kernel)) ggX6_slack_X6_checkNumber
theorem dX6_slack_0 : decode cX6_slack 0 = .ok (.lload_n 3, 1) := by decide +kernel
theorem dX6_slack_1 : decode cX6_slack 1 = .ok (.lconst 1, 1) := by decide +kernel
theorem dX6_slack_2 : decode cX6_slack 2 = .ok (.ldc2_w 128, 3) := by decide +kernel
theorem dX6_slack_5 : decode cX6_slack 5 = .ok (.invokestatic 67, 3) := by decide +kernel
theorem dX6_slack_8 : decode cX6_slack 8 = .ok (.lload_n 1, 1) := by decide +kernel
theorem dX6_slack_9 : decode cX6_slack 9 = .ok (.lconst 0, 1) := by decide +kernel
theorem dX6_slack_10 : decode cX6_slack 10 = .ok (.lload_n 3, 1) := by decide +kernel
theorem dX6_slack_11 : decode cX6_slack 11 = .ok (.invokestatic 67, 3) := by decide +kernel
theorem dX6_slack_14 : decode cX6_slack 14 = .ok (.lload_n 1, 1) := by decide +kernel
theorem dX6_slack_15 : decode cX6_slack 15 = .ok (.aload_n 0, 1) := by decide +kernel
theorem dX6_slack_16 : decode cX6_slack 16 = .ok (.getfield 58, 3) := by decide +kernel
theorem dX6_slack_19 : decode cX6_slack 19 = .ok (.lcmp, 1) := by decide +kernel
theorem dX6_slack_20 : decode cX6_slack 20 = .ok (.ifCond .ne 12, 3) := by decide +kernel
theorem dX6_slack_23 : decode cX6_slack 23 = .ok (.lload_n 3, 1) := by decide +kernel
theorem dX6_slack_24 : decode cX6_slack 24 = .ok (.aload_n 0, 1) := by decide +kernel
theorem dX6_slack_25 : decode cX6_slack 25 = .ok (.getfield 62, 3) := by decide +kernel
theorem dX6_slack_28 : decode cX6_slack 28 = .ok (.lcmp, 1) := by decide +kernel
theorem dX6_slack_29 : decode cX6_slack 29 = .ok (.ifCond .eq 7, 3) := by decide +kernel
theorem dX6_slack_32 : decode cX6_slack 32 = .ok (.iconst 1, 1) := by decide +kernel
theorem dX6_slack_33 : decode cX6_slack 33 = .ok (.goto 4, 3) := by decide +kernel
theorem dX6_slack_36 : decode cX6_slack 36 = .ok (.iconst 0, 1) := by decide +kernel
theorem dX6_slack_37 : decode cX6_slack 37 = .ok (.istore 5, 2) := by decide +kernel
theorem dX6_slack_39 : decode cX6_slack 39 = .ok (.aload_n 0, 1) := by decide +kernel
theorem dX6_slack_40 : decode cX6_slack 40 = .ok (.lload_n 1, 1) := by decide +kernel
theorem dX6_slack_41 : decode cX6_slack 41 = .ok (.putfield 58, 3) := by decide +kernel
theorem dX6_slack_44 : decode cX6_slack 44 = .ok (.aload_n 0, 1) := by decide +kernel
theorem dX6_slack_45 : decode cX6_slack 45 = .ok (.lload_n 3, 1) := by decide +kernel
theorem dX6_slack_46 : decode cX6_slack 46 = .ok (.putfield 62, 3) := by decide +kernel
theorem dX6_slack_49 : decode cX6_slack 49 = .ok (.iload 5, 2) := by decide +kernel
theorem dX6_slack_51 : decode cX6_slack 51 = .ok (.ireturn, 1) := by decide +kernel
set_option maxRecDepth 20000 in
theorem ggX6_reel_X6_checkNumber : GoodIn wsX6_reel wsX6_checkNumber := goodIn_ca (goodIn_r _ [8, 9, 10] (by decide +kernel) (by decide +kernel)) (goodIn_sub (fun _ h => List.mem_cons_of_mem _ (List.mem_append_left _ (List.mem_append_right _ h))) (by decide +kernel))
set_option maxRecDepth 20000 in
theorem gX6_reel_X6_checkNumber : GoodIn wsX6_reel (va_wsS RX6 67 yX6_checkNumber wsX6_checkNumber) := goodIn_app (goodIn_of _ (by decide +kernel)) ggX6_reel_X6_checkNumber
set_option maxRecDepth 20000 in
theorem ggX6_reel_X0_begin : GoodIn wsX6_reel wsX0_begin := goodIn_r _ [15, 16, 17, 18, 19, 20, 21, 22, 23, 24, 25, 116, 117, 118, 119, 120, 121, 122, 123] (by decide +kernel) (by decide +kernel)
set_option maxRecDepth 20000 in
theorem gX6_reel_X0_begin : GoodIn wsX6_reel (wsV RX6 132 RX0 yX0_begin wsX0_begin) := goodIn_app (goodIn_of _ (by decide +kernel)) ggX6_reel_X0_begin
set_option maxRecDepth 20000 in
theorem ggX6_reel_X5_count : GoodIn wsX6_reel wsX5_count := goodIn_r _ [30, 31, 124, 125, 126, 127, 128, 129] (by decide +kernel) (by decide +kernel)
set_option maxRecDepth 20000 in
theorem gX6_reel_X5_count : GoodIn wsX6_reel (wsV RX6 99 RX5 yX5_count wsX5_count) := goodIn_app (goodIn_of _ (by decide +kernel)) ggX6_reel_X5_count
set_option maxRecDepth 20000 in
theorem ggX6_reel_X6_cutLength : GoodIn wsX6_reel wsX6_cutLength := goodIn_ca (goodIn_r _ [35, 36, 3, 4, 37, 38, 39, 40, 41, 29, 42, 43, 44, 45, 7, 46, 47, 48, 49, 50, 51, 52, 53, 54, 55, 56, 57, 107, 108, 109, 110, 111, 112, 113, 114, 115, 124, 125, 126, 127, 128, 129, 130, 131, 132, 133, 134, 135, 136] (by decide +kernel) (by decide +kernel)) (goodIn_sub (fun _ h => List.mem_cons_of_mem _ (List.mem_append_right _ h)) (by decide +kernel))
set_option maxRecDepth 20000 in
theorem gX6_reel_X6_cutLength : GoodIn wsX6_reel (wsV RX6 108 RX6 yX6_cutLength wsX6_cutLength) := goodIn_app (goodIn_of _ (by decide +kernel)) ggX6_reel_X6_cutLength
set_option maxRecDepth 20000 in
theorem ggX6_reel_X0_addPiece : GoodIn wsX6_reel wsX0_addPiece := goodIn_ca (goodIn_r _ [61, 18, 62, 63, 116, 117, 118, 119, 120, 121, 122, 123] (by decide +kernel) (by decide +kernel)) (goodIn_sub (fun _ h => List.mem_cons_of_mem _ (List.mem_append_right _ h)) (by decide +kernel))
set_option maxRecDepth 20000 in
theorem gX6_reel_X0_addPiece : GoodIn wsX6_reel (wsV RX6 135 RX0 yX0_addPiece wsX0_addPiece) := goodIn_app (goodIn_of _ (by decide +kernel)) ggX6_reel_X0_addPiece
set_option maxRecDepth 20000 in
theorem ggX6_reel_X0_pack : GoodIn wsX6_reel wsX0_pack := goodIn_ca (goodIn_r _ [67, 68, 18, 63, 69, 70, 71, 14, 72, 73, 74, 75, 76, 77, 78, 79, 80, 81, 16, 62, 82, 83, 84, 85, 86, 17, 87, 88, 89, 90, 91, 92, 93, 94, 95, 96, 97, 98, 99, 100, 101, 102, 103, 104, 105, 106, 116, 117, 118, 119, 120, 121, 122, 123] (by decide +kernel) (by decide +kernel)) (goodIn_sub (fun _ h => List.mem_cons_of_mem _ (List.mem_append_right _ h)) (by decide +kernel))
set_option maxRecDepth 20000 in
theorem gX6_reel_X0_pack : GoodIn wsX6_reel (wsV RX6 139 RX0 yX0_pack wsX0_pack) := goodIn_app (goodIn_of _ (by decide +kernel)) ggX6_reel_X0_pack
theorem dX6_reel_0 : decode cX6_reel 0 = .ok (.lload_n 1, 1) := by decide +kernel
theorem dX6_reel_1 : decode cX6_reel 1 = .ok (.lconst 1, 1) := by decide +kernel
theorem dX6_reel_2 : decode cX6_reel 2 = .ok (.ldc2_w 130, 3) := by decide +kernel
theorem dX6_reel_5 : decode cX6_reel 5 = .ok (.invokestatic 67, 3) := by decide +kernel
theorem dX6_reel_8 : decode cX6_reel 8 = .ok (.aload_n 0, 1) := by decide +kernel
theorem dX6_reel_9 : decode cX6_reel 9 = .ok (.getfield 33, 3) := by decide +kernel
theorem dX6_reel_12 : decode cX6_reel 12 = .ok (.invokevirtual 132, 3) := by decide +kernel
theorem dX6_reel_15 : decode cX6_reel 15 = .ok (.iconst 0, 1) := by decide +kernel
theorem dX6_reel_16 : decode cX6_reel 16 = .ok (.istore_n 3, 1) := by decide +kernel
theorem dX6_reel_17 : decode cX6_reel 17 = .ok (.iload_n 3, 1) := by decide +kernel
theorem dX6_reel_18 : decode cX6_reel 18 = .ok (.aload_n 0, 1) := by decide +kernel
theorem dX6_reel_19 : decode cX6_reel 19 = .ok (.getfield 19, 3) := by decide +kernel
theorem dX6_reel_22 : decode cX6_reel 22 = .ok (.invokevirtual 99, 3) := by decide +kernel
theorem dX6_reel_25 : decode cX6_reel 25 = .ok (.if_icmp .ge 35, 3) := by decide +kernel
theorem dX6_reel_28 : decode cX6_reel 28 = .ok (.aload_n 0, 1) := by decide +kernel
theorem dX6_reel_29 : decode cX6_reel 29 = .ok (.iload_n 3, 1) := by decide +kernel
theorem dX6_reel_30 : decode cX6_reel 30 = .ok (.invokevirtual 108, 3) := by decide +kernel
theorem dX6_reel_33 : decode cX6_reel 33 = .ok (.lstore 4, 2) := by decide +kernel
theorem dX6_reel_35 : decode cX6_reel 35 = .ok (.lload 4, 2) := by decide +kernel
theorem dX6_reel_37 : decode cX6_reel 37 = .ok (.ldc2_w 112, 3) := by decide +kernel
theorem dX6_reel_40 : decode cX6_reel 40 = .ok (.lcmp, 1) := by decide +kernel
theorem dX6_reel_41 : decode cX6_reel 41 = .ok (.ifCond .eq 13, 3) := by decide +kernel
theorem dX6_reel_44 : decode cX6_reel 44 = .ok (.aload_n 0, 1) := by decide +kernel
theorem dX6_reel_45 : decode cX6_reel 45 = .ok (.getfield 33, 3) := by decide +kernel
theorem dX6_reel_48 : decode cX6_reel 48 = .ok (.iload_n 3, 1) := by decide +kernel
theorem dX6_reel_49 : decode cX6_reel 49 = .ok (.lload 4, 2) := by decide +kernel
theorem dX6_reel_51 : decode cX6_reel 51 = .ok (.invokevirtual 135, 3) := by decide +kernel
theorem dX6_reel_54 : decode cX6_reel 54 = .ok (.iinc 3 1, 3) := by decide +kernel
theorem dX6_reel_57 : decode cX6_reel 57 = .ok (.goto (-40), 3) := by decide +kernel
theorem dX6_reel_60 : decode cX6_reel 60 = .ok (.aload_n 0, 1) := by decide +kernel
theorem dX6_reel_61 : decode cX6_reel 61 = .ok (.getfield 33, 3) := by decide +kernel
theorem dX6_reel_64 : decode cX6_reel 64 = .ok (.lload_n 1, 1) := by decide +kernel
theorem dX6_reel_65 : decode cX6_reel 65 = .ok (.invokevirtual 139, 3) := by decide +kernel
theorem dX6_reel_68 : decode cX6_reel 68 = .ok (.ireturn, 1) := by decide +kernel
set_option maxRecDepth 20000 in
theorem ggX6_reelOf_X5_count : GoodIn wsX6_reelOf wsX5_count := goodIn_r _ [7, 8, 30, 31, 32, 33, 34, 35] (by decide +kernel) (by decide +kernel)
set_option maxRecDepth 20000 in
theorem gX6_reelOf_X5_count : GoodIn wsX6_reelOf (wsV RX6 99 RX5 yX5_count wsX5_count) := goodIn_app (goodIn_of _ (by decide +kernel)) ggX6_reelOf_X5_count
set_option maxRecDepth 20000 in
theorem ggX6_reelOf_X6_checkIndex : GoodIn wsX6_reelOf wsX6_checkIndex := goodIn_ca (goodIn_r _ [12, 13, 14] (by decide +kernel) (by decide +kernel)) (goodIn_sub (fun _ h => List.mem_cons_of_mem _ (List.mem_append_left _ (List.mem_append_right _ h))) (by decide +kernel))
set_option maxRecDepth 20000 in
theorem gX6_reelOf_X6_checkIndex : GoodIn wsX6_reelOf (va_wsS RX6 79 yX6_checkIndex wsX6_checkIndex) := goodIn_app (goodIn_of _ (by decide +kernel)) ggX6_reelOf_X6_checkIndex
set_option maxRecDepth 20000 in
theorem ggX6_reelOf_X0_numberOf : GoodIn wsX6_reelOf wsX0_numberOf := goodIn_ca (goodIn_r _ [19, 20, 36, 37, 38, 39, 40, 41, 42, 43] (by decide +kernel) (by decide +kernel)) (goodIn_sub (fun _ h => List.mem_cons_of_mem _ (List.mem_append_right _ h)) (by decide +kernel))
set_option maxRecDepth 20000 in
theorem gX6_reelOf_X0_numberOf : GoodIn wsX6_reelOf (wsV RX6 143 RX0 yX0_numberOf wsX0_numberOf) := goodIn_app (goodIn_of _ (by decide +kernel)) ggX6_reelOf_X0_numberOf
theorem dX6_reelOf_0 : decode cX6_reelOf 0 = .ok (.iload_n 1, 1) := by decide +kernel
theorem dX6_reelOf_1 : decode cX6_reelOf 1 = .ok (.aload_n 0, 1) := by decide +kernel
theorem dX6_reelOf_2 : decode cX6_reelOf 2 = .ok (.getfield 19, 3) := by decide +kernel
theorem dX6_reelOf_5 : decode cX6_reelOf 5 = .ok (.invokevirtual 99, 3) := by decide +kernel
theorem dX6_reelOf_8 : decode cX6_reelOf 8 = .ok (.invokestatic 79, 3) := by decide +kernel
theorem dX6_reelOf_11 : decode cX6_reelOf 11 = .ok (.aload_n 0, 1) := by decide +kernel
theorem dX6_reelOf_12 : decode cX6_reelOf 12 = .ok (.getfield 33, 3) := by decide +kernel
theorem dX6_reelOf_15 : decode cX6_reelOf 15 = .ok (.iload_n 1, 1) := by decide +kernel
theorem dX6_reelOf_16 : decode cX6_reelOf 16 = .ok (.invokevirtual 143, 3) := by decide +kernel
theorem dX6_reelOf_19 : decode cX6_reelOf 19 = .ok (.ireturn, 1) := by decide +kernel
set_option maxRecDepth 20000 in
theorem ggX6_splice_X5_count : GoodIn wsX6_splice wsX5_count := goodIn_r _ [7, 8, 38, 39, 40, 41, 42, 43] (by decide +kernel) (by decide +kernel)
set_option maxRecDepth 20000 in
theorem gX6_splice_X5_count : GoodIn wsX6_splice (wsV RX6 99 RX5 yX5_count wsX5_count) := goodIn_app (goodIn_of _ (by decide +kernel)) ggX6_splice_X5_count
set_option maxRecDepth 20000 in
theorem ggX6_splice_X6_checkIndex : GoodIn wsX6_splice wsX6_checkIndex := goodIn_ca (goodIn_r _ [12, 13, 14] (by decide +kernel) (by decide +kernel)) (goodIn_sub (fun _ h => List.mem_cons_of_mem _ (List.mem_append_left _ (List.mem_append_right _ h))) (by decide +kernel))
set_option maxRecDepth 20000 in
theorem gX6_splice_X6_checkIndex : GoodIn wsX6_splice (va_wsS RX6 79 yX6_checkIndex wsX6_checkIndex) := goodIn_app (goodIn_of _ (by decide +kernel)) ggX6_splice_X6_checkIndex
set_option maxRecDepth 20000 in
theorem ggX6_splice_X1_add : GoodIn wsX6_splice wsX1_add := goodIn_ca (goodIn_r _ [19, 20, 21, 22, 23, 11, 24, 25, 26, 27, 18, 28, 44, 45, 46] (by decide +kernel) (by decide +kernel)) (goodIn_sub (fun _ h => List.mem_cons_of_mem _ (List.mem_append_right _ h)) (by decide +kernel))
set_option maxRecDepth 20000 in
theorem gX6_splice_X1_add : GoodIn wsX6_splice (wsV RX6 146 RX1 yX1_add wsX1_add) := goodIn_app (goodIn_of _ (by decide +kernel)) ggX6_splice_X1_add
theorem dX6_splice_0 : decode cX6_splice 0 = .ok (.iload_n 1, 1) := by decide +kernel
theorem dX6_splice_1 : decode cX6_splice 1 = .ok (.aload_n 0, 1) := by decide +kernel
theorem dX6_splice_2 : decode cX6_splice 2 = .ok (.getfield 19, 3) := by decide +kernel
theorem dX6_splice_5 : decode cX6_splice 5 = .ok (.invokevirtual 99, 3) := by decide +kernel
theorem dX6_splice_8 : decode cX6_splice 8 = .ok (.invokestatic 79, 3) := by decide +kernel
theorem dX6_splice_11 : decode cX6_splice 11 = .ok (.iload_n 2, 1) := by decide +kernel
theorem dX6_splice_12 : decode cX6_splice 12 = .ok (.aload_n 0, 1) := by decide +kernel
theorem dX6_splice_13 : decode cX6_splice 13 = .ok (.getfield 19, 3) := by decide +kernel
theorem dX6_splice_16 : decode cX6_splice 16 = .ok (.invokevirtual 99, 3) := by decide +kernel
theorem dX6_splice_19 : decode cX6_splice 19 = .ok (.invokestatic 79, 3) := by decide +kernel
theorem dX6_splice_22 : decode cX6_splice 22 = .ok (.aload_n 0, 1) := by decide +kernel
theorem dX6_splice_23 : decode cX6_splice 23 = .ok (.getfield 40, 3) := by decide +kernel
theorem dX6_splice_26 : decode cX6_splice 26 = .ok (.iload_n 1, 1) := by decide +kernel
theorem dX6_splice_27 : decode cX6_splice 27 = .ok (.iload_n 2, 1) := by decide +kernel
theorem dX6_splice_28 : decode cX6_splice 28 = .ok (.invokevirtual 146, 3) := by decide +kernel
theorem dX6_splice_31 : decode cX6_splice 31 = .ok (.ireturn, 1) := by decide +kernel
set_option maxRecDepth 20000 in
theorem ggX6_joined_X6_checkCavity : GoodIn wsX6_joined wsX6_checkCavity := goodIn_ca (goodIn_ca (goodIn_r _ [7, 8, 9, 10, 11, 12, 13, 14, 15, 16, 6, 17, 18, 19, 20, 21, 22, 23, 24, 42, 43, 44, 45, 46, 47, 48, 49, 50, 51, 52, 53, 54, 55, 56, 57] (by decide +kernel) (by decide +kernel)) (goodIn_sub (fun _ h => List.mem_cons_of_mem _ (List.mem_append_left _ (List.mem_append_right _ h))) (by decide +kernel))) (goodIn_sub (fun _ h => List.mem_cons_of_mem _ (List.mem_append_right _ h)) (by decide +kernel))
set_option maxRecDepth 20000 in
theorem gX6_joined_X6_checkCavity : GoodIn wsX6_joined (wsV RX6 89 RX6 yX6_checkCavity wsX6_checkCavity) := goodIn_app (goodIn_of _ (by decide +kernel)) ggX6_joined_X6_checkCavity
set_option maxRecDepth 20000 in
theorem ggX6_joined_X6_endOf : GoodIn wsX6_joined wsX6_endOf := goodIn_r _ [27] (by decide +kernel) (by decide +kernel)
set_option maxRecDepth 20000 in
theorem gX6_joined_X6_endOf : GoodIn wsX6_joined (va_wsS RX6 92 yX6_endOf wsX6_endOf) := goodIn_app (goodIn_of _ (by decide +kernel)) ggX6_joined_X6_endOf
set_option maxRecDepth 20000 in
theorem ggX6_joined_X5_wireAt : GoodIn wsX6_joined wsX5_wireAt := goodIn_ca (goodIn_r _ [32, 33, 34, 35, 58, 59, 60, 61, 62, 63] (by decide +kernel) (by decide +kernel)) (goodIn_sub (fun _ h => List.mem_cons_of_mem _ (List.mem_append_right _ h)) (by decide +kernel))
set_option maxRecDepth 20000 in
theorem gX6_joined_X5_wireAt : GoodIn wsX6_joined (wsV RX6 147 RX5 yX5_wireAt wsX5_wireAt) := goodIn_app (goodIn_of _ (by decide +kernel)) ggX6_joined_X5_wireAt
set_option maxRecDepth 20000 in
theorem ggX6_joined_X1_inOneGroup : GoodIn wsX6_joined wsX1_inOneGroup := goodIn_ca (goodIn_r _ [40, 41, 64, 65, 66] (by decide +kernel) (by decide +kernel)) (goodIn_sub (fun _ h => List.mem_cons_of_mem _ (List.mem_append_right _ h)) (by decide +kernel))
set_option maxRecDepth 20000 in
theorem gX6_joined_X1_inOneGroup : GoodIn wsX6_joined (wsV RX6 150 RX1 yX1_inOneGroup wsX1_inOneGroup) := goodIn_app (goodIn_of _ (by decide +kernel)) ggX6_joined_X1_inOneGroup
theorem dX6_joined_0 : decode cX6_joined 0 = .ok (.aload_n 0, 1) := by decide +kernel
theorem dX6_joined_1 : decode cX6_joined 1 = .ok (.iload_n 1, 1) := by decide +kernel
theorem dX6_joined_2 : decode cX6_joined 2 = .ok (.iload_n 2, 1) := by decide +kernel
theorem dX6_joined_3 : decode cX6_joined 3 = .ok (.invokevirtual 89, 3) := by decide +kernel
theorem dX6_joined_6 : decode cX6_joined 6 = .ok (.aload_n 0, 1) := by decide +kernel
theorem dX6_joined_7 : decode cX6_joined 7 = .ok (.iload_n 3, 1) := by decide +kernel
theorem dX6_joined_8 : decode cX6_joined 8 = .ok (.iload 4, 2) := by decide +kernel
theorem dX6_joined_10 : decode cX6_joined 10 = .ok (.invokevirtual 89, 3) := by decide +kernel
theorem dX6_joined_13 : decode cX6_joined 13 = .ok (.iload_n 1, 1) := by decide +kernel
theorem dX6_joined_14 : decode cX6_joined 14 = .ok (.iload_n 2, 1) := by decide +kernel
theorem dX6_joined_15 : decode cX6_joined 15 = .ok (.invokestatic 92, 3) := by decide +kernel
theorem dX6_joined_18 : decode cX6_joined 18 = .ok (.istore 5, 2) := by decide +kernel
theorem dX6_joined_20 : decode cX6_joined 20 = .ok (.iload_n 3, 1) := by decide +kernel
theorem dX6_joined_21 : decode cX6_joined 21 = .ok (.iload 4, 2) := by decide +kernel
theorem dX6_joined_23 : decode cX6_joined 23 = .ok (.invokestatic 92, 3) := by decide +kernel
theorem dX6_joined_26 : decode cX6_joined 26 = .ok (.istore 6, 2) := by decide +kernel
theorem dX6_joined_28 : decode cX6_joined 28 = .ok (.iload 5, 2) := by decide +kernel
theorem dX6_joined_30 : decode cX6_joined 30 = .ok (.iload 6, 2) := by decide +kernel
theorem dX6_joined_32 : decode cX6_joined 32 = .ok (.if_icmp .ne 5, 3) := by decide +kernel
theorem dX6_joined_35 : decode cX6_joined 35 = .ok (.iconst 1, 1) := by decide +kernel
theorem dX6_joined_36 : decode cX6_joined 36 = .ok (.ireturn, 1) := by decide +kernel
theorem dX6_joined_37 : decode cX6_joined 37 = .ok (.aload_n 0, 1) := by decide +kernel
theorem dX6_joined_38 : decode cX6_joined 38 = .ok (.getfield 19, 3) := by decide +kernel
theorem dX6_joined_41 : decode cX6_joined 41 = .ok (.iload 5, 2) := by decide +kernel
theorem dX6_joined_43 : decode cX6_joined 43 = .ok (.invokevirtual 147, 3) := by decide +kernel
theorem dX6_joined_46 : decode cX6_joined 46 = .ok (.istore 7, 2) := by decide +kernel
theorem dX6_joined_48 : decode cX6_joined 48 = .ok (.aload_n 0, 1) := by decide +kernel
theorem dX6_joined_49 : decode cX6_joined 49 = .ok (.getfield 19, 3) := by decide +kernel
theorem dX6_joined_52 : decode cX6_joined 52 = .ok (.iload 6, 2) := by decide +kernel
theorem dX6_joined_54 : decode cX6_joined 54 = .ok (.invokevirtual 147, 3) := by decide +kernel
theorem dX6_joined_57 : decode cX6_joined 57 = .ok (.istore 8, 2) := by decide +kernel
theorem dX6_joined_59 : decode cX6_joined 59 = .ok (.iload 7, 2) := by decide +kernel
theorem dX6_joined_61 : decode cX6_joined 61 = .ok (.iconst (-1), 1) := by decide +kernel
theorem dX6_joined_62 : decode cX6_joined 62 = .ok (.if_icmp .eq 27, 3) := by decide +kernel
theorem dX6_joined_65 : decode cX6_joined 65 = .ok (.iload 8, 2) := by decide +kernel
theorem dX6_joined_67 : decode cX6_joined 67 = .ok (.iconst (-1), 1) := by decide +kernel
theorem dX6_joined_68 : decode cX6_joined 68 = .ok (.if_icmp .eq 21, 3) := by decide +kernel
theorem dX6_joined_71 : decode cX6_joined 71 = .ok (.aload_n 0, 1) := by decide +kernel
theorem dX6_joined_72 : decode cX6_joined 72 = .ok (.getfield 40, 3) := by decide +kernel
theorem dX6_joined_75 : decode cX6_joined 75 = .ok (.iload 7, 2) := by decide +kernel
theorem dX6_joined_77 : decode cX6_joined 77 = .ok (.iload 8, 2) := by decide +kernel
theorem dX6_joined_79 : decode cX6_joined 79 = .ok (.invokevirtual 150, 3) := by decide +kernel
theorem dX6_joined_82 : decode cX6_joined 82 = .ok (.ifCond .eq 7, 3) := by decide +kernel
theorem dX6_joined_85 : decode cX6_joined 85 = .ok (.iconst 1, 1) := by decide +kernel
theorem dX6_joined_86 : decode cX6_joined 86 = .ok (.goto 4, 3) := by decide +kernel
theorem dX6_joined_89 : decode cX6_joined 89 = .ok (.iconst 0, 1) := by decide +kernel
theorem dX6_joined_90 : decode cX6_joined 90 = .ok (.ireturn, 1) := by decide +kernel
set_option maxRecDepth 20000 in
theorem ggX6_colour_X5_count : GoodIn wsX6_colour wsX5_count := goodIn_r _ [6, 7, 28, 29, 30, 31, 32, 33] (by decide +kernel) (by decide +kernel)
set_option maxRecDepth 20000 in
theorem gX6_colour_X5_count : GoodIn wsX6_colour (wsV RX6 99 RX5 yX5_count wsX5_count) := goodIn_app (goodIn_of _ (by decide +kernel)) ggX6_colour_X5_count
set_option maxRecDepth 20000 in
theorem ggX6_colour_X6_checkIndex : GoodIn wsX6_colour wsX6_checkIndex := goodIn_ca (goodIn_r _ [11, 12, 13] (by decide +kernel) (by decide +kernel)) (goodIn_sub (fun _ h => List.mem_cons_of_mem _ (List.mem_append_left _ (List.mem_append_right _ h))) (by decide +kernel))
set_option maxRecDepth 20000 in
theorem gX6_colour_X6_checkIndex : GoodIn wsX6_colour (va_wsS RX6 79 yX6_checkIndex wsX6_checkIndex) := goodIn_app (goodIn_of _ (by decide +kernel)) ggX6_colour_X6_checkIndex
set_option maxRecDepth 20000 in
theorem ggX6_colour_X5_colourOf : GoodIn wsX6_colour wsX5_colourOf := goodIn_ca (goodIn_r _ [17, 18, 28, 29, 30, 31, 32, 33] (by decide +kernel) (by decide +kernel)) (goodIn_sub (fun _ h => List.mem_cons_of_mem _ (List.mem_append_right _ h)) (by decide +kernel))
set_option maxRecDepth 20000 in
theorem gX6_colour_X5_colourOf : GoodIn wsX6_colour (wsV RX6 154 RX5 yX5_colourOf wsX5_colourOf) := goodIn_app (goodIn_of _ (by decide +kernel)) ggX6_colour_X5_colourOf
theorem dX6_colour_0 : decode cX6_colour 0 = .ok (.iload_n 1, 1) := by decide +kernel
theorem dX6_colour_1 : decode cX6_colour 1 = .ok (.aload_n 0, 1) := by decide +kernel
theorem dX6_colour_2 : decode cX6_colour 2 = .ok (.getfield 19, 3) := by decide +kernel
theorem dX6_colour_5 : decode cX6_colour 5 = .ok (.invokevirtual 99, 3) := by decide +kernel
theorem dX6_colour_8 : decode cX6_colour 8 = .ok (.invokestatic 79, 3) := by decide +kernel
theorem dX6_colour_11 : decode cX6_colour 11 = .ok (.aload_n 0, 1) := by decide +kernel
theorem dX6_colour_12 : decode cX6_colour 12 = .ok (.getfield 19, 3) := by decide +kernel
theorem dX6_colour_15 : decode cX6_colour 15 = .ok (.iload_n 1, 1) := by decide +kernel
theorem dX6_colour_16 : decode cX6_colour 16 = .ok (.invokevirtual 154, 3) := by decide +kernel
theorem dX6_colour_19 : decode cX6_colour 19 = .ok (.ireturn, 1) := by decide +kernel
set_option maxRecDepth 20000 in
theorem ggX6_variant_X4_add : GoodIn wsX6_variant wsX4_add := goodIn_r _ [6, 7, 17, 18, 19] (by decide +kernel) (by decide +kernel)
set_option maxRecDepth 20000 in
theorem gX6_variant_X4_add : GoodIn wsX6_variant (wsV RX6 157 RX4 yX4_add wsX4_add) := goodIn_app (goodIn_of _ (by decide +kernel)) ggX6_variant_X4_add
theorem dX6_variant_0 : decode cX6_variant 0 = .ok (.aload_n 0, 1) := by decide +kernel
theorem dX6_variant_1 : decode cX6_variant 1 = .ok (.getfield 47, 3) := by decide +kernel
theorem dX6_variant_4 : decode cX6_variant 4 = .ok (.invokevirtual 157, 3) := by decide +kernel
theorem dX6_variant_7 : decode cX6_variant 7 = .ok (.ireturn, 1) := by decide +kernel
set_option maxRecDepth 20000 in
theorem ggX6_has_X4_count : GoodIn wsX6_has wsX4_count := goodIn_r _ [7, 8, 42, 43, 44] (by decide +kernel) (by decide +kernel)
set_option maxRecDepth 20000 in
theorem gX6_has_X4_count : GoodIn wsX6_has (wsV RX6 159 RX4 yX4_count wsX4_count) := goodIn_app (goodIn_of _ (by decide +kernel)) ggX6_has_X4_count
set_option maxRecDepth 20000 in
theorem ggX6_has_X6_checkIndex : GoodIn wsX6_has wsX6_checkIndex := goodIn_ca (goodIn_r _ [12, 13, 14] (by decide +kernel) (by decide +kernel)) (goodIn_sub (fun _ h => List.mem_cons_of_mem _ (List.mem_append_left _ (List.mem_append_right _ h))) (by decide +kernel))
set_option maxRecDepth 20000 in
theorem gX6_has_X6_checkIndex : GoodIn wsX6_has (va_wsS RX6 79 yX6_checkIndex wsX6_checkIndex) := goodIn_app (goodIn_of _ (by decide +kernel)) ggX6_has_X6_checkIndex
set_option maxRecDepth 20000 in
theorem ggX6_has_X5_count : GoodIn wsX6_has wsX5_count := goodIn_r _ [19, 20, 45, 46, 47, 48, 49, 50] (by decide +kernel) (by decide +kernel)
set_option maxRecDepth 20000 in
theorem gX6_has_X5_count : GoodIn wsX6_has (wsV RX6 99 RX5 yX5_count wsX5_count) := goodIn_app (goodIn_of _ (by decide +kernel)) ggX6_has_X5_count
set_option maxRecDepth 20000 in
theorem ggX6_has_X4_tellWire : GoodIn wsX6_has wsX4_tellWire := goodIn_ca (goodIn_r _ [24, 25, 26, 27, 28, 29, 6, 30, 31, 11, 32, 42, 43, 44] (by decide +kernel) (by decide +kernel)) (goodIn_sub (fun _ h => List.mem_cons_of_mem _ (List.mem_append_right _ h)) (by decide +kernel))
set_option maxRecDepth 20000 in
theorem gX6_has_X4_tellWire : GoodIn wsX6_has (wsV RX6 160 RX4 yX4_tellWire wsX4_tellWire) := goodIn_app (goodIn_of _ (by decide +kernel)) ggX6_has_X4_tellWire
theorem dX6_has_0 : decode cX6_has 0 = .ok (.iload_n 1, 1) := by decide +kernel
theorem dX6_has_1 : decode cX6_has 1 = .ok (.aload_n 0, 1) := by decide +kernel
theorem dX6_has_2 : decode cX6_has 2 = .ok (.getfield 47, 3) := by decide +kernel
theorem dX6_has_5 : decode cX6_has 5 = .ok (.invokevirtual 159, 3) := by decide +kernel
theorem dX6_has_8 : decode cX6_has 8 = .ok (.invokestatic 79, 3) := by decide +kernel
theorem dX6_has_11 : decode cX6_has 11 = .ok (.iload_n 2, 1) := by decide +kernel
theorem dX6_has_12 : decode cX6_has 12 = .ok (.aload_n 0, 1) := by decide +kernel
theorem dX6_has_13 : decode cX6_has 13 = .ok (.getfield 19, 3) := by decide +kernel
theorem dX6_has_16 : decode cX6_has 16 = .ok (.invokevirtual 99, 3) := by decide +kernel
theorem dX6_has_19 : decode cX6_has 19 = .ok (.invokestatic 79, 3) := by decide +kernel
theorem dX6_has_22 : decode cX6_has 22 = .ok (.aload_n 0, 1) := by decide +kernel
theorem dX6_has_23 : decode cX6_has 23 = .ok (.getfield 47, 3) := by decide +kernel
theorem dX6_has_26 : decode cX6_has 26 = .ok (.iload_n 1, 1) := by decide +kernel
theorem dX6_has_27 : decode cX6_has 27 = .ok (.iload_n 2, 1) := by decide +kernel
theorem dX6_has_28 : decode cX6_has 28 = .ok (.iload_n 3, 1) := by decide +kernel
theorem dX6_has_29 : decode cX6_has 29 = .ok (.invokevirtual 160, 3) := by decide +kernel
theorem dX6_has_32 : decode cX6_has 32 = .ok (.ireturn, 1) := by decide +kernel
set_option maxRecDepth 20000 in
theorem ggX6_told_X6_checkIndex : GoodIn wsX6_told wsX6_checkIndex := goodIn_ca (goodIn_r _ [6, 7, 8] (by decide +kernel) (by decide +kernel)) (goodIn_sub (fun _ h => List.mem_cons_of_mem _ (List.mem_append_left _ (List.mem_append_right _ h))) (by decide +kernel))
set_option maxRecDepth 20000 in
theorem gX6_told_X6_checkIndex : GoodIn wsX6_told (va_wsS RX6 79 yX6_checkIndex wsX6_checkIndex) := goodIn_app (goodIn_of _ (by decide +kernel)) ggX6_told_X6_checkIndex
set_option maxRecDepth 20000 in
theorem ggX6_told_X5_count : GoodIn wsX6_told wsX5_count := goodIn_r _ [13, 14, 48, 49, 50, 51, 52, 53] (by decide +kernel) (by decide +kernel)
set_option maxRecDepth 20000 in
theorem gX6_told_X5_count : GoodIn wsX6_told (wsV RX6 99 RX5 yX5_count wsX5_count) := goodIn_app (goodIn_of _ (by decide +kernel)) ggX6_told_X5_count
set_option maxRecDepth 20000 in
theorem ggX6_told_X4_wireOff : GoodIn wsX6_told wsX4_wireOff := goodIn_ca (goodIn_r _ [19, 20, 21, 22, 23, 18, 24, 25, 26, 27, 5, 28, 54, 55, 56] (by decide +kernel) (by decide +kernel)) (goodIn_sub (fun _ h => List.mem_cons_of_mem _ (List.mem_append_right _ h)) (by decide +kernel))
set_option maxRecDepth 20000 in
theorem gX6_told_X4_wireOff : GoodIn wsX6_told (wsV RX6 164 RX4 yX4_wireOff wsX4_wireOff) := goodIn_app (goodIn_of _ (by decide +kernel)) ggX6_told_X4_wireOff
set_option maxRecDepth 20000 in
theorem ggX6_told_X5_firstEnd : GoodIn wsX6_told wsX5_firstEnd := goodIn_ca (goodIn_r _ [32, 33, 48, 49, 50, 51, 52, 53] (by decide +kernel) (by decide +kernel)) (goodIn_sub (fun _ h => List.mem_cons_of_mem _ (List.mem_append_right _ h)) (by decide +kernel))
set_option maxRecDepth 20000 in
theorem gX6_told_X5_firstEnd : GoodIn wsX6_told (wsV RX6 167 RX5 yX5_firstEnd wsX5_firstEnd) := goodIn_app (goodIn_of _ (by decide +kernel)) ggX6_told_X5_firstEnd
set_option maxRecDepth 20000 in
theorem ggX6_told_X5_otherEnd : GoodIn wsX6_told wsX5_otherEnd := goodIn_ca (goodIn_r _ [37, 38, 48, 49, 50, 51, 52, 53] (by decide +kernel) (by decide +kernel)) (goodIn_sub (fun _ h => List.mem_cons_of_mem _ (List.mem_append_right _ h)) (by decide +kernel))
set_option maxRecDepth 20000 in
theorem gX6_told_X5_otherEnd : GoodIn wsX6_told (wsV RX6 170 RX5 yX5_otherEnd wsX5_otherEnd) := goodIn_app (goodIn_of _ (by decide +kernel)) ggX6_told_X5_otherEnd
theorem dX6_told_0 : decode cX6_told 0 = .ok (.iload_n 2, 1) := by decide +kernel
theorem dX6_told_1 : decode cX6_told 1 = .ok (.iconst 2, 1) := by decide +kernel
theorem dX6_told_2 : decode cX6_told 2 = .ok (.invokestatic 79, 3) := by decide +kernel
theorem dX6_told_5 : decode cX6_told 5 = .ok (.aload_n 0, 1) := by decide +kernel
theorem dX6_told_6 : decode cX6_told 6 = .ok (.getfield 47, 3) := by decide +kernel
theorem dX6_told_9 : decode cX6_told 9 = .ok (.iload_n 1, 1) := by decide +kernel
theorem dX6_told_10 : decode cX6_told 10 = .ok (.aload_n 0, 1) := by decide +kernel
theorem dX6_told_11 : decode cX6_told 11 = .ok (.getfield 19, 3) := by decide +kernel
theorem dX6_told_14 : decode cX6_told 14 = .ok (.invokevirtual 99, 3) := by decide +kernel
theorem dX6_told_17 : decode cX6_told 17 = .ok (.invokevirtual 164, 3) := by decide +kernel
theorem dX6_told_20 : decode cX6_told 20 = .ok (.istore_n 3, 1) := by decide +kernel
theorem dX6_told_21 : decode cX6_told 21 = .ok (.iload_n 3, 1) := by decide +kernel
theorem dX6_told_22 : decode cX6_told 22 = .ok (.iconst (-1), 1) := by decide +kernel
theorem dX6_told_23 : decode cX6_told 23 = .ok (.if_icmp .ne 5, 3) := by decide +kernel
theorem dX6_told_26 : decode cX6_told 26 = .ok (.iconst (-1), 1) := by decide +kernel
theorem dX6_told_27 : decode cX6_told 27 = .ok (.ireturn, 1) := by decide +kernel
theorem dX6_told_28 : decode cX6_told 28 = .ok (.iload_n 2, 1) := by decide +kernel
theorem dX6_told_29 : decode cX6_told 29 = .ok (.ifCond .ne 14, 3) := by decide +kernel
theorem dX6_told_32 : decode cX6_told 32 = .ok (.aload_n 0, 1) := by decide +kernel
theorem dX6_told_33 : decode cX6_told 33 = .ok (.getfield 19, 3) := by decide +kernel
theorem dX6_told_36 : decode cX6_told 36 = .ok (.iload_n 3, 1) := by decide +kernel
theorem dX6_told_37 : decode cX6_told 37 = .ok (.invokevirtual 167, 3) := by decide +kernel
theorem dX6_told_40 : decode cX6_told 40 = .ok (.goto 11, 3) := by decide +kernel
theorem dX6_told_43 : decode cX6_told 43 = .ok (.aload_n 0, 1) := by decide +kernel
theorem dX6_told_44 : decode cX6_told 44 = .ok (.getfield 19, 3) := by decide +kernel
theorem dX6_told_47 : decode cX6_told 47 = .ok (.iload_n 3, 1) := by decide +kernel
theorem dX6_told_48 : decode cX6_told 48 = .ok (.invokevirtual 170, 3) := by decide +kernel
theorem dX6_told_51 : decode cX6_told 51 = .ok (.ireturn, 1) := by decide +kernel
set_option maxRecDepth 20000 in
theorem ggX6_command_X3_bundleCount : GoodIn wsX6_command wsX3_bundleCount := goodIn_r _ [7, 8, 257, 258, 259, 260, 261, 262, 263] (by decide +kernel) (by decide +kernel)
set_option maxRecDepth 20000 in
theorem gX6_command_X3_bundleCount : GoodIn wsX6_command (wsV RX6 173 RX3 yX3_bundleCount wsX3_bundleCount) := goodIn_app (goodIn_of _ (by decide +kernel)) ggX6_command_X3_bundleCount
set_option maxRecDepth 20000 in
theorem ggX6_command_X6_checkIndex : GoodIn wsX6_command wsX6_checkIndex := goodIn_ca (goodIn_r _ [12, 13, 14] (by decide +kernel) (by decide +kernel)) (goodIn_sub (fun _ h => List.mem_cons_of_mem _ (List.mem_append_left _ (List.mem_append_right _ h))) (by decide +kernel))
set_option maxRecDepth 20000 in
theorem gX6_command_X6_checkIndex : GoodIn wsX6_command (va_wsS RX6 79 yX6_checkIndex wsX6_checkIndex) := goodIn_app (goodIn_of _ (by decide +kernel)) ggX6_command_X6_checkIndex
set_option maxRecDepth 20000 in
theorem ggX6_command_X6_checkNotBelowZero : GoodIn wsX6_command wsX6_checkNotBelowZero := goodIn_ca (goodIn_r _ [17, 13, 14] (by decide +kernel) (by decide +kernel)) (goodIn_sub (fun _ h => List.mem_cons_of_mem _ (List.mem_append_left _ (List.mem_append_right _ h))) (by decide +kernel))
set_option maxRecDepth 20000 in
theorem gX6_command_X6_checkNotBelowZero : GoodIn wsX6_command (va_wsS RX6 176 yX6_checkNotBelowZero wsX6_checkNotBelowZero) := goodIn_app (goodIn_of _ (by decide +kernel)) ggX6_command_X6_checkNotBelowZero
set_option maxRecDepth 20000 in
theorem ggX6_command_X6_writeBundle : GoodIn wsX6_command wsX6_writeBundle := goodIn_ca (goodIn_r _ [21, 2, 1, 22, 23, 24, 25, 26, 27, 28, 29, 30, 31, 32, 33, 34, 35, 36, 37, 38, 39, 40, 41, 42, 43, 44, 45, 46, 47, 48, 49, 50, 51, 52, 53, 54, 55, 56, 57, 58, 59, 60, 61, 62, 63, 64, 65, 66, 67, 68, 69, 70, 71, 72, 73, 74, 75, 76, 77, 78, 79, 80, 81, 82, 83, 84, 85, 86, 87, 88, 89, 90, 91, 92, 93, 94, 95, 96, 97, 98, 99, 100, 101, 102, 103, 104, 105, 106, 107, 108, 109, 6, 110, 111, 112, 113, 114, 11, 115, 116, 117, 118, 119, 120, 121, 122, 123, 124, 125, 126, 127, 128, 129, 130, 131, 132, 133, 134, 135, 136, 137, 138, 139, 140, 141, 142, 143, 144, 145, 146, 147, 148, 149, 150, 151, 152, 153, 154, 155, 156, 157, 158, 159, 160, 161, 162, 163, 164, 165, 166, 167, 168, 169, 170, 171, 172, 173, 174, 175, 176, 177, 178, 179, 180, 181, 182, 183, 184, 185, 186, 187, 188, 189, 190, 191, 192, 193, 194, 195, 196, 197, 198, 199, 200, 201, 202, 203, 204, 205, 206, 207, 208, 209, 210, 211, 212, 213, 214, 215, 216, 217, 218, 219, 220, 221, 222, 223, 224, 225, 226, 248, 249, 250, 251, 252, 253, 254, 255, 256, 264, 265, 266, 267, 268, 269, 270, 271, 272, 273, 274, 275, 276, 277, 278, 279, 257, 258, 259, 260, 261, 262, 263] (by decide +kernel) (by decide +kernel)) (goodIn_sub (fun _ h => List.mem_cons_of_mem _ (List.mem_append_right _ h)) (by decide +kernel))
set_option maxRecDepth 20000 in
theorem gX6_command_X6_writeBundle : GoodIn wsX6_command (wsV RX6 180 RX6 yX6_writeBundle wsX6_writeBundle) := goodIn_app (goodIn_of _ (by decide +kernel)) ggX6_command_X6_writeBundle
set_option maxRecDepth 20000 in
theorem ggX6_command_J4_length_8abf5 : GoodIn wsX6_command wsJ4_length_8abf5 := goodIn_r _ [230, 231, 232, 29, 233, 31, 234, 36, 270, 271, 272, 273] (by decide +kernel) (by decide +kernel)
set_option maxRecDepth 20000 in
theorem gX6_command_J4_length_8abf5 : GoodIn wsX6_command (wsV RX6 183 RJ4 yJ4_length_8abf5 wsJ4_length_8abf5) := goodIn_app (goodIn_of _ (by decide +kernel)) ggX6_command_J4_length_8abf5
set_option maxRecDepth 20000 in
theorem ggX6_command_J4_charAt_5068e : GoodIn wsX6_command wsJ4_charAt_5068e := goodIn_r _ [238, 239, 240, 29, 241, 31, 242, 44, 37, 36, 243, 75, 57, 76, 244, 178, 158, 179, 160, 180, 181, 163, 182, 245, 246, 104, 247, 168, 169, 170, 153, 154, 155, 270, 271, 272, 273] (by decide +kernel) (by decide +kernel)
set_option maxRecDepth 20000 in
theorem gX6_command_J4_charAt_5068e : GoodIn wsX6_command (wsV RX6 186 RJ4 yJ4_charAt_5068e wsJ4_charAt_5068e) := goodIn_app (goodIn_of _ (by decide +kernel)) ggX6_command_J4_charAt_5068e
theorem dX6_command_0 : decode cX6_command 0 = .ok (.iload_n 1, 1) := by decide +kernel
theorem dX6_command_1 : decode cX6_command 1 = .ok (.aload_n 0, 1) := by decide +kernel
theorem dX6_command_2 : decode cX6_command 2 = .ok (.getfield 10, 3) := by decide +kernel
theorem dX6_command_5 : decode cX6_command 5 = .ok (.invokevirtual 173, 3) := by decide +kernel
theorem dX6_command_8 : decode cX6_command 8 = .ok (.invokestatic 79, 3) := by decide +kernel
theorem dX6_command_11 : decode cX6_command 11 = .ok (.iload_n 2, 1) := by decide +kernel
theorem dX6_command_12 : decode cX6_command 12 = .ok (.invokestatic 176, 3) := by decide +kernel
theorem dX6_command_15 : decode cX6_command 15 = .ok (.aload_n 0, 1) := by decide +kernel
theorem dX6_command_16 : decode cX6_command 16 = .ok (.iload_n 1, 1) := by decide +kernel
theorem dX6_command_17 : decode cX6_command 17 = .ok (.invokevirtual 180, 3) := by decide +kernel
theorem dX6_command_20 : decode cX6_command 20 = .ok (.iload_n 2, 1) := by decide +kernel
theorem dX6_command_21 : decode cX6_command 21 = .ok (.aload_n 0, 1) := by decide +kernel
theorem dX6_command_22 : decode cX6_command 22 = .ok (.getfield 54, 3) := by decide +kernel
theorem dX6_command_25 : decode cX6_command 25 = .ok (.invokevirtual 183, 3) := by decide +kernel
theorem dX6_command_28 : decode cX6_command 28 = .ok (.if_icmp .ge 14, 3) := by decide +kernel
theorem dX6_command_31 : decode cX6_command 31 = .ok (.aload_n 0, 1) := by decide +kernel
theorem dX6_command_32 : decode cX6_command 32 = .ok (.getfield 54, 3) := by decide +kernel
theorem dX6_command_35 : decode cX6_command 35 = .ok (.iload_n 2, 1) := by decide +kernel
theorem dX6_command_36 : decode cX6_command 36 = .ok (.invokevirtual 186, 3) := by decide +kernel
theorem dX6_command_39 : decode cX6_command 39 = .ok (.goto 4, 3) := by decide +kernel
theorem dX6_command_42 : decode cX6_command 42 = .ok (.iconst (-1), 1) := by decide +kernel
theorem dX6_command_43 : decode cX6_command 43 = .ok (.ireturn, 1) := by decide +kernel
theorem dX6_checkIndex_0 : decode cX6_checkIndex 0 = .ok (.iload_n 0, 1) := by decide +kernel
theorem dX6_checkIndex_1 : decode cX6_checkIndex 1 = .ok (.ifCond .lt 8, 3) := by decide +kernel
theorem dX6_checkIndex_4 : decode cX6_checkIndex 4 = .ok (.iload_n 0, 1) := by decide +kernel
theorem dX6_checkIndex_5 : decode cX6_checkIndex 5 = .ok (.iload_n 1, 1) := by decide +kernel
theorem dX6_checkIndex_6 : decode cX6_checkIndex 6 = .ok (.if_icmp .lt 13, 3) := by decide +kernel
theorem dX6_checkIndex_9 : decode cX6_checkIndex 9 = .ok (.new 190, 3) := by decide +kernel
theorem dX6_checkIndex_12 : decode cX6_checkIndex 12 = .ok (.dup, 1) := by decide +kernel
theorem dX6_checkIndex_13 : decode cX6_checkIndex 13 = .ok (.ldc 192, 2) := by decide +kernel
theorem dX6_checkIndex_15 : decode cX6_checkIndex 15 = .ok (.invokespecial 194, 3) := by decide +kernel
theorem dX6_checkIndex_18 : decode cX6_checkIndex 18 = .ok (.athrow, 1) := by decide +kernel
theorem dX6_checkIndex_19 : decode cX6_checkIndex 19 = .ok (.return_, 1) := by decide +kernel
theorem dX6_checkNotBelowZero_0 : decode cX6_checkNotBelowZero 0 = .ok (.iload_n 0, 1) := by decide +kernel
theorem dX6_checkNotBelowZero_1 : decode cX6_checkNotBelowZero 1 = .ok (.ifCond .ge 13, 3) := by decide +kernel
theorem dX6_checkNotBelowZero_4 : decode cX6_checkNotBelowZero 4 = .ok (.new 190, 3) := by decide +kernel
theorem dX6_checkNotBelowZero_7 : decode cX6_checkNotBelowZero 7 = .ok (.dup, 1) := by decide +kernel
theorem dX6_checkNotBelowZero_8 : decode cX6_checkNotBelowZero 8 = .ok (.ldc 197, 2) := by decide +kernel
theorem dX6_checkNotBelowZero_10 : decode cX6_checkNotBelowZero 10 = .ok (.invokespecial 194, 3) := by decide +kernel
theorem dX6_checkNotBelowZero_13 : decode cX6_checkNotBelowZero 13 = .ok (.athrow, 1) := by decide +kernel
theorem dX6_checkNotBelowZero_14 : decode cX6_checkNotBelowZero 14 = .ok (.return_, 1) := by decide +kernel
theorem dX6_checkNumber_0 : decode cX6_checkNumber 0 = .ok (.lload_n 0, 1) := by decide +kernel
theorem dX6_checkNumber_1 : decode cX6_checkNumber 1 = .ok (.lload_n 2, 1) := by decide +kernel
theorem dX6_checkNumber_2 : decode cX6_checkNumber 2 = .ok (.lcmp, 1) := by decide +kernel
theorem dX6_checkNumber_3 : decode cX6_checkNumber 3 = .ok (.ifCond .lt 10, 3) := by decide +kernel
theorem dX6_checkNumber_6 : decode cX6_checkNumber 6 = .ok (.lload_n 0, 1) := by decide +kernel
theorem dX6_checkNumber_7 : decode cX6_checkNumber 7 = .ok (.lload 4, 2) := by decide +kernel
theorem dX6_checkNumber_9 : decode cX6_checkNumber 9 = .ok (.lcmp, 1) := by decide +kernel
theorem dX6_checkNumber_10 : decode cX6_checkNumber 10 = .ok (.ifCond .le 13, 3) := by decide +kernel
theorem dX6_checkNumber_13 : decode cX6_checkNumber 13 = .ok (.new 199, 3) := by decide +kernel
theorem dX6_checkNumber_16 : decode cX6_checkNumber 16 = .ok (.dup, 1) := by decide +kernel
theorem dX6_checkNumber_17 : decode cX6_checkNumber 17 = .ok (.ldc 201, 2) := by decide +kernel
theorem dX6_checkNumber_19 : decode cX6_checkNumber 19 = .ok (.invokespecial 203, 3) := by decide +kernel
theorem dX6_checkNumber_22 : decode cX6_checkNumber 22 = .ok (.athrow, 1) := by decide +kernel
theorem dX6_checkNumber_23 : decode cX6_checkNumber 23 = .ok (.return_, 1) := by decide +kernel
set_option maxRecDepth 20000 in
theorem ggX6_checkCavity_X3_nodeCount : GoodIn wsX6_checkCavity wsX3_nodeCount := goodIn_r _ [6, 7, 28, 29, 30, 31, 32, 33, 34] (by decide +kernel) (by decide +kernel)
set_option maxRecDepth 20000 in
theorem gX6_checkCavity_X3_nodeCount : GoodIn wsX6_checkCavity (wsV RX6 75 RX3 yX3_nodeCount wsX3_nodeCount) := goodIn_app (goodIn_of _ (by decide +kernel)) ggX6_checkCavity_X3_nodeCount
set_option maxRecDepth 20000 in
theorem ggX6_checkCavity_X6_checkIndex : GoodIn wsX6_checkCavity wsX6_checkIndex := goodIn_ca (goodIn_r _ [11, 12, 13] (by decide +kernel) (by decide +kernel)) (goodIn_sub (fun _ h => List.mem_cons_of_mem _ (List.mem_append_left _ (List.mem_append_right _ h))) (by decide +kernel))
set_option maxRecDepth 20000 in
theorem gX6_checkCavity_X6_checkIndex : GoodIn wsX6_checkCavity (va_wsS RX6 79 yX6_checkIndex wsX6_checkIndex) := goodIn_app (goodIn_of _ (by decide +kernel)) ggX6_checkCavity_X6_checkIndex
set_option maxRecDepth 20000 in
theorem ggX6_checkCavity_X3_cavitiesOf : GoodIn wsX6_checkCavity wsX3_cavitiesOf := goodIn_ca (goodIn_r _ [17, 18, 28, 29, 30, 31, 32, 33, 34] (by decide +kernel) (by decide +kernel)) (goodIn_sub (fun _ h => List.mem_cons_of_mem _ (List.mem_append_right _ h)) (by decide +kernel))
set_option maxRecDepth 20000 in
theorem gX6_checkCavity_X3_cavitiesOf : GoodIn wsX6_checkCavity (wsV RX6 204 RX3 yX3_cavitiesOf wsX3_cavitiesOf) := goodIn_app (goodIn_of _ (by decide +kernel)) ggX6_checkCavity_X3_cavitiesOf
theorem dX6_checkCavity_0 : decode cX6_checkCavity 0 = .ok (.iload_n 1, 1) := by decide +kernel
theorem dX6_checkCavity_1 : decode cX6_checkCavity 1 = .ok (.aload_n 0, 1) := by decide +kernel
theorem dX6_checkCavity_2 : decode cX6_checkCavity 2 = .ok (.getfield 10, 3) := by decide +kernel
theorem dX6_checkCavity_5 : decode cX6_checkCavity 5 = .ok (.invokevirtual 75, 3) := by decide +kernel
theorem dX6_checkCavity_8 : decode cX6_checkCavity 8 = .ok (.invokestatic 79, 3) := by decide +kernel
theorem dX6_checkCavity_11 : decode cX6_checkCavity 11 = .ok (.iload_n 2, 1) := by decide +kernel
theorem dX6_checkCavity_12 : decode cX6_checkCavity 12 = .ok (.aload_n 0, 1) := by decide +kernel
theorem dX6_checkCavity_13 : decode cX6_checkCavity 13 = .ok (.getfield 10, 3) := by decide +kernel
theorem dX6_checkCavity_16 : decode cX6_checkCavity 16 = .ok (.iload_n 1, 1) := by decide +kernel
theorem dX6_checkCavity_17 : decode cX6_checkCavity 17 = .ok (.invokevirtual 204, 3) := by decide +kernel
theorem dX6_checkCavity_20 : decode cX6_checkCavity 20 = .ok (.invokestatic 79, 3) := by decide +kernel
theorem dX6_checkCavity_23 : decode cX6_checkCavity 23 = .ok (.return_, 1) := by decide +kernel
theorem dX6_endOf_0 : decode cX6_endOf 0 = .ok (.iload_n 0, 1) := by decide +kernel
theorem dX6_endOf_1 : decode cX6_endOf 1 = .ok (.bipush 16, 2) := by decide +kernel
theorem dX6_endOf_3 : decode cX6_endOf 3 = .ok (.imul, 1) := by decide +kernel
theorem dX6_endOf_4 : decode cX6_endOf 4 = .ok (.iload_n 1, 1) := by decide +kernel
theorem dX6_endOf_5 : decode cX6_endOf 5 = .ok (.iadd, 1) := by decide +kernel
theorem dX6_endOf_6 : decode cX6_endOf 6 = .ok (.ireturn, 1) := by decide +kernel
theorem dX6_nodeOf_0 : decode cX6_nodeOf 0 = .ok (.iload_n 0, 1) := by decide +kernel
theorem dX6_nodeOf_1 : decode cX6_nodeOf 1 = .ok (.bipush 16, 2) := by decide +kernel
theorem dX6_nodeOf_3 : decode cX6_nodeOf 3 = .ok (.idiv, 1) := by decide +kernel
theorem dX6_nodeOf_4 : decode cX6_nodeOf 4 = .ok (.ireturn, 1) := by decide +kernel
theorem dX6_hasBit_0 : decode cX6_hasBit 0 = .ok (.iload_n 0, 1) := by decide +kernel
theorem dX6_hasBit_1 : decode cX6_hasBit 1 = .ok (.iload_n 1, 1) := by decide +kernel
theorem dX6_hasBit_2 : decode cX6_hasBit 2 = .ok (.ishr, 1) := by decide +kernel
theorem dX6_hasBit_3 : decode cX6_hasBit 3 = .ok (.iconst 1, 1) := by decide +kernel
theorem dX6_hasBit_4 : decode cX6_hasBit 4 = .ok (.iand, 1) := by decide +kernel
theorem dX6_hasBit_5 : decode cX6_hasBit 5 = .ok (.ifCond .eq 7, 3) := by decide +kernel
theorem dX6_hasBit_8 : decode cX6_hasBit 8 = .ok (.iconst 1, 1) := by decide +kernel
theorem dX6_hasBit_9 : decode cX6_hasBit 9 = .ok (.goto 4, 3) := by decide +kernel
theorem dX6_hasBit_12 : decode cX6_hasBit 12 = .ok (.iconst 0, 1) := by decide +kernel
theorem dX6_hasBit_13 : decode cX6_hasBit 13 = .ok (.ireturn, 1) := by decide +kernel
set_option maxRecDepth 20000 in
theorem ggX6_cutLength_X5_firstEnd : GoodIn wsX6_cutLength wsX5_firstEnd := goodIn_ca (goodIn_r _ [10, 11, 36, 37, 38, 39, 40, 41] (by decide +kernel) (by decide +kernel)) (goodIn_sub (fun _ h => List.mem_cons_of_mem _ (List.mem_append_right _ h)) (by decide +kernel))
set_option maxRecDepth 20000 in
theorem gX6_cutLength_X5_firstEnd : GoodIn wsX6_cutLength (wsV RX6 167 RX5 yX5_firstEnd wsX5_firstEnd) := goodIn_app (goodIn_of _ (by decide +kernel)) ggX6_cutLength_X5_firstEnd
set_option maxRecDepth 20000 in
theorem ggX6_cutLength_X6_nodeOf : GoodIn wsX6_cutLength wsX6_nodeOf := goodIn_r _ [15] (by decide +kernel) (by decide +kernel)
set_option maxRecDepth 20000 in
theorem gX6_cutLength_X6_nodeOf : GoodIn wsX6_cutLength (va_wsS RX6 207 yX6_nodeOf wsX6_nodeOf) := goodIn_app (goodIn_of _ (by decide +kernel)) ggX6_cutLength_X6_nodeOf
set_option maxRecDepth 20000 in
theorem ggX6_cutLength_X5_otherEnd : GoodIn wsX6_cutLength wsX5_otherEnd := goodIn_ca (goodIn_r _ [19, 20, 36, 37, 38, 39, 40, 41] (by decide +kernel) (by decide +kernel)) (goodIn_sub (fun _ h => List.mem_cons_of_mem _ (List.mem_append_right _ h)) (by decide +kernel))
set_option maxRecDepth 20000 in
theorem gX6_cutLength_X5_otherEnd : GoodIn wsX6_cutLength (wsV RX6 170 RX5 yX5_otherEnd wsX5_otherEnd) := goodIn_app (goodIn_of _ (by decide +kernel)) ggX6_cutLength_X5_otherEnd
set_option maxRecDepth 20000 in
theorem ggX6_cutLength_X3_wayBetween : GoodIn wsX6_cutLength wsX3_wayBetween := goodIn_ca (goodIn_r _ [25, 26, 42, 43, 44, 45, 46, 47, 48] (by decide +kernel) (by decide +kernel)) (goodIn_sub (fun _ h => List.mem_cons_of_mem _ (List.mem_append_right _ h)) (by decide +kernel))
set_option maxRecDepth 20000 in
theorem gX6_cutLength_X3_wayBetween : GoodIn wsX6_cutLength (wsV RX6 210 RX3 yX3_wayBetween wsX3_wayBetween) := goodIn_app (goodIn_of _ (by decide +kernel)) ggX6_cutLength_X3_wayBetween
theorem dX6_cutLength_0 : decode cX6_cutLength 0 = .ok (.aload_n 0, 1) := by decide +kernel
theorem dX6_cutLength_1 : decode cX6_cutLength 1 = .ok (.getfield 10, 3) := by decide +kernel
theorem dX6_cutLength_4 : decode cX6_cutLength 4 = .ok (.aload_n 0, 1) := by decide +kernel
theorem dX6_cutLength_5 : decode cX6_cutLength 5 = .ok (.getfield 19, 3) := by decide +kernel
theorem dX6_cutLength_8 : decode cX6_cutLength 8 = .ok (.iload_n 1, 1) := by decide +kernel
theorem dX6_cutLength_9 : decode cX6_cutLength 9 = .ok (.invokevirtual 167, 3) := by decide +kernel
theorem dX6_cutLength_12 : decode cX6_cutLength 12 = .ok (.invokestatic 207, 3) := by decide +kernel
theorem dX6_cutLength_15 : decode cX6_cutLength 15 = .ok (.aload_n 0, 1) := by decide +kernel
theorem dX6_cutLength_16 : decode cX6_cutLength 16 = .ok (.getfield 19, 3) := by decide +kernel
theorem dX6_cutLength_19 : decode cX6_cutLength 19 = .ok (.iload_n 1, 1) := by decide +kernel
theorem dX6_cutLength_20 : decode cX6_cutLength 20 = .ok (.invokevirtual 170, 3) := by decide +kernel
theorem dX6_cutLength_23 : decode cX6_cutLength 23 = .ok (.invokestatic 207, 3) := by decide +kernel
theorem dX6_cutLength_26 : decode cX6_cutLength 26 = .ok (.invokevirtual 210, 3) := by decide +kernel
theorem dX6_cutLength_29 : decode cX6_cutLength 29 = .ok (.lstore_n 2, 1) := by decide +kernel
theorem dX6_cutLength_30 : decode cX6_cutLength 30 = .ok (.lload_n 2, 1) := by decide +kernel
theorem dX6_cutLength_31 : decode cX6_cutLength 31 = .ok (.ldc2_w 112, 3) := by decide +kernel
theorem dX6_cutLength_34 : decode cX6_cutLength 34 = .ok (.lcmp, 1) := by decide +kernel
theorem dX6_cutLength_35 : decode cX6_cutLength 35 = .ok (.ifCond .ne 7, 3) := by decide +kernel
theorem dX6_cutLength_38 : decode cX6_cutLength 38 = .ok (.ldc2_w 112, 3) := by decide +kernel
theorem dX6_cutLength_41 : decode cX6_cutLength 41 = .ok (.lreturn, 1) := by decide +kernel
theorem dX6_cutLength_42 : decode cX6_cutLength 42 = .ok (.lload_n 2, 1) := by decide +kernel
theorem dX6_cutLength_43 : decode cX6_cutLength 43 = .ok (.lload_n 2, 1) := by decide +kernel
theorem dX6_cutLength_44 : decode cX6_cutLength 44 = .ok (.aload_n 0, 1) := by decide +kernel
theorem dX6_cutLength_45 : decode cX6_cutLength 45 = .ok (.getfield 58, 3) := by decide +kernel
theorem dX6_cutLength_48 : decode cX6_cutLength 48 = .ok (.lmul, 1) := by decide +kernel
theorem dX6_cutLength_49 : decode cX6_cutLength 49 = .ok (.aload_n 0, 1) := by decide +kernel
theorem dX6_cutLength_50 : decode cX6_cutLength 50 = .ok (.getfield 62, 3) := by decide +kernel
theorem dX6_cutLength_53 : decode cX6_cutLength 53 = .ok (.ladd, 1) := by decide +kernel
theorem dX6_cutLength_54 : decode cX6_cutLength 54 = .ok (.lconst 1, 1) := by decide +kernel
theorem dX6_cutLength_55 : decode cX6_cutLength 55 = .ok (.lsub, 1) := by decide +kernel
theorem dX6_cutLength_56 : decode cX6_cutLength 56 = .ok (.aload_n 0, 1) := by decide +kernel
theorem dX6_cutLength_57 : decode cX6_cutLength 57 = .ok (.getfield 62, 3) := by decide +kernel
theorem dX6_cutLength_60 : decode cX6_cutLength 60 = .ok (.ldiv, 1) := by decide +kernel
theorem dX6_cutLength_61 : decode cX6_cutLength 61 = .ok (.ladd, 1) := by decide +kernel
theorem dX6_cutLength_62 : decode cX6_cutLength 62 = .ok (.lreturn, 1) := by decide +kernel
set_option maxRecDepth 20000 in
theorem ggX6_writeBundle_J4_setLength_d00df : GoodIn wsX6_writeBundle wsJ4_setLength_d00df := goodIn_r _ [7, 8, 9, 10, 11, 12, 13, 14, 15, 16, 17, 18, 19, 20, 21, 22, 23, 24, 25, 26, 27, 28, 29, 30, 31, 32, 33, 34, 35, 36, 37, 38, 39, 40, 41, 42, 43, 44, 45, 46, 47, 48, 49, 50, 51, 52, 53, 54, 55, 56, 57, 58, 59, 60, 61, 62, 63, 64, 65, 66, 67, 68, 69, 70, 71, 72, 73, 74, 75, 76, 77, 78, 79, 6, 80, 81, 82, 83, 84, 85, 86, 87, 219, 220, 221, 222, 223, 224, 225, 226, 227, 228, 229, 230, 231, 232, 233, 234] (by decide +kernel) (by decide +kernel)
set_option maxRecDepth 20000 in
theorem gX6_writeBundle_J4_setLength_d00df : GoodIn wsX6_writeBundle (wsV RX6 214 RJ4 yJ4_setLength_d00df wsJ4_setLength_d00df) := goodIn_app (goodIn_of _ (by decide +kernel)) ggX6_writeBundle_J4_setLength_d00df
set_option maxRecDepth 20000 in
theorem ggX6_writeBundle_X3_firstNode : GoodIn wsX6_writeBundle wsX3_firstNode := goodIn_ca (goodIn_r _ [92, 93, 235, 236, 237, 238, 239, 240, 241] (by decide +kernel) (by decide +kernel)) (goodIn_sub (fun _ h => List.mem_cons_of_mem _ (List.mem_append_right _ h)) (by decide +kernel))
set_option maxRecDepth 20000 in
theorem gX6_writeBundle_X3_firstNode : GoodIn wsX6_writeBundle (wsV RX6 217 RX3 yX3_firstNode wsX3_firstNode) := goodIn_app (goodIn_of _ (by decide +kernel)) ggX6_writeBundle_X3_firstNode
set_option maxRecDepth 20000 in
theorem ggX6_writeBundle_X6_writeNode : GoodIn wsX6_writeBundle wsX6_writeNode := goodIn_ca (goodIn_r _ [98, 1, 2, 99, 100, 101, 91, 102, 103, 104, 105, 106, 6, 107, 108, 109, 10, 110, 12, 111, 17, 18, 20, 21, 22, 23, 24, 25, 26, 27, 28, 29, 30, 31, 32, 33, 34, 35, 36, 37, 38, 39, 40, 41, 42, 43, 44, 45, 46, 47, 48, 49, 50, 51, 52, 53, 54, 55, 56, 57, 58, 59, 60, 61, 62, 63, 64, 65, 66, 67, 112, 113, 70, 114, 115, 116, 117, 118, 119, 120, 121, 85, 122, 123, 124, 125, 126, 127, 128, 129, 130, 131, 132, 133, 134, 135, 136, 137, 138, 139, 140, 141, 142, 143, 144, 145, 146, 147, 148, 149, 150, 151, 152, 153, 154, 155, 156, 157, 158, 159, 160, 161, 162, 163, 164, 165, 166, 167, 168, 169, 170, 171, 172, 173, 174, 175, 176, 177, 178, 179, 180, 181, 182, 183, 184, 185, 186, 187, 188, 189, 190, 191, 192, 193, 194, 195, 196, 197, 198, 199, 210, 211, 212, 213, 214, 215, 216, 217, 218, 235, 236, 237, 238, 239, 240, 241, 225, 226, 227, 228] (by decide +kernel) (by decide +kernel)) (goodIn_sub (fun _ h => List.mem_cons_of_mem _ (List.mem_append_right _ h)) (by decide +kernel))
set_option maxRecDepth 20000 in
theorem gX6_writeBundle_X6_writeNode : GoodIn wsX6_writeBundle (wsV RX6 220 RX6 yX6_writeNode wsX6_writeNode) := goodIn_app (goodIn_of _ (by decide +kernel)) ggX6_writeBundle_X6_writeNode
set_option maxRecDepth 20000 in
theorem ggX6_writeBundle_J4_append_cf468 : GoodIn wsX6_writeBundle wsJ4_append_cf468 := goodIn_r _ [107, 108, 109, 10, 110, 12, 111, 17, 18, 20, 21, 22, 23, 24, 25, 26, 27, 28, 29, 30, 31, 32, 33, 34, 35, 36, 37, 38, 39, 40, 41, 42, 43, 44, 45, 46, 47, 48, 49, 50, 51, 52, 53, 54, 55, 56, 57, 58, 59, 60, 61, 62, 63, 64, 65, 66, 67, 112, 113, 70, 114, 115, 116, 117, 118, 119, 120, 121, 85, 122, 123, 124, 125, 126, 127, 128, 129, 130, 131, 132, 133, 134, 135, 136, 137, 138, 139, 140, 141, 142, 143, 144, 145, 146, 147, 148, 149, 150, 151, 152, 153, 154, 155, 156, 157, 158, 159, 160, 161, 162, 163, 164, 165, 225, 226, 227, 228] (by decide +kernel) (by decide +kernel)
set_option maxRecDepth 20000 in
theorem gX6_writeBundle_J4_append_cf468 : GoodIn wsX6_writeBundle (wsV RX6 223 RJ4 yJ4_append_cf468 wsJ4_append_cf468) := goodIn_app (goodIn_of _ (by decide +kernel)) ggX6_writeBundle_J4_append_cf468
set_option maxRecDepth 20000 in
theorem ggX6_writeBundle_X3_otherNode : GoodIn wsX6_writeBundle wsX3_otherNode := goodIn_ca (goodIn_r _ [203, 204, 235, 236, 237, 238, 239, 240, 241] (by decide +kernel) (by decide +kernel)) (goodIn_sub (fun _ h => List.mem_cons_of_mem _ (List.mem_append_right _ h)) (by decide +kernel))
set_option maxRecDepth 20000 in
theorem gX6_writeBundle_X3_otherNode : GoodIn wsX6_writeBundle (wsV RX6 227 RX3 yX3_otherNode wsX3_otherNode) := goodIn_app (goodIn_of _ (by decide +kernel)) ggX6_writeBundle_X3_otherNode
set_option maxRecDepth 20000 in
theorem ggX6_writeBundle_X3_bundleLength : GoodIn wsX6_writeBundle wsX3_bundleLength := goodIn_ca (goodIn_r _ [208, 209, 235, 236, 237, 238, 239, 240, 241] (by decide +kernel) (by decide +kernel)) (goodIn_sub (fun _ h => List.mem_cons_of_mem _ (List.mem_append_right _ h)) (by decide +kernel))
set_option maxRecDepth 20000 in
theorem gX6_writeBundle_X3_bundleLength : GoodIn wsX6_writeBundle (wsV RX6 230 RX3 yX3_bundleLength wsX3_bundleLength) := goodIn_app (goodIn_of _ (by decide +kernel)) ggX6_writeBundle_X3_bundleLength
set_option maxRecDepth 20000 in
theorem ggX6_writeBundle_J4_append_bf812 : GoodIn wsX6_writeBundle wsJ4_append_bf812 := goodIn_r _ [169, 170, 171, 10, 172, 12, 173, 17, 18, 174, 175, 176, 177, 20, 21, 22, 23, 24, 25, 26, 27, 28, 29, 30, 31, 32, 33, 34, 35, 36, 37, 38, 39, 40, 41, 42, 43, 44, 45, 46, 47, 48, 49, 50, 51, 52, 53, 54, 55, 56, 57, 58, 59, 60, 61, 62, 63, 64, 65, 66, 67, 178, 179, 180, 181, 182, 183, 184, 85, 185, 151, 186, 187, 188, 136, 137, 138, 189, 190, 141, 191, 143, 192, 193, 146, 194, 195, 196, 197, 198, 199, 148, 149, 150, 152, 153, 225, 226, 227, 228] (by decide +kernel) (by decide +kernel)
set_option maxRecDepth 20000 in
theorem gX6_writeBundle_J4_append_bf812 : GoodIn wsX6_writeBundle (wsV RX6 233 RJ4 yJ4_append_bf812 wsJ4_append_bf812) := goodIn_app (goodIn_of _ (by decide +kernel)) ggX6_writeBundle_J4_append_bf812
theorem dX6_writeBundle_0 : decode cX6_writeBundle 0 = .ok (.aload_n 0, 1) := by decide +kernel
theorem dX6_writeBundle_1 : decode cX6_writeBundle 1 = .ok (.getfield 54, 3) := by decide +kernel
theorem dX6_writeBundle_4 : decode cX6_writeBundle 4 = .ok (.iconst 0, 1) := by decide +kernel
theorem dX6_writeBundle_5 : decode cX6_writeBundle 5 = .ok (.invokevirtual 214, 3) := by decide +kernel
theorem dX6_writeBundle_8 : decode cX6_writeBundle 8 = .ok (.aload_n 0, 1) := by decide +kernel
theorem dX6_writeBundle_9 : decode cX6_writeBundle 9 = .ok (.aload_n 0, 1) := by decide +kernel
theorem dX6_writeBundle_10 : decode cX6_writeBundle 10 = .ok (.getfield 10, 3) := by decide +kernel
theorem dX6_writeBundle_13 : decode cX6_writeBundle 13 = .ok (.iload_n 1, 1) := by decide +kernel
theorem dX6_writeBundle_14 : decode cX6_writeBundle 14 = .ok (.invokevirtual 217, 3) := by decide +kernel
theorem dX6_writeBundle_17 : decode cX6_writeBundle 17 = .ok (.invokevirtual 220, 3) := by decide +kernel
theorem dX6_writeBundle_20 : decode cX6_writeBundle 20 = .ok (.aload_n 0, 1) := by decide +kernel
theorem dX6_writeBundle_21 : decode cX6_writeBundle 21 = .ok (.getfield 54, 3) := by decide +kernel
theorem dX6_writeBundle_24 : decode cX6_writeBundle 24 = .ok (.bipush 45, 2) := by decide +kernel
theorem dX6_writeBundle_26 : decode cX6_writeBundle 26 = .ok (.invokevirtual 223, 3) := by decide +kernel
theorem dX6_writeBundle_29 : decode cX6_writeBundle 29 = .ok (.pop, 1) := by decide +kernel
theorem dX6_writeBundle_30 : decode cX6_writeBundle 30 = .ok (.aload_n 0, 1) := by decide +kernel
theorem dX6_writeBundle_31 : decode cX6_writeBundle 31 = .ok (.aload_n 0, 1) := by decide +kernel
theorem dX6_writeBundle_32 : decode cX6_writeBundle 32 = .ok (.getfield 10, 3) := by decide +kernel
theorem dX6_writeBundle_35 : decode cX6_writeBundle 35 = .ok (.iload_n 1, 1) := by decide +kernel
theorem dX6_writeBundle_36 : decode cX6_writeBundle 36 = .ok (.invokevirtual 227, 3) := by decide +kernel
theorem dX6_writeBundle_39 : decode cX6_writeBundle 39 = .ok (.invokevirtual 220, 3) := by decide +kernel
theorem dX6_writeBundle_42 : decode cX6_writeBundle 42 = .ok (.aload_n 0, 1) := by decide +kernel
theorem dX6_writeBundle_43 : decode cX6_writeBundle 43 = .ok (.getfield 54, 3) := by decide +kernel
theorem dX6_writeBundle_46 : decode cX6_writeBundle 46 = .ok (.bipush 32, 2) := by decide +kernel
theorem dX6_writeBundle_48 : decode cX6_writeBundle 48 = .ok (.invokevirtual 223, 3) := by decide +kernel
theorem dX6_writeBundle_51 : decode cX6_writeBundle 51 = .ok (.pop, 1) := by decide +kernel
theorem dX6_writeBundle_52 : decode cX6_writeBundle 52 = .ok (.aload_n 0, 1) := by decide +kernel
theorem dX6_writeBundle_53 : decode cX6_writeBundle 53 = .ok (.getfield 54, 3) := by decide +kernel
theorem dX6_writeBundle_56 : decode cX6_writeBundle 56 = .ok (.aload_n 0, 1) := by decide +kernel
theorem dX6_writeBundle_57 : decode cX6_writeBundle 57 = .ok (.getfield 10, 3) := by decide +kernel
theorem dX6_writeBundle_60 : decode cX6_writeBundle 60 = .ok (.iload_n 1, 1) := by decide +kernel
theorem dX6_writeBundle_61 : decode cX6_writeBundle 61 = .ok (.invokevirtual 230, 3) := by decide +kernel
theorem dX6_writeBundle_64 : decode cX6_writeBundle 64 = .ok (.invokevirtual 233, 3) := by decide +kernel
theorem dX6_writeBundle_67 : decode cX6_writeBundle 67 = .ok (.pop, 1) := by decide +kernel
theorem dX6_writeBundle_68 : decode cX6_writeBundle 68 = .ok (.return_, 1) := by decide +kernel
set_option maxRecDepth 20000 in
theorem ggX6_writeNode_X3_cavitiesOf : GoodIn wsX6_writeNode wsX3_cavitiesOf := goodIn_ca (goodIn_r _ [7, 8, 169, 170, 171, 172, 173, 174, 175] (by decide +kernel) (by decide +kernel)) (goodIn_sub (fun _ h => List.mem_cons_of_mem _ (List.mem_append_right _ h)) (by decide +kernel))
set_option maxRecDepth 20000 in
theorem gX6_writeNode_X3_cavitiesOf : GoodIn wsX6_writeNode (wsV RX6 204 RX3 yX3_cavitiesOf wsX3_cavitiesOf) := goodIn_app (goodIn_of _ (by decide +kernel)) ggX6_writeNode_X3_cavitiesOf
set_option maxRecDepth 20000 in
theorem ggX6_writeNode_J4_append_cf468 : GoodIn wsX6_writeNode wsJ4_append_cf468 := goodIn_r _ [13, 14, 15, 16, 17, 18, 19, 20, 21, 22, 23, 24, 25, 26, 27, 28, 29, 30, 31, 32, 33, 34, 35, 36, 37, 38, 39, 40, 41, 42, 43, 44, 45, 46, 47, 48, 49, 50, 51, 52, 53, 54, 55, 56, 57, 58, 59, 60, 61, 62, 63, 64, 65, 66, 67, 68, 69, 70, 71, 72, 73, 74, 75, 76, 77, 78, 79, 80, 81, 82, 83, 84, 85, 86, 87, 88, 89, 90, 91, 92, 93, 94, 95, 96, 97, 98, 99, 100, 101, 102, 103, 104, 105, 106, 107, 108, 109, 110, 111, 112, 113, 114, 115, 116, 117, 118, 119, 120, 121, 122, 123, 124, 125, 176, 177, 178, 179] (by decide +kernel) (by decide +kernel)
set_option maxRecDepth 20000 in
theorem gX6_writeNode_J4_append_cf468 : GoodIn wsX6_writeNode (wsV RX6 223 RJ4 yJ4_append_cf468 wsJ4_append_cf468) := goodIn_app (goodIn_of _ (by decide +kernel)) ggX6_writeNode_J4_append_cf468
set_option maxRecDepth 20000 in
theorem ggX6_writeNode_J4_append_bf812 : GoodIn wsX6_writeNode wsJ4_append_bf812 := goodIn_r _ [129, 130, 131, 16, 132, 18, 133, 20, 21, 134, 135, 136, 137, 22, 23, 24, 25, 26, 27, 28, 29, 30, 31, 32, 33, 34, 35, 36, 37, 38, 39, 40, 41, 42, 43, 44, 45, 46, 47, 48, 49, 50, 51, 52, 53, 54, 55, 56, 57, 58, 59, 60, 61, 62, 63, 64, 65, 66, 67, 68, 69, 138, 139, 140, 141, 142, 143, 144, 81, 145, 111, 146, 147, 148, 96, 97, 98, 149, 150, 101, 151, 103, 152, 153, 106, 154, 155, 156, 157, 158, 159, 108, 109, 110, 112, 113, 176, 177, 178, 179] (by decide +kernel) (by decide +kernel)
set_option maxRecDepth 20000 in
theorem gX6_writeNode_J4_append_bf812 : GoodIn wsX6_writeNode (wsV RX6 233 RJ4 yJ4_append_bf812 wsJ4_append_bf812) := goodIn_app (goodIn_of _ (by decide +kernel)) ggX6_writeNode_J4_append_bf812
theorem dX6_writeNode_0 : decode cX6_writeNode 0 = .ok (.aload_n 0, 1) := by decide +kernel
theorem dX6_writeNode_1 : decode cX6_writeNode 1 = .ok (.getfield 54, 3) := by decide +kernel
theorem dX6_writeNode_4 : decode cX6_writeNode 4 = .ok (.aload_n 0, 1) := by decide +kernel
theorem dX6_writeNode_5 : decode cX6_writeNode 5 = .ok (.getfield 10, 3) := by decide +kernel
theorem dX6_writeNode_8 : decode cX6_writeNode 8 = .ok (.iload_n 1, 1) := by decide +kernel
theorem dX6_writeNode_9 : decode cX6_writeNode 9 = .ok (.invokevirtual 204, 3) := by decide +kernel
theorem dX6_writeNode_12 : decode cX6_writeNode 12 = .ok (.ifCond .le 8, 3) := by decide +kernel
theorem dX6_writeNode_15 : decode cX6_writeNode 15 = .ok (.bipush 67, 2) := by decide +kernel
theorem dX6_writeNode_17 : decode cX6_writeNode 17 = .ok (.goto 5, 3) := by decide +kernel
theorem dX6_writeNode_20 : decode cX6_writeNode 20 = .ok (.bipush 78, 2) := by decide +kernel
theorem dX6_writeNode_22 : decode cX6_writeNode 22 = .ok (.invokevirtual 223, 3) := by decide +kernel
theorem dX6_writeNode_25 : decode cX6_writeNode 25 = .ok (.pop, 1) := by decide +kernel
theorem dX6_writeNode_26 : decode cX6_writeNode 26 = .ok (.aload_n 0, 1) := by decide +kernel
theorem dX6_writeNode_27 : decode cX6_writeNode 27 = .ok (.getfield 54, 3) := by decide +kernel
theorem dX6_writeNode_30 : decode cX6_writeNode 30 = .ok (.iload_n 1, 1) := by decide +kernel
theorem dX6_writeNode_31 : decode cX6_writeNode 31 = .ok (.invokevirtual 233, 3) := by decide +kernel
theorem dX6_writeNode_34 : decode cX6_writeNode 34 = .ok (.pop, 1) := by decide +kernel
theorem dX6_writeNode_35 : decode cX6_writeNode 35 = .ok (.return_, 1) := by decide +kernel
