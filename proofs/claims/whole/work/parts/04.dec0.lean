theorem dX0_init_0 : decode cX0_init 0 = .ok (.aload_n 0, 1) := by decide +kernel
theorem dX0_init_1 : decode cX0_init 1 = .ok (.invokespecial 3, 3) := by decide +kernel
theorem dX0_init_4 : decode cX0_init 4 = .ok (.aload_n 0, 1) := by decide +kernel
theorem dX0_init_5 : decode cX0_init 5 = .ok (.sipush 200, 3) := by decide +kernel
theorem dX0_init_8 : decode cX0_init 8 = .ok (.newarray .int, 2) := by decide +kernel
theorem dX0_init_10 : decode cX0_init 10 = .ok (.putfield 9, 3) := by decide +kernel
theorem dX0_init_13 : decode cX0_init 13 = .ok (.aload_n 0, 1) := by decide +kernel
theorem dX0_init_14 : decode cX0_init 14 = .ok (.iconst 5, 1) := by decide +kernel
theorem dX0_init_15 : decode cX0_init 15 = .ok (.bipush 13, 2) := by decide +kernel
theorem dX0_init_17 : decode cX0_init 17 = .ok (.multianewarray 15 2, 4) := by decide +kernel
theorem dX0_init_21 : decode cX0_init 21 = .ok (.putfield 17, 3) := by decide +kernel
theorem dX0_init_24 : decode cX0_init 24 = .ok (.aload_n 0, 1) := by decide +kernel
theorem dX0_init_25 : decode cX0_init 25 = .ok (.iconst 5, 1) := by decide +kernel
theorem dX0_init_26 : decode cX0_init 26 = .ok (.newarray .int, 2) := by decide +kernel
theorem dX0_init_28 : decode cX0_init 28 = .ok (.putfield 20, 3) := by decide +kernel
theorem dX0_init_31 : decode cX0_init 31 = .ok (.aload_n 0, 1) := by decide +kernel
theorem dX0_init_32 : decode cX0_init 32 = .ok (.bipush 13, 2) := by decide +kernel
theorem dX0_init_34 : decode cX0_init 34 = .ok (.newarray .int, 2) := by decide +kernel
theorem dX0_init_36 : decode cX0_init 36 = .ok (.putfield 23, 3) := by decide +kernel
theorem dX0_init_39 : decode cX0_init 39 = .ok (.aload_n 0, 1) := by decide +kernel
theorem dX0_init_40 : decode cX0_init 40 = .ok (.aload_n 1, 1) := by decide +kernel
theorem dX0_init_41 : decode cX0_init 41 = .ok (.putfield 26, 3) := by decide +kernel
theorem dX0_init_44 : decode cX0_init 44 = .ok (.return_, 1) := by decide +kernel
set_option maxRecDepth 20000 in
theorem ggX0_listen_X7_election : GoodIn wsX0_listen wsX7_election := goodIn_r _ [8, 9, 10, 11, 12, 7, 13, 14, 15, 16, 17, 18, 19, 20, 21, 22, 154, 155, 156, 157, 158, 159] (by decide +kernel) (by decide +kernel)
set_option maxRecDepth 20000 in
theorem gX0_listen_X7_election : GoodIn wsX0_listen (wsV RX0 41 RX7 yX7_election wsX7_election) := goodIn_app (goodIn_of _ (by decide +kernel)) ggX0_listen_X7_election
set_option maxRecDepth 20000 in
theorem ggX0_listen_X0_listenAs : GoodIn wsX0_listen wsX0_listenAs := goodIn_r _ [27, 28, 1, 2, 3, 29, 30, 31, 32, 26, 33, 34, 35, 36, 37, 38, 39, 40, 41, 42, 43, 44, 45, 46, 47, 48, 49, 50, 51, 52, 53, 54, 55, 56, 57, 58, 59, 60, 61, 62, 63, 64, 65, 66, 67, 68, 69, 70, 71, 7, 72, 14, 73, 74, 75, 76, 77, 78, 79, 80, 81, 82, 83, 84, 85, 86, 87, 88, 89, 90, 91, 92, 93, 94, 95, 96, 97, 98, 99, 100, 101, 102, 103, 104, 105, 106, 107, 108, 109, 110, 111, 112, 113, 114, 115, 116, 117, 118, 119, 120, 121, 16, 17, 18, 122, 123, 124, 125, 126, 127, 128, 129, 130, 131, 132, 133, 134, 135, 136, 137, 138, 139, 140, 141, 142, 143, 144, 145, 146, 147, 148, 149, 150, 151, 152, 153, 154, 155, 156, 157, 158, 159, 160, 161, 162, 163, 164] (by decide +kernel) (by decide +kernel)
set_option maxRecDepth 20000 in
theorem gX0_listen_X0_listenAs : GoodIn wsX0_listen (wsV RX0 45 RX0 yX0_listenAs wsX0_listenAs) := goodIn_app (goodIn_of _ (by decide +kernel)) ggX0_listen_X0_listenAs
theorem dX0_listen_0 : decode cX0_listen 0 = .ok (.aload_n 0, 1) := by decide +kernel
theorem dX0_listen_1 : decode cX0_listen 1 = .ok (.getfield 26, 3) := by decide +kernel
theorem dX0_listen_4 : decode cX0_listen 4 = .ok (.getfield 30, 3) := by decide +kernel
theorem dX0_listen_7 : decode cX0_listen 7 = .ok (.iload_n 1, 1) := by decide +kernel
theorem dX0_listen_8 : decode cX0_listen 8 = .ok (.aaload, 1) := by decide +kernel
theorem dX0_listen_9 : decode cX0_listen 9 = .ok (.getfield 36, 3) := by decide +kernel
theorem dX0_listen_12 : decode cX0_listen 12 = .ok (.astore_n 2, 1) := by decide +kernel
theorem dX0_listen_13 : decode cX0_listen 13 = .ok (.aload_n 0, 1) := by decide +kernel
theorem dX0_listen_14 : decode cX0_listen 14 = .ok (.iload_n 1, 1) := by decide +kernel
theorem dX0_listen_15 : decode cX0_listen 15 = .ok (.aload_n 2, 1) := by decide +kernel
theorem dX0_listen_16 : decode cX0_listen 16 = .ok (.iconst 2, 1) := by decide +kernel
theorem dX0_listen_17 : decode cX0_listen 17 = .ok (.iaload, 1) := by decide +kernel
theorem dX0_listen_18 : decode cX0_listen 18 = .ok (.aload_n 2, 1) := by decide +kernel
theorem dX0_listen_19 : decode cX0_listen 19 = .ok (.iconst 3, 1) := by decide +kernel
theorem dX0_listen_20 : decode cX0_listen 20 = .ok (.iaload, 1) := by decide +kernel
theorem dX0_listen_21 : decode cX0_listen 21 = .ok (.aload_n 0, 1) := by decide +kernel
theorem dX0_listen_22 : decode cX0_listen 22 = .ok (.getfield 26, 3) := by decide +kernel
theorem dX0_listen_25 : decode cX0_listen 25 = .ok (.iconst (-1), 1) := by decide +kernel
theorem dX0_listen_26 : decode cX0_listen 26 = .ok (.iconst 0, 1) := by decide +kernel
theorem dX0_listen_27 : decode cX0_listen 27 = .ok (.invokevirtual 41, 3) := by decide +kernel
theorem dX0_listen_30 : decode cX0_listen 30 = .ok (.invokevirtual 45, 3) := by decide +kernel
theorem dX0_listen_33 : decode cX0_listen 33 = .ok (.return_, 1) := by decide +kernel
set_option maxRecDepth 20000 in
theorem ggX0_listenAs_X0_hear : GoodIn wsX0_listenAs wsX0_hear := goodIn_r _ [10, 11, 12, 2, 13, 14, 15, 16, 9, 17, 4, 18, 19, 20, 21, 22, 1, 23, 24, 25, 26, 27, 28, 29, 30, 31, 32, 33, 34, 35, 36, 37, 38, 39, 40, 41, 42, 43, 44, 45, 46, 47, 48, 49, 50, 51, 52, 53, 54, 55, 56, 57, 58, 59, 60, 61, 62, 63, 64, 65, 66, 67, 68, 69, 70, 71, 72, 73, 74, 75, 76, 77, 78, 79, 80, 81, 82, 83, 84, 85, 86, 87, 88, 89, 90, 91, 5, 92, 93, 94, 95, 96, 97, 98, 99, 100, 101, 102, 103, 104, 105, 106, 107, 108, 109, 110, 111, 112, 113, 114, 115, 116, 117, 118, 119, 120, 121, 122, 123, 124, 125, 126, 127, 128, 129, 130, 131, 132, 133, 134, 135, 136, 137, 138, 139, 140, 141, 142, 143, 144, 145, 146] (by decide +kernel) (by decide +kernel)
set_option maxRecDepth 20000 in
theorem gX0_listenAs_X0_hear : GoodIn wsX0_listenAs (wsV RX0 53 RX0 yX0_hear wsX0_hear) := goodIn_app (goodIn_of _ (by decide +kernel)) ggX0_listenAs_X0_hear
theorem dX0_listenAs_0 : decode cX0_listenAs 0 = .ok (.aload_n 0, 1) := by decide +kernel
theorem dX0_listenAs_1 : decode cX0_listenAs 1 = .ok (.iconst 0, 1) := by decide +kernel
theorem dX0_listenAs_2 : decode cX0_listenAs 2 = .ok (.putfield 49, 3) := by decide +kernel
theorem dX0_listenAs_5 : decode cX0_listenAs 5 = .ok (.iload_n 1, 1) := by decide +kernel
theorem dX0_listenAs_6 : decode cX0_listenAs 6 = .ok (.iconst 1, 1) := by decide +kernel
theorem dX0_listenAs_7 : decode cX0_listenAs 7 = .ok (.if_icmp .ne 48, 3) := by decide +kernel
theorem dX0_listenAs_10 : decode cX0_listenAs 10 = .ok (.aload_n 0, 1) := by decide +kernel
theorem dX0_listenAs_11 : decode cX0_listenAs 11 = .ok (.getfield 26, 3) := by decide +kernel
theorem dX0_listenAs_14 : decode cX0_listenAs 14 = .ok (.getfield 30, 3) := by decide +kernel
theorem dX0_listenAs_17 : decode cX0_listenAs 17 = .ok (.iconst 0, 1) := by decide +kernel
theorem dX0_listenAs_18 : decode cX0_listenAs 18 = .ok (.aaload, 1) := by decide +kernel
theorem dX0_listenAs_19 : decode cX0_listenAs 19 = .ok (.getfield 36, 3) := by decide +kernel
theorem dX0_listenAs_22 : decode cX0_listenAs 22 = .ok (.astore 5, 2) := by decide +kernel
theorem dX0_listenAs_24 : decode cX0_listenAs 24 = .ok (.aload_n 0, 1) := by decide +kernel
theorem dX0_listenAs_25 : decode cX0_listenAs 25 = .ok (.aload_n 0, 1) := by decide +kernel
theorem dX0_listenAs_26 : decode cX0_listenAs 26 = .ok (.getfield 26, 3) := by decide +kernel
theorem dX0_listenAs_29 : decode cX0_listenAs 29 = .ok (.getfield 30, 3) := by decide +kernel
theorem dX0_listenAs_32 : decode cX0_listenAs 32 = .ok (.iconst 0, 1) := by decide +kernel
theorem dX0_listenAs_33 : decode cX0_listenAs 33 = .ok (.aaload, 1) := by decide +kernel
theorem dX0_listenAs_34 : decode cX0_listenAs 34 = .ok (.aload 5, 2) := by decide +kernel
theorem dX0_listenAs_36 : decode cX0_listenAs 36 = .ok (.iconst 2, 1) := by decide +kernel
theorem dX0_listenAs_37 : decode cX0_listenAs 37 = .ok (.iaload, 1) := by decide +kernel
theorem dX0_listenAs_38 : decode cX0_listenAs 38 = .ok (.aload 5, 2) := by decide +kernel
theorem dX0_listenAs_40 : decode cX0_listenAs 40 = .ok (.iconst 3, 1) := by decide +kernel
theorem dX0_listenAs_41 : decode cX0_listenAs 41 = .ok (.iaload, 1) := by decide +kernel
theorem dX0_listenAs_42 : decode cX0_listenAs 42 = .ok (.iload 4, 2) := by decide +kernel
theorem dX0_listenAs_44 : decode cX0_listenAs 44 = .ok (.invokevirtual 53, 3) := by decide +kernel
theorem dX0_listenAs_47 : decode cX0_listenAs 47 = .ok (.aload_n 0, 1) := by decide +kernel
theorem dX0_listenAs_48 : decode cX0_listenAs 48 = .ok (.aload_n 0, 1) := by decide +kernel
theorem dX0_listenAs_49 : decode cX0_listenAs 49 = .ok (.getfield 57, 3) := by decide +kernel
theorem dX0_listenAs_52 : decode cX0_listenAs 52 = .ok (.putfield 49, 3) := by decide +kernel
theorem dX0_listenAs_55 : decode cX0_listenAs 55 = .ok (.aload_n 0, 1) := by decide +kernel
theorem dX0_listenAs_56 : decode cX0_listenAs 56 = .ok (.aload_n 0, 1) := by decide +kernel
theorem dX0_listenAs_57 : decode cX0_listenAs 57 = .ok (.getfield 26, 3) := by decide +kernel
theorem dX0_listenAs_60 : decode cX0_listenAs 60 = .ok (.getfield 30, 3) := by decide +kernel
theorem dX0_listenAs_63 : decode cX0_listenAs 63 = .ok (.iload_n 1, 1) := by decide +kernel
theorem dX0_listenAs_64 : decode cX0_listenAs 64 = .ok (.aaload, 1) := by decide +kernel
theorem dX0_listenAs_65 : decode cX0_listenAs 65 = .ok (.iload_n 2, 1) := by decide +kernel
theorem dX0_listenAs_66 : decode cX0_listenAs 66 = .ok (.iload_n 3, 1) := by decide +kernel
theorem dX0_listenAs_67 : decode cX0_listenAs 67 = .ok (.iload 4, 2) := by decide +kernel
theorem dX0_listenAs_69 : decode cX0_listenAs 69 = .ok (.invokevirtual 53, 3) := by decide +kernel
theorem dX0_listenAs_72 : decode cX0_listenAs 72 = .ok (.return_, 1) := by decide +kernel
set_option maxRecDepth 20000 in
theorem ggX0_hear_X0_hearChips : GoodIn wsX0_hear wsX0_hearChips := goodIn_r _ [9, 10, 2, 11, 12, 13, 14, 15, 1, 16, 17, 3, 18, 19, 20, 21, 22, 23, 24, 25, 26, 27, 28, 29, 30, 31, 32, 33, 34, 35, 36, 37, 38, 39, 40, 41, 42, 43, 44, 45, 46, 47, 48, 49, 50, 137, 138, 139, 140, 141, 119, 120, 121, 122, 123, 124, 125, 126, 127, 128, 129, 130, 131, 132, 133, 134, 135, 136] (by decide +kernel) (by decide +kernel)
set_option maxRecDepth 20000 in
theorem gX0_hear_X0_hearChips : GoodIn wsX0_hear (wsV RX0 66 RX0 yX0_hearChips wsX0_hearChips) := goodIn_app (goodIn_of _ (by decide +kernel)) ggX0_hear_X0_hearChips
set_option maxRecDepth 20000 in
theorem ggX0_hear_X0_matchAll : GoodIn wsX0_hear wsX0_matchAll := goodIn_r _ [54, 3, 55, 56, 1, 2, 57, 58, 59, 60, 61, 48, 49, 50, 62, 63, 64, 8, 65, 17, 66, 67, 68, 69, 70, 71, 72, 43, 73, 46, 47, 119, 120, 121, 122, 123, 124, 125, 126, 127, 128, 129, 130, 131, 132, 133, 134, 135, 136] (by decide +kernel) (by decide +kernel)
set_option maxRecDepth 20000 in
theorem gX0_hear_X0_matchAll : GoodIn wsX0_hear (wsV RX0 73 RX0 yX0_matchAll wsX0_matchAll) := goodIn_app (goodIn_of _ (by decide +kernel)) ggX0_hear_X0_matchAll
set_option maxRecDepth 20000 in
theorem ggX0_hear_X0_pickBests : GoodIn wsX0_hear wsX0_pickBests := goodIn_r _ [77, 3, 4, 78, 57, 55, 79, 80, 8, 81, 119, 120, 121, 122, 123, 124, 125, 126, 127, 128, 129, 130, 131, 132, 133, 134, 135, 136] (by decide +kernel) (by decide +kernel)
set_option maxRecDepth 20000 in
theorem gX0_hear_X0_pickBests : GoodIn wsX0_hear (wsV RX0 77 RX0 yX0_pickBests wsX0_pickBests) := goodIn_app (goodIn_of _ (by decide +kernel)) ggX0_hear_X0_pickBests
set_option maxRecDepth 20000 in
theorem ggX0_hear_X0_settle : GoodIn wsX0_hear wsX0_settle := goodIn_r _ [85, 86, 87, 88, 89, 3, 4, 90, 91, 92, 93, 94, 95, 96, 97, 43, 98, 45, 99, 100, 101, 102, 103, 104, 105, 106, 107, 108, 8, 109, 55, 78, 48, 49, 50, 110, 111, 112, 113, 114, 115, 116, 117, 118, 47, 119, 120, 121, 122, 123, 124, 125, 126, 127, 128, 129, 130, 131, 132, 133, 134, 135, 136] (by decide +kernel) (by decide +kernel)
set_option maxRecDepth 20000 in
theorem gX0_hear_X0_settle : GoodIn wsX0_hear (wsV RX0 80 RX0 yX0_settle wsX0_settle) := goodIn_app (goodIn_of _ (by decide +kernel)) ggX0_hear_X0_settle
theorem dX0_hear_0 : decode cX0_hear 0 = .ok (.aload_n 0, 1) := by decide +kernel
theorem dX0_hear_1 : decode cX0_hear 1 = .ok (.iload_n 2, 1) := by decide +kernel
theorem dX0_hear_2 : decode cX0_hear 2 = .ok (.putfield 60, 3) := by decide +kernel
theorem dX0_hear_5 : decode cX0_hear 5 = .ok (.aload_n 0, 1) := by decide +kernel
theorem dX0_hear_6 : decode cX0_hear 6 = .ok (.iload_n 3, 1) := by decide +kernel
theorem dX0_hear_7 : decode cX0_hear 7 = .ok (.putfield 63, 3) := by decide +kernel
theorem dX0_hear_10 : decode cX0_hear 10 = .ok (.aload_n 0, 1) := by decide +kernel
theorem dX0_hear_11 : decode cX0_hear 11 = .ok (.aload_n 1, 1) := by decide +kernel
theorem dX0_hear_12 : decode cX0_hear 12 = .ok (.iload 4, 2) := by decide +kernel
theorem dX0_hear_14 : decode cX0_hear 14 = .ok (.invokevirtual 66, 3) := by decide +kernel
theorem dX0_hear_17 : decode cX0_hear 17 = .ok (.iconst 0, 1) := by decide +kernel
theorem dX0_hear_18 : decode cX0_hear 18 = .ok (.istore 5, 2) := by decide +kernel
theorem dX0_hear_20 : decode cX0_hear 20 = .ok (.iload 5, 2) := by decide +kernel
theorem dX0_hear_22 : decode cX0_hear 22 = .ok (.aload_n 0, 1) := by decide +kernel
theorem dX0_hear_23 : decode cX0_hear 23 = .ok (.getfield 26, 3) := by decide +kernel
theorem dX0_hear_26 : decode cX0_hear 26 = .ok (.getfield 70, 3) := by decide +kernel
theorem dX0_hear_29 : decode cX0_hear 29 = .ok (.if_icmp .ge 15, 3) := by decide +kernel
theorem dX0_hear_32 : decode cX0_hear 32 = .ok (.aload_n 0, 1) := by decide +kernel
theorem dX0_hear_33 : decode cX0_hear 33 = .ok (.iload 5, 2) := by decide +kernel
theorem dX0_hear_35 : decode cX0_hear 35 = .ok (.invokevirtual 73, 3) := by decide +kernel
theorem dX0_hear_38 : decode cX0_hear 38 = .ok (.iinc 5 1, 3) := by decide +kernel
theorem dX0_hear_41 : decode cX0_hear 41 = .ok (.goto (-21), 3) := by decide +kernel
theorem dX0_hear_44 : decode cX0_hear 44 = .ok (.aload_n 0, 1) := by decide +kernel
theorem dX0_hear_45 : decode cX0_hear 45 = .ok (.invokevirtual 77, 3) := by decide +kernel
theorem dX0_hear_48 : decode cX0_hear 48 = .ok (.aload_n 0, 1) := by decide +kernel
theorem dX0_hear_49 : decode cX0_hear 49 = .ok (.invokevirtual 80, 3) := by decide +kernel
theorem dX0_hear_52 : decode cX0_hear 52 = .ok (.return_, 1) := by decide +kernel
set_option maxRecDepth 20000 in
theorem ggX0_hearChips_X1_flipsAt : GoodIn wsX0_hearChips wsX1_flipsAt := goodIn_r _ [16, 17, 18, 19, 45, 46, 47, 48, 49] (by decide +kernel) (by decide +kernel)
set_option maxRecDepth 20000 in
theorem gX0_hearChips_X1_flipsAt : GoodIn wsX0_hearChips (wsV RX0 89 RX1 yX1_flipsAt wsX1_flipsAt) := goodIn_app (goodIn_of _ (by decide +kernel)) ggX0_hearChips_X1_flipsAt
set_option maxRecDepth 20000 in
theorem ggX0_hearChips_X1_lag : GoodIn wsX0_hearChips wsX1_lag := goodIn_r _ [23, 24, 17, 19, 18, 25, 26, 27, 28, 45, 46, 47, 48, 49] (by decide +kernel) (by decide +kernel)
set_option maxRecDepth 20000 in
theorem gX0_hearChips_X1_lag : GoodIn wsX0_hearChips (wsV RX0 97 RX1 yX1_lag wsX1_lag) := goodIn_app (goodIn_of _ (by decide +kernel)) ggX0_hearChips_X1_lag
set_option maxRecDepth 20000 in
theorem ggX0_hearChips_X1_loses : GoodIn wsX0_hearChips wsX1_loses := goodIn_r _ [32, 17, 18, 19, 33, 45, 46, 47, 48, 49] (by decide +kernel) (by decide +kernel)
set_option maxRecDepth 20000 in
theorem gX0_hearChips_X1_loses : GoodIn wsX0_hearChips (wsV RX0 100 RX1 yX1_loses wsX1_loses) := goodIn_app (goodIn_of _ (by decide +kernel)) ggX0_hearChips_X1_loses
set_option maxRecDepth 20000 in
theorem ggX0_hearChips_X7_codeChip : GoodIn wsX0_hearChips wsX7_codeChip := goodIn_r _ [38, 39, 40, 41, 42, 43, 44, 62, 63, 64, 65, 66, 67] (by decide +kernel) (by decide +kernel)
set_option maxRecDepth 20000 in
theorem gX0_hearChips_X7_codeChip : GoodIn wsX0_hearChips (wsV RX0 104 RX7 yX7_codeChip wsX7_codeChip) := goodIn_app (goodIn_of _ (by decide +kernel)) ggX0_hearChips_X7_codeChip
theorem dX0_hearChips_0 : decode cX0_hearChips 0 = .ok (.aload_n 1, 1) := by decide +kernel
theorem dX0_hearChips_1 : decode cX0_hearChips 1 = .ok (.getfield 36, 3) := by decide +kernel
theorem dX0_hearChips_4 : decode cX0_hearChips 4 = .ok (.iconst 4, 1) := by decide +kernel
theorem dX0_hearChips_5 : decode cX0_hearChips 5 = .ok (.iaload, 1) := by decide +kernel
theorem dX0_hearChips_6 : decode cX0_hearChips 6 = .ok (.istore_n 3, 1) := by decide +kernel
theorem dX0_hearChips_7 : decode cX0_hearChips 7 = .ok (.aload_n 1, 1) := by decide +kernel
theorem dX0_hearChips_8 : decode cX0_hearChips 8 = .ok (.getfield 36, 3) := by decide +kernel
theorem dX0_hearChips_11 : decode cX0_hearChips 11 = .ok (.iconst 5, 1) := by decide +kernel
theorem dX0_hearChips_12 : decode cX0_hearChips 12 = .ok (.iaload, 1) := by decide +kernel
theorem dX0_hearChips_13 : decode cX0_hearChips 13 = .ok (.i2l, 1) := by decide +kernel
theorem dX0_hearChips_14 : decode cX0_hearChips 14 = .ok (.lstore 4, 2) := by decide +kernel
theorem dX0_hearChips_16 : decode cX0_hearChips 16 = .ok (.iconst 0, 1) := by decide +kernel
theorem dX0_hearChips_17 : decode cX0_hearChips 17 = .ok (.istore 6, 2) := by decide +kernel
theorem dX0_hearChips_19 : decode cX0_hearChips 19 = .ok (.iload 6, 2) := by decide +kernel
theorem dX0_hearChips_21 : decode cX0_hearChips 21 = .ok (.aload_n 0, 1) := by decide +kernel
theorem dX0_hearChips_22 : decode cX0_hearChips 22 = .ok (.getfield 63, 3) := by decide +kernel
theorem dX0_hearChips_25 : decode cX0_hearChips 25 = .ok (.if_icmp .ge 127, 3) := by decide +kernel
theorem dX0_hearChips_28 : decode cX0_hearChips 28 = .ok (.lload 4, 2) := by decide +kernel
theorem dX0_hearChips_30 : decode cX0_hearChips 30 = .ok (.ldc2_w 83, 3) := by decide +kernel
theorem dX0_hearChips_33 : decode cX0_hearChips 33 = .ok (.lmul, 1) := by decide +kernel
theorem dX0_hearChips_34 : decode cX0_hearChips 34 = .ok (.ldc2_w 85, 3) := by decide +kernel
theorem dX0_hearChips_37 : decode cX0_hearChips 37 = .ok (.ladd, 1) := by decide +kernel
theorem dX0_hearChips_38 : decode cX0_hearChips 38 = .ok (.ldc2_w 87, 3) := by decide +kernel
theorem dX0_hearChips_41 : decode cX0_hearChips 41 = .ok (.lrem, 1) := by decide +kernel
theorem dX0_hearChips_42 : decode cX0_hearChips 42 = .ok (.lstore 4, 2) := by decide +kernel
theorem dX0_hearChips_44 : decode cX0_hearChips 44 = .ok (.aload_n 1, 1) := by decide +kernel
theorem dX0_hearChips_45 : decode cX0_hearChips 45 = .ok (.iload 6, 2) := by decide +kernel
theorem dX0_hearChips_47 : decode cX0_hearChips 47 = .ok (.invokevirtual 89, 3) := by decide +kernel
theorem dX0_hearChips_50 : decode cX0_hearChips 50 = .ok (.lload 4, 2) := by decide +kernel
theorem dX0_hearChips_52 : decode cX0_hearChips 52 = .ok (.ldc2_w 93, 3) := by decide +kernel
theorem dX0_hearChips_55 : decode cX0_hearChips 55 = .ok (.ldiv, 1) := by decide +kernel
theorem dX0_hearChips_56 : decode cX0_hearChips 56 = .ok (.ldc2_w 95, 3) := by decide +kernel
theorem dX0_hearChips_59 : decode cX0_hearChips 59 = .ok (.lrem, 1) := by decide +kernel
theorem dX0_hearChips_60 : decode cX0_hearChips 60 = .ok (.iload_n 3, 1) := by decide +kernel
theorem dX0_hearChips_61 : decode cX0_hearChips 61 = .ok (.i2l, 1) := by decide +kernel
theorem dX0_hearChips_62 : decode cX0_hearChips 62 = .ok (.lcmp, 1) := by decide +kernel
theorem dX0_hearChips_63 : decode cX0_hearChips 63 = .ok (.ifCond .ge 7, 3) := by decide +kernel
theorem dX0_hearChips_66 : decode cX0_hearChips 66 = .ok (.iconst 1, 1) := by decide +kernel
theorem dX0_hearChips_67 : decode cX0_hearChips 67 = .ok (.goto 4, 3) := by decide +kernel
theorem dX0_hearChips_70 : decode cX0_hearChips 70 = .ok (.iconst 0, 1) := by decide +kernel
theorem dX0_hearChips_71 : decode cX0_hearChips 71 = .ok (.ixor, 1) := by decide +kernel
theorem dX0_hearChips_72 : decode cX0_hearChips 72 = .ok (.istore 7, 2) := by decide +kernel
theorem dX0_hearChips_74 : decode cX0_hearChips 74 = .ok (.aload_n 0, 1) := by decide +kernel
theorem dX0_hearChips_75 : decode cX0_hearChips 75 = .ok (.getfield 60, 3) := by decide +kernel
theorem dX0_hearChips_78 : decode cX0_hearChips 78 = .ok (.iload 6, 2) := by decide +kernel
theorem dX0_hearChips_80 : decode cX0_hearChips 80 = .ok (.iadd, 1) := by decide +kernel
theorem dX0_hearChips_81 : decode cX0_hearChips 81 = .ok (.istore 8, 2) := by decide +kernel
theorem dX0_hearChips_83 : decode cX0_hearChips 83 = .ok (.aload_n 0, 1) := by decide +kernel
theorem dX0_hearChips_84 : decode cX0_hearChips 84 = .ok (.getfield 49, 3) := by decide +kernel
theorem dX0_hearChips_87 : decode cX0_hearChips 87 = .ok (.iconst (-1), 1) := by decide +kernel
theorem dX0_hearChips_88 : decode cX0_hearChips 88 = .ok (.if_icmp .ne 7, 3) := by decide +kernel
theorem dX0_hearChips_91 : decode cX0_hearChips 91 = .ok (.iconst 0, 1) := by decide +kernel
theorem dX0_hearChips_92 : decode cX0_hearChips 92 = .ok (.goto 19, 3) := by decide +kernel
theorem dX0_hearChips_95 : decode cX0_hearChips 95 = .ok (.iload 8, 2) := by decide +kernel
theorem dX0_hearChips_97 : decode cX0_hearChips 97 = .ok (.aload_n 1, 1) := by decide +kernel
theorem dX0_hearChips_98 : decode cX0_hearChips 98 = .ok (.iload 6, 2) := by decide +kernel
theorem dX0_hearChips_100 : decode cX0_hearChips 100 = .ok (.iload 8, 2) := by decide +kernel
theorem dX0_hearChips_102 : decode cX0_hearChips 102 = .ok (.invokevirtual 97, 3) := by decide +kernel
theorem dX0_hearChips_105 : decode cX0_hearChips 105 = .ok (.isub, 1) := by decide +kernel
theorem dX0_hearChips_106 : decode cX0_hearChips 106 = .ok (.aload_n 0, 1) := by decide +kernel
theorem dX0_hearChips_107 : decode cX0_hearChips 107 = .ok (.getfield 49, 3) := by decide +kernel
theorem dX0_hearChips_110 : decode cX0_hearChips 110 = .ok (.isub, 1) := by decide +kernel
theorem dX0_hearChips_111 : decode cX0_hearChips 111 = .ok (.istore 9, 2) := by decide +kernel
theorem dX0_hearChips_113 : decode cX0_hearChips 113 = .ok (.aload_n 0, 1) := by decide +kernel
theorem dX0_hearChips_114 : decode cX0_hearChips 114 = .ok (.getfield 9, 3) := by decide +kernel
theorem dX0_hearChips_117 : decode cX0_hearChips 117 = .ok (.iload 6, 2) := by decide +kernel
theorem dX0_hearChips_119 : decode cX0_hearChips 119 = .ok (.aload_n 1, 1) := by decide +kernel
theorem dX0_hearChips_120 : decode cX0_hearChips 120 = .ok (.iload 6, 2) := by decide +kernel
theorem dX0_hearChips_122 : decode cX0_hearChips 122 = .ok (.invokevirtual 100, 3) := by decide +kernel
theorem dX0_hearChips_125 : decode cX0_hearChips 125 = .ok (.ifCond .eq 7, 3) := by decide +kernel
theorem dX0_hearChips_128 : decode cX0_hearChips 128 = .ok (.iconst 2, 1) := by decide +kernel
theorem dX0_hearChips_129 : decode cX0_hearChips 129 = .ok (.goto 16, 3) := by decide +kernel
theorem dX0_hearChips_132 : decode cX0_hearChips 132 = .ok (.aload_n 0, 1) := by decide +kernel
theorem dX0_hearChips_133 : decode cX0_hearChips 133 = .ok (.getfield 26, 3) := by decide +kernel
theorem dX0_hearChips_136 : decode cX0_hearChips 136 = .ok (.iload 9, 2) := by decide +kernel
theorem dX0_hearChips_138 : decode cX0_hearChips 138 = .ok (.iload_n 2, 1) := by decide +kernel
theorem dX0_hearChips_139 : decode cX0_hearChips 139 = .ok (.invokevirtual 104, 3) := by decide +kernel
theorem dX0_hearChips_142 : decode cX0_hearChips 142 = .ok (.iload 7, 2) := by decide +kernel
theorem dX0_hearChips_144 : decode cX0_hearChips 144 = .ok (.ixor, 1) := by decide +kernel
theorem dX0_hearChips_145 : decode cX0_hearChips 145 = .ok (.iastore, 1) := by decide +kernel
theorem dX0_hearChips_146 : decode cX0_hearChips 146 = .ok (.iinc 6 1, 3) := by decide +kernel
theorem dX0_hearChips_149 : decode cX0_hearChips 149 = .ok (.goto (-130), 3) := by decide +kernel
theorem dX0_hearChips_152 : decode cX0_hearChips 152 = .ok (.return_, 1) := by decide +kernel
theorem dX0_countOf_0 : decode cX0_countOf 0 = .ok (.iconst 0, 1) := by decide +kernel
theorem dX0_countOf_1 : decode cX0_countOf 1 = .ok (.istore_n 2, 1) := by decide +kernel
theorem dX0_countOf_2 : decode cX0_countOf 2 = .ok (.iconst 0, 1) := by decide +kernel
theorem dX0_countOf_3 : decode cX0_countOf 3 = .ok (.istore_n 3, 1) := by decide +kernel
theorem dX0_countOf_4 : decode cX0_countOf 4 = .ok (.iload_n 3, 1) := by decide +kernel
theorem dX0_countOf_5 : decode cX0_countOf 5 = .ok (.aload_n 0, 1) := by decide +kernel
theorem dX0_countOf_6 : decode cX0_countOf 6 = .ok (.getfield 63, 3) := by decide +kernel
theorem dX0_countOf_9 : decode cX0_countOf 9 = .ok (.if_icmp .ge 22, 3) := by decide +kernel
theorem dX0_countOf_12 : decode cX0_countOf 12 = .ok (.aload_n 0, 1) := by decide +kernel
theorem dX0_countOf_13 : decode cX0_countOf 13 = .ok (.getfield 9, 3) := by decide +kernel
theorem dX0_countOf_16 : decode cX0_countOf 16 = .ok (.iload_n 3, 1) := by decide +kernel
theorem dX0_countOf_17 : decode cX0_countOf 17 = .ok (.iaload, 1) := by decide +kernel
theorem dX0_countOf_18 : decode cX0_countOf 18 = .ok (.iload_n 1, 1) := by decide +kernel
theorem dX0_countOf_19 : decode cX0_countOf 19 = .ok (.if_icmp .ne 6, 3) := by decide +kernel
theorem dX0_countOf_22 : decode cX0_countOf 22 = .ok (.iinc 2 1, 3) := by decide +kernel
theorem dX0_countOf_25 : decode cX0_countOf 25 = .ok (.iinc 3 1, 3) := by decide +kernel
theorem dX0_countOf_28 : decode cX0_countOf 28 = .ok (.goto (-24), 3) := by decide +kernel
theorem dX0_countOf_31 : decode cX0_countOf 31 = .ok (.iload_n 2, 1) := by decide +kernel
theorem dX0_countOf_32 : decode cX0_countOf 32 = .ok (.ireturn, 1) := by decide +kernel
theorem dX0_sign_0 : decode cX0_sign 0 = .ok (.aload_n 0, 1) := by decide +kernel
theorem dX0_sign_1 : decode cX0_sign 1 = .ok (.getfield 9, 3) := by decide +kernel
theorem dX0_sign_4 : decode cX0_sign 4 = .ok (.iload_n 1, 1) := by decide +kernel
theorem dX0_sign_5 : decode cX0_sign 5 = .ok (.iaload, 1) := by decide +kernel
theorem dX0_sign_6 : decode cX0_sign 6 = .ok (.iconst 2, 1) := by decide +kernel
theorem dX0_sign_7 : decode cX0_sign 7 = .ok (.if_icmp .ne 7, 3) := by decide +kernel
theorem dX0_sign_10 : decode cX0_sign 10 = .ok (.iconst 0, 1) := by decide +kernel
theorem dX0_sign_11 : decode cX0_sign 11 = .ok (.goto 18, 3) := by decide +kernel
theorem dX0_sign_14 : decode cX0_sign 14 = .ok (.aload_n 0, 1) := by decide +kernel
theorem dX0_sign_15 : decode cX0_sign 15 = .ok (.getfield 9, 3) := by decide +kernel
theorem dX0_sign_18 : decode cX0_sign 18 = .ok (.iload_n 1, 1) := by decide +kernel
theorem dX0_sign_19 : decode cX0_sign 19 = .ok (.iaload, 1) := by decide +kernel
theorem dX0_sign_20 : decode cX0_sign 20 = .ok (.iconst 1, 1) := by decide +kernel
theorem dX0_sign_21 : decode cX0_sign 21 = .ok (.if_icmp .ne 7, 3) := by decide +kernel
theorem dX0_sign_24 : decode cX0_sign 24 = .ok (.iconst 1, 1) := by decide +kernel
theorem dX0_sign_25 : decode cX0_sign 25 = .ok (.goto 4, 3) := by decide +kernel
theorem dX0_sign_28 : decode cX0_sign 28 = .ok (.iconst (-1), 1) := by decide +kernel
theorem dX0_sign_29 : decode cX0_sign 29 = .ok (.ireturn, 1) := by decide +kernel
set_option maxRecDepth 20000 in
theorem ggX0_matchAll_J7_fill_53178 : GoodIn wsX0_matchAll wsJ7_fill_53178 := goodIn_r _ [10] (by decide +kernel) (by decide +kernel)
set_option maxRecDepth 20000 in
theorem gX0_matchAll_J7_fill_53178 : GoodIn wsX0_matchAll (va_wsS RX0 110 yJ7_fill_53178 wsJ7_fill_53178) := goodIn_app (goodIn_of _ (by decide +kernel)) ggX0_matchAll_J7_fill_53178
set_option maxRecDepth 20000 in
theorem ggX0_matchAll_X8_rest : GoodIn wsX0_matchAll wsX8_rest := goodIn_r _ [13] (by decide +kernel) (by decide +kernel)
set_option maxRecDepth 20000 in
theorem gX0_matchAll_X8_rest_n116 : GoodIn wsX0_matchAll (wsX8_rest) := ggX0_matchAll_X8_rest
set_option maxRecDepth 20000 in
theorem ggX0_matchAll_X0_sign : GoodIn wsX0_matchAll wsX0_sign := goodIn_r _ [18, 19, 31, 32, 33, 34, 35, 36, 37, 38, 39, 40, 41, 42] (by decide +kernel) (by decide +kernel)
set_option maxRecDepth 20000 in
theorem gX0_matchAll_X0_sign : GoodIn wsX0_matchAll (wsV RX0 119 RX0 yX0_sign wsX0_sign) := goodIn_app (goodIn_of _ (by decide +kernel)) ggX0_matchAll_X0_sign
set_option maxRecDepth 20000 in
theorem ggX0_matchAll_X0_addMatches : GoodIn wsX0_matchAll wsX0_addMatches := goodIn_r _ [23, 1, 2, 24, 25, 26, 27, 28, 29, 30, 11, 12, 13, 31, 32, 33, 34, 35, 36, 37, 38, 39, 40, 41, 42, 43, 44, 45, 46, 47, 48] (by decide +kernel) (by decide +kernel)
set_option maxRecDepth 20000 in
theorem gX0_matchAll_X0_addMatches : GoodIn wsX0_matchAll (wsV RX0 122 RX0 yX0_addMatches wsX0_addMatches) := goodIn_app (goodIn_of _ (by decide +kernel)) ggX0_matchAll_X0_addMatches
theorem dX0_matchAll_0 : decode cX0_matchAll 0 = .ok (.aload_n 0, 1) := by decide +kernel
theorem dX0_matchAll_1 : decode cX0_matchAll 1 = .ok (.getfield 26, 3) := by decide +kernel
theorem dX0_matchAll_4 : decode cX0_matchAll 4 = .ok (.getfield 107, 3) := by decide +kernel
theorem dX0_matchAll_7 : decode cX0_matchAll 7 = .ok (.iload_n 1, 1) := by decide +kernel
theorem dX0_matchAll_8 : decode cX0_matchAll 8 = .ok (.iaload, 1) := by decide +kernel
theorem dX0_matchAll_9 : decode cX0_matchAll 9 = .ok (.istore_n 2, 1) := by decide +kernel
theorem dX0_matchAll_10 : decode cX0_matchAll 10 = .ok (.aload_n 0, 1) := by decide +kernel
theorem dX0_matchAll_11 : decode cX0_matchAll 11 = .ok (.getfield 23, 3) := by decide +kernel
theorem dX0_matchAll_14 : decode cX0_matchAll 14 = .ok (.iconst 0, 1) := by decide +kernel
theorem dX0_matchAll_15 : decode cX0_matchAll 15 = .ok (.invokestatic 110, 3) := by decide +kernel
theorem dX0_matchAll_18 : decode cX0_matchAll 18 = .ok (.aload_n 0, 1) := by decide +kernel
theorem dX0_matchAll_19 : decode cX0_matchAll 19 = .ok (.getfield 60, 3) := by decide +kernel
theorem dX0_matchAll_22 : decode cX0_matchAll 22 = .ok (.iload_n 2, 1) := by decide +kernel
theorem dX0_matchAll_23 : decode cX0_matchAll 23 = .ok (.invokestatic 116, 3) := by decide +kernel
theorem dX0_matchAll_26 : decode cX0_matchAll 26 = .ok (.istore_n 3, 1) := by decide +kernel
theorem dX0_matchAll_27 : decode cX0_matchAll 27 = .ok (.iconst 0, 1) := by decide +kernel
theorem dX0_matchAll_28 : decode cX0_matchAll 28 = .ok (.istore 4, 2) := by decide +kernel
theorem dX0_matchAll_30 : decode cX0_matchAll 30 = .ok (.iload 4, 2) := by decide +kernel
theorem dX0_matchAll_32 : decode cX0_matchAll 32 = .ok (.aload_n 0, 1) := by decide +kernel
theorem dX0_matchAll_33 : decode cX0_matchAll 33 = .ok (.getfield 63, 3) := by decide +kernel
theorem dX0_matchAll_36 : decode cX0_matchAll 36 = .ok (.if_icmp .ge 39, 3) := by decide +kernel
theorem dX0_matchAll_39 : decode cX0_matchAll 39 = .ok (.aload_n 0, 1) := by decide +kernel
theorem dX0_matchAll_40 : decode cX0_matchAll 40 = .ok (.getfield 23, 3) := by decide +kernel
theorem dX0_matchAll_43 : decode cX0_matchAll 43 = .ok (.iload_n 3, 1) := by decide +kernel
theorem dX0_matchAll_44 : decode cX0_matchAll 44 = .ok (.dup2, 1) := by decide +kernel
theorem dX0_matchAll_45 : decode cX0_matchAll 45 = .ok (.iaload, 1) := by decide +kernel
theorem dX0_matchAll_46 : decode cX0_matchAll 46 = .ok (.aload_n 0, 1) := by decide +kernel
theorem dX0_matchAll_47 : decode cX0_matchAll 47 = .ok (.iload 4, 2) := by decide +kernel
theorem dX0_matchAll_49 : decode cX0_matchAll 49 = .ok (.invokevirtual 119, 3) := by decide +kernel
theorem dX0_matchAll_52 : decode cX0_matchAll 52 = .ok (.iadd, 1) := by decide +kernel
theorem dX0_matchAll_53 : decode cX0_matchAll 53 = .ok (.iastore, 1) := by decide +kernel
theorem dX0_matchAll_54 : decode cX0_matchAll 54 = .ok (.iload_n 3, 1) := by decide +kernel
theorem dX0_matchAll_55 : decode cX0_matchAll 55 = .ok (.iconst 1, 1) := by decide +kernel
theorem dX0_matchAll_56 : decode cX0_matchAll 56 = .ok (.iadd, 1) := by decide +kernel
theorem dX0_matchAll_57 : decode cX0_matchAll 57 = .ok (.iload_n 2, 1) := by decide +kernel
theorem dX0_matchAll_58 : decode cX0_matchAll 58 = .ok (.if_icmp .ge 9, 3) := by decide +kernel
theorem dX0_matchAll_61 : decode cX0_matchAll 61 = .ok (.iload_n 3, 1) := by decide +kernel
theorem dX0_matchAll_62 : decode cX0_matchAll 62 = .ok (.iconst 1, 1) := by decide +kernel
theorem dX0_matchAll_63 : decode cX0_matchAll 63 = .ok (.iadd, 1) := by decide +kernel
theorem dX0_matchAll_64 : decode cX0_matchAll 64 = .ok (.goto 4, 3) := by decide +kernel
theorem dX0_matchAll_67 : decode cX0_matchAll 67 = .ok (.iconst 0, 1) := by decide +kernel
theorem dX0_matchAll_68 : decode cX0_matchAll 68 = .ok (.istore_n 3, 1) := by decide +kernel
theorem dX0_matchAll_69 : decode cX0_matchAll 69 = .ok (.iinc 4 1, 3) := by decide +kernel
theorem dX0_matchAll_72 : decode cX0_matchAll 72 = .ok (.goto (-42), 3) := by decide +kernel
theorem dX0_matchAll_75 : decode cX0_matchAll 75 = .ok (.aload_n 0, 1) := by decide +kernel
theorem dX0_matchAll_76 : decode cX0_matchAll 76 = .ok (.getfield 17, 3) := by decide +kernel
theorem dX0_matchAll_79 : decode cX0_matchAll 79 = .ok (.iload_n 1, 1) := by decide +kernel
theorem dX0_matchAll_80 : decode cX0_matchAll 80 = .ok (.aaload, 1) := by decide +kernel
theorem dX0_matchAll_81 : decode cX0_matchAll 81 = .ok (.iconst 0, 1) := by decide +kernel
theorem dX0_matchAll_82 : decode cX0_matchAll 82 = .ok (.invokestatic 110, 3) := by decide +kernel
theorem dX0_matchAll_85 : decode cX0_matchAll 85 = .ok (.iconst 0, 1) := by decide +kernel
theorem dX0_matchAll_86 : decode cX0_matchAll 86 = .ok (.istore 4, 2) := by decide +kernel
theorem dX0_matchAll_88 : decode cX0_matchAll 88 = .ok (.iload 4, 2) := by decide +kernel
theorem dX0_matchAll_90 : decode cX0_matchAll 90 = .ok (.iload_n 2, 1) := by decide +kernel
theorem dX0_matchAll_91 : decode cX0_matchAll 91 = .ok (.if_icmp .ge 29, 3) := by decide +kernel
theorem dX0_matchAll_94 : decode cX0_matchAll 94 = .ok (.aload_n 0, 1) := by decide +kernel
theorem dX0_matchAll_95 : decode cX0_matchAll 95 = .ok (.aload_n 0, 1) := by decide +kernel
theorem dX0_matchAll_96 : decode cX0_matchAll 96 = .ok (.getfield 17, 3) := by decide +kernel
theorem dX0_matchAll_99 : decode cX0_matchAll 99 = .ok (.iload_n 1, 1) := by decide +kernel
theorem dX0_matchAll_100 : decode cX0_matchAll 100 = .ok (.aaload, 1) := by decide +kernel
theorem dX0_matchAll_101 : decode cX0_matchAll 101 = .ok (.iload_n 1, 1) := by decide +kernel
theorem dX0_matchAll_102 : decode cX0_matchAll 102 = .ok (.iload 4, 2) := by decide +kernel
theorem dX0_matchAll_104 : decode cX0_matchAll 104 = .ok (.aload_n 0, 1) := by decide +kernel
theorem dX0_matchAll_105 : decode cX0_matchAll 105 = .ok (.getfield 23, 3) := by decide +kernel
theorem dX0_matchAll_108 : decode cX0_matchAll 108 = .ok (.iload 4, 2) := by decide +kernel
theorem dX0_matchAll_110 : decode cX0_matchAll 110 = .ok (.iaload, 1) := by decide +kernel
theorem dX0_matchAll_111 : decode cX0_matchAll 111 = .ok (.invokevirtual 122, 3) := by decide +kernel
theorem dX0_matchAll_114 : decode cX0_matchAll 114 = .ok (.iinc 4 1, 3) := by decide +kernel
theorem dX0_matchAll_117 : decode cX0_matchAll 117 = .ok (.goto (-29), 3) := by decide +kernel
theorem dX0_matchAll_120 : decode cX0_matchAll 120 = .ok (.return_, 1) := by decide +kernel
set_option maxRecDepth 20000 in
theorem ggX0_forgetMatches_J7_fill_53178 : GoodIn wsX0_forgetMatches wsJ7_fill_53178 := goodIn_r _ [7] (by decide +kernel) (by decide +kernel)
set_option maxRecDepth 20000 in
theorem gX0_forgetMatches_J7_fill_53178 : GoodIn wsX0_forgetMatches (va_wsS RX0 110 yJ7_fill_53178 wsJ7_fill_53178) := goodIn_app (goodIn_of _ (by decide +kernel)) ggX0_forgetMatches_J7_fill_53178
theorem dX0_forgetMatches_0 : decode cX0_forgetMatches 0 = .ok (.iconst 0, 1) := by decide +kernel
theorem dX0_forgetMatches_1 : decode cX0_forgetMatches 1 = .ok (.istore_n 1, 1) := by decide +kernel
theorem dX0_forgetMatches_2 : decode cX0_forgetMatches 2 = .ok (.iload_n 1, 1) := by decide +kernel
theorem dX0_forgetMatches_3 : decode cX0_forgetMatches 3 = .ok (.aload_n 0, 1) := by decide +kernel
theorem dX0_forgetMatches_4 : decode cX0_forgetMatches 4 = .ok (.getfield 26, 3) := by decide +kernel
theorem dX0_forgetMatches_7 : decode cX0_forgetMatches 7 = .ok (.getfield 70, 3) := by decide +kernel
theorem dX0_forgetMatches_10 : decode cX0_forgetMatches 10 = .ok (.if_icmp .ge 19, 3) := by decide +kernel
theorem dX0_forgetMatches_13 : decode cX0_forgetMatches 13 = .ok (.aload_n 0, 1) := by decide +kernel
theorem dX0_forgetMatches_14 : decode cX0_forgetMatches 14 = .ok (.getfield 17, 3) := by decide +kernel
theorem dX0_forgetMatches_17 : decode cX0_forgetMatches 17 = .ok (.iload_n 1, 1) := by decide +kernel
theorem dX0_forgetMatches_18 : decode cX0_forgetMatches 18 = .ok (.aaload, 1) := by decide +kernel
theorem dX0_forgetMatches_19 : decode cX0_forgetMatches 19 = .ok (.iconst 0, 1) := by decide +kernel
theorem dX0_forgetMatches_20 : decode cX0_forgetMatches 20 = .ok (.invokestatic 110, 3) := by decide +kernel
theorem dX0_forgetMatches_23 : decode cX0_forgetMatches 23 = .ok (.iinc 1 1, 3) := by decide +kernel
theorem dX0_forgetMatches_26 : decode cX0_forgetMatches 26 = .ok (.goto (-24), 3) := by decide +kernel
theorem dX0_forgetMatches_29 : decode cX0_forgetMatches 29 = .ok (.return_, 1) := by decide +kernel
set_option maxRecDepth 20000 in
theorem ggX0_matchOne_X0_sign : GoodIn wsX0_matchOne wsX0_sign := goodIn_r _ [9, 10, 26, 27, 28, 29, 30, 31, 32, 33, 34, 35, 36, 37] (by decide +kernel) (by decide +kernel)
set_option maxRecDepth 20000 in
theorem gX0_matchOne_X0_sign : GoodIn wsX0_matchOne (wsV RX0 119 RX0 yX0_sign wsX0_sign) := goodIn_app (goodIn_of _ (by decide +kernel)) ggX0_matchOne_X0_sign
set_option maxRecDepth 20000 in
theorem ggX0_matchOne_X0_addMatches : GoodIn wsX0_matchOne wsX0_addMatches := goodIn_r _ [14, 1, 15, 16, 17, 18, 19, 20, 21, 22, 23, 24, 25, 26, 27, 28, 29, 30, 31, 32, 33, 34, 35, 36, 37, 38, 39, 40, 41, 42, 43] (by decide +kernel) (by decide +kernel)
set_option maxRecDepth 20000 in
theorem gX0_matchOne_X0_addMatches : GoodIn wsX0_matchOne (wsV RX0 122 RX0 yX0_addMatches wsX0_addMatches) := goodIn_app (goodIn_of _ (by decide +kernel)) ggX0_matchOne_X0_addMatches
theorem dX0_matchOne_0 : decode cX0_matchOne 0 = .ok (.iconst 0, 1) := by decide +kernel
theorem dX0_matchOne_1 : decode cX0_matchOne 1 = .ok (.istore_n 2, 1) := by decide +kernel
theorem dX0_matchOne_2 : decode cX0_matchOne 2 = .ok (.iload_n 2, 1) := by decide +kernel
theorem dX0_matchOne_3 : decode cX0_matchOne 3 = .ok (.aload_n 0, 1) := by decide +kernel
theorem dX0_matchOne_4 : decode cX0_matchOne 4 = .ok (.getfield 26, 3) := by decide +kernel
theorem dX0_matchOne_7 : decode cX0_matchOne 7 = .ok (.getfield 70, 3) := by decide +kernel
theorem dX0_matchOne_10 : decode cX0_matchOne 10 = .ok (.if_icmp .ge 31, 3) := by decide +kernel
theorem dX0_matchOne_13 : decode cX0_matchOne 13 = .ok (.aload_n 0, 1) := by decide +kernel
theorem dX0_matchOne_14 : decode cX0_matchOne 14 = .ok (.aload_n 0, 1) := by decide +kernel
theorem dX0_matchOne_15 : decode cX0_matchOne 15 = .ok (.getfield 17, 3) := by decide +kernel
theorem dX0_matchOne_18 : decode cX0_matchOne 18 = .ok (.iload_n 2, 1) := by decide +kernel
theorem dX0_matchOne_19 : decode cX0_matchOne 19 = .ok (.aaload, 1) := by decide +kernel
theorem dX0_matchOne_20 : decode cX0_matchOne 20 = .ok (.iload_n 2, 1) := by decide +kernel
theorem dX0_matchOne_21 : decode cX0_matchOne 21 = .ok (.aload_n 0, 1) := by decide +kernel
theorem dX0_matchOne_22 : decode cX0_matchOne 22 = .ok (.getfield 60, 3) := by decide +kernel
theorem dX0_matchOne_25 : decode cX0_matchOne 25 = .ok (.iload_n 1, 1) := by decide +kernel
theorem dX0_matchOne_26 : decode cX0_matchOne 26 = .ok (.iadd, 1) := by decide +kernel
theorem dX0_matchOne_27 : decode cX0_matchOne 27 = .ok (.aload_n 0, 1) := by decide +kernel
theorem dX0_matchOne_28 : decode cX0_matchOne 28 = .ok (.iload_n 1, 1) := by decide +kernel
theorem dX0_matchOne_29 : decode cX0_matchOne 29 = .ok (.invokevirtual 119, 3) := by decide +kernel
theorem dX0_matchOne_32 : decode cX0_matchOne 32 = .ok (.invokevirtual 122, 3) := by decide +kernel
theorem dX0_matchOne_35 : decode cX0_matchOne 35 = .ok (.iinc 2 1, 3) := by decide +kernel
theorem dX0_matchOne_38 : decode cX0_matchOne 38 = .ok (.goto (-36), 3) := by decide +kernel
theorem dX0_matchOne_41 : decode cX0_matchOne 41 = .ok (.return_, 1) := by decide +kernel
set_option maxRecDepth 20000 in
theorem ggX0_addMatches_X7_chipOf : GoodIn wsX0_addMatches wsX7_chipOf := goodIn_r _ [7, 8, 9, 10, 11, 12, 25, 26, 27, 28, 29, 30] (by decide +kernel) (by decide +kernel)
set_option maxRecDepth 20000 in
theorem gX0_addMatches_X7_chipOf : GoodIn wsX0_addMatches (wsV RX0 126 RX7 yX7_chipOf wsX7_chipOf) := goodIn_app (goodIn_of _ (by decide +kernel)) ggX0_addMatches_X7_chipOf
theorem dX0_addMatches_0 : decode cX0_addMatches 0 = .ok (.iconst 0, 1) := by decide +kernel
theorem dX0_addMatches_1 : decode cX0_addMatches 1 = .ok (.istore 5, 2) := by decide +kernel
theorem dX0_addMatches_3 : decode cX0_addMatches 3 = .ok (.iload 5, 2) := by decide +kernel
theorem dX0_addMatches_5 : decode cX0_addMatches 5 = .ok (.aload_n 0, 1) := by decide +kernel
theorem dX0_addMatches_6 : decode cX0_addMatches 6 = .ok (.getfield 26, 3) := by decide +kernel
theorem dX0_addMatches_9 : decode cX0_addMatches 9 = .ok (.getfield 107, 3) := by decide +kernel
theorem dX0_addMatches_12 : decode cX0_addMatches 12 = .ok (.iload_n 2, 1) := by decide +kernel
theorem dX0_addMatches_13 : decode cX0_addMatches 13 = .ok (.iaload, 1) := by decide +kernel
theorem dX0_addMatches_14 : decode cX0_addMatches 14 = .ok (.if_icmp .ge 40, 3) := by decide +kernel
theorem dX0_addMatches_17 : decode cX0_addMatches 17 = .ok (.aload_n 1, 1) := by decide +kernel
theorem dX0_addMatches_18 : decode cX0_addMatches 18 = .ok (.iload 5, 2) := by decide +kernel
theorem dX0_addMatches_20 : decode cX0_addMatches 20 = .ok (.dup2, 1) := by decide +kernel
theorem dX0_addMatches_21 : decode cX0_addMatches 21 = .ok (.iaload, 1) := by decide +kernel
theorem dX0_addMatches_22 : decode cX0_addMatches 22 = .ok (.aload_n 0, 1) := by decide +kernel
theorem dX0_addMatches_23 : decode cX0_addMatches 23 = .ok (.getfield 26, 3) := by decide +kernel
theorem dX0_addMatches_26 : decode cX0_addMatches 26 = .ok (.iload_n 2, 1) := by decide +kernel
theorem dX0_addMatches_27 : decode cX0_addMatches 27 = .ok (.iload_n 3, 1) := by decide +kernel
theorem dX0_addMatches_28 : decode cX0_addMatches 28 = .ok (.iload 5, 2) := by decide +kernel
theorem dX0_addMatches_30 : decode cX0_addMatches 30 = .ok (.isub, 1) := by decide +kernel
theorem dX0_addMatches_31 : decode cX0_addMatches 31 = .ok (.invokevirtual 126, 3) := by decide +kernel
theorem dX0_addMatches_34 : decode cX0_addMatches 34 = .ok (.iconst 1, 1) := by decide +kernel
theorem dX0_addMatches_35 : decode cX0_addMatches 35 = .ok (.if_icmp .ne 8, 3) := by decide +kernel
theorem dX0_addMatches_38 : decode cX0_addMatches 38 = .ok (.iload 4, 2) := by decide +kernel
theorem dX0_addMatches_40 : decode cX0_addMatches 40 = .ok (.goto 6, 3) := by decide +kernel
theorem dX0_addMatches_43 : decode cX0_addMatches 43 = .ok (.iload 4, 2) := by decide +kernel
theorem dX0_addMatches_45 : decode cX0_addMatches 45 = .ok (.ineg, 1) := by decide +kernel
theorem dX0_addMatches_46 : decode cX0_addMatches 46 = .ok (.iadd, 1) := by decide +kernel
theorem dX0_addMatches_47 : decode cX0_addMatches 47 = .ok (.iastore, 1) := by decide +kernel
theorem dX0_addMatches_48 : decode cX0_addMatches 48 = .ok (.iinc 5 1, 3) := by decide +kernel
theorem dX0_addMatches_51 : decode cX0_addMatches 51 = .ok (.goto (-48), 3) := by decide +kernel
theorem dX0_addMatches_54 : decode cX0_addMatches 54 = .ok (.return_, 1) := by decide +kernel
set_option maxRecDepth 20000 in
theorem ggX0_pickBests_X0_greatest : GoodIn wsX0_pickBests wsX0_greatest := goodIn_r _ [9] (by decide +kernel) (by decide +kernel)
set_option maxRecDepth 20000 in
theorem gX0_pickBests_X0_greatest : GoodIn wsX0_pickBests (va_wsS RX0 129 yX0_greatest wsX0_greatest) := goodIn_app (goodIn_of _ (by decide +kernel)) ggX0_pickBests_X0_greatest
theorem dX0_pickBests_0 : decode cX0_pickBests 0 = .ok (.iconst 0, 1) := by decide +kernel
theorem dX0_pickBests_1 : decode cX0_pickBests 1 = .ok (.istore_n 1, 1) := by decide +kernel
theorem dX0_pickBests_2 : decode cX0_pickBests 2 = .ok (.iload_n 1, 1) := by decide +kernel
theorem dX0_pickBests_3 : decode cX0_pickBests 3 = .ok (.aload_n 0, 1) := by decide +kernel
theorem dX0_pickBests_4 : decode cX0_pickBests 4 = .ok (.getfield 26, 3) := by decide +kernel
theorem dX0_pickBests_7 : decode cX0_pickBests 7 = .ok (.getfield 70, 3) := by decide +kernel
theorem dX0_pickBests_10 : decode cX0_pickBests 10 = .ok (.if_icmp .ge 34, 3) := by decide +kernel
theorem dX0_pickBests_13 : decode cX0_pickBests 13 = .ok (.aload_n 0, 1) := by decide +kernel
theorem dX0_pickBests_14 : decode cX0_pickBests 14 = .ok (.getfield 20, 3) := by decide +kernel
theorem dX0_pickBests_17 : decode cX0_pickBests 17 = .ok (.iload_n 1, 1) := by decide +kernel
theorem dX0_pickBests_18 : decode cX0_pickBests 18 = .ok (.aload_n 0, 1) := by decide +kernel
theorem dX0_pickBests_19 : decode cX0_pickBests 19 = .ok (.getfield 17, 3) := by decide +kernel
theorem dX0_pickBests_22 : decode cX0_pickBests 22 = .ok (.iload_n 1, 1) := by decide +kernel
theorem dX0_pickBests_23 : decode cX0_pickBests 23 = .ok (.aaload, 1) := by decide +kernel
theorem dX0_pickBests_24 : decode cX0_pickBests 24 = .ok (.aload_n 0, 1) := by decide +kernel
theorem dX0_pickBests_25 : decode cX0_pickBests 25 = .ok (.getfield 26, 3) := by decide +kernel
theorem dX0_pickBests_28 : decode cX0_pickBests 28 = .ok (.getfield 107, 3) := by decide +kernel
theorem dX0_pickBests_31 : decode cX0_pickBests 31 = .ok (.iload_n 1, 1) := by decide +kernel
theorem dX0_pickBests_32 : decode cX0_pickBests 32 = .ok (.iaload, 1) := by decide +kernel
theorem dX0_pickBests_33 : decode cX0_pickBests 33 = .ok (.iconst (-1), 1) := by decide +kernel
theorem dX0_pickBests_34 : decode cX0_pickBests 34 = .ok (.invokestatic 129, 3) := by decide +kernel
theorem dX0_pickBests_37 : decode cX0_pickBests 37 = .ok (.iastore, 1) := by decide +kernel
theorem dX0_pickBests_38 : decode cX0_pickBests 38 = .ok (.iinc 1 1, 3) := by decide +kernel
theorem dX0_pickBests_41 : decode cX0_pickBests 41 = .ok (.goto (-39), 3) := by decide +kernel
theorem dX0_pickBests_44 : decode cX0_pickBests 44 = .ok (.return_, 1) := by decide +kernel
theorem dX0_greatest_0 : decode cX0_greatest 0 = .ok (.iload_n 2, 1) := by decide +kernel
theorem dX0_greatest_1 : decode cX0_greatest 1 = .ok (.ifCond .ne 7, 3) := by decide +kernel
theorem dX0_greatest_4 : decode cX0_greatest 4 = .ok (.iconst 1, 1) := by decide +kernel
theorem dX0_greatest_5 : decode cX0_greatest 5 = .ok (.goto 4, 3) := by decide +kernel
theorem dX0_greatest_8 : decode cX0_greatest 8 = .ok (.iconst 0, 1) := by decide +kernel
theorem dX0_greatest_9 : decode cX0_greatest 9 = .ok (.istore_n 3, 1) := by decide +kernel
theorem dX0_greatest_10 : decode cX0_greatest 10 = .ok (.iload_n 3, 1) := by decide +kernel
theorem dX0_greatest_11 : decode cX0_greatest 11 = .ok (.iconst 1, 1) := by decide +kernel
theorem dX0_greatest_12 : decode cX0_greatest 12 = .ok (.iadd, 1) := by decide +kernel
theorem dX0_greatest_13 : decode cX0_greatest 13 = .ok (.istore 4, 2) := by decide +kernel
theorem dX0_greatest_15 : decode cX0_greatest 15 = .ok (.iload 4, 2) := by decide +kernel
theorem dX0_greatest_17 : decode cX0_greatest 17 = .ok (.iload_n 1, 1) := by decide +kernel
theorem dX0_greatest_18 : decode cX0_greatest 18 = .ok (.if_icmp .ge 28, 3) := by decide +kernel
theorem dX0_greatest_21 : decode cX0_greatest 21 = .ok (.iload 4, 2) := by decide +kernel
theorem dX0_greatest_23 : decode cX0_greatest 23 = .ok (.iload_n 2, 1) := by decide +kernel
theorem dX0_greatest_24 : decode cX0_greatest 24 = .ok (.if_icmp .eq 16, 3) := by decide +kernel
theorem dX0_greatest_27 : decode cX0_greatest 27 = .ok (.aload_n 0, 1) := by decide +kernel
theorem dX0_greatest_28 : decode cX0_greatest 28 = .ok (.iload 4, 2) := by decide +kernel
theorem dX0_greatest_30 : decode cX0_greatest 30 = .ok (.iaload, 1) := by decide +kernel
theorem dX0_greatest_31 : decode cX0_greatest 31 = .ok (.aload_n 0, 1) := by decide +kernel
theorem dX0_greatest_32 : decode cX0_greatest 32 = .ok (.iload_n 3, 1) := by decide +kernel
theorem dX0_greatest_33 : decode cX0_greatest 33 = .ok (.iaload, 1) := by decide +kernel
theorem dX0_greatest_34 : decode cX0_greatest 34 = .ok (.if_icmp .le 6, 3) := by decide +kernel
theorem dX0_greatest_37 : decode cX0_greatest 37 = .ok (.iload 4, 2) := by decide +kernel
theorem dX0_greatest_39 : decode cX0_greatest 39 = .ok (.istore_n 3, 1) := by decide +kernel
theorem dX0_greatest_40 : decode cX0_greatest 40 = .ok (.iinc 4 1, 3) := by decide +kernel
theorem dX0_greatest_43 : decode cX0_greatest 43 = .ok (.goto (-28), 3) := by decide +kernel
theorem dX0_greatest_46 : decode cX0_greatest 46 = .ok (.iload_n 3, 1) := by decide +kernel
theorem dX0_greatest_47 : decode cX0_greatest 47 = .ok (.ireturn, 1) := by decide +kernel
theorem dX0_bestMatch_0 : decode cX0_bestMatch 0 = .ok (.aload_n 0, 1) := by decide +kernel
theorem dX0_bestMatch_1 : decode cX0_bestMatch 1 = .ok (.getfield 17, 3) := by decide +kernel
theorem dX0_bestMatch_4 : decode cX0_bestMatch 4 = .ok (.iload_n 1, 1) := by decide +kernel
theorem dX0_bestMatch_5 : decode cX0_bestMatch 5 = .ok (.aaload, 1) := by decide +kernel
theorem dX0_bestMatch_6 : decode cX0_bestMatch 6 = .ok (.aload_n 0, 1) := by decide +kernel
theorem dX0_bestMatch_7 : decode cX0_bestMatch 7 = .ok (.getfield 20, 3) := by decide +kernel
theorem dX0_bestMatch_10 : decode cX0_bestMatch 10 = .ok (.iload_n 1, 1) := by decide +kernel
theorem dX0_bestMatch_11 : decode cX0_bestMatch 11 = .ok (.iaload, 1) := by decide +kernel
theorem dX0_bestMatch_12 : decode cX0_bestMatch 12 = .ok (.iaload, 1) := by decide +kernel
theorem dX0_bestMatch_13 : decode cX0_bestMatch 13 = .ok (.ireturn, 1) := by decide +kernel
set_option maxRecDepth 20000 in
theorem ggX0_edge_X0_greatest : GoodIn wsX0_edge wsX0_greatest := goodIn_r _ [8] (by decide +kernel) (by decide +kernel)
set_option maxRecDepth 20000 in
theorem gX0_edge_X0_greatest : GoodIn wsX0_edge (va_wsS RX0 129 yX0_greatest wsX0_greatest) := goodIn_app (goodIn_of _ (by decide +kernel)) ggX0_edge_X0_greatest
set_option maxRecDepth 20000 in
theorem ggX0_edge_X0_bestMatch : GoodIn wsX0_edge wsX0_bestMatch := goodIn_r _ [12, 1, 4, 13, 14, 15, 16, 17, 18, 19, 20, 21, 22, 23, 24] (by decide +kernel) (by decide +kernel)
set_option maxRecDepth 20000 in
theorem gX0_edge_X0_bestMatch : GoodIn wsX0_edge (wsV RX0 133 RX0 yX0_bestMatch wsX0_bestMatch) := goodIn_app (goodIn_of _ (by decide +kernel)) ggX0_edge_X0_bestMatch
theorem dX0_edge_0 : decode cX0_edge 0 = .ok (.aload_n 0, 1) := by decide +kernel
theorem dX0_edge_1 : decode cX0_edge 1 = .ok (.getfield 17, 3) := by decide +kernel
theorem dX0_edge_4 : decode cX0_edge 4 = .ok (.iload_n 1, 1) := by decide +kernel
theorem dX0_edge_5 : decode cX0_edge 5 = .ok (.aaload, 1) := by decide +kernel
theorem dX0_edge_6 : decode cX0_edge 6 = .ok (.aload_n 0, 1) := by decide +kernel
theorem dX0_edge_7 : decode cX0_edge 7 = .ok (.getfield 26, 3) := by decide +kernel
theorem dX0_edge_10 : decode cX0_edge 10 = .ok (.getfield 107, 3) := by decide +kernel
theorem dX0_edge_13 : decode cX0_edge 13 = .ok (.iload_n 1, 1) := by decide +kernel
theorem dX0_edge_14 : decode cX0_edge 14 = .ok (.iaload, 1) := by decide +kernel
theorem dX0_edge_15 : decode cX0_edge 15 = .ok (.aload_n 0, 1) := by decide +kernel
theorem dX0_edge_16 : decode cX0_edge 16 = .ok (.getfield 20, 3) := by decide +kernel
theorem dX0_edge_19 : decode cX0_edge 19 = .ok (.iload_n 1, 1) := by decide +kernel
theorem dX0_edge_20 : decode cX0_edge 20 = .ok (.iaload, 1) := by decide +kernel
theorem dX0_edge_21 : decode cX0_edge 21 = .ok (.invokestatic 129, 3) := by decide +kernel
theorem dX0_edge_24 : decode cX0_edge 24 = .ok (.istore_n 2, 1) := by decide +kernel
theorem dX0_edge_25 : decode cX0_edge 25 = .ok (.aload_n 0, 1) := by decide +kernel
theorem dX0_edge_26 : decode cX0_edge 26 = .ok (.iload_n 1, 1) := by decide +kernel
theorem dX0_edge_27 : decode cX0_edge 27 = .ok (.invokevirtual 133, 3) := by decide +kernel
theorem dX0_edge_30 : decode cX0_edge 30 = .ok (.aload_n 0, 1) := by decide +kernel
theorem dX0_edge_31 : decode cX0_edge 31 = .ok (.getfield 17, 3) := by decide +kernel
theorem dX0_edge_34 : decode cX0_edge 34 = .ok (.iload_n 1, 1) := by decide +kernel
theorem dX0_edge_35 : decode cX0_edge 35 = .ok (.aaload, 1) := by decide +kernel
theorem dX0_edge_36 : decode cX0_edge 36 = .ok (.iload_n 2, 1) := by decide +kernel
theorem dX0_edge_37 : decode cX0_edge 37 = .ok (.iaload, 1) := by decide +kernel
theorem dX0_edge_38 : decode cX0_edge 38 = .ok (.isub, 1) := by decide +kernel
theorem dX0_edge_39 : decode cX0_edge 39 = .ok (.ireturn, 1) := by decide +kernel
set_option maxRecDepth 20000 in
theorem ggX0_alike_X0_bestMatch : GoodIn wsX0_alike wsX0_bestMatch := goodIn_r _ [8, 3, 9, 10, 11, 12, 13, 14, 15, 16, 17, 18, 19, 20, 21] (by decide +kernel) (by decide +kernel)
set_option maxRecDepth 20000 in
theorem gX0_alike_X0_bestMatch : GoodIn wsX0_alike (wsV RX0 133 RX0 yX0_bestMatch wsX0_bestMatch) := goodIn_app (goodIn_of _ (by decide +kernel)) ggX0_alike_X0_bestMatch
theorem dX0_alike_0 : decode cX0_alike 0 = .ok (.iconst 0, 1) := by decide +kernel
theorem dX0_alike_1 : decode cX0_alike 1 = .ok (.istore_n 2, 1) := by decide +kernel
theorem dX0_alike_2 : decode cX0_alike 2 = .ok (.iconst 0, 1) := by decide +kernel
theorem dX0_alike_3 : decode cX0_alike 3 = .ok (.istore_n 3, 1) := by decide +kernel
theorem dX0_alike_4 : decode cX0_alike 4 = .ok (.iload_n 3, 1) := by decide +kernel
theorem dX0_alike_5 : decode cX0_alike 5 = .ok (.aload_n 0, 1) := by decide +kernel
theorem dX0_alike_6 : decode cX0_alike 6 = .ok (.getfield 26, 3) := by decide +kernel
theorem dX0_alike_9 : decode cX0_alike 9 = .ok (.getfield 107, 3) := by decide +kernel
theorem dX0_alike_12 : decode cX0_alike 12 = .ok (.iload_n 1, 1) := by decide +kernel
theorem dX0_alike_13 : decode cX0_alike 13 = .ok (.iaload, 1) := by decide +kernel
theorem dX0_alike_14 : decode cX0_alike 14 = .ok (.if_icmp .ge 28, 3) := by decide +kernel
theorem dX0_alike_17 : decode cX0_alike 17 = .ok (.aload_n 0, 1) := by decide +kernel
theorem dX0_alike_18 : decode cX0_alike 18 = .ok (.getfield 17, 3) := by decide +kernel
theorem dX0_alike_21 : decode cX0_alike 21 = .ok (.iload_n 1, 1) := by decide +kernel
theorem dX0_alike_22 : decode cX0_alike 22 = .ok (.aaload, 1) := by decide +kernel
theorem dX0_alike_23 : decode cX0_alike 23 = .ok (.iload_n 3, 1) := by decide +kernel
theorem dX0_alike_24 : decode cX0_alike 24 = .ok (.iaload, 1) := by decide +kernel
theorem dX0_alike_25 : decode cX0_alike 25 = .ok (.aload_n 0, 1) := by decide +kernel
theorem dX0_alike_26 : decode cX0_alike 26 = .ok (.iload_n 1, 1) := by decide +kernel
theorem dX0_alike_27 : decode cX0_alike 27 = .ok (.invokevirtual 133, 3) := by decide +kernel
theorem dX0_alike_30 : decode cX0_alike 30 = .ok (.if_icmp .ne 6, 3) := by decide +kernel
theorem dX0_alike_33 : decode cX0_alike 33 = .ok (.iinc 2 1, 3) := by decide +kernel
theorem dX0_alike_36 : decode cX0_alike 36 = .ok (.iinc 3 1, 3) := by decide +kernel
theorem dX0_alike_39 : decode cX0_alike 39 = .ok (.goto (-35), 3) := by decide +kernel
theorem dX0_alike_42 : decode cX0_alike 42 = .ok (.iload_n 2, 1) := by decide +kernel
theorem dX0_alike_43 : decode cX0_alike 43 = .ok (.ireturn, 1) := by decide +kernel
set_option maxRecDepth 20000 in
theorem ggX0_fewestTurns_X0_bestMatch : GoodIn wsX0_fewestTurns wsX0_bestMatch := goodIn_r _ [9, 3, 4, 27, 28, 29, 30, 31, 32, 33, 34, 35, 36, 37, 38] (by decide +kernel) (by decide +kernel)
set_option maxRecDepth 20000 in
theorem gX0_fewestTurns_X0_bestMatch : GoodIn wsX0_fewestTurns (wsV RX0 133 RX0 yX0_bestMatch wsX0_bestMatch) := goodIn_app (goodIn_of _ (by decide +kernel)) ggX0_fewestTurns_X0_bestMatch
set_option maxRecDepth 20000 in
theorem ggX0_fewestTurns_X0_forBestAlone : GoodIn wsX0_fewestTurns wsX0_forBestAlone := goodIn_r _ [13, 14, 15, 16, 1, 4, 17, 18, 19, 20, 21, 22, 23, 24, 25, 26, 27, 28, 29, 30, 31, 32, 33, 34, 35, 36, 37, 38, 39, 40, 41, 42, 43, 44] (by decide +kernel) (by decide +kernel)
set_option maxRecDepth 20000 in
theorem gX0_fewestTurns_X0_forBestAlone : GoodIn wsX0_fewestTurns (wsV RX0 136 RX0 yX0_forBestAlone wsX0_forBestAlone) := goodIn_app (goodIn_of _ (by decide +kernel)) ggX0_fewestTurns_X0_forBestAlone
theorem dX0_fewestTurns_0 : decode cX0_fewestTurns 0 = .ok (.iconst (-1), 1) := by decide +kernel
theorem dX0_fewestTurns_1 : decode cX0_fewestTurns 1 = .ok (.istore_n 2, 1) := by decide +kernel
theorem dX0_fewestTurns_2 : decode cX0_fewestTurns 2 = .ok (.iconst 0, 1) := by decide +kernel
theorem dX0_fewestTurns_3 : decode cX0_fewestTurns 3 = .ok (.istore_n 3, 1) := by decide +kernel
theorem dX0_fewestTurns_4 : decode cX0_fewestTurns 4 = .ok (.iload_n 3, 1) := by decide +kernel
theorem dX0_fewestTurns_5 : decode cX0_fewestTurns 5 = .ok (.aload_n 0, 1) := by decide +kernel
theorem dX0_fewestTurns_6 : decode cX0_fewestTurns 6 = .ok (.getfield 26, 3) := by decide +kernel
theorem dX0_fewestTurns_9 : decode cX0_fewestTurns 9 = .ok (.getfield 107, 3) := by decide +kernel
theorem dX0_fewestTurns_12 : decode cX0_fewestTurns 12 = .ok (.iload_n 1, 1) := by decide +kernel
theorem dX0_fewestTurns_13 : decode cX0_fewestTurns 13 = .ok (.iaload, 1) := by decide +kernel
theorem dX0_fewestTurns_14 : decode cX0_fewestTurns 14 = .ok (.if_icmp .ge 99, 3) := by decide +kernel
theorem dX0_fewestTurns_17 : decode cX0_fewestTurns 17 = .ok (.aload_n 0, 1) := by decide +kernel
theorem dX0_fewestTurns_18 : decode cX0_fewestTurns 18 = .ok (.iload_n 1, 1) := by decide +kernel
theorem dX0_fewestTurns_19 : decode cX0_fewestTurns 19 = .ok (.invokevirtual 133, 3) := by decide +kernel
theorem dX0_fewestTurns_22 : decode cX0_fewestTurns 22 = .ok (.aload_n 0, 1) := by decide +kernel
theorem dX0_fewestTurns_23 : decode cX0_fewestTurns 23 = .ok (.getfield 17, 3) := by decide +kernel
theorem dX0_fewestTurns_26 : decode cX0_fewestTurns 26 = .ok (.iload_n 1, 1) := by decide +kernel
theorem dX0_fewestTurns_27 : decode cX0_fewestTurns 27 = .ok (.aaload, 1) := by decide +kernel
theorem dX0_fewestTurns_28 : decode cX0_fewestTurns 28 = .ok (.iload_n 3, 1) := by decide +kernel
theorem dX0_fewestTurns_29 : decode cX0_fewestTurns 29 = .ok (.iaload, 1) := by decide +kernel
theorem dX0_fewestTurns_30 : decode cX0_fewestTurns 30 = .ok (.isub, 1) := by decide +kernel
theorem dX0_fewestTurns_31 : decode cX0_fewestTurns 31 = .ok (.istore 4, 2) := by decide +kernel
theorem dX0_fewestTurns_33 : decode cX0_fewestTurns 33 = .ok (.iload_n 3, 1) := by decide +kernel
theorem dX0_fewestTurns_34 : decode cX0_fewestTurns 34 = .ok (.aload_n 0, 1) := by decide +kernel
theorem dX0_fewestTurns_35 : decode cX0_fewestTurns 35 = .ok (.getfield 20, 3) := by decide +kernel
theorem dX0_fewestTurns_38 : decode cX0_fewestTurns 38 = .ok (.iload_n 1, 1) := by decide +kernel
theorem dX0_fewestTurns_39 : decode cX0_fewestTurns 39 = .ok (.iaload, 1) := by decide +kernel
theorem dX0_fewestTurns_40 : decode cX0_fewestTurns 40 = .ok (.if_icmp .ge 12, 3) := by decide +kernel
theorem dX0_fewestTurns_43 : decode cX0_fewestTurns 43 = .ok (.iload 4, 2) := by decide +kernel
theorem dX0_fewestTurns_45 : decode cX0_fewestTurns 45 = .ok (.iconst 3, 1) := by decide +kernel
theorem dX0_fewestTurns_46 : decode cX0_fewestTurns 46 = .ok (.iadd, 1) := by decide +kernel
theorem dX0_fewestTurns_47 : decode cX0_fewestTurns 47 = .ok (.iconst 4, 1) := by decide +kernel
theorem dX0_fewestTurns_48 : decode cX0_fewestTurns 48 = .ok (.idiv, 1) := by decide +kernel
theorem dX0_fewestTurns_49 : decode cX0_fewestTurns 49 = .ok (.goto 9, 3) := by decide +kernel
theorem dX0_fewestTurns_52 : decode cX0_fewestTurns 52 = .ok (.iload 4, 2) := by decide +kernel
theorem dX0_fewestTurns_54 : decode cX0_fewestTurns 54 = .ok (.iconst 4, 1) := by decide +kernel
theorem dX0_fewestTurns_55 : decode cX0_fewestTurns 55 = .ok (.idiv, 1) := by decide +kernel
theorem dX0_fewestTurns_56 : decode cX0_fewestTurns 56 = .ok (.iconst 1, 1) := by decide +kernel
theorem dX0_fewestTurns_57 : decode cX0_fewestTurns 57 = .ok (.iadd, 1) := by decide +kernel
theorem dX0_fewestTurns_58 : decode cX0_fewestTurns 58 = .ok (.istore 5, 2) := by decide +kernel
theorem dX0_fewestTurns_60 : decode cX0_fewestTurns 60 = .ok (.iload_n 2, 1) := by decide +kernel
theorem dX0_fewestTurns_61 : decode cX0_fewestTurns 61 = .ok (.iconst (-1), 1) := by decide +kernel
theorem dX0_fewestTurns_62 : decode cX0_fewestTurns 62 = .ok (.if_icmp .eq 9, 3) := by decide +kernel
theorem dX0_fewestTurns_65 : decode cX0_fewestTurns 65 = .ok (.iload 5, 2) := by decide +kernel
theorem dX0_fewestTurns_67 : decode cX0_fewestTurns 67 = .ok (.iload_n 2, 1) := by decide +kernel
theorem dX0_fewestTurns_68 : decode cX0_fewestTurns 68 = .ok (.if_icmp .ge 7, 3) := by decide +kernel
theorem dX0_fewestTurns_71 : decode cX0_fewestTurns 71 = .ok (.iconst 1, 1) := by decide +kernel
theorem dX0_fewestTurns_72 : decode cX0_fewestTurns 72 = .ok (.goto 4, 3) := by decide +kernel
theorem dX0_fewestTurns_75 : decode cX0_fewestTurns 75 = .ok (.iconst 0, 1) := by decide +kernel
theorem dX0_fewestTurns_76 : decode cX0_fewestTurns 76 = .ok (.istore 6, 2) := by decide +kernel
theorem dX0_fewestTurns_78 : decode cX0_fewestTurns 78 = .ok (.iload_n 3, 1) := by decide +kernel
theorem dX0_fewestTurns_79 : decode cX0_fewestTurns 79 = .ok (.aload_n 0, 1) := by decide +kernel
theorem dX0_fewestTurns_80 : decode cX0_fewestTurns 80 = .ok (.getfield 20, 3) := by decide +kernel
theorem dX0_fewestTurns_83 : decode cX0_fewestTurns 83 = .ok (.iload_n 1, 1) := by decide +kernel
theorem dX0_fewestTurns_84 : decode cX0_fewestTurns 84 = .ok (.iaload, 1) := by decide +kernel
theorem dX0_fewestTurns_85 : decode cX0_fewestTurns 85 = .ok (.if_icmp .eq 22, 3) := by decide +kernel
theorem dX0_fewestTurns_88 : decode cX0_fewestTurns 88 = .ok (.iload 6, 2) := by decide +kernel
theorem dX0_fewestTurns_90 : decode cX0_fewestTurns 90 = .ok (.ifCond .eq 17, 3) := by decide +kernel
theorem dX0_fewestTurns_93 : decode cX0_fewestTurns 93 = .ok (.iload 5, 2) := by decide +kernel
theorem dX0_fewestTurns_95 : decode cX0_fewestTurns 95 = .ok (.aload_n 0, 1) := by decide +kernel
theorem dX0_fewestTurns_96 : decode cX0_fewestTurns 96 = .ok (.iload_n 1, 1) := by decide +kernel
theorem dX0_fewestTurns_97 : decode cX0_fewestTurns 97 = .ok (.iload_n 3, 1) := by decide +kernel
theorem dX0_fewestTurns_98 : decode cX0_fewestTurns 98 = .ok (.invokevirtual 136, 3) := by decide +kernel
theorem dX0_fewestTurns_101 : decode cX0_fewestTurns 101 = .ok (.if_icmp .gt 6, 3) := by decide +kernel
theorem dX0_fewestTurns_104 : decode cX0_fewestTurns 104 = .ok (.iload 5, 2) := by decide +kernel
theorem dX0_fewestTurns_106 : decode cX0_fewestTurns 106 = .ok (.istore_n 2, 1) := by decide +kernel
theorem dX0_fewestTurns_107 : decode cX0_fewestTurns 107 = .ok (.iinc 3 1, 3) := by decide +kernel
theorem dX0_fewestTurns_110 : decode cX0_fewestTurns 110 = .ok (.goto (-106), 3) := by decide +kernel
theorem dX0_fewestTurns_113 : decode cX0_fewestTurns 113 = .ok (.iload_n 2, 1) := by decide +kernel
theorem dX0_fewestTurns_114 : decode cX0_fewestTurns 114 = .ok (.ireturn, 1) := by decide +kernel
set_option maxRecDepth 20000 in
theorem ggX0_forBestAlone_X7_chipOf : GoodIn wsX0_forBestAlone wsX7_chipOf := goodIn_r _ [10, 11, 12, 13, 14, 15, 28, 29, 30, 31, 32, 33] (by decide +kernel) (by decide +kernel)
set_option maxRecDepth 20000 in
theorem gX0_forBestAlone_X7_chipOf : GoodIn wsX0_forBestAlone (wsV RX0 126 RX7 yX7_chipOf wsX7_chipOf) := goodIn_app (goodIn_of _ (by decide +kernel)) ggX0_forBestAlone_X7_chipOf
theorem dX0_forBestAlone_0 : decode cX0_forBestAlone 0 = .ok (.iconst 0, 1) := by decide +kernel
theorem dX0_forBestAlone_1 : decode cX0_forBestAlone 1 = .ok (.istore_n 3, 1) := by decide +kernel
theorem dX0_forBestAlone_2 : decode cX0_forBestAlone 2 = .ok (.iconst 0, 1) := by decide +kernel
theorem dX0_forBestAlone_3 : decode cX0_forBestAlone 3 = .ok (.istore 4, 2) := by decide +kernel
theorem dX0_forBestAlone_5 : decode cX0_forBestAlone 5 = .ok (.iload 4, 2) := by decide +kernel
theorem dX0_forBestAlone_7 : decode cX0_forBestAlone 7 = .ok (.aload_n 0, 1) := by decide +kernel
theorem dX0_forBestAlone_8 : decode cX0_forBestAlone 8 = .ok (.getfield 63, 3) := by decide +kernel
theorem dX0_forBestAlone_11 : decode cX0_forBestAlone 11 = .ok (.if_icmp .ge 72, 3) := by decide +kernel
theorem dX0_forBestAlone_14 : decode cX0_forBestAlone 14 = .ok (.aload_n 0, 1) := by decide +kernel
theorem dX0_forBestAlone_15 : decode cX0_forBestAlone 15 = .ok (.getfield 60, 3) := by decide +kernel
theorem dX0_forBestAlone_18 : decode cX0_forBestAlone 18 = .ok (.iload 4, 2) := by decide +kernel
theorem dX0_forBestAlone_20 : decode cX0_forBestAlone 20 = .ok (.iadd, 1) := by decide +kernel
theorem dX0_forBestAlone_21 : decode cX0_forBestAlone 21 = .ok (.istore 5, 2) := by decide +kernel
theorem dX0_forBestAlone_23 : decode cX0_forBestAlone 23 = .ok (.aload_n 0, 1) := by decide +kernel
theorem dX0_forBestAlone_24 : decode cX0_forBestAlone 24 = .ok (.getfield 9, 3) := by decide +kernel
theorem dX0_forBestAlone_27 : decode cX0_forBestAlone 27 = .ok (.iload 4, 2) := by decide +kernel
theorem dX0_forBestAlone_29 : decode cX0_forBestAlone 29 = .ok (.iaload, 1) := by decide +kernel
theorem dX0_forBestAlone_30 : decode cX0_forBestAlone 30 = .ok (.aload_n 0, 1) := by decide +kernel
theorem dX0_forBestAlone_31 : decode cX0_forBestAlone 31 = .ok (.getfield 26, 3) := by decide +kernel
theorem dX0_forBestAlone_34 : decode cX0_forBestAlone 34 = .ok (.iload_n 1, 1) := by decide +kernel
theorem dX0_forBestAlone_35 : decode cX0_forBestAlone 35 = .ok (.iload 5, 2) := by decide +kernel
theorem dX0_forBestAlone_37 : decode cX0_forBestAlone 37 = .ok (.aload_n 0, 1) := by decide +kernel
theorem dX0_forBestAlone_38 : decode cX0_forBestAlone 38 = .ok (.getfield 20, 3) := by decide +kernel
theorem dX0_forBestAlone_41 : decode cX0_forBestAlone 41 = .ok (.iload_n 1, 1) := by decide +kernel
theorem dX0_forBestAlone_42 : decode cX0_forBestAlone 42 = .ok (.iaload, 1) := by decide +kernel
theorem dX0_forBestAlone_43 : decode cX0_forBestAlone 43 = .ok (.isub, 1) := by decide +kernel
theorem dX0_forBestAlone_44 : decode cX0_forBestAlone 44 = .ok (.invokevirtual 126, 3) := by decide +kernel
theorem dX0_forBestAlone_47 : decode cX0_forBestAlone 47 = .ok (.if_icmp .ne 30, 3) := by decide +kernel
theorem dX0_forBestAlone_50 : decode cX0_forBestAlone 50 = .ok (.aload_n 0, 1) := by decide +kernel
theorem dX0_forBestAlone_51 : decode cX0_forBestAlone 51 = .ok (.getfield 9, 3) := by decide +kernel
theorem dX0_forBestAlone_54 : decode cX0_forBestAlone 54 = .ok (.iload 4, 2) := by decide +kernel
theorem dX0_forBestAlone_56 : decode cX0_forBestAlone 56 = .ok (.iaload, 1) := by decide +kernel
theorem dX0_forBestAlone_57 : decode cX0_forBestAlone 57 = .ok (.iconst 1, 1) := by decide +kernel
theorem dX0_forBestAlone_58 : decode cX0_forBestAlone 58 = .ok (.aload_n 0, 1) := by decide +kernel
theorem dX0_forBestAlone_59 : decode cX0_forBestAlone 59 = .ok (.getfield 26, 3) := by decide +kernel
theorem dX0_forBestAlone_62 : decode cX0_forBestAlone 62 = .ok (.iload_n 1, 1) := by decide +kernel
theorem dX0_forBestAlone_63 : decode cX0_forBestAlone 63 = .ok (.iload 5, 2) := by decide +kernel
theorem dX0_forBestAlone_65 : decode cX0_forBestAlone 65 = .ok (.iload_n 2, 1) := by decide +kernel
theorem dX0_forBestAlone_66 : decode cX0_forBestAlone 66 = .ok (.isub, 1) := by decide +kernel
theorem dX0_forBestAlone_67 : decode cX0_forBestAlone 67 = .ok (.invokevirtual 126, 3) := by decide +kernel
theorem dX0_forBestAlone_70 : decode cX0_forBestAlone 70 = .ok (.isub, 1) := by decide +kernel
theorem dX0_forBestAlone_71 : decode cX0_forBestAlone 71 = .ok (.if_icmp .ne 6, 3) := by decide +kernel
theorem dX0_forBestAlone_74 : decode cX0_forBestAlone 74 = .ok (.iinc 3 1, 3) := by decide +kernel
theorem dX0_forBestAlone_77 : decode cX0_forBestAlone 77 = .ok (.iinc 4 1, 3) := by decide +kernel
theorem dX0_forBestAlone_80 : decode cX0_forBestAlone 80 = .ok (.goto (-75), 3) := by decide +kernel
theorem dX0_forBestAlone_83 : decode cX0_forBestAlone 83 = .ok (.iload_n 3, 1) := by decide +kernel
theorem dX0_forBestAlone_84 : decode cX0_forBestAlone 84 = .ok (.ireturn, 1) := by decide +kernel
set_option maxRecDepth 20000 in
theorem ggX0_join_X8_rest : GoodIn wsX0_join wsX8_rest := goodIn_r _ [7] (by decide +kernel) (by decide +kernel)
set_option maxRecDepth 20000 in
theorem gX0_join_X8_rest_n116 : GoodIn wsX0_join (wsX8_rest) := ggX0_join_X8_rest
set_option maxRecDepth 20000 in
theorem ggX0_join_X8_commonMultiple : GoodIn wsX0_join wsX8_commonMultiple := goodIn_r _ [9, 10, 11, 6, 12] (by decide +kernel) (by decide +kernel)
set_option maxRecDepth 20000 in
theorem gX0_join_X8_commonMultiple_n139 : GoodIn wsX0_join (wsX8_commonMultiple) := ggX0_join_X8_commonMultiple
theorem dX0_join_0 : decode cX0_join 0 = .ok (.iconst 0, 1) := by decide +kernel
theorem dX0_join_1 : decode cX0_join 1 = .ok (.istore_n 2, 1) := by decide +kernel
theorem dX0_join_2 : decode cX0_join 2 = .ok (.iconst 1, 1) := by decide +kernel
theorem dX0_join_3 : decode cX0_join 3 = .ok (.istore_n 3, 1) := by decide +kernel
theorem dX0_join_4 : decode cX0_join 4 = .ok (.iconst 0, 1) := by decide +kernel
theorem dX0_join_5 : decode cX0_join 5 = .ok (.istore 4, 2) := by decide +kernel
theorem dX0_join_7 : decode cX0_join 7 = .ok (.iload 4, 2) := by decide +kernel
theorem dX0_join_9 : decode cX0_join 9 = .ok (.aload_n 0, 1) := by decide +kernel
theorem dX0_join_10 : decode cX0_join 10 = .ok (.getfield 26, 3) := by decide +kernel
theorem dX0_join_13 : decode cX0_join 13 = .ok (.getfield 70, 3) := by decide +kernel
theorem dX0_join_16 : decode cX0_join 16 = .ok (.if_icmp .ge 83, 3) := by decide +kernel
theorem dX0_join_19 : decode cX0_join 19 = .ok (.iload_n 1, 1) := by decide +kernel
theorem dX0_join_20 : decode cX0_join 20 = .ok (.iload 4, 2) := by decide +kernel
theorem dX0_join_22 : decode cX0_join 22 = .ok (.ishr, 1) := by decide +kernel
theorem dX0_join_23 : decode cX0_join 23 = .ok (.iconst 1, 1) := by decide +kernel
theorem dX0_join_24 : decode cX0_join 24 = .ok (.iand, 1) := by decide +kernel
theorem dX0_join_25 : decode cX0_join 25 = .ok (.iconst 1, 1) := by decide +kernel
theorem dX0_join_26 : decode cX0_join 26 = .ok (.if_icmp .ne 67, 3) := by decide +kernel
theorem dX0_join_29 : decode cX0_join 29 = .ok (.aload_n 0, 1) := by decide +kernel
theorem dX0_join_30 : decode cX0_join 30 = .ok (.getfield 26, 3) := by decide +kernel
theorem dX0_join_33 : decode cX0_join 33 = .ok (.getfield 107, 3) := by decide +kernel
theorem dX0_join_36 : decode cX0_join 36 = .ok (.iload 4, 2) := by decide +kernel
theorem dX0_join_38 : decode cX0_join 38 = .ok (.iaload, 1) := by decide +kernel
theorem dX0_join_39 : decode cX0_join 39 = .ok (.istore 5, 2) := by decide +kernel
theorem dX0_join_41 : decode cX0_join 41 = .ok (.iconst 0, 1) := by decide +kernel
theorem dX0_join_42 : decode cX0_join 42 = .ok (.istore 6, 2) := by decide +kernel
theorem dX0_join_44 : decode cX0_join 44 = .ok (.iload 6, 2) := by decide +kernel
theorem dX0_join_46 : decode cX0_join 46 = .ok (.iload 5, 2) := by decide +kernel
theorem dX0_join_48 : decode cX0_join 48 = .ok (.if_icmp .ge 29, 3) := by decide +kernel
theorem dX0_join_51 : decode cX0_join 51 = .ok (.iload_n 2, 1) := by decide +kernel
theorem dX0_join_52 : decode cX0_join 52 = .ok (.iload 5, 2) := by decide +kernel
theorem dX0_join_54 : decode cX0_join 54 = .ok (.invokestatic 116, 3) := by decide +kernel
theorem dX0_join_57 : decode cX0_join 57 = .ok (.aload_n 0, 1) := by decide +kernel
theorem dX0_join_58 : decode cX0_join 58 = .ok (.getfield 20, 3) := by decide +kernel
theorem dX0_join_61 : decode cX0_join 61 = .ok (.iload 4, 2) := by decide +kernel
theorem dX0_join_63 : decode cX0_join 63 = .ok (.iaload, 1) := by decide +kernel
theorem dX0_join_64 : decode cX0_join 64 = .ok (.if_icmp .eq 13, 3) := by decide +kernel
theorem dX0_join_67 : decode cX0_join 67 = .ok (.iload_n 2, 1) := by decide +kernel
theorem dX0_join_68 : decode cX0_join 68 = .ok (.iload_n 3, 1) := by decide +kernel
theorem dX0_join_69 : decode cX0_join 69 = .ok (.iadd, 1) := by decide +kernel
theorem dX0_join_70 : decode cX0_join 70 = .ok (.istore_n 2, 1) := by decide +kernel
theorem dX0_join_71 : decode cX0_join 71 = .ok (.iinc 6 1, 3) := by decide +kernel
theorem dX0_join_74 : decode cX0_join 74 = .ok (.goto (-30), 3) := by decide +kernel
theorem dX0_join_77 : decode cX0_join 77 = .ok (.iload 6, 2) := by decide +kernel
theorem dX0_join_79 : decode cX0_join 79 = .ok (.iload 5, 2) := by decide +kernel
theorem dX0_join_81 : decode cX0_join 81 = .ok (.if_icmp .lt 5, 3) := by decide +kernel
theorem dX0_join_84 : decode cX0_join 84 = .ok (.iconst (-1), 1) := by decide +kernel
theorem dX0_join_85 : decode cX0_join 85 = .ok (.ireturn, 1) := by decide +kernel
theorem dX0_join_86 : decode cX0_join 86 = .ok (.iload_n 3, 1) := by decide +kernel
theorem dX0_join_87 : decode cX0_join 87 = .ok (.iload 5, 2) := by decide +kernel
theorem dX0_join_89 : decode cX0_join 89 = .ok (.invokestatic 139, 3) := by decide +kernel
theorem dX0_join_92 : decode cX0_join 92 = .ok (.istore_n 3, 1) := by decide +kernel
theorem dX0_join_93 : decode cX0_join 93 = .ok (.iinc 4 1, 3) := by decide +kernel
theorem dX0_join_96 : decode cX0_join 96 = .ok (.goto (-89), 3) := by decide +kernel
theorem dX0_join_99 : decode cX0_join 99 = .ok (.iload_n 2, 1) := by decide +kernel
theorem dX0_join_100 : decode cX0_join 100 = .ok (.ireturn, 1) := by decide +kernel
set_option maxRecDepth 20000 in
theorem ggX0_settle_X7_allParts : GoodIn wsX0_settle wsX7_allParts := goodIn_r _ [16, 17, 57, 58, 59, 60, 61, 62] (by decide +kernel) (by decide +kernel)
set_option maxRecDepth 20000 in
theorem gX0_settle_X7_allParts : GoodIn wsX0_settle (wsV RX0 151 RX7 yX7_allParts wsX7_allParts) := goodIn_app (goodIn_of _ (by decide +kernel)) ggX0_settle_X7_allParts
set_option maxRecDepth 20000 in
theorem ggX0_settle_J6_bitCount_0f7a4 : GoodIn wsX0_settle wsJ6_bitCount_0f7a4 := goodIn_r _ [21, 22, 23, 24] (by decide +kernel) (by decide +kernel)
set_option maxRecDepth 20000 in
theorem gX0_settle_J6_bitCount_0f7a4 : GoodIn wsX0_settle (va_wsS RX0 160 yJ6_bitCount_0f7a4 wsJ6_bitCount_0f7a4) := goodIn_app (goodIn_of _ (by decide +kernel)) ggX0_settle_J6_bitCount_0f7a4
set_option maxRecDepth 20000 in
theorem ggX0_settle_X0_join : GoodIn wsX0_settle wsX0_join := goodIn_r _ [29, 5, 6, 30, 31, 32, 33, 34, 35, 36, 37, 38, 39, 45, 46, 47, 48, 49, 50, 51, 52, 53, 54, 55, 56, 57, 58, 59, 60, 61, 62] (by decide +kernel) (by decide +kernel)
set_option maxRecDepth 20000 in
theorem gX0_settle_X0_join : GoodIn wsX0_settle (wsV RX0 165 RX0 yX0_join wsX0_join) := goodIn_app (goodIn_of _ (by decide +kernel)) ggX0_settle_X0_join
set_option maxRecDepth 20000 in
theorem ggX0_settle_X7_periodOf : GoodIn wsX0_settle wsX7_periodOf := goodIn_r _ [43, 17, 44, 35, 33, 36, 37, 38, 39, 57, 58, 59, 60, 61, 62] (by decide +kernel) (by decide +kernel)
set_option maxRecDepth 20000 in
theorem gX0_settle_X7_periodOf : GoodIn wsX0_settle (wsV RX0 171 RX7 yX7_periodOf wsX7_periodOf) := goodIn_app (goodIn_of _ (by decide +kernel)) ggX0_settle_X7_periodOf
theorem dX0_settle_0 : decode cX0_settle 0 = .ok (.aload_n 0, 1) := by decide +kernel
theorem dX0_settle_1 : decode cX0_settle 1 = .ok (.iconst (-1), 1) := by decide +kernel
theorem dX0_settle_2 : decode cX0_settle 2 = .ok (.putfield 57, 3) := by decide +kernel
theorem dX0_settle_5 : decode cX0_settle 5 = .ok (.aload_n 0, 1) := by decide +kernel
theorem dX0_settle_6 : decode cX0_settle 6 = .ok (.iconst 0, 1) := by decide +kernel
theorem dX0_settle_7 : decode cX0_settle 7 = .ok (.putfield 142, 3) := by decide +kernel
theorem dX0_settle_10 : decode cX0_settle 10 = .ok (.aload_n 0, 1) := by decide +kernel
theorem dX0_settle_11 : decode cX0_settle 11 = .ok (.iconst 0, 1) := by decide +kernel
theorem dX0_settle_12 : decode cX0_settle 12 = .ok (.putfield 145, 3) := by decide +kernel
theorem dX0_settle_15 : decode cX0_settle 15 = .ok (.aload_n 0, 1) := by decide +kernel
theorem dX0_settle_16 : decode cX0_settle 16 = .ok (.iconst 0, 1) := by decide +kernel
theorem dX0_settle_17 : decode cX0_settle 17 = .ok (.putfield 148, 3) := by decide +kernel
theorem dX0_settle_20 : decode cX0_settle 20 = .ok (.aload_n 0, 1) := by decide +kernel
theorem dX0_settle_21 : decode cX0_settle 21 = .ok (.getfield 26, 3) := by decide +kernel
theorem dX0_settle_24 : decode cX0_settle 24 = .ok (.invokevirtual 151, 3) := by decide +kernel
theorem dX0_settle_27 : decode cX0_settle 27 = .ok (.istore_n 1, 1) := by decide +kernel
theorem dX0_settle_28 : decode cX0_settle 28 = .ok (.aload_n 0, 1) := by decide +kernel
theorem dX0_settle_29 : decode cX0_settle 29 = .ok (.getfield 26, 3) := by decide +kernel
theorem dX0_settle_32 : decode cX0_settle 32 = .ok (.getfield 70, 3) := by decide +kernel
theorem dX0_settle_35 : decode cX0_settle 35 = .ok (.iconst 1, 1) := by decide +kernel
theorem dX0_settle_36 : decode cX0_settle 36 = .ok (.isub, 1) := by decide +kernel
theorem dX0_settle_37 : decode cX0_settle 37 = .ok (.iconst 0, 1) := by decide +kernel
theorem dX0_settle_38 : decode cX0_settle 38 = .ok (.invokestatic 155, 3) := by decide +kernel
theorem dX0_settle_41 : decode cX0_settle 41 = .ok (.istore_n 2, 1) := by decide +kernel
theorem dX0_settle_42 : decode cX0_settle 42 = .ok (.iconst 0, 1) := by decide +kernel
theorem dX0_settle_43 : decode cX0_settle 43 = .ok (.istore_n 3, 1) := by decide +kernel
theorem dX0_settle_44 : decode cX0_settle 44 = .ok (.iload_n 3, 1) := by decide +kernel
theorem dX0_settle_45 : decode cX0_settle 45 = .ok (.iload_n 2, 1) := by decide +kernel
theorem dX0_settle_46 : decode cX0_settle 46 = .ok (.if_icmp .gt 103, 3) := by decide +kernel
theorem dX0_settle_49 : decode cX0_settle 49 = .ok (.aload_n 0, 1) := by decide +kernel
theorem dX0_settle_50 : decode cX0_settle 50 = .ok (.getfield 148, 3) := by decide +kernel
theorem dX0_settle_53 : decode cX0_settle 53 = .ok (.ifCond .ne 96, 3) := by decide +kernel
theorem dX0_settle_56 : decode cX0_settle 56 = .ok (.iconst 0, 1) := by decide +kernel
theorem dX0_settle_57 : decode cX0_settle 57 = .ok (.istore 4, 2) := by decide +kernel
theorem dX0_settle_59 : decode cX0_settle 59 = .ok (.iload 4, 2) := by decide +kernel
theorem dX0_settle_61 : decode cX0_settle 61 = .ok (.iload_n 1, 1) := by decide +kernel
theorem dX0_settle_62 : decode cX0_settle 62 = .ok (.if_icmp .gt 81, 3) := by decide +kernel
theorem dX0_settle_65 : decode cX0_settle 65 = .ok (.iload 4, 2) := by decide +kernel
theorem dX0_settle_67 : decode cX0_settle 67 = .ok (.invokestatic 160, 3) := by decide +kernel
theorem dX0_settle_70 : decode cX0_settle 70 = .ok (.iload_n 3, 1) := by decide +kernel
theorem dX0_settle_71 : decode cX0_settle 71 = .ok (.if_icmp .ne 16, 3) := by decide +kernel
theorem dX0_settle_74 : decode cX0_settle 74 = .ok (.aload_n 0, 1) := by decide +kernel
theorem dX0_settle_75 : decode cX0_settle 75 = .ok (.iload_n 1, 1) := by decide +kernel
theorem dX0_settle_76 : decode cX0_settle 76 = .ok (.iload 4, 2) := by decide +kernel
theorem dX0_settle_78 : decode cX0_settle 78 = .ok (.iconst (-1), 1) := by decide +kernel
theorem dX0_settle_79 : decode cX0_settle 79 = .ok (.ixor, 1) := by decide +kernel
theorem dX0_settle_80 : decode cX0_settle 80 = .ok (.iand, 1) := by decide +kernel
theorem dX0_settle_81 : decode cX0_settle 81 = .ok (.invokevirtual 165, 3) := by decide +kernel
theorem dX0_settle_84 : decode cX0_settle 84 = .ok (.goto 4, 3) := by decide +kernel
theorem dX0_settle_87 : decode cX0_settle 87 = .ok (.iconst (-1), 1) := by decide +kernel
theorem dX0_settle_88 : decode cX0_settle 88 = .ok (.istore 5, 2) := by decide +kernel
theorem dX0_settle_90 : decode cX0_settle 90 = .ok (.iload 5, 2) := by decide +kernel
theorem dX0_settle_92 : decode cX0_settle 92 = .ok (.iconst (-1), 1) := by decide +kernel
theorem dX0_settle_93 : decode cX0_settle 93 = .ok (.if_icmp .eq 44, 3) := by decide +kernel
theorem dX0_settle_96 : decode cX0_settle 96 = .ok (.iload 5, 2) := by decide +kernel
theorem dX0_settle_98 : decode cX0_settle 98 = .ok (.aload_n 0, 1) := by decide +kernel
theorem dX0_settle_99 : decode cX0_settle 99 = .ok (.getfield 26, 3) := by decide +kernel
theorem dX0_settle_102 : decode cX0_settle 102 = .ok (.getfield 168, 3) := by decide +kernel
theorem dX0_settle_105 : decode cX0_settle 105 = .ok (.if_icmp .ge 32, 3) := by decide +kernel
theorem dX0_settle_108 : decode cX0_settle 108 = .ok (.aload_n 0, 1) := by decide +kernel
theorem dX0_settle_109 : decode cX0_settle 109 = .ok (.getfield 148, 3) := by decide +kernel
theorem dX0_settle_112 : decode cX0_settle 112 = .ok (.ifCond .ne 15, 3) := by decide +kernel
theorem dX0_settle_115 : decode cX0_settle 115 = .ok (.aload_n 0, 1) := by decide +kernel
theorem dX0_settle_116 : decode cX0_settle 116 = .ok (.iload 5, 2) := by decide +kernel
theorem dX0_settle_118 : decode cX0_settle 118 = .ok (.putfield 57, 3) := by decide +kernel
theorem dX0_settle_121 : decode cX0_settle 121 = .ok (.aload_n 0, 1) := by decide +kernel
theorem dX0_settle_122 : decode cX0_settle 122 = .ok (.iload 4, 2) := by decide +kernel
theorem dX0_settle_124 : decode cX0_settle 124 = .ok (.putfield 142, 3) := by decide +kernel
theorem dX0_settle_127 : decode cX0_settle 127 = .ok (.aload_n 0, 1) := by decide +kernel
theorem dX0_settle_128 : decode cX0_settle 128 = .ok (.dup, 1) := by decide +kernel
theorem dX0_settle_129 : decode cX0_settle 129 = .ok (.getfield 148, 3) := by decide +kernel
theorem dX0_settle_132 : decode cX0_settle 132 = .ok (.iconst 1, 1) := by decide +kernel
theorem dX0_settle_133 : decode cX0_settle 133 = .ok (.iadd, 1) := by decide +kernel
theorem dX0_settle_134 : decode cX0_settle 134 = .ok (.putfield 148, 3) := by decide +kernel
theorem dX0_settle_137 : decode cX0_settle 137 = .ok (.iinc 4 1, 3) := by decide +kernel
theorem dX0_settle_140 : decode cX0_settle 140 = .ok (.goto (-81), 3) := by decide +kernel
theorem dX0_settle_143 : decode cX0_settle 143 = .ok (.iinc 3 1, 3) := by decide +kernel
theorem dX0_settle_146 : decode cX0_settle 146 = .ok (.goto (-102), 3) := by decide +kernel
theorem dX0_settle_149 : decode cX0_settle 149 = .ok (.aload_n 0, 1) := by decide +kernel
theorem dX0_settle_150 : decode cX0_settle 150 = .ok (.getfield 148, 3) := by decide +kernel
theorem dX0_settle_153 : decode cX0_settle 153 = .ok (.ifCond .le 22, 3) := by decide +kernel
theorem dX0_settle_156 : decode cX0_settle 156 = .ok (.aload_n 0, 1) := by decide +kernel
theorem dX0_settle_157 : decode cX0_settle 157 = .ok (.aload_n 0, 1) := by decide +kernel
theorem dX0_settle_158 : decode cX0_settle 158 = .ok (.getfield 26, 3) := by decide +kernel
theorem dX0_settle_161 : decode cX0_settle 161 = .ok (.iload_n 1, 1) := by decide +kernel
theorem dX0_settle_162 : decode cX0_settle 162 = .ok (.aload_n 0, 1) := by decide +kernel
theorem dX0_settle_163 : decode cX0_settle 163 = .ok (.getfield 142, 3) := by decide +kernel
theorem dX0_settle_166 : decode cX0_settle 166 = .ok (.iconst (-1), 1) := by decide +kernel
theorem dX0_settle_167 : decode cX0_settle 167 = .ok (.ixor, 1) := by decide +kernel
theorem dX0_settle_168 : decode cX0_settle 168 = .ok (.iand, 1) := by decide +kernel
theorem dX0_settle_169 : decode cX0_settle 169 = .ok (.invokevirtual 171, 3) := by decide +kernel
theorem dX0_settle_172 : decode cX0_settle 172 = .ok (.putfield 145, 3) := by decide +kernel
theorem dX0_settle_175 : decode cX0_settle 175 = .ok (.return_, 1) := by decide +kernel
theorem dX0_guesses_0 : decode cX0_guesses 0 = .ok (.aload_n 0, 1) := by decide +kernel
theorem dX0_guesses_1 : decode cX0_guesses 1 = .ok (.getfield 57, 3) := by decide +kernel
theorem dX0_guesses_4 : decode cX0_guesses 4 = .ok (.iconst (-1), 1) := by decide +kernel
theorem dX0_guesses_5 : decode cX0_guesses 5 = .ok (.if_icmp .eq 11, 3) := by decide +kernel
theorem dX0_guesses_8 : decode cX0_guesses 8 = .ok (.aload_n 0, 1) := by decide +kernel
theorem dX0_guesses_9 : decode cX0_guesses 9 = .ok (.getfield 145, 3) := by decide +kernel
theorem dX0_guesses_12 : decode cX0_guesses 12 = .ok (.iconst 1, 1) := by decide +kernel
theorem dX0_guesses_13 : decode cX0_guesses 13 = .ok (.if_icmp .ge 5, 3) := by decide +kernel
theorem dX0_guesses_16 : decode cX0_guesses 16 = .ok (.iconst 0, 1) := by decide +kernel
theorem dX0_guesses_17 : decode cX0_guesses 17 = .ok (.ireturn, 1) := by decide +kernel
theorem dX0_guesses_18 : decode cX0_guesses 18 = .ok (.aload_n 0, 1) := by decide +kernel
theorem dX0_guesses_19 : decode cX0_guesses 19 = .ok (.getfield 26, 3) := by decide +kernel
theorem dX0_guesses_22 : decode cX0_guesses 22 = .ok (.getfield 168, 3) := by decide +kernel
theorem dX0_guesses_25 : decode cX0_guesses 25 = .ok (.iconst 1, 1) := by decide +kernel
theorem dX0_guesses_26 : decode cX0_guesses 26 = .ok (.isub, 1) := by decide +kernel
theorem dX0_guesses_27 : decode cX0_guesses 27 = .ok (.aload_n 0, 1) := by decide +kernel
theorem dX0_guesses_28 : decode cX0_guesses 28 = .ok (.getfield 57, 3) := by decide +kernel
theorem dX0_guesses_31 : decode cX0_guesses 31 = .ok (.isub, 1) := by decide +kernel
theorem dX0_guesses_32 : decode cX0_guesses 32 = .ok (.aload_n 0, 1) := by decide +kernel
theorem dX0_guesses_33 : decode cX0_guesses 33 = .ok (.getfield 145, 3) := by decide +kernel
theorem dX0_guesses_36 : decode cX0_guesses 36 = .ok (.idiv, 1) := by decide +kernel
theorem dX0_guesses_37 : decode cX0_guesses 37 = .ok (.iconst 1, 1) := by decide +kernel
theorem dX0_guesses_38 : decode cX0_guesses 38 = .ok (.iadd, 1) := by decide +kernel
theorem dX0_guesses_39 : decode cX0_guesses 39 = .ok (.ireturn, 1) := by decide +kernel
set_option maxRecDepth 20000 in
theorem ggX0_finding_X0_guesses : GoodIn wsX0_finding wsX0_guesses := goodIn_r _ [9, 1, 3, 10, 11, 12, 13, 14, 15, 16, 17, 18, 19, 20, 21, 22, 23, 24, 25, 26, 27, 28, 29] (by decide +kernel) (by decide +kernel)
set_option maxRecDepth 20000 in
theorem gX0_finding_X0_guesses : GoodIn wsX0_finding (wsV RX0 174 RX0 yX0_guesses wsX0_guesses) := goodIn_app (goodIn_of _ (by decide +kernel)) ggX0_finding_X0_guesses
theorem dX0_finding_0 : decode cX0_finding 0 = .ok (.aload_n 0, 1) := by decide +kernel
theorem dX0_finding_1 : decode cX0_finding 1 = .ok (.getfield 57, 3) := by decide +kernel
theorem dX0_finding_4 : decode cX0_finding 4 = .ok (.iconst (-1), 1) := by decide +kernel
theorem dX0_finding_5 : decode cX0_finding 5 = .ok (.if_icmp .eq 7, 3) := by decide +kernel
theorem dX0_finding_8 : decode cX0_finding 8 = .ok (.iconst 1, 1) := by decide +kernel
theorem dX0_finding_9 : decode cX0_finding 9 = .ok (.goto 4, 3) := by decide +kernel
theorem dX0_finding_12 : decode cX0_finding 12 = .ok (.iconst 0, 1) := by decide +kernel
theorem dX0_finding_13 : decode cX0_finding 13 = .ok (.istore_n 2, 1) := by decide +kernel
theorem dX0_finding_14 : decode cX0_finding 14 = .ok (.iload_n 1, 1) := by decide +kernel
theorem dX0_finding_15 : decode cX0_finding 15 = .ok (.tableswitch 95 0 5 #[37, 42, 55, 68, 73, 90], 37) := by decide +kernel
theorem dX0_finding_52 : decode cX0_finding 52 = .ok (.aload_n 0, 1) := by decide +kernel
theorem dX0_finding_53 : decode cX0_finding 53 = .ok (.getfield 57, 3) := by decide +kernel
theorem dX0_finding_56 : decode cX0_finding 56 = .ok (.ireturn, 1) := by decide +kernel
theorem dX0_finding_57 : decode cX0_finding 57 = .ok (.iload_n 2, 1) := by decide +kernel
theorem dX0_finding_58 : decode cX0_finding 58 = .ok (.ifCond .eq 10, 3) := by decide +kernel
theorem dX0_finding_61 : decode cX0_finding 61 = .ok (.aload_n 0, 1) := by decide +kernel
theorem dX0_finding_62 : decode cX0_finding 62 = .ok (.getfield 142, 3) := by decide +kernel
theorem dX0_finding_65 : decode cX0_finding 65 = .ok (.goto 4, 3) := by decide +kernel
theorem dX0_finding_68 : decode cX0_finding 68 = .ok (.iconst (-1), 1) := by decide +kernel
theorem dX0_finding_69 : decode cX0_finding 69 = .ok (.ireturn, 1) := by decide +kernel
theorem dX0_finding_70 : decode cX0_finding 70 = .ok (.iload_n 2, 1) := by decide +kernel
theorem dX0_finding_71 : decode cX0_finding 71 = .ok (.ifCond .eq 10, 3) := by decide +kernel
theorem dX0_finding_74 : decode cX0_finding 74 = .ok (.aload_n 0, 1) := by decide +kernel
theorem dX0_finding_75 : decode cX0_finding 75 = .ok (.getfield 145, 3) := by decide +kernel
theorem dX0_finding_78 : decode cX0_finding 78 = .ok (.goto 4, 3) := by decide +kernel
theorem dX0_finding_81 : decode cX0_finding 81 = .ok (.iconst (-1), 1) := by decide +kernel
theorem dX0_finding_82 : decode cX0_finding 82 = .ok (.ireturn, 1) := by decide +kernel
theorem dX0_finding_83 : decode cX0_finding 83 = .ok (.aload_n 0, 1) := by decide +kernel
theorem dX0_finding_84 : decode cX0_finding 84 = .ok (.invokevirtual 174, 3) := by decide +kernel
theorem dX0_finding_87 : decode cX0_finding 87 = .ok (.ireturn, 1) := by decide +kernel
theorem dX0_finding_88 : decode cX0_finding 88 = .ok (.iload_n 2, 1) := by decide +kernel
theorem dX0_finding_89 : decode cX0_finding 89 = .ok (.ifCond .eq 14, 3) := by decide +kernel
theorem dX0_finding_92 : decode cX0_finding 92 = .ok (.aload_n 0, 1) := by decide +kernel
theorem dX0_finding_93 : decode cX0_finding 93 = .ok (.getfield 142, 3) := by decide +kernel
theorem dX0_finding_96 : decode cX0_finding 96 = .ok (.ifCond .ne 7, 3) := by decide +kernel
theorem dX0_finding_99 : decode cX0_finding 99 = .ok (.iconst 1, 1) := by decide +kernel
theorem dX0_finding_100 : decode cX0_finding 100 = .ok (.goto 4, 3) := by decide +kernel
theorem dX0_finding_103 : decode cX0_finding 103 = .ok (.iconst 0, 1) := by decide +kernel
theorem dX0_finding_104 : decode cX0_finding 104 = .ok (.ireturn, 1) := by decide +kernel
theorem dX0_finding_105 : decode cX0_finding 105 = .ok (.aload_n 0, 1) := by decide +kernel
theorem dX0_finding_106 : decode cX0_finding 106 = .ok (.getfield 148, 3) := by decide +kernel
theorem dX0_finding_109 : decode cX0_finding 109 = .ok (.ireturn, 1) := by decide +kernel
theorem dX0_finding_110 : decode cX0_finding 110 = .ok (.iconst (-1), 1) := by decide +kernel
theorem dX0_finding_111 : decode cX0_finding 111 = .ok (.ireturn, 1) := by decide +kernel
theorem dX1_init_0 : decode cX1_init 0 = .ok (.aload_n 0, 1) := by decide +kernel
theorem dX1_init_1 : decode cX1_init 1 = .ok (.invokespecial 3, 3) := by decide +kernel
theorem dX1_init_4 : decode cX1_init 4 = .ok (.aload_n 0, 1) := by decide +kernel
theorem dX1_init_5 : decode cX1_init 5 = .ok (.bipush 6, 2) := by decide +kernel
theorem dX1_init_7 : decode cX1_init 7 = .ok (.newarray .int, 2) := by decide +kernel
theorem dX1_init_9 : decode cX1_init 9 = .ok (.putfield 9, 3) := by decide +kernel
theorem dX1_init_12 : decode cX1_init 12 = .ok (.aload_n 0, 1) := by decide +kernel
theorem dX1_init_13 : decode cX1_init 13 = .ok (.bipush 10, 2) := by decide +kernel
theorem dX1_init_15 : decode cX1_init 15 = .ok (.newarray .int, 2) := by decide +kernel
theorem dX1_init_17 : decode cX1_init 17 = .ok (.putfield 15, 3) := by decide +kernel
theorem dX1_init_20 : decode cX1_init 20 = .ok (.aload_n 0, 1) := by decide +kernel
theorem dX1_init_21 : decode cX1_init 21 = .ok (.bipush 10, 2) := by decide +kernel
theorem dX1_init_23 : decode cX1_init 23 = .ok (.newarray .int, 2) := by decide +kernel
theorem dX1_init_25 : decode cX1_init 25 = .ok (.putfield 18, 3) := by decide +kernel
theorem dX1_init_28 : decode cX1_init 28 = .ok (.aload_n 0, 1) := by decide +kernel
theorem dX1_init_29 : decode cX1_init 29 = .ok (.bipush 10, 2) := by decide +kernel
theorem dX1_init_31 : decode cX1_init 31 = .ok (.newarray .int, 2) := by decide +kernel
theorem dX1_init_33 : decode cX1_init 33 = .ok (.putfield 21, 3) := by decide +kernel
theorem dX1_init_36 : decode cX1_init 36 = .ok (.aload_n 0, 1) := by decide +kernel
theorem dX1_init_37 : decode cX1_init 37 = .ok (.getfield 9, 3) := by decide +kernel
theorem dX1_init_40 : decode cX1_init 40 = .ok (.iconst 3, 1) := by decide +kernel
theorem dX1_init_41 : decode cX1_init 41 = .ok (.bipush 40, 2) := by decide +kernel
theorem dX1_init_43 : decode cX1_init 43 = .ok (.iastore, 1) := by decide +kernel
theorem dX1_init_44 : decode cX1_init 44 = .ok (.return_, 1) := by decide +kernel
set_option maxRecDepth 20000 in
theorem ggX1_forget_J7_fill_53178 : GoodIn wsX1_forget wsJ7_fill_53178 := goodIn_r _ [6] (by decide +kernel) (by decide +kernel)
set_option maxRecDepth 20000 in
theorem gX1_forget_J7_fill_53178 : GoodIn wsX1_forget (va_wsS RX1 24 yJ7_fill_53178 wsJ7_fill_53178) := goodIn_app (goodIn_of _ (by decide +kernel)) ggX1_forget_J7_fill_53178
theorem dX1_forget_0 : decode cX1_forget 0 = .ok (.aload_n 0, 1) := by decide +kernel
theorem dX1_forget_1 : decode cX1_forget 1 = .ok (.getfield 9, 3) := by decide +kernel
theorem dX1_forget_4 : decode cX1_forget 4 = .ok (.iconst 0, 1) := by decide +kernel
theorem dX1_forget_5 : decode cX1_forget 5 = .ok (.invokestatic 24, 3) := by decide +kernel
theorem dX1_forget_8 : decode cX1_forget 8 = .ok (.aload_n 0, 1) := by decide +kernel
theorem dX1_forget_9 : decode cX1_forget 9 = .ok (.getfield 9, 3) := by decide +kernel
theorem dX1_forget_12 : decode cX1_forget 12 = .ok (.iconst 3, 1) := by decide +kernel
theorem dX1_forget_13 : decode cX1_forget 13 = .ok (.bipush 40, 2) := by decide +kernel
theorem dX1_forget_15 : decode cX1_forget 15 = .ok (.iastore, 1) := by decide +kernel
theorem dX1_forget_16 : decode cX1_forget 16 = .ok (.aload_n 0, 1) := by decide +kernel
theorem dX1_forget_17 : decode cX1_forget 17 = .ok (.iconst 0, 1) := by decide +kernel
theorem dX1_forget_18 : decode cX1_forget 18 = .ok (.putfield 30, 3) := by decide +kernel
theorem dX1_forget_21 : decode cX1_forget 21 = .ok (.return_, 1) := by decide +kernel
theorem dX1_copyFrom_0 : decode cX1_copyFrom 0 = .ok (.aload_n 1, 1) := by decide +kernel
theorem dX1_copyFrom_1 : decode cX1_copyFrom 1 = .ok (.getfield 9, 3) := by decide +kernel
theorem dX1_copyFrom_4 : decode cX1_copyFrom 4 = .ok (.iconst 0, 1) := by decide +kernel
theorem dX1_copyFrom_5 : decode cX1_copyFrom 5 = .ok (.aload_n 0, 1) := by decide +kernel
theorem dX1_copyFrom_6 : decode cX1_copyFrom 6 = .ok (.getfield 9, 3) := by decide +kernel
theorem dX1_copyFrom_9 : decode cX1_copyFrom 9 = .ok (.iconst 0, 1) := by decide +kernel
theorem dX1_copyFrom_10 : decode cX1_copyFrom 10 = .ok (.bipush 6, 2) := by decide +kernel
theorem dX1_copyFrom_12 : decode cX1_copyFrom 12 = .ok (.invokestatic 34, 3) := by decide +kernel
theorem dX1_copyFrom_15 : decode cX1_copyFrom 15 = .ok (.aload_n 1, 1) := by decide +kernel
theorem dX1_copyFrom_16 : decode cX1_copyFrom 16 = .ok (.getfield 15, 3) := by decide +kernel
theorem dX1_copyFrom_19 : decode cX1_copyFrom 19 = .ok (.iconst 0, 1) := by decide +kernel
theorem dX1_copyFrom_20 : decode cX1_copyFrom 20 = .ok (.aload_n 0, 1) := by decide +kernel
theorem dX1_copyFrom_21 : decode cX1_copyFrom 21 = .ok (.getfield 15, 3) := by decide +kernel
theorem dX1_copyFrom_24 : decode cX1_copyFrom 24 = .ok (.iconst 0, 1) := by decide +kernel
theorem dX1_copyFrom_25 : decode cX1_copyFrom 25 = .ok (.bipush 10, 2) := by decide +kernel
theorem dX1_copyFrom_27 : decode cX1_copyFrom 27 = .ok (.invokestatic 34, 3) := by decide +kernel
theorem dX1_copyFrom_30 : decode cX1_copyFrom 30 = .ok (.aload_n 1, 1) := by decide +kernel
theorem dX1_copyFrom_31 : decode cX1_copyFrom 31 = .ok (.getfield 18, 3) := by decide +kernel
theorem dX1_copyFrom_34 : decode cX1_copyFrom 34 = .ok (.iconst 0, 1) := by decide +kernel
theorem dX1_copyFrom_35 : decode cX1_copyFrom 35 = .ok (.aload_n 0, 1) := by decide +kernel
theorem dX1_copyFrom_36 : decode cX1_copyFrom 36 = .ok (.getfield 18, 3) := by decide +kernel
theorem dX1_copyFrom_39 : decode cX1_copyFrom 39 = .ok (.iconst 0, 1) := by decide +kernel
theorem dX1_copyFrom_40 : decode cX1_copyFrom 40 = .ok (.bipush 10, 2) := by decide +kernel
theorem dX1_copyFrom_42 : decode cX1_copyFrom 42 = .ok (.invokestatic 34, 3) := by decide +kernel
theorem dX1_copyFrom_45 : decode cX1_copyFrom 45 = .ok (.aload_n 1, 1) := by decide +kernel
theorem dX1_copyFrom_46 : decode cX1_copyFrom 46 = .ok (.getfield 21, 3) := by decide +kernel
theorem dX1_copyFrom_49 : decode cX1_copyFrom 49 = .ok (.iconst 0, 1) := by decide +kernel
theorem dX1_copyFrom_50 : decode cX1_copyFrom 50 = .ok (.aload_n 0, 1) := by decide +kernel
theorem dX1_copyFrom_51 : decode cX1_copyFrom 51 = .ok (.getfield 21, 3) := by decide +kernel
theorem dX1_copyFrom_54 : decode cX1_copyFrom 54 = .ok (.iconst 0, 1) := by decide +kernel
theorem dX1_copyFrom_55 : decode cX1_copyFrom 55 = .ok (.bipush 10, 2) := by decide +kernel
theorem dX1_copyFrom_57 : decode cX1_copyFrom 57 = .ok (.invokestatic 34, 3) := by decide +kernel
theorem dX1_copyFrom_60 : decode cX1_copyFrom 60 = .ok (.aload_n 0, 1) := by decide +kernel
theorem dX1_copyFrom_61 : decode cX1_copyFrom 61 = .ok (.aload_n 1, 1) := by decide +kernel
theorem dX1_copyFrom_62 : decode cX1_copyFrom 62 = .ok (.getfield 30, 3) := by decide +kernel
theorem dX1_copyFrom_65 : decode cX1_copyFrom 65 = .ok (.putfield 30, 3) := by decide +kernel
theorem dX1_copyFrom_68 : decode cX1_copyFrom 68 = .ok (.return_, 1) := by decide +kernel
theorem dX1_addMark_0 : decode cX1_addMark 0 = .ok (.aload_n 0, 1) := by decide +kernel
theorem dX1_addMark_1 : decode cX1_addMark 1 = .ok (.getfield 30, 3) := by decide +kernel
theorem dX1_addMark_4 : decode cX1_addMark 4 = .ok (.bipush 10, 2) := by decide +kernel
theorem dX1_addMark_6 : decode cX1_addMark 6 = .ok (.if_icmp .lt 5, 3) := by decide +kernel
theorem dX1_addMark_9 : decode cX1_addMark 9 = .ok (.iconst 0, 1) := by decide +kernel
theorem dX1_addMark_10 : decode cX1_addMark 10 = .ok (.ireturn, 1) := by decide +kernel
theorem dX1_addMark_11 : decode cX1_addMark 11 = .ok (.aload_n 0, 1) := by decide +kernel
theorem dX1_addMark_12 : decode cX1_addMark 12 = .ok (.getfield 15, 3) := by decide +kernel
theorem dX1_addMark_15 : decode cX1_addMark 15 = .ok (.aload_n 0, 1) := by decide +kernel
theorem dX1_addMark_16 : decode cX1_addMark 16 = .ok (.getfield 30, 3) := by decide +kernel
theorem dX1_addMark_19 : decode cX1_addMark 19 = .ok (.iload_n 1, 1) := by decide +kernel
theorem dX1_addMark_20 : decode cX1_addMark 20 = .ok (.iastore, 1) := by decide +kernel
theorem dX1_addMark_21 : decode cX1_addMark 21 = .ok (.aload_n 0, 1) := by decide +kernel
theorem dX1_addMark_22 : decode cX1_addMark 22 = .ok (.getfield 18, 3) := by decide +kernel
theorem dX1_addMark_25 : decode cX1_addMark 25 = .ok (.aload_n 0, 1) := by decide +kernel
theorem dX1_addMark_26 : decode cX1_addMark 26 = .ok (.getfield 30, 3) := by decide +kernel
theorem dX1_addMark_29 : decode cX1_addMark 29 = .ok (.iload_n 2, 1) := by decide +kernel
theorem dX1_addMark_30 : decode cX1_addMark 30 = .ok (.iastore, 1) := by decide +kernel
theorem dX1_addMark_31 : decode cX1_addMark 31 = .ok (.aload_n 0, 1) := by decide +kernel
theorem dX1_addMark_32 : decode cX1_addMark 32 = .ok (.getfield 21, 3) := by decide +kernel
theorem dX1_addMark_35 : decode cX1_addMark 35 = .ok (.aload_n 0, 1) := by decide +kernel
theorem dX1_addMark_36 : decode cX1_addMark 36 = .ok (.getfield 30, 3) := by decide +kernel
theorem dX1_addMark_39 : decode cX1_addMark 39 = .ok (.iload_n 3, 1) := by decide +kernel
theorem dX1_addMark_40 : decode cX1_addMark 40 = .ok (.iastore, 1) := by decide +kernel
theorem dX1_addMark_41 : decode cX1_addMark 41 = .ok (.aload_n 0, 1) := by decide +kernel
theorem dX1_addMark_42 : decode cX1_addMark 42 = .ok (.dup, 1) := by decide +kernel
theorem dX1_addMark_43 : decode cX1_addMark 43 = .ok (.getfield 30, 3) := by decide +kernel
theorem dX1_addMark_46 : decode cX1_addMark 46 = .ok (.iconst 1, 1) := by decide +kernel
theorem dX1_addMark_47 : decode cX1_addMark 47 = .ok (.iadd, 1) := by decide +kernel
theorem dX1_addMark_48 : decode cX1_addMark 48 = .ok (.putfield 30, 3) := by decide +kernel
theorem dX1_addMark_51 : decode cX1_addMark 51 = .ok (.iconst 1, 1) := by decide +kernel
theorem dX1_addMark_52 : decode cX1_addMark 52 = .ok (.ireturn, 1) := by decide +kernel
theorem dX1_countOf_0 : decode cX1_countOf 0 = .ok (.iconst 0, 1) := by decide +kernel
theorem dX1_countOf_1 : decode cX1_countOf 1 = .ok (.istore_n 2, 1) := by decide +kernel
theorem dX1_countOf_2 : decode cX1_countOf 2 = .ok (.iconst 0, 1) := by decide +kernel
theorem dX1_countOf_3 : decode cX1_countOf 3 = .ok (.istore_n 3, 1) := by decide +kernel
theorem dX1_countOf_4 : decode cX1_countOf 4 = .ok (.iload_n 3, 1) := by decide +kernel
theorem dX1_countOf_5 : decode cX1_countOf 5 = .ok (.aload_n 0, 1) := by decide +kernel
theorem dX1_countOf_6 : decode cX1_countOf 6 = .ok (.getfield 30, 3) := by decide +kernel
theorem dX1_countOf_9 : decode cX1_countOf 9 = .ok (.if_icmp .ge 22, 3) := by decide +kernel
theorem dX1_countOf_12 : decode cX1_countOf 12 = .ok (.aload_n 0, 1) := by decide +kernel
theorem dX1_countOf_13 : decode cX1_countOf 13 = .ok (.getfield 15, 3) := by decide +kernel
theorem dX1_countOf_16 : decode cX1_countOf 16 = .ok (.iload_n 3, 1) := by decide +kernel
theorem dX1_countOf_17 : decode cX1_countOf 17 = .ok (.iaload, 1) := by decide +kernel
theorem dX1_countOf_18 : decode cX1_countOf 18 = .ok (.iload_n 1, 1) := by decide +kernel
theorem dX1_countOf_19 : decode cX1_countOf 19 = .ok (.if_icmp .ne 6, 3) := by decide +kernel
theorem dX1_countOf_22 : decode cX1_countOf 22 = .ok (.iinc 2 1, 3) := by decide +kernel
theorem dX1_countOf_25 : decode cX1_countOf 25 = .ok (.iinc 3 1, 3) := by decide +kernel
theorem dX1_countOf_28 : decode cX1_countOf 28 = .ok (.goto (-24), 3) := by decide +kernel
theorem dX1_countOf_31 : decode cX1_countOf 31 = .ok (.iload_n 2, 1) := by decide +kernel
theorem dX1_countOf_32 : decode cX1_countOf 32 = .ok (.ireturn, 1) := by decide +kernel
set_option maxRecDepth 20000 in
theorem ggX1_lag_J9_floorDiv_7cf53 : GoodIn wsX1_lag wsJ9_floorDiv_7cf53 := goodIn_r _ [8] (by decide +kernel) (by decide +kernel)
set_option maxRecDepth 20000 in
theorem gX1_lag_J9_floorDiv_7cf53 : GoodIn wsX1_lag (va_wsS RX1 40 yJ9_floorDiv_7cf53 wsJ9_floorDiv_7cf53) := goodIn_app (goodIn_of _ (by decide +kernel)) ggX1_lag_J9_floorDiv_7cf53
theorem dX1_lag_0 : decode cX1_lag 0 = .ok (.aload_n 0, 1) := by decide +kernel
theorem dX1_lag_1 : decode cX1_lag 1 = .ok (.getfield 9, 3) := by decide +kernel
theorem dX1_lag_4 : decode cX1_lag 4 = .ok (.iconst 0, 1) := by decide +kernel
theorem dX1_lag_5 : decode cX1_lag 5 = .ok (.iaload, 1) := by decide +kernel
theorem dX1_lag_6 : decode cX1_lag 6 = .ok (.aload_n 0, 1) := by decide +kernel
theorem dX1_lag_7 : decode cX1_lag 7 = .ok (.getfield 9, 3) := by decide +kernel
theorem dX1_lag_10 : decode cX1_lag 10 = .ok (.iconst 1, 1) := by decide +kernel
theorem dX1_lag_11 : decode cX1_lag 11 = .ok (.iaload, 1) := by decide +kernel
theorem dX1_lag_12 : decode cX1_lag 12 = .ok (.iload_n 2, 1) := by decide +kernel
theorem dX1_lag_13 : decode cX1_lag 13 = .ok (.imul, 1) := by decide +kernel
theorem dX1_lag_14 : decode cX1_lag 14 = .ok (.sipush 256, 3) := by decide +kernel
theorem dX1_lag_17 : decode cX1_lag 17 = .ok (.invokestatic 40, 3) := by decide +kernel
theorem dX1_lag_20 : decode cX1_lag 20 = .ok (.iadd, 1) := by decide +kernel
theorem dX1_lag_21 : decode cX1_lag 21 = .ok (.istore_n 3, 1) := by decide +kernel
theorem dX1_lag_22 : decode cX1_lag 22 = .ok (.iconst 0, 1) := by decide +kernel
theorem dX1_lag_23 : decode cX1_lag 23 = .ok (.istore 4, 2) := by decide +kernel
theorem dX1_lag_25 : decode cX1_lag 25 = .ok (.iload 4, 2) := by decide +kernel
theorem dX1_lag_27 : decode cX1_lag 27 = .ok (.aload_n 0, 1) := by decide +kernel
theorem dX1_lag_28 : decode cX1_lag 28 = .ok (.getfield 30, 3) := by decide +kernel
theorem dX1_lag_31 : decode cX1_lag 31 = .ok (.if_icmp .ge 62, 3) := by decide +kernel
theorem dX1_lag_34 : decode cX1_lag 34 = .ok (.aload_n 0, 1) := by decide +kernel
theorem dX1_lag_35 : decode cX1_lag 35 = .ok (.getfield 18, 3) := by decide +kernel
theorem dX1_lag_38 : decode cX1_lag 38 = .ok (.iload 4, 2) := by decide +kernel
theorem dX1_lag_40 : decode cX1_lag 40 = .ok (.iaload, 1) := by decide +kernel
theorem dX1_lag_41 : decode cX1_lag 41 = .ok (.iload_n 1, 1) := by decide +kernel
theorem dX1_lag_42 : decode cX1_lag 42 = .ok (.if_icmp .gt 20, 3) := by decide +kernel
theorem dX1_lag_45 : decode cX1_lag 45 = .ok (.aload_n 0, 1) := by decide +kernel
theorem dX1_lag_46 : decode cX1_lag 46 = .ok (.getfield 15, 3) := by decide +kernel
theorem dX1_lag_49 : decode cX1_lag 49 = .ok (.iload 4, 2) := by decide +kernel
theorem dX1_lag_51 : decode cX1_lag 51 = .ok (.iaload, 1) := by decide +kernel
theorem dX1_lag_52 : decode cX1_lag 52 = .ok (.iconst 1, 1) := by decide +kernel
theorem dX1_lag_53 : decode cX1_lag 53 = .ok (.if_icmp .ne 9, 3) := by decide +kernel
theorem dX1_lag_56 : decode cX1_lag 56 = .ok (.iinc 3 1, 3) := by decide +kernel
theorem dX1_lag_59 : decode cX1_lag 59 = .ok (.goto 28, 3) := by decide +kernel
theorem dX1_lag_62 : decode cX1_lag 62 = .ok (.aload_n 0, 1) := by decide +kernel
theorem dX1_lag_63 : decode cX1_lag 63 = .ok (.getfield 18, 3) := by decide +kernel
theorem dX1_lag_66 : decode cX1_lag 66 = .ok (.iload 4, 2) := by decide +kernel
theorem dX1_lag_68 : decode cX1_lag 68 = .ok (.iaload, 1) := by decide +kernel
theorem dX1_lag_69 : decode cX1_lag 69 = .ok (.iload_n 1, 1) := by decide +kernel
theorem dX1_lag_70 : decode cX1_lag 70 = .ok (.if_icmp .gt 17, 3) := by decide +kernel
theorem dX1_lag_73 : decode cX1_lag 73 = .ok (.aload_n 0, 1) := by decide +kernel
theorem dX1_lag_74 : decode cX1_lag 74 = .ok (.getfield 15, 3) := by decide +kernel
theorem dX1_lag_77 : decode cX1_lag 77 = .ok (.iload 4, 2) := by decide +kernel
theorem dX1_lag_79 : decode cX1_lag 79 = .ok (.iaload, 1) := by decide +kernel
theorem dX1_lag_80 : decode cX1_lag 80 = .ok (.iconst 2, 1) := by decide +kernel
theorem dX1_lag_81 : decode cX1_lag 81 = .ok (.if_icmp .ne 6, 3) := by decide +kernel
theorem dX1_lag_84 : decode cX1_lag 84 = .ok (.iinc 3 (-1), 3) := by decide +kernel
theorem dX1_lag_87 : decode cX1_lag 87 = .ok (.iinc 4 1, 3) := by decide +kernel
theorem dX1_lag_90 : decode cX1_lag 90 = .ok (.goto (-65), 3) := by decide +kernel
theorem dX1_lag_93 : decode cX1_lag 93 = .ok (.iload_n 3, 1) := by decide +kernel
theorem dX1_lag_94 : decode cX1_lag 94 = .ok (.ireturn, 1) := by decide +kernel
theorem dX1_loses_0 : decode cX1_loses 0 = .ok (.iconst 0, 1) := by decide +kernel
theorem dX1_loses_1 : decode cX1_loses 1 = .ok (.istore_n 2, 1) := by decide +kernel
theorem dX1_loses_2 : decode cX1_loses 2 = .ok (.iload_n 2, 1) := by decide +kernel
theorem dX1_loses_3 : decode cX1_loses 3 = .ok (.aload_n 0, 1) := by decide +kernel
theorem dX1_loses_4 : decode cX1_loses 4 = .ok (.getfield 30, 3) := by decide +kernel
theorem dX1_loses_7 : decode cX1_loses 7 = .ok (.if_icmp .ge 41, 3) := by decide +kernel
theorem dX1_loses_10 : decode cX1_loses 10 = .ok (.aload_n 0, 1) := by decide +kernel
theorem dX1_loses_11 : decode cX1_loses 11 = .ok (.getfield 15, 3) := by decide +kernel
theorem dX1_loses_14 : decode cX1_loses 14 = .ok (.iload_n 2, 1) := by decide +kernel
theorem dX1_loses_15 : decode cX1_loses 15 = .ok (.iaload, 1) := by decide +kernel
theorem dX1_loses_16 : decode cX1_loses 16 = .ok (.iconst 3, 1) := by decide +kernel
theorem dX1_loses_17 : decode cX1_loses 17 = .ok (.if_icmp .ne 25, 3) := by decide +kernel
theorem dX1_loses_20 : decode cX1_loses 20 = .ok (.aload_n 0, 1) := by decide +kernel
theorem dX1_loses_21 : decode cX1_loses 21 = .ok (.getfield 18, 3) := by decide +kernel
theorem dX1_loses_24 : decode cX1_loses 24 = .ok (.iload_n 2, 1) := by decide +kernel
theorem dX1_loses_25 : decode cX1_loses 25 = .ok (.iaload, 1) := by decide +kernel
theorem dX1_loses_26 : decode cX1_loses 26 = .ok (.iload_n 1, 1) := by decide +kernel
theorem dX1_loses_27 : decode cX1_loses 27 = .ok (.if_icmp .gt 15, 3) := by decide +kernel
theorem dX1_loses_30 : decode cX1_loses 30 = .ok (.iload_n 1, 1) := by decide +kernel
theorem dX1_loses_31 : decode cX1_loses 31 = .ok (.aload_n 0, 1) := by decide +kernel
theorem dX1_loses_32 : decode cX1_loses 32 = .ok (.getfield 21, 3) := by decide +kernel
theorem dX1_loses_35 : decode cX1_loses 35 = .ok (.iload_n 2, 1) := by decide +kernel
theorem dX1_loses_36 : decode cX1_loses 36 = .ok (.iaload, 1) := by decide +kernel
theorem dX1_loses_37 : decode cX1_loses 37 = .ok (.if_icmp .gt 5, 3) := by decide +kernel
theorem dX1_loses_40 : decode cX1_loses 40 = .ok (.iconst 1, 1) := by decide +kernel
theorem dX1_loses_41 : decode cX1_loses 41 = .ok (.ireturn, 1) := by decide +kernel
theorem dX1_loses_42 : decode cX1_loses 42 = .ok (.iinc 2 1, 3) := by decide +kernel
theorem dX1_loses_45 : decode cX1_loses 45 = .ok (.goto (-43), 3) := by decide +kernel
theorem dX1_loses_48 : decode cX1_loses 48 = .ok (.iconst 0, 1) := by decide +kernel
theorem dX1_loses_49 : decode cX1_loses 49 = .ok (.ireturn, 1) := by decide +kernel
theorem dX1_flipsAt_0 : decode cX1_flipsAt 0 = .ok (.iconst 0, 1) := by decide +kernel
theorem dX1_flipsAt_1 : decode cX1_flipsAt 1 = .ok (.istore_n 2, 1) := by decide +kernel
theorem dX1_flipsAt_2 : decode cX1_flipsAt 2 = .ok (.iconst 0, 1) := by decide +kernel
theorem dX1_flipsAt_3 : decode cX1_flipsAt 3 = .ok (.istore_n 3, 1) := by decide +kernel
theorem dX1_flipsAt_4 : decode cX1_flipsAt 4 = .ok (.iload_n 3, 1) := by decide +kernel
theorem dX1_flipsAt_5 : decode cX1_flipsAt 5 = .ok (.aload_n 0, 1) := by decide +kernel
theorem dX1_flipsAt_6 : decode cX1_flipsAt 6 = .ok (.getfield 30, 3) := by decide +kernel
theorem dX1_flipsAt_9 : decode cX1_flipsAt 9 = .ok (.if_icmp .ge 32, 3) := by decide +kernel
theorem dX1_flipsAt_12 : decode cX1_flipsAt 12 = .ok (.aload_n 0, 1) := by decide +kernel
theorem dX1_flipsAt_13 : decode cX1_flipsAt 13 = .ok (.getfield 15, 3) := by decide +kernel
theorem dX1_flipsAt_16 : decode cX1_flipsAt 16 = .ok (.iload_n 3, 1) := by decide +kernel
theorem dX1_flipsAt_17 : decode cX1_flipsAt 17 = .ok (.iaload, 1) := by decide +kernel
theorem dX1_flipsAt_18 : decode cX1_flipsAt 18 = .ok (.ifCond .ne 17, 3) := by decide +kernel
theorem dX1_flipsAt_21 : decode cX1_flipsAt 21 = .ok (.aload_n 0, 1) := by decide +kernel
theorem dX1_flipsAt_22 : decode cX1_flipsAt 22 = .ok (.getfield 18, 3) := by decide +kernel
theorem dX1_flipsAt_25 : decode cX1_flipsAt 25 = .ok (.iload_n 3, 1) := by decide +kernel
theorem dX1_flipsAt_26 : decode cX1_flipsAt 26 = .ok (.iaload, 1) := by decide +kernel
theorem dX1_flipsAt_27 : decode cX1_flipsAt 27 = .ok (.iload_n 1, 1) := by decide +kernel
theorem dX1_flipsAt_28 : decode cX1_flipsAt 28 = .ok (.if_icmp .ne 7, 3) := by decide +kernel
theorem dX1_flipsAt_31 : decode cX1_flipsAt 31 = .ok (.iload_n 2, 1) := by decide +kernel
theorem dX1_flipsAt_32 : decode cX1_flipsAt 32 = .ok (.iconst 1, 1) := by decide +kernel
theorem dX1_flipsAt_33 : decode cX1_flipsAt 33 = .ok (.ixor, 1) := by decide +kernel
theorem dX1_flipsAt_34 : decode cX1_flipsAt 34 = .ok (.istore_n 2, 1) := by decide +kernel
theorem dX1_flipsAt_35 : decode cX1_flipsAt 35 = .ok (.iinc 3 1, 3) := by decide +kernel
theorem dX1_flipsAt_38 : decode cX1_flipsAt 38 = .ok (.goto (-34), 3) := by decide +kernel
theorem dX1_flipsAt_41 : decode cX1_flipsAt 41 = .ok (.iload_n 2, 1) := by decide +kernel
theorem dX1_flipsAt_42 : decode cX1_flipsAt 42 = .ok (.ireturn, 1) := by decide +kernel
set_option maxRecDepth 20000 in
theorem ggX2_init_X7_init : GoodIn wsX2_init wsX7_init := goodIn_r _ [13, 14, 2, 3, 15, 16, 17, 18, 19, 20, 21, 22, 23, 24, 25, 26, 27, 28, 29, 30, 31, 32, 33, 34, 35, 36, 37, 43, 44, 45, 46, 47] (by decide +kernel) (by decide +kernel)
set_option maxRecDepth 20000 in
theorem gX2_init_X7_init : GoodIn wsX2_init (wsX7_init) := ggX2_init_X7_init
theorem dX2_init_0 : decode cX2_init 0 = .ok (.aload_n 0, 1) := by decide +kernel
theorem dX2_init_1 : decode cX2_init 1 = .ok (.invokespecial 3, 3) := by decide +kernel
theorem dX2_init_4 : decode cX2_init 4 = .ok (.aload_n 0, 1) := by decide +kernel
theorem dX2_init_5 : decode cX2_init 5 = .ok (.new 9, 3) := by decide +kernel
theorem dX2_init_8 : decode cX2_init 8 = .ok (.dup, 1) := by decide +kernel
theorem dX2_init_9 : decode cX2_init 9 = .ok (.invokespecial 11, 3) := by decide +kernel
theorem dX2_init_12 : decode cX2_init 12 = .ok (.putfield 12, 3) := by decide +kernel
theorem dX2_init_15 : decode cX2_init 15 = .ok (.aload_n 0, 1) := by decide +kernel
theorem dX2_init_16 : decode cX2_init 16 = .ok (.sipush 500, 3) := by decide +kernel
theorem dX2_init_19 : decode cX2_init 19 = .ok (.newarray .byte, 2) := by decide +kernel
theorem dX2_init_21 : decode cX2_init 21 = .ok (.putfield 18, 3) := by decide +kernel
theorem dX2_init_24 : decode cX2_init 24 = .ok (.aload_n 0, 1) := by decide +kernel
theorem dX2_init_25 : decode cX2_init 25 = .ok (.iconst (-1), 1) := by decide +kernel
theorem dX2_init_26 : decode cX2_init 26 = .ok (.putfield 22, 3) := by decide +kernel
theorem dX2_init_29 : decode cX2_init 29 = .ok (.return_, 1) := by decide +kernel
set_option maxRecDepth 20000 in
theorem ggX2_copyFrom_X7_copyFrom : GoodIn wsX2_copyFrom wsX7_copyFrom := goodIn_r _ [14, 15, 16, 5, 6, 7, 17, 18, 19, 20, 21, 22, 23, 24, 25, 26, 27, 28, 29, 30, 31, 32, 38, 39, 40, 41, 42, 43, 44, 45, 46, 47, 48] (by decide +kernel) (by decide +kernel)
set_option maxRecDepth 20000 in
theorem gX2_copyFrom_X7_copyFrom : GoodIn wsX2_copyFrom (wsV RX2 26 RX7 yX7_copyFrom wsX7_copyFrom) := goodIn_app (goodIn_of _ (by decide +kernel)) ggX2_copyFrom_X7_copyFrom
theorem dX2_copyFrom_0 : decode cX2_copyFrom 0 = .ok (.aload_n 0, 1) := by decide +kernel
theorem dX2_copyFrom_1 : decode cX2_copyFrom 1 = .ok (.getfield 12, 3) := by decide +kernel
theorem dX2_copyFrom_4 : decode cX2_copyFrom 4 = .ok (.aload_n 1, 1) := by decide +kernel
theorem dX2_copyFrom_5 : decode cX2_copyFrom 5 = .ok (.getfield 12, 3) := by decide +kernel
theorem dX2_copyFrom_8 : decode cX2_copyFrom 8 = .ok (.invokevirtual 26, 3) := by decide +kernel
theorem dX2_copyFrom_11 : decode cX2_copyFrom 11 = .ok (.aload_n 1, 1) := by decide +kernel
theorem dX2_copyFrom_12 : decode cX2_copyFrom 12 = .ok (.getfield 18, 3) := by decide +kernel
theorem dX2_copyFrom_15 : decode cX2_copyFrom 15 = .ok (.iconst 0, 1) := by decide +kernel
theorem dX2_copyFrom_16 : decode cX2_copyFrom 16 = .ok (.aload_n 0, 1) := by decide +kernel
theorem dX2_copyFrom_17 : decode cX2_copyFrom 17 = .ok (.getfield 18, 3) := by decide +kernel
theorem dX2_copyFrom_20 : decode cX2_copyFrom 20 = .ok (.iconst 0, 1) := by decide +kernel
theorem dX2_copyFrom_21 : decode cX2_copyFrom 21 = .ok (.aload_n 1, 1) := by decide +kernel
theorem dX2_copyFrom_22 : decode cX2_copyFrom 22 = .ok (.getfield 30, 3) := by decide +kernel
theorem dX2_copyFrom_25 : decode cX2_copyFrom 25 = .ok (.invokestatic 33, 3) := by decide +kernel
theorem dX2_copyFrom_28 : decode cX2_copyFrom 28 = .ok (.aload_n 0, 1) := by decide +kernel
theorem dX2_copyFrom_29 : decode cX2_copyFrom 29 = .ok (.aload_n 1, 1) := by decide +kernel
theorem dX2_copyFrom_30 : decode cX2_copyFrom 30 = .ok (.getfield 30, 3) := by decide +kernel
theorem dX2_copyFrom_33 : decode cX2_copyFrom 33 = .ok (.putfield 30, 3) := by decide +kernel
theorem dX2_copyFrom_36 : decode cX2_copyFrom 36 = .ok (.aload_n 0, 1) := by decide +kernel
theorem dX2_copyFrom_37 : decode cX2_copyFrom 37 = .ok (.aload_n 1, 1) := by decide +kernel
theorem dX2_copyFrom_38 : decode cX2_copyFrom 38 = .ok (.getfield 39, 3) := by decide +kernel
theorem dX2_copyFrom_41 : decode cX2_copyFrom 41 = .ok (.putfield 39, 3) := by decide +kernel
theorem dX2_copyFrom_44 : decode cX2_copyFrom 44 = .ok (.aload_n 0, 1) := by decide +kernel
theorem dX2_copyFrom_45 : decode cX2_copyFrom 45 = .ok (.aload_n 1, 1) := by decide +kernel
theorem dX2_copyFrom_46 : decode cX2_copyFrom 46 = .ok (.getfield 22, 3) := by decide +kernel
theorem dX2_copyFrom_49 : decode cX2_copyFrom 49 = .ok (.putfield 22, 3) := by decide +kernel
theorem dX2_copyFrom_52 : decode cX2_copyFrom 52 = .ok (.return_, 1) := by decide +kernel
theorem dX3_init_0 : decode cX3_init 0 = .ok (.aload_n 0, 1) := by decide +kernel
theorem dX3_init_1 : decode cX3_init 1 = .ok (.invokespecial 3, 3) := by decide +kernel
theorem dX3_init_4 : decode cX3_init 4 = .ok (.aload_n 0, 1) := by decide +kernel
theorem dX3_init_5 : decode cX3_init 5 = .ok (.bipush 20, 2) := by decide +kernel
theorem dX3_init_7 : decode cX3_init 7 = .ok (.newarray .int, 2) := by decide +kernel
theorem dX3_init_9 : decode cX3_init 9 = .ok (.putfield 9, 3) := by decide +kernel
theorem dX3_init_12 : decode cX3_init 12 = .ok (.aload_n 0, 1) := by decide +kernel
theorem dX3_init_13 : decode cX3_init 13 = .ok (.bipush 20, 2) := by decide +kernel
theorem dX3_init_15 : decode cX3_init 15 = .ok (.newarray .int, 2) := by decide +kernel
theorem dX3_init_17 : decode cX3_init 17 = .ok (.putfield 15, 3) := by decide +kernel
theorem dX3_init_20 : decode cX3_init 20 = .ok (.aload_n 0, 1) := by decide +kernel
theorem dX3_init_21 : decode cX3_init 21 = .ok (.iconst 5, 1) := by decide +kernel
theorem dX3_init_22 : decode cX3_init 22 = .ok (.newarray .int, 2) := by decide +kernel
theorem dX3_init_24 : decode cX3_init 24 = .ok (.putfield 18, 3) := by decide +kernel
theorem dX3_init_27 : decode cX3_init 27 = .ok (.aload_n 0, 1) := by decide +kernel
theorem dX3_init_28 : decode cX3_init 28 = .ok (.aload_n 1, 1) := by decide +kernel
theorem dX3_init_29 : decode cX3_init 29 = .ok (.putfield 21, 3) := by decide +kernel
theorem dX3_init_32 : decode cX3_init 32 = .ok (.return_, 1) := by decide +kernel
set_option maxRecDepth 20000 in
theorem ggX3_rankFirst_J7_fill_53178 : GoodIn wsX3_rankFirst wsJ7_fill_53178 := goodIn_r _ [13] (by decide +kernel) (by decide +kernel)
set_option maxRecDepth 20000 in
theorem gX3_rankFirst_J7_fill_53178 : GoodIn wsX3_rankFirst (va_wsS RX3 25 yJ7_fill_53178 wsJ7_fill_53178) := goodIn_app (goodIn_of _ (by decide +kernel)) ggX3_rankFirst_J7_fill_53178
set_option maxRecDepth 20000 in
theorem ggX3_rankFirst_X3_nextScore : GoodIn wsX3_rankFirst wsX3_nextScore := goodIn_r _ [18, 2, 3, 19, 20, 1, 21, 22, 28, 29, 30, 31, 32, 33, 34, 35, 36, 37, 38, 39, 40, 41, 42, 43, 44, 45, 46, 47, 48, 49] (by decide +kernel) (by decide +kernel)
set_option maxRecDepth 20000 in
theorem gX3_rankFirst_X3_nextScore : GoodIn wsX3_rankFirst (wsV RX3 43 RX3 yX3_nextScore wsX3_nextScore) := goodIn_app (goodIn_of _ (by decide +kernel)) ggX3_rankFirst_X3_nextScore
set_option maxRecDepth 20000 in
theorem ggX3_rankFirst_X3_putIn : GoodIn wsX3_rankFirst wsX3_putIn := goodIn_r _ [26, 5, 27, 28, 29, 30, 31] (by decide +kernel) (by decide +kernel)
set_option maxRecDepth 20000 in
theorem gX3_rankFirst_X3_putIn : GoodIn wsX3_rankFirst (wsV RX3 53 RX3 yX3_putIn wsX3_putIn) := goodIn_app (goodIn_of _ (by decide +kernel)) ggX3_rankFirst_X3_putIn
theorem dX3_rankFirst_0 : decode cX3_rankFirst 0 = .ok (.aload_n 0, 1) := by decide +kernel
theorem dX3_rankFirst_1 : decode cX3_rankFirst 1 = .ok (.getfield 18, 3) := by decide +kernel
theorem dX3_rankFirst_4 : decode cX3_rankFirst 4 = .ok (.iconst 0, 1) := by decide +kernel
theorem dX3_rankFirst_5 : decode cX3_rankFirst 5 = .ok (.invokestatic 25, 3) := by decide +kernel
theorem dX3_rankFirst_8 : decode cX3_rankFirst 8 = .ok (.iconst 0, 1) := by decide +kernel
theorem dX3_rankFirst_9 : decode cX3_rankFirst 9 = .ok (.istore_n 2, 1) := by decide +kernel
theorem dX3_rankFirst_10 : decode cX3_rankFirst 10 = .ok (.iconst 0, 1) := by decide +kernel
theorem dX3_rankFirst_11 : decode cX3_rankFirst 11 = .ok (.istore_n 3, 1) := by decide +kernel
theorem dX3_rankFirst_12 : decode cX3_rankFirst 12 = .ok (.iload_n 3, 1) := by decide +kernel
theorem dX3_rankFirst_13 : decode cX3_rankFirst 13 = .ok (.aload_n 0, 1) := by decide +kernel
theorem dX3_rankFirst_14 : decode cX3_rankFirst 14 = .ok (.getfield 21, 3) := by decide +kernel
theorem dX3_rankFirst_17 : decode cX3_rankFirst 17 = .ok (.getfield 31, 3) := by decide +kernel
theorem dX3_rankFirst_20 : decode cX3_rankFirst 20 = .ok (.getfield 37, 3) := by decide +kernel
theorem dX3_rankFirst_23 : decode cX3_rankFirst 23 = .ok (.if_icmp .ge 51, 3) := by decide +kernel
theorem dX3_rankFirst_26 : decode cX3_rankFirst 26 = .ok (.aload_n 0, 1) := by decide +kernel
theorem dX3_rankFirst_27 : decode cX3_rankFirst 27 = .ok (.invokevirtual 43, 3) := by decide +kernel
theorem dX3_rankFirst_30 : decode cX3_rankFirst 30 = .ok (.istore 4, 2) := by decide +kernel
theorem dX3_rankFirst_32 : decode cX3_rankFirst 32 = .ok (.iload_n 2, 1) := by decide +kernel
theorem dX3_rankFirst_33 : decode cX3_rankFirst 33 = .ok (.iload_n 1, 1) := by decide +kernel
theorem dX3_rankFirst_34 : decode cX3_rankFirst 34 = .ok (.if_icmp .lt 16, 3) := by decide +kernel
theorem dX3_rankFirst_37 : decode cX3_rankFirst 37 = .ok (.iload 4, 2) := by decide +kernel
theorem dX3_rankFirst_39 : decode cX3_rankFirst 39 = .ok (.aload_n 0, 1) := by decide +kernel
theorem dX3_rankFirst_40 : decode cX3_rankFirst 40 = .ok (.getfield 15, 3) := by decide +kernel
theorem dX3_rankFirst_43 : decode cX3_rankFirst 43 = .ok (.iload_n 2, 1) := by decide +kernel
theorem dX3_rankFirst_44 : decode cX3_rankFirst 44 = .ok (.iconst 1, 1) := by decide +kernel
theorem dX3_rankFirst_45 : decode cX3_rankFirst 45 = .ok (.isub, 1) := by decide +kernel
theorem dX3_rankFirst_46 : decode cX3_rankFirst 46 = .ok (.iaload, 1) := by decide +kernel
theorem dX3_rankFirst_47 : decode cX3_rankFirst 47 = .ok (.if_icmp .le 21, 3) := by decide +kernel
theorem dX3_rankFirst_50 : decode cX3_rankFirst 50 = .ok (.iload_n 2, 1) := by decide +kernel
theorem dX3_rankFirst_51 : decode cX3_rankFirst 51 = .ok (.iconst 1, 1) := by decide +kernel
theorem dX3_rankFirst_52 : decode cX3_rankFirst 52 = .ok (.iadd, 1) := by decide +kernel
theorem dX3_rankFirst_53 : decode cX3_rankFirst 53 = .ok (.iload_n 1, 1) := by decide +kernel
theorem dX3_rankFirst_54 : decode cX3_rankFirst 54 = .ok (.invokestatic 47, 3) := by decide +kernel
theorem dX3_rankFirst_57 : decode cX3_rankFirst 57 = .ok (.istore_n 2, 1) := by decide +kernel
theorem dX3_rankFirst_58 : decode cX3_rankFirst 58 = .ok (.aload_n 0, 1) := by decide +kernel
theorem dX3_rankFirst_59 : decode cX3_rankFirst 59 = .ok (.iload_n 3, 1) := by decide +kernel
theorem dX3_rankFirst_60 : decode cX3_rankFirst 60 = .ok (.iload 4, 2) := by decide +kernel
theorem dX3_rankFirst_62 : decode cX3_rankFirst 62 = .ok (.iload_n 2, 1) := by decide +kernel
theorem dX3_rankFirst_63 : decode cX3_rankFirst 63 = .ok (.iconst 1, 1) := by decide +kernel
theorem dX3_rankFirst_64 : decode cX3_rankFirst 64 = .ok (.isub, 1) := by decide +kernel
theorem dX3_rankFirst_65 : decode cX3_rankFirst 65 = .ok (.invokevirtual 53, 3) := by decide +kernel
theorem dX3_rankFirst_68 : decode cX3_rankFirst 68 = .ok (.iinc 3 1, 3) := by decide +kernel
theorem dX3_rankFirst_71 : decode cX3_rankFirst 71 = .ok (.goto (-59), 3) := by decide +kernel
theorem dX3_rankFirst_74 : decode cX3_rankFirst 74 = .ok (.return_, 1) := by decide +kernel
theorem dX3_putIn_0 : decode cX3_putIn 0 = .ok (.iload_n 3, 1) := by decide +kernel
theorem dX3_putIn_1 : decode cX3_putIn 1 = .ok (.istore 4, 2) := by decide +kernel
theorem dX3_putIn_3 : decode cX3_putIn 3 = .ok (.iload 4, 2) := by decide +kernel
theorem dX3_putIn_5 : decode cX3_putIn 5 = .ok (.ifCond .le 54, 3) := by decide +kernel
theorem dX3_putIn_8 : decode cX3_putIn 8 = .ok (.aload_n 0, 1) := by decide +kernel
theorem dX3_putIn_9 : decode cX3_putIn 9 = .ok (.getfield 15, 3) := by decide +kernel
theorem dX3_putIn_12 : decode cX3_putIn 12 = .ok (.iload 4, 2) := by decide +kernel
theorem dX3_putIn_14 : decode cX3_putIn 14 = .ok (.iconst 1, 1) := by decide +kernel
theorem dX3_putIn_15 : decode cX3_putIn 15 = .ok (.isub, 1) := by decide +kernel
theorem dX3_putIn_16 : decode cX3_putIn 16 = .ok (.iaload, 1) := by decide +kernel
theorem dX3_putIn_17 : decode cX3_putIn 17 = .ok (.iload_n 2, 1) := by decide +kernel
theorem dX3_putIn_18 : decode cX3_putIn 18 = .ok (.if_icmp .ge 41, 3) := by decide +kernel
theorem dX3_putIn_21 : decode cX3_putIn 21 = .ok (.aload_n 0, 1) := by decide +kernel
theorem dX3_putIn_22 : decode cX3_putIn 22 = .ok (.getfield 15, 3) := by decide +kernel
theorem dX3_putIn_25 : decode cX3_putIn 25 = .ok (.iload 4, 2) := by decide +kernel
theorem dX3_putIn_27 : decode cX3_putIn 27 = .ok (.aload_n 0, 1) := by decide +kernel
theorem dX3_putIn_28 : decode cX3_putIn 28 = .ok (.getfield 15, 3) := by decide +kernel
theorem dX3_putIn_31 : decode cX3_putIn 31 = .ok (.iload 4, 2) := by decide +kernel
theorem dX3_putIn_33 : decode cX3_putIn 33 = .ok (.iconst 1, 1) := by decide +kernel
theorem dX3_putIn_34 : decode cX3_putIn 34 = .ok (.isub, 1) := by decide +kernel
theorem dX3_putIn_35 : decode cX3_putIn 35 = .ok (.iaload, 1) := by decide +kernel
theorem dX3_putIn_36 : decode cX3_putIn 36 = .ok (.iastore, 1) := by decide +kernel
theorem dX3_putIn_37 : decode cX3_putIn 37 = .ok (.aload_n 0, 1) := by decide +kernel
theorem dX3_putIn_38 : decode cX3_putIn 38 = .ok (.getfield 9, 3) := by decide +kernel
theorem dX3_putIn_41 : decode cX3_putIn 41 = .ok (.iload 4, 2) := by decide +kernel
theorem dX3_putIn_43 : decode cX3_putIn 43 = .ok (.aload_n 0, 1) := by decide +kernel
theorem dX3_putIn_44 : decode cX3_putIn 44 = .ok (.getfield 9, 3) := by decide +kernel
theorem dX3_putIn_47 : decode cX3_putIn 47 = .ok (.iload 4, 2) := by decide +kernel
theorem dX3_putIn_49 : decode cX3_putIn 49 = .ok (.iconst 1, 1) := by decide +kernel
theorem dX3_putIn_50 : decode cX3_putIn 50 = .ok (.isub, 1) := by decide +kernel
theorem dX3_putIn_51 : decode cX3_putIn 51 = .ok (.iaload, 1) := by decide +kernel
theorem dX3_putIn_52 : decode cX3_putIn 52 = .ok (.iastore, 1) := by decide +kernel
theorem dX3_putIn_53 : decode cX3_putIn 53 = .ok (.iinc 4 (-1), 3) := by decide +kernel
theorem dX3_putIn_56 : decode cX3_putIn 56 = .ok (.goto (-53), 3) := by decide +kernel
theorem dX3_putIn_59 : decode cX3_putIn 59 = .ok (.aload_n 0, 1) := by decide +kernel
theorem dX3_putIn_60 : decode cX3_putIn 60 = .ok (.getfield 15, 3) := by decide +kernel
theorem dX3_putIn_63 : decode cX3_putIn 63 = .ok (.iload 4, 2) := by decide +kernel
theorem dX3_putIn_65 : decode cX3_putIn 65 = .ok (.iload_n 2, 1) := by decide +kernel
theorem dX3_putIn_66 : decode cX3_putIn 66 = .ok (.iastore, 1) := by decide +kernel
theorem dX3_putIn_67 : decode cX3_putIn 67 = .ok (.aload_n 0, 1) := by decide +kernel
theorem dX3_putIn_68 : decode cX3_putIn 68 = .ok (.getfield 9, 3) := by decide +kernel
theorem dX3_putIn_71 : decode cX3_putIn 71 = .ok (.iload 4, 2) := by decide +kernel
theorem dX3_putIn_73 : decode cX3_putIn 73 = .ok (.iload_n 1, 1) := by decide +kernel
theorem dX3_putIn_74 : decode cX3_putIn 74 = .ok (.iastore, 1) := by decide +kernel
theorem dX3_putIn_75 : decode cX3_putIn 75 = .ok (.return_, 1) := by decide +kernel
set_option maxRecDepth 20000 in
theorem ggX3_placeOf_X8_rest : GoodIn wsX3_placeOf wsX8_rest := goodIn_r _ [9] (by decide +kernel) (by decide +kernel)
set_option maxRecDepth 20000 in
theorem gX3_placeOf_X8_rest_n63 : GoodIn wsX3_placeOf (wsX8_rest) := ggX3_placeOf_X8_rest
set_option maxRecDepth 20000 in
theorem ggX3_placeOf_X3_nextScore : GoodIn wsX3_placeOf wsX3_nextScore := goodIn_r _ [14, 1, 2, 3, 15, 4, 16, 5, 21, 22, 23, 24, 25, 26, 27, 28, 29, 30, 31, 32, 33, 34, 35, 36, 37, 38, 39, 40, 41, 42] (by decide +kernel) (by decide +kernel)
set_option maxRecDepth 20000 in
theorem gX3_placeOf_X3_nextScore : GoodIn wsX3_placeOf (wsV RX3 43 RX3 yX3_nextScore wsX3_nextScore) := goodIn_app (goodIn_of _ (by decide +kernel)) ggX3_placeOf_X3_nextScore
set_option maxRecDepth 20000 in
theorem ggX3_placeOf_J7_fill_53178 : GoodIn wsX3_placeOf wsJ7_fill_53178 := goodIn_r _ [20] (by decide +kernel) (by decide +kernel)
set_option maxRecDepth 20000 in
theorem gX3_placeOf_J7_fill_53178 : GoodIn wsX3_placeOf (va_wsS RX3 25 yJ7_fill_53178 wsJ7_fill_53178) := goodIn_app (goodIn_of _ (by decide +kernel)) ggX3_placeOf_J7_fill_53178
theorem dX3_placeOf_0 : decode cX3_placeOf 0 = .ok (.iconst 0, 1) := by decide +kernel
theorem dX3_placeOf_1 : decode cX3_placeOf 1 = .ok (.istore_n 2, 1) := by decide +kernel
theorem dX3_placeOf_2 : decode cX3_placeOf 2 = .ok (.iload_n 2, 1) := by decide +kernel
theorem dX3_placeOf_3 : decode cX3_placeOf 3 = .ok (.aload_n 0, 1) := by decide +kernel
theorem dX3_placeOf_4 : decode cX3_placeOf 4 = .ok (.getfield 21, 3) := by decide +kernel
theorem dX3_placeOf_7 : decode cX3_placeOf 7 = .ok (.getfield 31, 3) := by decide +kernel
theorem dX3_placeOf_10 : decode cX3_placeOf 10 = .ok (.getfield 57, 3) := by decide +kernel
theorem dX3_placeOf_13 : decode cX3_placeOf 13 = .ok (.if_icmp .ge 31, 3) := by decide +kernel
theorem dX3_placeOf_16 : decode cX3_placeOf 16 = .ok (.aload_n 0, 1) := by decide +kernel
theorem dX3_placeOf_17 : decode cX3_placeOf 17 = .ok (.getfield 18, 3) := by decide +kernel
theorem dX3_placeOf_20 : decode cX3_placeOf 20 = .ok (.iload_n 2, 1) := by decide +kernel
theorem dX3_placeOf_21 : decode cX3_placeOf 21 = .ok (.iload_n 1, 1) := by decide +kernel
theorem dX3_placeOf_22 : decode cX3_placeOf 22 = .ok (.aload_n 0, 1) := by decide +kernel
theorem dX3_placeOf_23 : decode cX3_placeOf 23 = .ok (.getfield 21, 3) := by decide +kernel
theorem dX3_placeOf_26 : decode cX3_placeOf 26 = .ok (.getfield 31, 3) := by decide +kernel
theorem dX3_placeOf_29 : decode cX3_placeOf 29 = .ok (.getfield 60, 3) := by decide +kernel
theorem dX3_placeOf_32 : decode cX3_placeOf 32 = .ok (.iload_n 2, 1) := by decide +kernel
theorem dX3_placeOf_33 : decode cX3_placeOf 33 = .ok (.iaload, 1) := by decide +kernel
theorem dX3_placeOf_34 : decode cX3_placeOf 34 = .ok (.invokestatic 63, 3) := by decide +kernel
theorem dX3_placeOf_37 : decode cX3_placeOf 37 = .ok (.iastore, 1) := by decide +kernel
theorem dX3_placeOf_38 : decode cX3_placeOf 38 = .ok (.iinc 2 1, 3) := by decide +kernel
theorem dX3_placeOf_41 : decode cX3_placeOf 41 = .ok (.goto (-39), 3) := by decide +kernel
theorem dX3_placeOf_44 : decode cX3_placeOf 44 = .ok (.aload_n 0, 1) := by decide +kernel
theorem dX3_placeOf_45 : decode cX3_placeOf 45 = .ok (.invokevirtual 43, 3) := by decide +kernel
theorem dX3_placeOf_48 : decode cX3_placeOf 48 = .ok (.istore_n 2, 1) := by decide +kernel
theorem dX3_placeOf_49 : decode cX3_placeOf 49 = .ok (.aload_n 0, 1) := by decide +kernel
theorem dX3_placeOf_50 : decode cX3_placeOf 50 = .ok (.getfield 18, 3) := by decide +kernel
theorem dX3_placeOf_53 : decode cX3_placeOf 53 = .ok (.iconst 0, 1) := by decide +kernel
theorem dX3_placeOf_54 : decode cX3_placeOf 54 = .ok (.invokestatic 25, 3) := by decide +kernel
theorem dX3_placeOf_57 : decode cX3_placeOf 57 = .ok (.iconst 0, 1) := by decide +kernel
theorem dX3_placeOf_58 : decode cX3_placeOf 58 = .ok (.istore_n 3, 1) := by decide +kernel
theorem dX3_placeOf_59 : decode cX3_placeOf 59 = .ok (.iconst 0, 1) := by decide +kernel
theorem dX3_placeOf_60 : decode cX3_placeOf 60 = .ok (.istore 4, 2) := by decide +kernel
theorem dX3_placeOf_62 : decode cX3_placeOf 62 = .ok (.iload 4, 2) := by decide +kernel
theorem dX3_placeOf_64 : decode cX3_placeOf 64 = .ok (.aload_n 0, 1) := by decide +kernel
theorem dX3_placeOf_65 : decode cX3_placeOf 65 = .ok (.getfield 21, 3) := by decide +kernel
theorem dX3_placeOf_68 : decode cX3_placeOf 68 = .ok (.getfield 31, 3) := by decide +kernel
theorem dX3_placeOf_71 : decode cX3_placeOf 71 = .ok (.getfield 37, 3) := by decide +kernel
theorem dX3_placeOf_74 : decode cX3_placeOf 74 = .ok (.if_icmp .ge 36, 3) := by decide +kernel
theorem dX3_placeOf_77 : decode cX3_placeOf 77 = .ok (.aload_n 0, 1) := by decide +kernel
theorem dX3_placeOf_78 : decode cX3_placeOf 78 = .ok (.invokevirtual 43, 3) := by decide +kernel
theorem dX3_placeOf_81 : decode cX3_placeOf 81 = .ok (.istore 5, 2) := by decide +kernel
theorem dX3_placeOf_83 : decode cX3_placeOf 83 = .ok (.iload 5, 2) := by decide +kernel
theorem dX3_placeOf_85 : decode cX3_placeOf 85 = .ok (.iload_n 2, 1) := by decide +kernel
theorem dX3_placeOf_86 : decode cX3_placeOf 86 = .ok (.if_icmp .gt 15, 3) := by decide +kernel
theorem dX3_placeOf_89 : decode cX3_placeOf 89 = .ok (.iload 5, 2) := by decide +kernel
theorem dX3_placeOf_91 : decode cX3_placeOf 91 = .ok (.iload_n 2, 1) := by decide +kernel
theorem dX3_placeOf_92 : decode cX3_placeOf 92 = .ok (.if_icmp .ne 12, 3) := by decide +kernel
theorem dX3_placeOf_95 : decode cX3_placeOf 95 = .ok (.iload 4, 2) := by decide +kernel
theorem dX3_placeOf_97 : decode cX3_placeOf 97 = .ok (.iload_n 1, 1) := by decide +kernel
theorem dX3_placeOf_98 : decode cX3_placeOf 98 = .ok (.if_icmp .ge 6, 3) := by decide +kernel
theorem dX3_placeOf_101 : decode cX3_placeOf 101 = .ok (.iinc 3 1, 3) := by decide +kernel
theorem dX3_placeOf_104 : decode cX3_placeOf 104 = .ok (.iinc 4 1, 3) := by decide +kernel
theorem dX3_placeOf_107 : decode cX3_placeOf 107 = .ok (.goto (-45), 3) := by decide +kernel
theorem dX3_placeOf_110 : decode cX3_placeOf 110 = .ok (.iload_n 3, 1) := by decide +kernel
theorem dX3_placeOf_111 : decode cX3_placeOf 111 = .ok (.ireturn, 1) := by decide +kernel
theorem dX3_nextScore_0 : decode cX3_nextScore 0 = .ok (.aload_n 0, 1) := by decide +kernel
theorem dX3_nextScore_1 : decode cX3_nextScore 1 = .ok (.getfield 21, 3) := by decide +kernel
theorem dX3_nextScore_4 : decode cX3_nextScore 4 = .ok (.getfield 31, 3) := by decide +kernel
theorem dX3_nextScore_7 : decode cX3_nextScore 7 = .ok (.astore_n 1, 1) := by decide +kernel
theorem dX3_nextScore_8 : decode cX3_nextScore 8 = .ok (.iconst 0, 1) := by decide +kernel
theorem dX3_nextScore_9 : decode cX3_nextScore 9 = .ok (.istore_n 2, 1) := by decide +kernel
theorem dX3_nextScore_10 : decode cX3_nextScore 10 = .ok (.iconst 0, 1) := by decide +kernel
theorem dX3_nextScore_11 : decode cX3_nextScore 11 = .ok (.istore_n 3, 1) := by decide +kernel
theorem dX3_nextScore_12 : decode cX3_nextScore 12 = .ok (.iload_n 3, 1) := by decide +kernel
theorem dX3_nextScore_13 : decode cX3_nextScore 13 = .ok (.aload_n 1, 1) := by decide +kernel
theorem dX3_nextScore_14 : decode cX3_nextScore 14 = .ok (.getfield 57, 3) := by decide +kernel
theorem dX3_nextScore_17 : decode cX3_nextScore 17 = .ok (.if_icmp .ge 70, 3) := by decide +kernel
theorem dX3_nextScore_20 : decode cX3_nextScore 20 = .ok (.iload_n 2, 1) := by decide +kernel
theorem dX3_nextScore_21 : decode cX3_nextScore 21 = .ok (.aload_n 0, 1) := by decide +kernel
theorem dX3_nextScore_22 : decode cX3_nextScore 22 = .ok (.getfield 21, 3) := by decide +kernel
theorem dX3_nextScore_25 : decode cX3_nextScore 25 = .ok (.getfield 66, 3) := by decide +kernel
theorem dX3_nextScore_28 : decode cX3_nextScore 28 = .ok (.iload_n 3, 1) := by decide +kernel
theorem dX3_nextScore_29 : decode cX3_nextScore 29 = .ok (.aaload, 1) := by decide +kernel
theorem dX3_nextScore_30 : decode cX3_nextScore 30 = .ok (.aload_n 0, 1) := by decide +kernel
theorem dX3_nextScore_31 : decode cX3_nextScore 31 = .ok (.getfield 18, 3) := by decide +kernel
theorem dX3_nextScore_34 : decode cX3_nextScore 34 = .ok (.iload_n 3, 1) := by decide +kernel
theorem dX3_nextScore_35 : decode cX3_nextScore 35 = .ok (.iaload, 1) := by decide +kernel
theorem dX3_nextScore_36 : decode cX3_nextScore 36 = .ok (.iaload, 1) := by decide +kernel
theorem dX3_nextScore_37 : decode cX3_nextScore 37 = .ok (.aload_n 1, 1) := by decide +kernel
theorem dX3_nextScore_38 : decode cX3_nextScore 38 = .ok (.getfield 70, 3) := by decide +kernel
theorem dX3_nextScore_41 : decode cX3_nextScore 41 = .ok (.iload_n 3, 1) := by decide +kernel
theorem dX3_nextScore_42 : decode cX3_nextScore 42 = .ok (.iaload, 1) := by decide +kernel
theorem dX3_nextScore_43 : decode cX3_nextScore 43 = .ok (.imul, 1) := by decide +kernel
theorem dX3_nextScore_44 : decode cX3_nextScore 44 = .ok (.iadd, 1) := by decide +kernel
theorem dX3_nextScore_45 : decode cX3_nextScore 45 = .ok (.istore_n 2, 1) := by decide +kernel
theorem dX3_nextScore_46 : decode cX3_nextScore 46 = .ok (.aload_n 0, 1) := by decide +kernel
theorem dX3_nextScore_47 : decode cX3_nextScore 47 = .ok (.getfield 18, 3) := by decide +kernel
theorem dX3_nextScore_50 : decode cX3_nextScore 50 = .ok (.iload_n 3, 1) := by decide +kernel
theorem dX3_nextScore_51 : decode cX3_nextScore 51 = .ok (.aload_n 0, 1) := by decide +kernel
theorem dX3_nextScore_52 : decode cX3_nextScore 52 = .ok (.getfield 18, 3) := by decide +kernel
theorem dX3_nextScore_55 : decode cX3_nextScore 55 = .ok (.iload_n 3, 1) := by decide +kernel
theorem dX3_nextScore_56 : decode cX3_nextScore 56 = .ok (.iaload, 1) := by decide +kernel
theorem dX3_nextScore_57 : decode cX3_nextScore 57 = .ok (.iconst 1, 1) := by decide +kernel
theorem dX3_nextScore_58 : decode cX3_nextScore 58 = .ok (.iadd, 1) := by decide +kernel
theorem dX3_nextScore_59 : decode cX3_nextScore 59 = .ok (.aload_n 1, 1) := by decide +kernel
theorem dX3_nextScore_60 : decode cX3_nextScore 60 = .ok (.getfield 60, 3) := by decide +kernel
theorem dX3_nextScore_63 : decode cX3_nextScore 63 = .ok (.iload_n 3, 1) := by decide +kernel
theorem dX3_nextScore_64 : decode cX3_nextScore 64 = .ok (.iaload, 1) := by decide +kernel
theorem dX3_nextScore_65 : decode cX3_nextScore 65 = .ok (.if_icmp .ge 14, 3) := by decide +kernel
theorem dX3_nextScore_68 : decode cX3_nextScore 68 = .ok (.aload_n 0, 1) := by decide +kernel
theorem dX3_nextScore_69 : decode cX3_nextScore 69 = .ok (.getfield 18, 3) := by decide +kernel
theorem dX3_nextScore_72 : decode cX3_nextScore 72 = .ok (.iload_n 3, 1) := by decide +kernel
theorem dX3_nextScore_73 : decode cX3_nextScore 73 = .ok (.iaload, 1) := by decide +kernel
theorem dX3_nextScore_74 : decode cX3_nextScore 74 = .ok (.iconst 1, 1) := by decide +kernel
theorem dX3_nextScore_75 : decode cX3_nextScore 75 = .ok (.iadd, 1) := by decide +kernel
theorem dX3_nextScore_76 : decode cX3_nextScore 76 = .ok (.goto 4, 3) := by decide +kernel
theorem dX3_nextScore_79 : decode cX3_nextScore 79 = .ok (.iconst 0, 1) := by decide +kernel
theorem dX3_nextScore_80 : decode cX3_nextScore 80 = .ok (.iastore, 1) := by decide +kernel
theorem dX3_nextScore_81 : decode cX3_nextScore 81 = .ok (.iinc 3 1, 3) := by decide +kernel
theorem dX3_nextScore_84 : decode cX3_nextScore 84 = .ok (.goto (-72), 3) := by decide +kernel
theorem dX3_nextScore_87 : decode cX3_nextScore 87 = .ok (.iload_n 2, 1) := by decide +kernel
theorem dX3_nextScore_88 : decode cX3_nextScore 88 = .ok (.ireturn, 1) := by decide +kernel
set_option maxRecDepth 20000 in
theorem ggX4_init_X7_init : GoodIn wsX4_init wsX7_init := goodIn_r _ [11, 12, 2, 3, 13, 14, 15, 16, 17, 18, 19, 20, 21, 22, 23, 24, 25, 26, 27, 28, 29, 30, 31, 32, 33, 34, 35, 45, 46, 47, 48, 49] (by decide +kernel) (by decide +kernel)
set_option maxRecDepth 20000 in
theorem gX4_init_X7_init : GoodIn wsX4_init (wsX7_init) := ggX4_init_X7_init
theorem dX4_init_0 : decode cX4_init 0 = .ok (.aload_n 0, 1) := by decide +kernel
theorem dX4_init_1 : decode cX4_init 1 = .ok (.invokespecial 3, 3) := by decide +kernel
theorem dX4_init_4 : decode cX4_init 4 = .ok (.aload_n 0, 1) := by decide +kernel
theorem dX4_init_5 : decode cX4_init 5 = .ok (.new 9, 3) := by decide +kernel
theorem dX4_init_8 : decode cX4_init 8 = .ok (.dup, 1) := by decide +kernel
theorem dX4_init_9 : decode cX4_init 9 = .ok (.invokespecial 11, 3) := by decide +kernel
theorem dX4_init_12 : decode cX4_init 12 = .ok (.putfield 12, 3) := by decide +kernel
theorem dX4_init_15 : decode cX4_init 15 = .ok (.aload_n 0, 1) := by decide +kernel
theorem dX4_init_16 : decode cX4_init 16 = .ok (.aload_n 1, 1) := by decide +kernel
theorem dX4_init_17 : decode cX4_init 17 = .ok (.putfield 18, 3) := by decide +kernel
theorem dX4_init_20 : decode cX4_init 20 = .ok (.return_, 1) := by decide +kernel
set_option maxRecDepth 20000 in
theorem ggX4_readAll_X7_forget : GoodIn wsX4_readAll wsX7_forget := goodIn_r _ [11, 12, 13, 14, 15, 16, 17, 18, 19, 20, 21, 22, 23, 24, 25, 176, 177, 178, 179, 180, 181, 182, 183, 184, 185, 186] (by decide +kernel) (by decide +kernel)
set_option maxRecDepth 20000 in
theorem gX4_readAll_X7_forget : GoodIn wsX4_readAll (wsV RX4 22 RX7 yX7_forget wsX7_forget) := goodIn_app (goodIn_of _ (by decide +kernel)) ggX4_readAll_X7_forget
set_option maxRecDepth 20000 in
theorem ggX4_readAll_X4_step : GoodIn wsX4_readAll wsX4_step := goodIn_r _ [30, 5, 4, 31, 32, 33, 6, 34, 35, 29, 36, 37, 38, 39, 40, 41, 42, 167, 168, 169, 170, 171, 172, 173, 174, 175] (by decide +kernel) (by decide +kernel)
set_option maxRecDepth 20000 in
theorem gX4_readAll_X4_step : GoodIn wsX4_readAll (wsV RX4 38 RX4 yX4_step wsX4_step) := goodIn_app (goodIn_of _ (by decide +kernel)) ggX4_readAll_X4_step
set_option maxRecDepth 20000 in
theorem ggX4_readAll_X4_readStatement : GoodIn wsX4_readAll wsX4_readStatement := goodIn_r _ [46, 1, 33, 47, 48, 49, 50, 51, 29, 52, 6, 5, 32, 31, 53, 54, 55, 56, 57, 58, 59, 60, 61, 62, 63, 64, 65, 66, 67, 68, 69, 70, 71, 72, 73, 74, 75, 76, 77, 78, 79, 80, 81, 82, 83, 84, 85, 86, 87, 88, 89, 90, 91, 92, 93, 94, 95, 96, 97, 98, 99, 100, 101, 102, 103, 104, 105, 106, 107, 108, 109, 110, 2, 3, 26, 27, 28, 30, 4, 34, 35, 36, 37, 38, 39, 40, 41, 42, 111, 112, 113, 114, 115, 116, 117, 118, 119, 120, 121, 122, 123, 124, 125, 126, 127, 128, 129, 10, 130, 12, 131, 132, 133, 134, 135, 136, 137, 138, 139, 140, 141, 142, 143, 144, 145, 146, 147, 148, 149, 150, 151, 152, 153, 154, 155, 156, 157, 158, 159, 160, 161, 162, 18, 163, 21, 164, 165, 166, 167, 168, 169, 170, 171, 172, 173, 174, 175, 176, 177, 178, 179, 180, 181, 182, 183, 184, 185, 186] (by decide +kernel) (by decide +kernel)
set_option maxRecDepth 20000 in
theorem gX4_readAll_X4_readStatement : GoodIn wsX4_readAll (wsV RX4 44 RX4 yX4_readStatement wsX4_readStatement) := goodIn_app (goodIn_of _ (by decide +kernel)) ggX4_readAll_X4_readStatement
theorem dX4_readAll_0 : decode cX4_readAll 0 = .ok (.aload_n 0, 1) := by decide +kernel
theorem dX4_readAll_1 : decode cX4_readAll 1 = .ok (.getfield 12, 3) := by decide +kernel
theorem dX4_readAll_4 : decode cX4_readAll 4 = .ok (.invokevirtual 22, 3) := by decide +kernel
theorem dX4_readAll_7 : decode cX4_readAll 7 = .ok (.aload_n 0, 1) := by decide +kernel
theorem dX4_readAll_8 : decode cX4_readAll 8 = .ok (.iconst 0, 1) := by decide +kernel
theorem dX4_readAll_9 : decode cX4_readAll 9 = .ok (.putfield 25, 3) := by decide +kernel
theorem dX4_readAll_12 : decode cX4_readAll 12 = .ok (.aload_n 0, 1) := by decide +kernel
theorem dX4_readAll_13 : decode cX4_readAll 13 = .ok (.iconst (-1), 1) := by decide +kernel
theorem dX4_readAll_14 : decode cX4_readAll 14 = .ok (.putfield 29, 3) := by decide +kernel
theorem dX4_readAll_17 : decode cX4_readAll 17 = .ok (.aload_n 0, 1) := by decide +kernel
theorem dX4_readAll_18 : decode cX4_readAll 18 = .ok (.iload_n 1, 1) := by decide +kernel
theorem dX4_readAll_19 : decode cX4_readAll 19 = .ok (.putfield 32, 3) := by decide +kernel
theorem dX4_readAll_22 : decode cX4_readAll 22 = .ok (.aload_n 0, 1) := by decide +kernel
theorem dX4_readAll_23 : decode cX4_readAll 23 = .ok (.iconst 0, 1) := by decide +kernel
theorem dX4_readAll_24 : decode cX4_readAll 24 = .ok (.putfield 35, 3) := by decide +kernel
theorem dX4_readAll_27 : decode cX4_readAll 27 = .ok (.iconst 1, 1) := by decide +kernel
theorem dX4_readAll_28 : decode cX4_readAll 28 = .ok (.istore_n 2, 1) := by decide +kernel
theorem dX4_readAll_29 : decode cX4_readAll 29 = .ok (.iconst 0, 1) := by decide +kernel
theorem dX4_readAll_30 : decode cX4_readAll 30 = .ok (.istore_n 3, 1) := by decide +kernel
theorem dX4_readAll_31 : decode cX4_readAll 31 = .ok (.iload_n 3, 1) := by decide +kernel
theorem dX4_readAll_32 : decode cX4_readAll 32 = .ok (.sipush 500, 3) := by decide +kernel
theorem dX4_readAll_35 : decode cX4_readAll 35 = .ok (.if_icmp .gt 37, 3) := by decide +kernel
theorem dX4_readAll_38 : decode cX4_readAll 38 = .ok (.iload_n 2, 1) := by decide +kernel
theorem dX4_readAll_39 : decode cX4_readAll 39 = .ok (.ifCond .eq 33, 3) := by decide +kernel
theorem dX4_readAll_42 : decode cX4_readAll 42 = .ok (.aload_n 0, 1) := by decide +kernel
theorem dX4_readAll_43 : decode cX4_readAll 43 = .ok (.invokevirtual 38, 3) := by decide +kernel
theorem dX4_readAll_46 : decode cX4_readAll 46 = .ok (.aload_n 0, 1) := by decide +kernel
theorem dX4_readAll_47 : decode cX4_readAll 47 = .ok (.getfield 41, 3) := by decide +kernel
theorem dX4_readAll_50 : decode cX4_readAll 50 = .ok (.ifCond .eq 14, 3) := by decide +kernel
theorem dX4_readAll_53 : decode cX4_readAll 53 = .ok (.aload_n 0, 1) := by decide +kernel
theorem dX4_readAll_54 : decode cX4_readAll 54 = .ok (.invokevirtual 44, 3) := by decide +kernel
theorem dX4_readAll_57 : decode cX4_readAll 57 = .ok (.ifCond .eq 7, 3) := by decide +kernel
theorem dX4_readAll_60 : decode cX4_readAll 60 = .ok (.iconst 1, 1) := by decide +kernel
theorem dX4_readAll_61 : decode cX4_readAll 61 = .ok (.goto 4, 3) := by decide +kernel
theorem dX4_readAll_64 : decode cX4_readAll 64 = .ok (.iconst 0, 1) := by decide +kernel
theorem dX4_readAll_65 : decode cX4_readAll 65 = .ok (.istore_n 2, 1) := by decide +kernel
theorem dX4_readAll_66 : decode cX4_readAll 66 = .ok (.iinc 3 1, 3) := by decide +kernel
theorem dX4_readAll_69 : decode cX4_readAll 69 = .ok (.goto (-38), 3) := by decide +kernel
theorem dX4_readAll_72 : decode cX4_readAll 72 = .ok (.return_, 1) := by decide +kernel
set_option maxRecDepth 20000 in
theorem ggX4_readStatement_X4_isWord : GoodIn wsX4_readStatement wsX4_isWord := goodIn_r _ [9, 10, 11, 12, 13, 14, 15, 16, 17, 18, 19, 20, 21, 22, 23, 24, 25, 26, 27, 28, 29, 30, 31, 32, 33, 34, 35, 36, 37, 38, 39, 40, 41, 42, 43, 44, 45, 46, 47, 48, 49, 50, 51, 52, 53, 54, 55, 56, 57, 58, 59, 60, 61, 62, 148, 149, 150, 151, 152, 153, 154, 155, 156] (by decide +kernel) (by decide +kernel)
set_option maxRecDepth 20000 in
theorem gX4_readStatement_X4_isWord : GoodIn wsX4_readStatement (wsV RX4 50 RX4 yX4_isWord wsX4_isWord) := goodIn_app (goodIn_of _ (by decide +kernel)) ggX4_readStatement_X4_isWord
set_option maxRecDepth 20000 in
theorem ggX4_readStatement_X4_readPart : GoodIn wsX4_readStatement wsX4_readPart := goodIn_r _ [66, 1, 67, 11, 12, 2, 68, 69, 70, 8, 71, 72, 73, 74, 75, 76, 77, 78, 13, 10, 79, 80, 81, 82, 83, 84, 85, 86, 87, 88, 89, 90, 91, 92, 93, 94, 95, 96, 97, 98, 99, 100, 101, 102, 103, 104, 105, 106, 107, 108, 109, 110, 111, 112, 113, 114, 115, 116, 148, 149, 150, 151, 152, 153, 154, 155, 156, 157, 158, 159, 160, 161, 162] (by decide +kernel) (by decide +kernel)
set_option maxRecDepth 20000 in
theorem gX4_readStatement_X4_readPart : GoodIn wsX4_readStatement (wsV RX4 54 RX4 yX4_readPart wsX4_readPart) := goodIn_app (goodIn_of _ (by decide +kernel)) ggX4_readStatement_X4_readPart
set_option maxRecDepth 20000 in
theorem ggX4_readStatement_X4_readNumber : GoodIn wsX4_readStatement wsX4_readNumber := goodIn_r _ [103, 10, 2, 74, 75, 76, 8, 77, 11, 78, 13, 12, 79, 80, 81, 82, 83, 84, 85, 86, 87, 92, 93, 94, 95, 72, 73, 68, 69, 70, 71, 148, 149, 150, 151, 152, 153, 154, 155, 156] (by decide +kernel) (by decide +kernel)
set_option maxRecDepth 20000 in
theorem gX4_readStatement_X4_readNumber : GoodIn wsX4_readStatement (wsV RX4 59 RX4 yX4_readNumber wsX4_readNumber) := goodIn_app (goodIn_of _ (by decide +kernel)) ggX4_readStatement_X4_readNumber
set_option maxRecDepth 20000 in
theorem ggX4_readStatement_X4_readSign : GoodIn wsX4_readStatement wsX4_readSign := goodIn_r _ [116, 10, 74, 75, 76, 8, 77, 11, 78, 13, 12, 2, 79, 80, 81, 82, 83, 84, 85, 86, 87, 92, 93, 94, 95, 72, 73, 148, 149, 150, 151, 152, 153, 154, 155, 156] (by decide +kernel) (by decide +kernel)
set_option maxRecDepth 20000 in
theorem gX4_readStatement_X4_readSign : GoodIn wsX4_readStatement (wsV RX4 68 RX4 yX4_readSign wsX4_readSign) := goodIn_app (goodIn_of _ (by decide +kernel)) ggX4_readStatement_X4_readSign
set_option maxRecDepth 20000 in
theorem ggX4_readStatement_X4_readLeg : GoodIn wsX4_readStatement wsX4_readLeg := goodIn_r _ [120, 74, 75, 76, 8, 77, 11, 78, 13, 12, 2, 10, 79, 80, 81, 82, 83, 84, 85, 86, 87, 121, 122, 123, 124, 5, 6, 7, 9, 14, 15, 16, 17, 18, 19, 20, 21, 22, 23, 24, 25, 26, 27, 28, 29, 30, 31, 32, 33, 34, 35, 36, 37, 38, 39, 40, 41, 42, 43, 44, 45, 46, 47, 48, 49, 50, 51, 52, 53, 54, 55, 56, 57, 58, 59, 60, 61, 62, 125, 126, 127, 128, 129, 100, 101, 102, 103, 92, 93, 94, 95, 72, 73, 68, 69, 70, 71, 113, 114, 115, 116, 130, 131, 132, 133, 134, 135, 136, 137, 138, 139, 140, 141, 142, 143, 144, 145, 146, 147, 148, 149, 150, 151, 152, 153, 154, 155, 156, 163, 164, 165, 166, 167] (by decide +kernel) (by decide +kernel)
set_option maxRecDepth 20000 in
theorem gX4_readStatement_X4_readLeg : GoodIn wsX4_readStatement (wsV RX4 77 RX4 yX4_readLeg wsX4_readLeg) := goodIn_app (goodIn_of _ (by decide +kernel)) ggX4_readStatement_X4_readLeg
set_option maxRecDepth 20000 in
theorem ggX4_readStatement_X4_refuse : GoodIn wsX4_readStatement wsX4_refuse := goodIn_r _ [95, 72, 12, 73, 148, 149, 150, 151, 152, 153, 154, 155, 156] (by decide +kernel) (by decide +kernel)
set_option maxRecDepth 20000 in
theorem gX4_readStatement_X4_refuse : GoodIn wsX4_readStatement (wsV RX4 83 RX4 yX4_refuse wsX4_refuse) := goodIn_app (goodIn_of _ (by decide +kernel)) ggX4_readStatement_X4_refuse
theorem dX4_readStatement_0 : decode cX4_readStatement 0 = .ok (.aload_n 0, 1) := by decide +kernel
theorem dX4_readStatement_1 : decode cX4_readStatement 1 = .ok (.ldc 48, 2) := by decide +kernel
theorem dX4_readStatement_3 : decode cX4_readStatement 3 = .ok (.invokevirtual 50, 3) := by decide +kernel
theorem dX4_readStatement_6 : decode cX4_readStatement 6 = .ok (.ifCond .eq 8, 3) := by decide +kernel
theorem dX4_readStatement_9 : decode cX4_readStatement 9 = .ok (.aload_n 0, 1) := by decide +kernel
theorem dX4_readStatement_10 : decode cX4_readStatement 10 = .ok (.invokevirtual 54, 3) := by decide +kernel
theorem dX4_readStatement_13 : decode cX4_readStatement 13 = .ok (.ireturn, 1) := by decide +kernel
theorem dX4_readStatement_14 : decode cX4_readStatement 14 = .ok (.aload_n 0, 1) := by decide +kernel
theorem dX4_readStatement_15 : decode cX4_readStatement 15 = .ok (.ldc 57, 2) := by decide +kernel
theorem dX4_readStatement_17 : decode cX4_readStatement 17 = .ok (.invokevirtual 50, 3) := by decide +kernel
theorem dX4_readStatement_20 : decode cX4_readStatement 20 = .ok (.ifCond .eq 32, 3) := by decide +kernel
theorem dX4_readStatement_23 : decode cX4_readStatement 23 = .ok (.aload_n 0, 1) := by decide +kernel
theorem dX4_readStatement_24 : decode cX4_readStatement 24 = .ok (.iconst 1, 1) := by decide +kernel
theorem dX4_readStatement_25 : decode cX4_readStatement 25 = .ok (.sipush 9999, 3) := by decide +kernel
theorem dX4_readStatement_28 : decode cX4_readStatement 28 = .ok (.invokevirtual 59, 3) := by decide +kernel
theorem dX4_readStatement_31 : decode cX4_readStatement 31 = .ok (.ifCond .ne 5, 3) := by decide +kernel
theorem dX4_readStatement_34 : decode cX4_readStatement 34 = .ok (.iconst 0, 1) := by decide +kernel
theorem dX4_readStatement_35 : decode cX4_readStatement 35 = .ok (.ireturn, 1) := by decide +kernel
theorem dX4_readStatement_36 : decode cX4_readStatement 36 = .ok (.aload_n 0, 1) := by decide +kernel
theorem dX4_readStatement_37 : decode cX4_readStatement 37 = .ok (.getfield 12, 3) := by decide +kernel
theorem dX4_readStatement_40 : decode cX4_readStatement 40 = .ok (.aload_n 0, 1) := by decide +kernel
theorem dX4_readStatement_41 : decode cX4_readStatement 41 = .ok (.getfield 63, 3) := by decide +kernel
theorem dX4_readStatement_44 : decode cX4_readStatement 44 = .ok (.putfield 66, 3) := by decide +kernel
theorem dX4_readStatement_47 : decode cX4_readStatement 47 = .ok (.aload_n 0, 1) := by decide +kernel
theorem dX4_readStatement_48 : decode cX4_readStatement 48 = .ok (.invokevirtual 68, 3) := by decide +kernel
theorem dX4_readStatement_51 : decode cX4_readStatement 51 = .ok (.ireturn, 1) := by decide +kernel
theorem dX4_readStatement_52 : decode cX4_readStatement 52 = .ok (.aload_n 0, 1) := by decide +kernel
theorem dX4_readStatement_53 : decode cX4_readStatement 53 = .ok (.ldc 71, 2) := by decide +kernel
theorem dX4_readStatement_55 : decode cX4_readStatement 55 = .ok (.invokevirtual 50, 3) := by decide +kernel
theorem dX4_readStatement_58 : decode cX4_readStatement 58 = .ok (.ifCond .eq 17, 3) := by decide +kernel
theorem dX4_readStatement_61 : decode cX4_readStatement 61 = .ok (.aload_n 0, 1) := by decide +kernel
theorem dX4_readStatement_62 : decode cX4_readStatement 62 = .ok (.aload_n 0, 1) := by decide +kernel
theorem dX4_readStatement_63 : decode cX4_readStatement 63 = .ok (.getfield 12, 3) := by decide +kernel
theorem dX4_readStatement_66 : decode cX4_readStatement 66 = .ok (.getfield 73, 3) := by decide +kernel
theorem dX4_readStatement_69 : decode cX4_readStatement 69 = .ok (.iconst 0, 1) := by decide +kernel
theorem dX4_readStatement_70 : decode cX4_readStatement 70 = .ok (.aaload, 1) := by decide +kernel
theorem dX4_readStatement_71 : decode cX4_readStatement 71 = .ok (.invokevirtual 77, 3) := by decide +kernel
theorem dX4_readStatement_74 : decode cX4_readStatement 74 = .ok (.ireturn, 1) := by decide +kernel
theorem dX4_readStatement_75 : decode cX4_readStatement 75 = .ok (.aload_n 0, 1) := by decide +kernel
theorem dX4_readStatement_76 : decode cX4_readStatement 76 = .ok (.ldc 81, 2) := by decide +kernel
theorem dX4_readStatement_78 : decode cX4_readStatement 78 = .ok (.invokevirtual 50, 3) := by decide +kernel
theorem dX4_readStatement_81 : decode cX4_readStatement 81 = .ok (.ifCond .eq 17, 3) := by decide +kernel
theorem dX4_readStatement_84 : decode cX4_readStatement 84 = .ok (.aload_n 0, 1) := by decide +kernel
theorem dX4_readStatement_85 : decode cX4_readStatement 85 = .ok (.aload_n 0, 1) := by decide +kernel
theorem dX4_readStatement_86 : decode cX4_readStatement 86 = .ok (.getfield 12, 3) := by decide +kernel
theorem dX4_readStatement_89 : decode cX4_readStatement 89 = .ok (.getfield 73, 3) := by decide +kernel
theorem dX4_readStatement_92 : decode cX4_readStatement 92 = .ok (.iconst 1, 1) := by decide +kernel
theorem dX4_readStatement_93 : decode cX4_readStatement 93 = .ok (.aaload, 1) := by decide +kernel
theorem dX4_readStatement_94 : decode cX4_readStatement 94 = .ok (.invokevirtual 77, 3) := by decide +kernel
theorem dX4_readStatement_97 : decode cX4_readStatement 97 = .ok (.ireturn, 1) := by decide +kernel
theorem dX4_readStatement_98 : decode cX4_readStatement 98 = .ok (.aload_n 0, 1) := by decide +kernel
theorem dX4_readStatement_99 : decode cX4_readStatement 99 = .ok (.invokevirtual 83, 3) := by decide +kernel
theorem dX4_readStatement_102 : decode cX4_readStatement 102 = .ok (.ireturn, 1) := by decide +kernel
set_option maxRecDepth 20000 in
theorem ggX4_readPart_X4_note : GoodIn wsX4_readPart wsX4_note := goodIn_r _ [10, 11, 4, 12, 58, 59, 60, 61, 62, 63, 64, 65, 66] (by decide +kernel) (by decide +kernel)
set_option maxRecDepth 20000 in
theorem gX4_readPart_X4_note : GoodIn wsX4_readPart (wsV RX4 89 RX4 yX4_note wsX4_note) := goodIn_app (goodIn_of _ (by decide +kernel)) ggX4_readPart_X4_note
set_option maxRecDepth 20000 in
theorem ggX4_readPart_X4_step : GoodIn wsX4_readPart wsX4_step := goodIn_r _ [16, 3, 17, 18, 4, 5, 19, 20, 21, 9, 22, 23, 24, 25, 26, 27, 28, 58, 59, 60, 61, 62, 63, 64, 65, 66] (by decide +kernel) (by decide +kernel)
set_option maxRecDepth 20000 in
theorem gX4_readPart_X4_step : GoodIn wsX4_readPart (wsV RX4 38 RX4 yX4_step wsX4_step) := goodIn_app (goodIn_of _ (by decide +kernel)) ggX4_readPart_X4_step
set_option maxRecDepth 20000 in
theorem ggX4_readPart_X4_isRow : GoodIn wsX4_readPart wsX4_isRow := goodIn_r _ [32, 19, 3, 4, 18, 58, 59, 60, 61, 62, 63, 64, 65, 66] (by decide +kernel) (by decide +kernel)
set_option maxRecDepth 20000 in
theorem gX4_readPart_X4_isRow : GoodIn wsX4_readPart (wsV RX4 93 RX4 yX4_isRow wsX4_isRow) := goodIn_app (goodIn_of _ (by decide +kernel)) ggX4_readPart_X4_isRow
set_option maxRecDepth 20000 in
theorem ggX4_readPart_X4_refuse : GoodIn wsX4_readPart wsX4_refuse := goodIn_r _ [36, 11, 4, 12, 58, 59, 60, 61, 62, 63, 64, 65, 66] (by decide +kernel) (by decide +kernel)
set_option maxRecDepth 20000 in
theorem gX4_readPart_X4_refuse : GoodIn wsX4_readPart (wsV RX4 83 RX4 yX4_refuse wsX4_refuse) := goodIn_app (goodIn_of _ (by decide +kernel)) ggX4_readPart_X4_refuse
set_option maxRecDepth 20000 in
theorem ggX4_readPart_X4_rowBits : GoodIn wsX4_readPart wsX4_rowBits := goodIn_r _ [40, 4, 3, 18, 58, 59, 60, 61, 62, 63, 64, 65, 66] (by decide +kernel) (by decide +kernel)
set_option maxRecDepth 20000 in
theorem gX4_readPart_X4_rowBits : GoodIn wsX4_readPart (wsV RX4 96 RX4 yX4_rowBits wsX4_rowBits) := goodIn_app (goodIn_of _ (by decide +kernel)) ggX4_readPart_X4_rowBits
set_option maxRecDepth 20000 in
theorem ggX4_readPart_X4_readNumber : GoodIn wsX4_readPart wsX4_readNumber := goodIn_r _ [44, 19, 5, 13, 14, 15, 9, 16, 3, 17, 18, 4, 20, 21, 22, 23, 24, 25, 26, 27, 28, 33, 34, 35, 36, 11, 12, 6, 7, 8, 10, 58, 59, 60, 61, 62, 63, 64, 65, 66] (by decide +kernel) (by decide +kernel)
set_option maxRecDepth 20000 in
theorem gX4_readPart_X4_readNumber : GoodIn wsX4_readPart (wsV RX4 59 RX4 yX4_readNumber wsX4_readNumber) := goodIn_app (goodIn_of _ (by decide +kernel)) ggX4_readPart_X4_readNumber
set_option maxRecDepth 20000 in
theorem ggX4_readPart_X7_addPart : GoodIn wsX4_readPart wsX7_addPart := goodIn_r _ [49, 50, 51, 52, 53, 67, 68, 69, 70, 71, 72] (by decide +kernel) (by decide +kernel)
set_option maxRecDepth 20000 in
theorem gX4_readPart_X7_addPart : GoodIn wsX4_readPart (wsV RX4 103 RX7 yX7_addPart wsX7_addPart) := goodIn_app (goodIn_of _ (by decide +kernel)) ggX4_readPart_X7_addPart
set_option maxRecDepth 20000 in
theorem ggX4_readPart_X4_readSign : GoodIn wsX4_readPart wsX4_readSign := goodIn_r _ [57, 19, 13, 14, 15, 9, 16, 3, 17, 18, 4, 5, 20, 21, 22, 23, 24, 25, 26, 27, 28, 33, 34, 35, 36, 11, 12, 58, 59, 60, 61, 62, 63, 64, 65, 66] (by decide +kernel) (by decide +kernel)
set_option maxRecDepth 20000 in
theorem gX4_readPart_X4_readSign : GoodIn wsX4_readPart (wsV RX4 68 RX4 yX4_readSign wsX4_readSign) := goodIn_app (goodIn_of _ (by decide +kernel)) ggX4_readPart_X4_readSign
theorem dX4_readPart_0 : decode cX4_readPart 0 = .ok (.aload_n 0, 1) := by decide +kernel
theorem dX4_readPart_1 : decode cX4_readPart 1 = .ok (.getfield 12, 3) := by decide +kernel
theorem dX4_readPart_4 : decode cX4_readPart 4 = .ok (.getfield 86, 3) := by decide +kernel
theorem dX4_readPart_7 : decode cX4_readPart 7 = .ok (.iconst 5, 1) := by decide +kernel
theorem dX4_readPart_8 : decode cX4_readPart 8 = .ok (.if_icmp .lt 8, 3) := by decide +kernel
theorem dX4_readPart_11 : decode cX4_readPart 11 = .ok (.aload_n 0, 1) := by decide +kernel
theorem dX4_readPart_12 : decode cX4_readPart 12 = .ok (.iconst 3, 1) := by decide +kernel
theorem dX4_readPart_13 : decode cX4_readPart 13 = .ok (.invokevirtual 89, 3) := by decide +kernel
theorem dX4_readPart_16 : decode cX4_readPart 16 = .ok (.aload_n 0, 1) := by decide +kernel
theorem dX4_readPart_17 : decode cX4_readPart 17 = .ok (.invokevirtual 38, 3) := by decide +kernel
theorem dX4_readPart_20 : decode cX4_readPart 20 = .ok (.aload_n 0, 1) := by decide +kernel
theorem dX4_readPart_21 : decode cX4_readPart 21 = .ok (.invokevirtual 93, 3) := by decide +kernel
theorem dX4_readPart_24 : decode cX4_readPart 24 = .ok (.ifCond .ne 8, 3) := by decide +kernel
theorem dX4_readPart_27 : decode cX4_readPart 27 = .ok (.aload_n 0, 1) := by decide +kernel
theorem dX4_readPart_28 : decode cX4_readPart 28 = .ok (.invokevirtual 83, 3) := by decide +kernel
theorem dX4_readPart_31 : decode cX4_readPart 31 = .ok (.ireturn, 1) := by decide +kernel
theorem dX4_readPart_32 : decode cX4_readPart 32 = .ok (.aload_n 0, 1) := by decide +kernel
theorem dX4_readPart_33 : decode cX4_readPart 33 = .ok (.invokevirtual 96, 3) := by decide +kernel
theorem dX4_readPart_36 : decode cX4_readPart 36 = .ok (.istore_n 1, 1) := by decide +kernel
theorem dX4_readPart_37 : decode cX4_readPart 37 = .ok (.aload_n 0, 1) := by decide +kernel
theorem dX4_readPart_38 : decode cX4_readPart 38 = .ok (.getfield 35, 3) := by decide +kernel
theorem dX4_readPart_41 : decode cX4_readPart 41 = .ok (.aload_n 0, 1) := by decide +kernel
theorem dX4_readPart_42 : decode cX4_readPart 42 = .ok (.getfield 100, 3) := by decide +kernel
theorem dX4_readPart_45 : decode cX4_readPart 45 = .ok (.isub, 1) := by decide +kernel
theorem dX4_readPart_46 : decode cX4_readPart 46 = .ok (.istore_n 2, 1) := by decide +kernel
theorem dX4_readPart_47 : decode cX4_readPart 47 = .ok (.aload_n 0, 1) := by decide +kernel
theorem dX4_readPart_48 : decode cX4_readPart 48 = .ok (.iconst 1, 1) := by decide +kernel
theorem dX4_readPart_49 : decode cX4_readPart 49 = .ok (.bipush 9, 2) := by decide +kernel
theorem dX4_readPart_51 : decode cX4_readPart 51 = .ok (.invokevirtual 59, 3) := by decide +kernel
theorem dX4_readPart_54 : decode cX4_readPart 54 = .ok (.ifCond .ne 5, 3) := by decide +kernel
theorem dX4_readPart_57 : decode cX4_readPart 57 = .ok (.iconst 0, 1) := by decide +kernel
theorem dX4_readPart_58 : decode cX4_readPart 58 = .ok (.ireturn, 1) := by decide +kernel
theorem dX4_readPart_59 : decode cX4_readPart 59 = .ok (.aload_n 0, 1) := by decide +kernel
theorem dX4_readPart_60 : decode cX4_readPart 60 = .ok (.getfield 12, 3) := by decide +kernel
theorem dX4_readPart_63 : decode cX4_readPart 63 = .ok (.iload_n 1, 1) := by decide +kernel
theorem dX4_readPart_64 : decode cX4_readPart 64 = .ok (.iload_n 2, 1) := by decide +kernel
theorem dX4_readPart_65 : decode cX4_readPart 65 = .ok (.aload_n 0, 1) := by decide +kernel
theorem dX4_readPart_66 : decode cX4_readPart 66 = .ok (.getfield 63, 3) := by decide +kernel
theorem dX4_readPart_69 : decode cX4_readPart 69 = .ok (.invokevirtual 103, 3) := by decide +kernel
theorem dX4_readPart_72 : decode cX4_readPart 72 = .ok (.aload_n 0, 1) := by decide +kernel
theorem dX4_readPart_73 : decode cX4_readPart 73 = .ok (.invokevirtual 68, 3) := by decide +kernel
theorem dX4_readPart_76 : decode cX4_readPart 76 = .ok (.ireturn, 1) := by decide +kernel
set_option maxRecDepth 20000 in
theorem ggX4_readLeg_X4_step : GoodIn wsX4_readLeg wsX4_step := goodIn_r _ [5, 6, 7, 8, 9, 10, 11, 12, 13, 4, 14, 15, 16, 17, 18, 19, 20, 119, 120, 121, 122, 123, 124, 125, 126, 127] (by decide +kernel) (by decide +kernel)
set_option maxRecDepth 20000 in
theorem gX4_readLeg_X4_step : GoodIn wsX4_readLeg (wsV RX4 38 RX4 yX4_step wsX4_step) := goodIn_app (goodIn_of _ (by decide +kernel)) ggX4_readLeg_X4_step
set_option maxRecDepth 20000 in
theorem ggX4_readLeg_X4_settingWord : GoodIn wsX4_readLeg wsX4_settingWord := goodIn_r _ [24, 25, 26, 27, 4, 28, 11, 6, 9, 8, 29, 30, 31, 32, 33, 34, 35, 36, 37, 38, 39, 40, 41, 42, 43, 44, 45, 46, 47, 48, 49, 50, 51, 52, 53, 54, 55, 56, 57, 58, 59, 60, 61, 62, 63, 64, 65, 66, 67, 68, 69, 70, 71, 72, 73, 74, 75, 76, 77, 119, 120, 121, 122, 123, 124, 125, 126, 127] (by decide +kernel) (by decide +kernel)
set_option maxRecDepth 20000 in
theorem gX4_readLeg_X4_settingWord : GoodIn wsX4_readLeg (wsV RX4 107 RX4 yX4_settingWord wsX4_settingWord) := goodIn_app (goodIn_of _ (by decide +kernel)) ggX4_readLeg_X4_settingWord
set_option maxRecDepth 20000 in
theorem ggX4_readLeg_X4_readSetting : GoodIn wsX4_readLeg wsX4_readSetting := goodIn_r _ [81, 82, 10, 83, 84, 85, 4, 86, 11, 1, 2, 3, 5, 6, 7, 8, 9, 12, 13, 14, 15, 16, 17, 18, 19, 20, 87, 88, 89, 90, 91, 92, 93, 94, 95, 96, 97, 98, 99, 100, 128, 129, 130, 131, 132, 119, 120, 121, 122, 123, 124, 125, 126, 127] (by decide +kernel) (by decide +kernel)
set_option maxRecDepth 20000 in
theorem gX4_readLeg_X4_readSetting : GoodIn wsX4_readLeg (wsV RX4 110 RX4 yX4_readSetting wsX4_readSetting) := goodIn_app (goodIn_of _ (by decide +kernel)) ggX4_readLeg_X4_readSetting
set_option maxRecDepth 20000 in
theorem ggX4_readLeg_X4_markWord : GoodIn wsX4_readLeg wsX4_markWord := goodIn_r _ [104, 25, 26, 27, 4, 28, 11, 6, 9, 8, 29, 30, 31, 32, 33, 34, 35, 36, 37, 38, 39, 40, 41, 42, 43, 44, 45, 46, 47, 48, 49, 50, 51, 52, 53, 54, 55, 56, 57, 58, 59, 60, 61, 62, 63, 64, 65, 66, 67, 68, 69, 70, 71, 72, 73, 74, 75, 76, 77, 119, 120, 121, 122, 123, 124, 125, 126, 127] (by decide +kernel) (by decide +kernel)
set_option maxRecDepth 20000 in
theorem gX4_readLeg_X4_markWord : GoodIn wsX4_readLeg (wsV RX4 114 RX4 yX4_markWord wsX4_markWord) := goodIn_app (goodIn_of _ (by decide +kernel)) ggX4_readLeg_X4_markWord
set_option maxRecDepth 20000 in
theorem ggX4_readLeg_X4_readMark : GoodIn wsX4_readLeg wsX4_readMark := goodIn_r _ [108, 109, 10, 93, 94, 95, 4, 96, 91, 9, 92, 83, 84, 85, 86, 11, 1, 2, 3, 5, 6, 7, 8, 12, 13, 14, 15, 16, 17, 18, 19, 20, 87, 88, 89, 90, 110, 111, 112, 113, 114, 115, 116, 117, 118, 97, 98, 99, 100, 128, 129, 130, 131, 132, 119, 120, 121, 122, 123, 124, 125, 126, 127] (by decide +kernel) (by decide +kernel)
set_option maxRecDepth 20000 in
theorem gX4_readLeg_X4_readMark : GoodIn wsX4_readLeg (wsV RX4 117 RX4 yX4_readMark wsX4_readMark) := goodIn_app (goodIn_of _ (by decide +kernel)) ggX4_readLeg_X4_readMark
set_option maxRecDepth 20000 in
theorem ggX4_readLeg_X4_refuse : GoodIn wsX4_readLeg wsX4_refuse := goodIn_r _ [90, 91, 9, 92, 119, 120, 121, 122, 123, 124, 125, 126, 127] (by decide +kernel) (by decide +kernel)
set_option maxRecDepth 20000 in
theorem gX4_readLeg_X4_refuse : GoodIn wsX4_readLeg (wsV RX4 83 RX4 yX4_refuse wsX4_refuse) := goodIn_app (goodIn_of _ (by decide +kernel)) ggX4_readLeg_X4_refuse
theorem dX4_readLeg_0 : decode cX4_readLeg 0 = .ok (.aload_n 0, 1) := by decide +kernel
theorem dX4_readLeg_1 : decode cX4_readLeg 1 = .ok (.invokevirtual 38, 3) := by decide +kernel
theorem dX4_readLeg_4 : decode cX4_readLeg 4 = .ok (.aload_n 0, 1) := by decide +kernel
theorem dX4_readLeg_5 : decode cX4_readLeg 5 = .ok (.invokevirtual 107, 3) := by decide +kernel
theorem dX4_readLeg_8 : decode cX4_readLeg 8 = .ok (.istore_n 2, 1) := by decide +kernel
theorem dX4_readLeg_9 : decode cX4_readLeg 9 = .ok (.iload_n 2, 1) := by decide +kernel
theorem dX4_readLeg_10 : decode cX4_readLeg 10 = .ok (.iconst (-1), 1) := by decide +kernel
theorem dX4_readLeg_11 : decode cX4_readLeg 11 = .ok (.if_icmp .eq 10, 3) := by decide +kernel
theorem dX4_readLeg_14 : decode cX4_readLeg 14 = .ok (.aload_n 0, 1) := by decide +kernel
theorem dX4_readLeg_15 : decode cX4_readLeg 15 = .ok (.aload_n 1, 1) := by decide +kernel
theorem dX4_readLeg_16 : decode cX4_readLeg 16 = .ok (.iload_n 2, 1) := by decide +kernel
theorem dX4_readLeg_17 : decode cX4_readLeg 17 = .ok (.invokevirtual 110, 3) := by decide +kernel
theorem dX4_readLeg_20 : decode cX4_readLeg 20 = .ok (.ireturn, 1) := by decide +kernel
theorem dX4_readLeg_21 : decode cX4_readLeg 21 = .ok (.aload_n 0, 1) := by decide +kernel
theorem dX4_readLeg_22 : decode cX4_readLeg 22 = .ok (.invokevirtual 114, 3) := by decide +kernel
theorem dX4_readLeg_25 : decode cX4_readLeg 25 = .ok (.istore_n 3, 1) := by decide +kernel
theorem dX4_readLeg_26 : decode cX4_readLeg 26 = .ok (.iload_n 3, 1) := by decide +kernel
theorem dX4_readLeg_27 : decode cX4_readLeg 27 = .ok (.iconst (-1), 1) := by decide +kernel
theorem dX4_readLeg_28 : decode cX4_readLeg 28 = .ok (.if_icmp .eq 10, 3) := by decide +kernel
theorem dX4_readLeg_31 : decode cX4_readLeg 31 = .ok (.aload_n 0, 1) := by decide +kernel
theorem dX4_readLeg_32 : decode cX4_readLeg 32 = .ok (.aload_n 1, 1) := by decide +kernel
theorem dX4_readLeg_33 : decode cX4_readLeg 33 = .ok (.iload_n 3, 1) := by decide +kernel
theorem dX4_readLeg_34 : decode cX4_readLeg 34 = .ok (.invokevirtual 117, 3) := by decide +kernel
theorem dX4_readLeg_37 : decode cX4_readLeg 37 = .ok (.ireturn, 1) := by decide +kernel
theorem dX4_readLeg_38 : decode cX4_readLeg 38 = .ok (.aload_n 0, 1) := by decide +kernel
theorem dX4_readLeg_39 : decode cX4_readLeg 39 = .ok (.invokevirtual 83, 3) := by decide +kernel
theorem dX4_readLeg_42 : decode cX4_readLeg 42 = .ok (.ireturn, 1) := by decide +kernel
set_option maxRecDepth 20000 in
theorem ggX4_readSetting_X4_readNumber : GoodIn wsX4_readSetting wsX4_readNumber := goodIn_r _ [7, 8, 2, 9, 10, 11, 6, 12, 13, 14, 15, 16, 17, 18, 19, 20, 21, 22, 23, 24, 25, 26, 27, 28, 29, 30, 31, 32, 33, 34, 35, 45, 46, 47, 48, 49, 50, 51, 52, 53] (by decide +kernel) (by decide +kernel)
set_option maxRecDepth 20000 in
theorem gX4_readSetting_X4_readNumber : GoodIn wsX4_readSetting (wsV RX4 59 RX4 yX4_readNumber wsX4_readNumber) := goodIn_app (goodIn_of _ (by decide +kernel)) ggX4_readSetting_X4_readNumber
set_option maxRecDepth 20000 in
theorem ggX4_readSetting_X4_readSign : GoodIn wsX4_readSetting wsX4_readSign := goodIn_r _ [39, 8, 9, 10, 11, 6, 12, 13, 14, 15, 16, 2, 17, 18, 19, 20, 21, 22, 23, 24, 25, 26, 27, 28, 29, 30, 31, 45, 46, 47, 48, 49, 50, 51, 52, 53] (by decide +kernel) (by decide +kernel)
set_option maxRecDepth 20000 in
theorem gX4_readSetting_X4_readSign : GoodIn wsX4_readSetting (wsV RX4 68 RX4 yX4_readSign wsX4_readSign) := goodIn_app (goodIn_of _ (by decide +kernel)) ggX4_readSetting_X4_readSign
theorem dX4_readSetting_0 : decode cX4_readSetting 0 = .ok (.iload_n 2, 1) := by decide +kernel
theorem dX4_readSetting_1 : decode cX4_readSetting 1 = .ok (.bipush 6, 2) := by decide +kernel
theorem dX4_readSetting_3 : decode cX4_readSetting 3 = .ok (.if_icmp .ne 7, 3) := by decide +kernel
theorem dX4_readSetting_6 : decode cX4_readSetting 6 = .ok (.iconst 1, 1) := by decide +kernel
theorem dX4_readSetting_7 : decode cX4_readSetting 7 = .ok (.goto 4, 3) := by decide +kernel
theorem dX4_readSetting_10 : decode cX4_readSetting 10 = .ok (.iload_n 2, 1) := by decide +kernel
theorem dX4_readSetting_11 : decode cX4_readSetting 11 = .ok (.istore_n 3, 1) := by decide +kernel
theorem dX4_readSetting_12 : decode cX4_readSetting 12 = .ok (.iload_n 3, 1) := by decide +kernel
theorem dX4_readSetting_13 : decode cX4_readSetting 13 = .ok (.iconst 3, 1) := by decide +kernel
theorem dX4_readSetting_14 : decode cX4_readSetting 14 = .ok (.if_icmp .ne 7, 3) := by decide +kernel
theorem dX4_readSetting_17 : decode cX4_readSetting 17 = .ok (.iconst 1, 1) := by decide +kernel
theorem dX4_readSetting_18 : decode cX4_readSetting 18 = .ok (.goto 4, 3) := by decide +kernel
theorem dX4_readSetting_21 : decode cX4_readSetting 21 = .ok (.iconst 0, 1) := by decide +kernel
theorem dX4_readSetting_22 : decode cX4_readSetting 22 = .ok (.istore 4, 2) := by decide +kernel
theorem dX4_readSetting_24 : decode cX4_readSetting 24 = .ok (.aload_n 0, 1) := by decide +kernel
theorem dX4_readSetting_25 : decode cX4_readSetting 25 = .ok (.iload 4, 2) := by decide +kernel
theorem dX4_readSetting_27 : decode cX4_readSetting 27 = .ok (.getstatic 120, 3) := by decide +kernel
theorem dX4_readSetting_30 : decode cX4_readSetting 30 = .ok (.iload_n 3, 1) := by decide +kernel
theorem dX4_readSetting_31 : decode cX4_readSetting 31 = .ok (.iaload, 1) := by decide +kernel
theorem dX4_readSetting_32 : decode cX4_readSetting 32 = .ok (.invokevirtual 59, 3) := by decide +kernel
theorem dX4_readSetting_35 : decode cX4_readSetting 35 = .ok (.ifCond .ne 5, 3) := by decide +kernel
theorem dX4_readSetting_38 : decode cX4_readSetting 38 = .ok (.iconst 0, 1) := by decide +kernel
theorem dX4_readSetting_39 : decode cX4_readSetting 39 = .ok (.ireturn, 1) := by decide +kernel
theorem dX4_readSetting_40 : decode cX4_readSetting 40 = .ok (.aload_n 1, 1) := by decide +kernel
theorem dX4_readSetting_41 : decode cX4_readSetting 41 = .ok (.getfield 124, 3) := by decide +kernel
theorem dX4_readSetting_44 : decode cX4_readSetting 44 = .ok (.iload_n 3, 1) := by decide +kernel
theorem dX4_readSetting_45 : decode cX4_readSetting 45 = .ok (.iload_n 2, 1) := by decide +kernel
theorem dX4_readSetting_46 : decode cX4_readSetting 46 = .ok (.bipush 6, 2) := by decide +kernel
theorem dX4_readSetting_48 : decode cX4_readSetting 48 = .ok (.if_icmp .ne 11, 3) := by decide +kernel
theorem dX4_readSetting_51 : decode cX4_readSetting 51 = .ok (.aload_n 0, 1) := by decide +kernel
theorem dX4_readSetting_52 : decode cX4_readSetting 52 = .ok (.getfield 63, 3) := by decide +kernel
theorem dX4_readSetting_55 : decode cX4_readSetting 55 = .ok (.ineg, 1) := by decide +kernel
