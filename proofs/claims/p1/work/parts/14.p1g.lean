theorem dX12_number_0 : decode cX12_number 0 = .ok (.iload_n 3, 1) := by decide +kernel
theorem dX12_number_1 : decode cX12_number 1 = .ok (.iconst 3, 1) := by decide +kernel
theorem dX12_number_2 : decode cX12_number 2 = .ok (.if_icmp .ne 8, 3) := by decide +kernel
theorem dX12_number_10 : decode cX12_number 10 = .ok (.iload_n 3, 1) := by decide +kernel
theorem dX12_number_11 : decode cX12_number 11 = .ok (.iconst 4, 1) := by decide +kernel
theorem dX12_number_12 : decode cX12_number 12 = .ok (.if_icmp .ne 7, 3) := by decide +kernel
theorem dX12_number_19 : decode cX12_number 19 = .ok (.iload_n 3, 1) := by decide +kernel
theorem dX12_number_20 : decode cX12_number 20 = .ok (.iconst 5, 1) := by decide +kernel
theorem dX12_number_21 : decode cX12_number 21 = .ok (.if_icmp .ne 7, 3) := by decide +kernel
theorem dX12_number_28 : decode cX12_number 28 = .ok (.iload_n 3, 1) := by decide +kernel
theorem dX12_number_29 : decode cX12_number 29 = .ok (.bipush 6, 2) := by decide +kernel
theorem dX12_number_31 : decode cX12_number 31 = .ok (.if_icmp .ne 7, 3) := by decide +kernel
theorem dX12_number_38 : decode cX12_number 38 = .ok (.bipush 20, 2) := by decide +kernel
theorem dX12_number_40 : decode cX12_number 40 = .ok (.istore 4, 2) := by decide +kernel
theorem dX12_number_42 : decode cX12_number 42 = .ok (.aload_n 0, 1) := by decide +kernel
theorem dX12_number_43 : decode cX12_number 43 = .ok (.iload_n 1, 1) := by decide +kernel
theorem dX12_number_44 : decode cX12_number 44 = .ok (.iload_n 2, 1) := by decide +kernel
set_option maxRecDepth 20000 in
theorem ggX12_number_X12_inForce : GoodIn wsX12_number wsX12_inForce := goodIn_r _ [9, 10, 11, 12, 13, 14, 15, 16, 17, 18, 19, 20, 21, 22, 23, 24, 25, 26, 27, 28, 29, 30, 31, 32, 33, 34, 35, 36, 37, 38, 39, 40, 41, 42, 43, 44, 45, 46, 47, 48, 49, 50, 51, 52, 53, 54, 55, 56, 57, 58, 59, 60, 61, 62, 63, 64, 65, 66, 67, 68, 69, 70, 71, 72, 73, 74, 75, 76, 77, 78, 79, 80, 81, 82, 83, 84, 85, 86, 87, 88, 89, 90, 91, 92, 93, 94, 95, 96, 97, 98, 99, 100, 101, 102, 103, 104, 105, 106, 107, 108] (by decide +kernel) (by decide +kernel)
set_option maxRecDepth 20000 in
theorem gX12_number_X12_inForce : GoodIn wsX12_number (wsV RX12 417 RX12 yX12_inForce wsX12_inForce) := goodIn_app (goodIn_of _ (by decide +kernel)) ggX12_number_X12_inForce
theorem dX12_number_45 : decode cX12_number 45 = .ok (.invokevirtual 417, 3) := by decide +kernel
theorem dX12_number_48 : decode cX12_number 48 = .ok (.istore 5, 2) := by decide +kernel
theorem dX12_number_50 : decode cX12_number 50 = .ok (.iload 5, 2) := by decide +kernel
theorem dX12_number_52 : decode cX12_number 52 = .ok (.ifCond .ge 6, 3) := by decide +kernel
theorem dX12_number_55 : decode cX12_number 55 = .ok (.iload 4, 2) := by decide +kernel
theorem dX12_number_57 : decode cX12_number 57 = .ok (.ireturn, 1) := by decide +kernel
theorem dX12_number_34 : decode cX12_number 34 = .ok (.iconst 0, 1) := by decide +kernel
theorem dX12_number_35 : decode cX12_number 35 = .ok (.goto 5, 3) := by decide +kernel
theorem dX12_number_24 : decode cX12_number 24 = .ok (.iconst 5, 1) := by decide +kernel
theorem dX12_number_25 : decode cX12_number 25 = .ok (.goto 15, 3) := by decide +kernel
theorem dX12_number_15 : decode cX12_number 15 = .ok (.iconst 1, 1) := by decide +kernel
theorem dX12_number_16 : decode cX12_number 16 = .ok (.goto 24, 3) := by decide +kernel
theorem dX12_number_5 : decode cX12_number 5 = .ok (.bipush 10, 2) := by decide +kernel
theorem dX12_number_7 : decode cX12_number 7 = .ok (.goto 33, 3) := by decide +kernel
theorem dX12_rule_0 : decode cX12_rule 0 = .ok (.iload_n 1, 1) := by decide +kernel
set_option maxRecDepth 20000 in
theorem ggX12_rule_X12_isMonth : GoodIn wsX12_rule wsX12_isMonth := goodIn_r _ [4] (by decide +kernel) (by decide +kernel)
set_option maxRecDepth 20000 in
theorem gX12_rule_X12_isMonth : GoodIn wsX12_rule (va_wsS RX12 405 yX12_isMonth wsX12_isMonth) := goodIn_app (goodIn_of _ (by decide +kernel)) ggX12_rule_X12_isMonth
theorem dX12_rule_1 : decode cX12_rule 1 = .ok (.invokestatic 405, 3) := by decide +kernel
theorem dX12_rule_4 : decode cX12_rule 4 = .ok (.ifCond .eq 10, 3) := by decide +kernel
theorem dX12_rule_7 : decode cX12_rule 7 = .ok (.iload_n 2, 1) := by decide +kernel
set_option maxRecDepth 20000 in
theorem ggX12_rule_X12_isDay : GoodIn wsX12_rule wsX12_isDay := goodIn_r _ [7] (by decide +kernel) (by decide +kernel)
set_option maxRecDepth 20000 in
theorem gX12_rule_X12_isDay : GoodIn wsX12_rule (va_wsS RX12 243 yX12_isDay wsX12_isDay) := goodIn_app (goodIn_of _ (by decide +kernel)) ggX12_rule_X12_isDay
theorem dX12_rule_8 : decode cX12_rule 8 = .ok (.invokestatic 243, 3) := by decide +kernel
theorem dX12_rule_11 : decode cX12_rule 11 = .ok (.ifCond .ne 7, 3) := by decide +kernel
theorem dX12_rule_18 : decode cX12_rule 18 = .ok (.iload_n 3, 1) := by decide +kernel
theorem dX12_rule_19 : decode cX12_rule 19 = .ok (.iconst 5, 1) := by decide +kernel
theorem dX12_rule_20 : decode cX12_rule 20 = .ok (.if_icmp .ne 12, 3) := by decide +kernel
theorem dX12_rule_32 : decode cX12_rule 32 = .ok (.iload_n 3, 1) := by decide +kernel
theorem dX12_rule_33 : decode cX12_rule 33 = .ok (.iconst 0, 1) := by decide +kernel
theorem dX12_rule_34 : decode cX12_rule 34 = .ok (.iconst 4, 1) := by decide +kernel
set_option maxRecDepth 20000 in
theorem ggX12_rule_X12_within : GoodIn wsX12_rule wsX12_within := goodIn_r _ [17] (by decide +kernel) (by decide +kernel)
set_option maxRecDepth 20000 in
theorem gX12_rule_X12_within : GoodIn wsX12_rule (va_wsS RX12 235 yX12_within wsX12_within) := goodIn_app (goodIn_of _ (by decide +kernel)) ggX12_rule_X12_within
theorem dX12_rule_35 : decode cX12_rule 35 = .ok (.invokestatic 235, 3) := by decide +kernel
theorem dX12_rule_38 : decode cX12_rule 38 = .ok (.ifCond .eq 15, 3) := by decide +kernel
theorem dX12_rule_41 : decode cX12_rule 41 = .ok (.aload_n 0, 1) := by decide +kernel
theorem dX12_rule_42 : decode cX12_rule 42 = .ok (.iload_n 1, 1) := by decide +kernel
theorem dX12_rule_43 : decode cX12_rule 43 = .ok (.iload_n 2, 1) := by decide +kernel
theorem dX12_rule_44 : decode cX12_rule 44 = .ok (.iconst 3, 1) := by decide +kernel
theorem dX12_rule_45 : decode cX12_rule 45 = .ok (.iload_n 3, 1) := by decide +kernel
theorem dX12_rule_46 : decode cX12_rule 46 = .ok (.iadd, 1) := by decide +kernel
set_option maxRecDepth 20000 in
theorem ggX12_rule_X12_number : GoodIn wsX12_rule wsX12_number := goodIn_r _ [21, 22, 23, 24, 25, 8, 9, 10, 3, 11, 12, 13, 14, 26, 27, 28, 29, 30, 31, 32, 33, 34, 35, 36, 37, 38, 39, 40, 41, 42, 43, 44, 45, 46, 47, 48, 49, 50, 51, 52, 53, 54, 55, 56, 57, 58, 59, 60, 61, 62, 63, 64, 65, 66, 67, 68, 69, 70, 71, 72, 73, 74, 75, 76, 77, 78, 79, 80, 81, 82, 83, 84, 85, 86, 87, 88, 89, 90, 91, 92, 93, 94, 95, 96, 97, 98, 99, 100, 101, 102, 103, 104, 105, 106, 107, 108, 109, 110, 111, 112, 113, 114, 115, 116, 117, 118, 119, 120, 121] (by decide +kernel) (by decide +kernel)
set_option maxRecDepth 20000 in
theorem gX12_rule_X12_number : GoodIn wsX12_rule (wsV RX12 420 RX12 yX12_number wsX12_number) := goodIn_app (goodIn_of _ (by decide +kernel)) ggX12_rule_X12_number
theorem dX12_rule_47 : decode cX12_rule 47 = .ok (.invokevirtual 420, 3) := by decide +kernel
theorem dX12_rule_50 : decode cX12_rule 50 = .ok (.goto 4, 3) := by decide +kernel
theorem dX12_rule_54 : decode cX12_rule 54 = .ok (.ireturn, 1) := by decide +kernel
theorem dX12_rule_53 : decode cX12_rule 53 = .ok (.iconst (-1), 1) := by decide +kernel
theorem dX12_rule_23 : decode cX12_rule 23 = .ok (.aload_n 0, 1) := by decide +kernel
theorem dX12_rule_24 : decode cX12_rule 24 = .ok (.iload_n 1, 1) := by decide +kernel
theorem dX12_rule_25 : decode cX12_rule 25 = .ok (.iload_n 2, 1) := by decide +kernel
set_option maxRecDepth 20000 in
theorem ggX12_rule_X12_inForce : GoodIn wsX12_rule wsX12_inForce := goodIn_r _ [11, 12, 13, 14, 26, 27, 28, 29, 30, 31, 32, 33, 34, 35, 36, 37, 38, 39, 40, 41, 42, 43, 44, 45, 46, 47, 48, 49, 50, 51, 52, 53, 54, 55, 56, 57, 58, 59, 60, 61, 62, 63, 64, 65, 66, 67, 68, 69, 70, 71, 72, 73, 74, 75, 76, 77, 78, 79, 80, 81, 82, 83, 84, 85, 86, 87, 88, 89, 90, 91, 92, 93, 94, 95, 96, 97, 98, 99, 100, 101, 102, 103, 104, 105, 106, 107, 108, 109, 110, 111, 112, 113, 114, 115, 116, 117, 118, 119, 120, 121] (by decide +kernel) (by decide +kernel)
set_option maxRecDepth 20000 in
theorem gX12_rule_X12_inForce : GoodIn wsX12_rule (wsV RX12 417 RX12 yX12_inForce wsX12_inForce) := goodIn_app (goodIn_of _ (by decide +kernel)) ggX12_rule_X12_inForce
theorem dX12_rule_26 : decode cX12_rule 26 = .ok (.invokevirtual 417, 3) := by decide +kernel
theorem dX12_rule_29 : decode cX12_rule 29 = .ok (.goto 25, 3) := by decide +kernel
theorem dX12_rule_14 : decode cX12_rule 14 = .ok (.iconst (-1), 1) := by decide +kernel
theorem dX12_rule_15 : decode cX12_rule 15 = .ok (.goto 39, 3) := by decide +kernel
theorem dX12_deals_0 : decode cX12_deals 0 = .ok (.iconst 0, 1) := by decide +kernel
theorem dX12_deals_1 : decode cX12_deals 1 = .ok (.istore_n 3, 1) := by decide +kernel
theorem dX12_deals_2 : decode cX12_deals 2 = .ok (.iconst 0, 1) := by decide +kernel
theorem dX12_deals_3 : decode cX12_deals 3 = .ok (.istore 4, 2) := by decide +kernel
theorem dX12_deals_5 : decode cX12_deals 5 = .ok (.iload 4, 2) := by decide +kernel
theorem dX12_deals_7 : decode cX12_deals 7 = .ok (.aload_n 0, 1) := by decide +kernel
theorem dX12_deals_8 : decode cX12_deals 8 = .ok (.getfield 229, 3) := by decide +kernel
theorem dX12_deals_11 : decode cX12_deals 11 = .ok (.if_icmp .ge 45, 3) := by decide +kernel
theorem dX12_deals_56 : decode cX12_deals 56 = .ok (.iload_n 1, 1) := by decide +kernel
theorem dX12_deals_57 : decode cX12_deals 57 = .ok (.ifCond .ne 4, 3) := by decide +kernel
theorem dX12_deals_61 : decode cX12_deals 61 = .ok (.iconst 0, 1) := by decide +kernel
theorem dX12_deals_62 : decode cX12_deals 62 = .ok (.istore 4, 2) := by decide +kernel
theorem dX12_deals_64 : decode cX12_deals 64 = .ok (.iload 4, 2) := by decide +kernel
theorem dX12_deals_66 : decode cX12_deals 66 = .ok (.aload_n 0, 1) := by decide +kernel
theorem dX12_deals_67 : decode cX12_deals 67 = .ok (.getfield 229, 3) := by decide +kernel
theorem dX12_deals_70 : decode cX12_deals 70 = .ok (.if_icmp .ge 127, 3) := by decide +kernel
theorem dX12_deals_197 : decode cX12_deals 197 = .ok (.return_, 1) := by decide +kernel
theorem dX12_deals_60 : decode cX12_deals 60 = .ok (.return_, 1) := by decide +kernel
theorem dX12_stays_0 : decode cX12_stays 0 = .ok (.iload_n 1, 1) := by decide +kernel
theorem dX12_stays_1 : decode cX12_stays 1 = .ok (.iconst 0, 1) := by decide +kernel
theorem dX12_stays_2 : decode cX12_stays 2 = .ok (.iconst 2, 1) := by decide +kernel
set_option maxRecDepth 20000 in
theorem ggX12_stays_X12_within : GoodIn wsX12_stays wsX12_within := goodIn_r _ [7] (by decide +kernel) (by decide +kernel)
set_option maxRecDepth 20000 in
theorem gX12_stays_X12_within : GoodIn wsX12_stays (va_wsS RX12 235 yX12_within wsX12_within) := goodIn_app (goodIn_of _ (by decide +kernel)) ggX12_stays_X12_within
theorem dX12_stays_3 : decode cX12_stays 3 = .ok (.invokestatic 235, 3) := by decide +kernel
theorem dX12_stays_6 : decode cX12_stays 6 = .ok (.ifCond .eq 10, 3) := by decide +kernel
theorem dX12_stays_9 : decode cX12_stays 9 = .ok (.iload_n 2, 1) := by decide +kernel
set_option maxRecDepth 20000 in
theorem ggX12_stays_X12_isMonth : GoodIn wsX12_stays wsX12_isMonth := goodIn_r _ [10] (by decide +kernel) (by decide +kernel)
set_option maxRecDepth 20000 in
theorem gX12_stays_X12_isMonth : GoodIn wsX12_stays (va_wsS RX12 405 yX12_isMonth wsX12_isMonth) := goodIn_app (goodIn_of _ (by decide +kernel)) ggX12_stays_X12_isMonth
theorem dX12_stays_10 : decode cX12_stays 10 = .ok (.invokestatic 405, 3) := by decide +kernel
theorem dX12_stays_13 : decode cX12_stays 13 = .ok (.ifCond .ne 5, 3) := by decide +kernel
theorem dX12_stays_18 : decode cX12_stays 18 = .ok (.aload_n 0, 1) := by decide +kernel
theorem dX12_stays_19 : decode cX12_stays 19 = .ok (.iload_n 1, 1) := by decide +kernel
theorem dX12_stays_20 : decode cX12_stays 20 = .ok (.iload_n 2, 1) := by decide +kernel
set_option maxRecDepth 20000 in
theorem ggX12_stays_X12_deals : GoodIn wsX12_stays wsX12_deals := goodIn_r _ [14, 1, 2, 15, 16, 17, 3, 18, 19, 20, 6, 21, 22, 23, 24, 25, 26, 27, 28, 29, 30, 31, 32, 33, 34, 35, 36, 37, 38, 39, 40, 41, 42, 43, 44, 45, 46, 47, 48, 49, 50, 51, 52, 53, 54, 55, 56, 57, 58, 59, 60, 61, 62, 63, 64, 65, 66, 67, 68, 69, 70, 71, 72, 73, 74, 75, 76, 77, 78, 79, 80, 81, 82, 83, 84, 85, 86, 87, 88, 89, 90, 91, 92, 93, 94, 95, 96, 97, 98, 99, 100, 101, 102, 103, 104, 105, 106, 107, 108, 109, 110, 111, 112, 113, 114, 115, 116, 117, 118, 119, 120, 121, 122, 123, 124, 125, 126, 127, 128, 129, 130, 131, 132, 133, 134, 135, 136, 137, 138, 139, 140, 141, 142, 143, 144, 145, 146, 147, 148, 149, 150, 151, 152, 153, 154, 155, 156, 157, 158, 159, 160, 161, 162, 163, 164, 165, 166, 167, 168, 169, 170, 171, 172, 173] (by decide +kernel) (by decide +kernel)
set_option maxRecDepth 20000 in
theorem gX12_stays_X12_deals : GoodIn wsX12_stays (wsV RX12 521 RX12 yX12_deals wsX12_deals) := goodIn_app (goodIn_of _ (by decide +kernel)) ggX12_stays_X12_deals
theorem dX12_stays_21 : decode cX12_stays 21 = .ok (.invokevirtual 521, 3) := by decide +kernel
theorem dX12_stays_24 : decode cX12_stays 24 = .ok (.iconst 0, 1) := by decide +kernel
theorem dX12_stays_25 : decode cX12_stays 25 = .ok (.istore_n 3, 1) := by decide +kernel
theorem dX12_stays_26 : decode cX12_stays 26 = .ok (.iconst 0, 1) := by decide +kernel
theorem dX12_stays_27 : decode cX12_stays 27 = .ok (.istore 4, 2) := by decide +kernel
theorem dX12_stays_29 : decode cX12_stays 29 = .ok (.iload 4, 2) := by decide +kernel
theorem dX12_stays_31 : decode cX12_stays 31 = .ok (.aload_n 0, 1) := by decide +kernel
theorem dX12_stays_32 : decode cX12_stays 32 = .ok (.getfield 229, 3) := by decide +kernel
theorem dX12_stays_35 : decode cX12_stays 35 = .ok (.if_icmp .ge 29, 3) := by decide +kernel
theorem dX12_stays_64 : decode cX12_stays 64 = .ok (.iload_n 3, 1) := by decide +kernel
theorem dX12_stays_65 : decode cX12_stays 65 = .ok (.ireturn, 1) := by decide +kernel
theorem dX12_stays_16 : decode cX12_stays 16 = .ok (.iconst (-1), 1) := by decide +kernel
theorem dX12_stays_17 : decode cX12_stays 17 = .ok (.ireturn, 1) := by decide +kernel
theorem dX12_pool_0 : decode cX12_pool 0 = .ok (.iload_n 3, 1) := by decide +kernel
theorem dX12_pool_1 : decode cX12_pool 1 = .ok (.iconst 0, 1) := by decide +kernel
theorem dX12_pool_2 : decode cX12_pool 2 = .ok (.iconst 3, 1) := by decide +kernel
set_option maxRecDepth 20000 in
theorem ggX12_pool_X12_within : GoodIn wsX12_pool wsX12_within := goodIn_r _ [13] (by decide +kernel) (by decide +kernel)
set_option maxRecDepth 20000 in
theorem gX12_pool_X12_within : GoodIn wsX12_pool (va_wsS RX12 235 yX12_within wsX12_within) := goodIn_app (goodIn_of _ (by decide +kernel)) ggX12_pool_X12_within
theorem dX12_pool_3 : decode cX12_pool 3 = .ok (.invokestatic 235, 3) := by decide +kernel
theorem dX12_pool_6 : decode cX12_pool 6 = .ok (.ifCond .ne 5, 3) := by decide +kernel
theorem dX12_pool_11 : decode cX12_pool 11 = .ok (.iconst 0, 1) := by decide +kernel
theorem dX12_pool_12 : decode cX12_pool 12 = .ok (.istore 4, 2) := by decide +kernel
theorem dX12_pool_14 : decode cX12_pool 14 = .ok (.iconst 0, 1) := by decide +kernel
theorem dX12_pool_15 : decode cX12_pool 15 = .ok (.istore 5, 2) := by decide +kernel
theorem dX12_pool_17 : decode cX12_pool 17 = .ok (.iconst 0, 1) := by decide +kernel
theorem dX12_pool_18 : decode cX12_pool 18 = .ok (.istore 6, 2) := by decide +kernel
theorem dX12_pool_20 : decode cX12_pool 20 = .ok (.iload 6, 2) := by decide +kernel
theorem dX12_pool_22 : decode cX12_pool 22 = .ok (.aload_n 0, 1) := by decide +kernel
theorem dX12_pool_23 : decode cX12_pool 23 = .ok (.getfield 505, 3) := by decide +kernel
theorem dX12_pool_26 : decode cX12_pool 26 = .ok (.if_icmp .ge 65, 3) := by decide +kernel
theorem dX12_pool_91 : decode cX12_pool 91 = .ok (.iload 4, 2) := by decide +kernel
theorem dX12_pool_93 : decode cX12_pool 93 = .ok (.ifCond .ne 5, 3) := by decide +kernel
theorem dX12_pool_96 : decode cX12_pool 96 = .ok (.iconst (-1), 1) := by decide +kernel
theorem dX12_pool_97 : decode cX12_pool 97 = .ok (.ireturn, 1) := by decide +kernel
theorem dX12_pool_9 : decode cX12_pool 9 = .ok (.iconst (-1), 1) := by decide +kernel
theorem dX12_pool_10 : decode cX12_pool 10 = .ok (.ireturn, 1) := by decide +kernel
theorem dX12_station_0 : decode cX12_station 0 = .ok (.aload_n 0, 1) := by decide +kernel
theorem dX12_station_1 : decode cX12_station 1 = .ok (.getfield 461, 3) := by decide +kernel
theorem dX12_station_4 : decode cX12_station 4 = .ok (.bipush 10, 2) := by decide +kernel
theorem dX12_station_6 : decode cX12_station 6 = .ok (.if_icmp .ne 5, 3) := by decide +kernel
theorem dX12_station_11 : decode cX12_station 11 = .ok (.aload_n 0, 1) := by decide +kernel
theorem dX12_station_12 : decode cX12_station 12 = .ok (.dup, 1) := by decide +kernel
theorem dX12_station_13 : decode cX12_station 13 = .ok (.getfield 461, 3) := by decide +kernel
theorem dX12_station_16 : decode cX12_station 16 = .ok (.iconst 1, 1) := by decide +kernel
theorem dX12_station_17 : decode cX12_station 17 = .ok (.iadd, 1) := by decide +kernel
theorem dX12_station_18 : decode cX12_station 18 = .ok (.putfield 461, 3) := by decide +kernel
theorem dX12_station_21 : decode cX12_station 21 = .ok (.aload_n 0, 1) := by decide +kernel
theorem dX12_station_22 : decode cX12_station 22 = .ok (.getfield 461, 3) := by decide +kernel
theorem dX12_station_25 : decode cX12_station 25 = .ok (.iconst 1, 1) := by decide +kernel
theorem dX12_station_26 : decode cX12_station 26 = .ok (.isub, 1) := by decide +kernel
theorem dX12_station_27 : decode cX12_station 27 = .ok (.ireturn, 1) := by decide +kernel

theorem z_up_id {α : Type} {f : Nat → Nat → α} {i k : Nat} {v : α} (h : f i k = v) : z_up f i k v = f := by
  funext a b
  unfold z_up
  split
  · rename_i e
    split
    · rename_i e2
      rw [e, e2, h]
    · rfl
  · rfl
theorem z_fi_id {I : z_I} {i : Nat} {v : Int32} (h : ∀ k, I i k = v) : z_fi I i v = I := by
  funext a b
  unfold z_fi
  split
  · rename_i e
    rw [e, h]
  · rfl
theorem z_inc {x n : Int32} (h0 : 0 ≤ x) (h : ¬ n ≤ x) : (x + 1).toInt = x.toInt + 1 := by
  obtain ⟨j, hj, ej⟩ := nI_of (x := x) (by rw [Int32.not_lt]; exact h0)
  have h1 : x.toInt = (j : Int) := by rw [ej]; exact nI_toInt hj
  have h2 : x.toInt < n.toInt := Int32.lt_iff_toInt_lt.mp (Int32.not_le.mp h)
  have h3 := Int32.toInt_lt n
  have h4 : j + 1 < 2 ^ 31 := by omega
  rw [show x + 1 = nI (j + 1) by rw [ej]; exact nI_1 j, nI_toInt h4, h1]
  omega
theorem z_step {x n x1 : Int32} {f : Nat} (e : x1 = x + 1) (h1 : 0 ≤ x) (hc : ¬ n ≤ x) (h3 : n.toInt < x.toInt + ((f + 1 : Nat) : Int)) : 0 ≤ x1 ∧ x1 ≤ n ∧ n.toInt < x1.toInt + (f : Int) := by
  have h2 : x.toInt < n.toInt := Int32.lt_iff_toInt_lt.mp (Int32.not_le.mp hc)
  have h4 : (0 : Int) ≤ x.toInt := by simpa using Int32.le_iff_toInt_le.mp h1
  have h5 := z_inc h1 hc
  rw [← e] at h5
  refine ⟨?_, ?_, by omega⟩
  · rw [Int32.le_iff_toInt_le, h5, show (0 : Int32).toInt = 0 by decide]
    omega
  · rw [Int32.le_iff_toInt_le, h5]
    omega
theorem z_zero {x n : Int32} (h2 : x ≤ n) (h3 : n.toInt < x.toInt + ((0 : Nat) : Int)) : False := by
  rw [Int32.le_iff_toInt_le] at h2
  omega
theorem z_dec {x : Int32} (h : 1 ≤ x) : (x - 1).toInt = x.toInt - 1 := by
  have h0 : (1 : Int32).toInt ≤ x.toInt := Int32.le_iff_toInt_le.mp h
  rw [show (1 : Int32).toInt = 1 by decide] at h0
  obtain ⟨j, hj, ej⟩ := nI_of (x := x) (by rw [Int32.lt_iff_toInt_lt, show (0 : Int32).toInt = 0 by decide]; omega)
  have h1 : x.toInt = (j : Int) := by rw [ej]; exact nI_toInt hj
  obtain ⟨i, rfl⟩ : ∃ i, j = i + 1 := ⟨j - 1, by omega⟩
  rw [h1, ej, ← nI_1, Int32.add_sub_cancel, nI_toInt (by omega)]
  omega
theorem z_nI_mul (a b : Nat) : nI a * nI b = nI (a * b) := (Int32.ofNat_mul a b).symm
theorem z_in16 {a b : Int32} (h1 : 0 ≤ a) (h2 : ¬ 16 ≤ a) (h3 : 0 ≤ b) (h4 : ¬ 16 ≤ b) : vp_in ((16 * a) + b) 256 := by
  obtain ⟨i, hi, ei⟩ := nI_of (x := a) (by rw [Int32.not_lt]; exact h1)
  obtain ⟨j, hj, ej⟩ := nI_of (x := b) (by rw [Int32.not_lt]; exact h3)
  have q1 : i < 16 := by
    rcases Nat.lt_or_ge i 16 with q | q
    · exact q
    · exact absurd (by rw [ei]; exact nI_le (a := 16) q hi) h2
  have q2 : j < 16 := by
    rcases Nat.lt_or_ge j 16 with q | q
    · exact q
    · exact absurd (by rw [ej]; exact nI_le (a := 16) q hj) h4
  rw [ei, ej, show (16 : Int32) * nI i + nI j = nI (16 * i + j) by rw [show (16 : Int32) = nI 16 from rfl, z_nI_mul, nI_add]]
  exact vp_in_nI (by omega) (by decide)
theorem z_five {a : Int32} (h1 : 0 ≤ a) (h2 : a ≤ 4) : a = 0 ∨ a = 1 ∨ a = 2 ∨ a = 3 ∨ a = 4 := by
  simp only [Int32.le_iff_toInt_le, ← Int32.toInt_inj, show (0 : Int32).toInt = 0 by decide, show (1 : Int32).toInt = 1 by decide, show (2 : Int32).toInt = 2 by decide, show (3 : Int32).toInt = 3 by decide, show (4 : Int32).toInt = 4 by decide] at h1 h2 ⊢
  omega
def fr_num (a : Int32) : Int32 := if a = 3 then 10 else if a = 4 then 1 else if a = 5 then 5 else if a = 6 then 0 else 20
def fr_rule (a b c : Int32) : Int32 := if (0 ≤ a ∧ a ≤ 23) ∧ (0 ≤ b ∧ b ≤ 719) ∧ (0 ≤ c ∧ c ≤ 4) then fr_num (3 + c) else -1
def fr_stays (a b : Int32) : Int32 := if (0 ≤ a ∧ a ≤ 2) ∧ (0 ≤ b ∧ b ≤ 23) then 0 else -1
def fr_flow (a b : Int32) : Int32 := if a = -1 ∧ (0 ≤ b ∧ b ≤ 1) then 0 else -1
def fr_orders (a b : Int32) : Int32 := if a = 0 ∧ (0 ≤ b ∧ b ≤ 23) then 0 else -2
def fr_foretold (a : Int32) : Int32 := if 1 ≤ a ∧ a ≤ 12 then 0 else -2000000000
set_option maxHeartbeats 4000000 in
set_option maxRecDepth 100000 in
theorem ct_X12_number (l : Launch) (G : z_G) (ad : Nat → Nat) (a1 : Int32) (a2 : Int32) (a3 : Int32) : z_M l yX12_number wsX12_number { frames := 2, cells := 0, slots := 0, locals := 36 } [.ref (ad 0), .int a1, .int a2, .int a3] G (shM, ad, IM, JM, PM ad) (fun r u1 => u1 = (shM, ad, IM, JM, PM ad) ∧ r = fr_num a3) 0 0 := by
  intro sz
  refine z_headQ (cc := cX12_number) (maxL := 7) (ret := (some .int)) (by decide) rfl (Nat.le_of_ble_eq_true rfl) ?_
  intro p e s m below meth c ls hIn hK hsz hW hl
  obtain ⟨hx, hb, hr, hml, hown, hts, hlocks, hname⟩ := hIn
  subst hsz
  have hown : s.vm.findClass RX12 = some m.cls := hown
  have hA : ∀ q : Nat, s.heap.size ≤ q → z_A (shM, ad, IM, JM, PM ad) s.heap.size q := fun q h => Or.inr h
  generalize hAe : z_A (shM, ad, IM, JM, PM ad) s.heap.size = A at *
  have hS : va_S A s.heap s.heap [] := va_S.rf
  have hl : lv_has ls 7 [(0, .ref (ad 0)), (1, .int a1), (2, .int a2), (3, .int a3)] := hl
  refine lv_iload_n hx hb dX12_number_0 rfl (lv_at hl 3 rfl) ?_
  refine lv_iconst (v := 3) hx hb dX12_number_1 (by decide) ?_
  refine lv_icmp_ne (tgt := 10) hx hb dX12_number_2 (by decide) (fun c1 => ?_) (fun c1 => ?_)
  · refine lv_iload_n hx hb dX12_number_10 rfl (lv_at hl 3 rfl) ?_
    refine lv_iconst (v := 4) hx hb dX12_number_11 (by decide) ?_
    refine lv_icmp_ne (tgt := 19) hx hb dX12_number_12 (by decide) (fun c2 => ?_) (fun c2 => ?_)
    · refine lv_iload_n hx hb dX12_number_19 rfl (lv_at hl 3 rfl) ?_
      refine lv_iconst (v := 5) hx hb dX12_number_20 (by decide) ?_
      refine lv_icmp_ne (tgt := 28) hx hb dX12_number_21 (by decide) (fun c3 => ?_) (fun c3 => ?_)
      · refine lv_iload_n hx hb dX12_number_28 rfl (lv_at hl 3 rfl) ?_
        refine lv_bipush (v := 6) hx hb dX12_number_29 (by decide) ?_
        refine lv_icmp_ne (tgt := 38) hx hb dX12_number_31 (by decide) (fun c4 => ?_) (fun c4 => ?_)
        · refine lv_bipush (v := 20) hx hb dX12_number_38 (by decide) ?_
          refine lv_istore (lv' := [(4, .int 20), (0, .ref (ad 0)), (1, .int a1), (2, .int a2), (3, .int a3)]) hx hb dX12_number_40 hl (by decide) rfl (fun ls hl => ?_)
          refine lv_aload_n hx hb dX12_number_42 rfl (lv_at hl 1 rfl) ?_
          refine lv_iload_n hx hb dX12_number_43 rfl (lv_at hl 2 rfl) ?_
          refine lv_iload_n hx hb dX12_number_44 rfl (lv_at hl 3 rfl) ?_
          refine z_ci hW hS hA (va_runV (As := [.int a1, .int a2]) (rest := []) ⟨hx, hb, hml, hown, hts⟩ (ct_X12_inForce l G ad a1 a2 _) (cwV 2 hts gX12_number_X12_inForce rfl rfl rfl (by decide +kernel) ⟨Nat.le_of_ble_eq_true rfl, Nat.le_of_ble_eq_true rfl⟩) (z_preV hK hW rfl rfl) rfl rfl hl.1 rfl (lv_room (Nat.le_of_ble_eq_true rfl)) dX12_number_45 ⟨Nat.le_of_ble_eq_true rfl, Nat.le_of_ble_eq_true rfl⟩) (fun r u1 H locs hp hW hS => ?_)
          obtain ⟨e9, rfl⟩ := hp
          rw [e9] at hW
          refine lv_istore (lv' := [(5, .int (-1)), (4, .int 20), (0, .ref (ad 0)), (1, .int a1), (2, .int a2), (3, .int a3)]) hx hb dX12_number_48 hl (by decide) rfl (fun ls hl => ?_)
          refine lv_iload hx hb dX12_number_50 (lv_at hl 0 rfl) ?_
          refine lv_if_ge (tgt := 58) hx hb dX12_number_52 (by decide) (fun c5 => absurd c5 (by decide)) (fun c5 => ?_)
          refine lv_iload hx hb dX12_number_55 (lv_at hl 1 rfl) ?_
          exact z_iret hx hb hr hK hS (Nat.le_of_ble_eq_true rfl) (Nat.le_of_ble_eq_true rfl) hlocks dX12_number_57 (shM, ad, IM, JM, PM ad) hW ⟨rfl, by unfold fr_num; simp [c1, c2, c3, c4]⟩
        · refine lv_iconst (v := 0) hx hb dX12_number_34 (by decide) ?_
          refine lv_goto (tgt := 40) hx hb dX12_number_35 (by decide) ?_
          refine lv_istore (lv' := [(4, .int 0), (0, .ref (ad 0)), (1, .int a1), (2, .int a2), (3, .int a3)]) hx hb dX12_number_40 hl (by decide) rfl (fun ls hl => ?_)
          refine lv_aload_n hx hb dX12_number_42 rfl (lv_at hl 1 rfl) ?_
          refine lv_iload_n hx hb dX12_number_43 rfl (lv_at hl 2 rfl) ?_
          refine lv_iload_n hx hb dX12_number_44 rfl (lv_at hl 3 rfl) ?_
          refine z_ci hW hS hA (va_runV (As := [.int a1, .int a2]) (rest := []) ⟨hx, hb, hml, hown, hts⟩ (ct_X12_inForce l G ad a1 a2 _) (cwV 2 hts gX12_number_X12_inForce rfl rfl rfl (by decide +kernel) ⟨Nat.le_of_ble_eq_true rfl, Nat.le_of_ble_eq_true rfl⟩) (z_preV hK hW rfl rfl) rfl rfl hl.1 rfl (lv_room (Nat.le_of_ble_eq_true rfl)) dX12_number_45 ⟨Nat.le_of_ble_eq_true rfl, Nat.le_of_ble_eq_true rfl⟩) (fun r u1 H locs hp hW hS => ?_)
          obtain ⟨e9, rfl⟩ := hp
          rw [e9] at hW
          refine lv_istore (lv' := [(5, .int (-1)), (4, .int 0), (0, .ref (ad 0)), (1, .int a1), (2, .int a2), (3, .int a3)]) hx hb dX12_number_48 hl (by decide) rfl (fun ls hl => ?_)
          refine lv_iload hx hb dX12_number_50 (lv_at hl 0 rfl) ?_
          refine lv_if_ge (tgt := 58) hx hb dX12_number_52 (by decide) (fun c6 => absurd c6 (by decide)) (fun c6 => ?_)
          refine lv_iload hx hb dX12_number_55 (lv_at hl 1 rfl) ?_
          exact z_iret hx hb hr hK hS (Nat.le_of_ble_eq_true rfl) (Nat.le_of_ble_eq_true rfl) hlocks dX12_number_57 (shM, ad, IM, JM, PM ad) hW ⟨rfl, by unfold fr_num; simp [c1, c2, c3, c4]⟩
      · refine lv_iconst (v := 5) hx hb dX12_number_24 (by decide) ?_
        refine lv_goto (tgt := 40) hx hb dX12_number_25 (by decide) ?_
        refine lv_istore (lv' := [(4, .int 5), (0, .ref (ad 0)), (1, .int a1), (2, .int a2), (3, .int a3)]) hx hb dX12_number_40 hl (by decide) rfl (fun ls hl => ?_)
        refine lv_aload_n hx hb dX12_number_42 rfl (lv_at hl 1 rfl) ?_
        refine lv_iload_n hx hb dX12_number_43 rfl (lv_at hl 2 rfl) ?_
        refine lv_iload_n hx hb dX12_number_44 rfl (lv_at hl 3 rfl) ?_
        refine z_ci hW hS hA (va_runV (As := [.int a1, .int a2]) (rest := []) ⟨hx, hb, hml, hown, hts⟩ (ct_X12_inForce l G ad a1 a2 _) (cwV 2 hts gX12_number_X12_inForce rfl rfl rfl (by decide +kernel) ⟨Nat.le_of_ble_eq_true rfl, Nat.le_of_ble_eq_true rfl⟩) (z_preV hK hW rfl rfl) rfl rfl hl.1 rfl (lv_room (Nat.le_of_ble_eq_true rfl)) dX12_number_45 ⟨Nat.le_of_ble_eq_true rfl, Nat.le_of_ble_eq_true rfl⟩) (fun r u1 H locs hp hW hS => ?_)
        obtain ⟨e9, rfl⟩ := hp
        rw [e9] at hW
        refine lv_istore (lv' := [(5, .int (-1)), (4, .int 5), (0, .ref (ad 0)), (1, .int a1), (2, .int a2), (3, .int a3)]) hx hb dX12_number_48 hl (by decide) rfl (fun ls hl => ?_)
        refine lv_iload hx hb dX12_number_50 (lv_at hl 0 rfl) ?_
        refine lv_if_ge (tgt := 58) hx hb dX12_number_52 (by decide) (fun c7 => absurd c7 (by decide)) (fun c7 => ?_)
        refine lv_iload hx hb dX12_number_55 (lv_at hl 1 rfl) ?_
        exact z_iret hx hb hr hK hS (Nat.le_of_ble_eq_true rfl) (Nat.le_of_ble_eq_true rfl) hlocks dX12_number_57 (shM, ad, IM, JM, PM ad) hW ⟨rfl, by unfold fr_num; simp [c1, c2, c3]⟩
    · refine lv_iconst (v := 1) hx hb dX12_number_15 (by decide) ?_
      refine lv_goto (tgt := 40) hx hb dX12_number_16 (by decide) ?_
      refine lv_istore (lv' := [(4, .int 1), (0, .ref (ad 0)), (1, .int a1), (2, .int a2), (3, .int a3)]) hx hb dX12_number_40 hl (by decide) rfl (fun ls hl => ?_)
      refine lv_aload_n hx hb dX12_number_42 rfl (lv_at hl 1 rfl) ?_
      refine lv_iload_n hx hb dX12_number_43 rfl (lv_at hl 2 rfl) ?_
      refine lv_iload_n hx hb dX12_number_44 rfl (lv_at hl 3 rfl) ?_
      refine z_ci hW hS hA (va_runV (As := [.int a1, .int a2]) (rest := []) ⟨hx, hb, hml, hown, hts⟩ (ct_X12_inForce l G ad a1 a2 _) (cwV 2 hts gX12_number_X12_inForce rfl rfl rfl (by decide +kernel) ⟨Nat.le_of_ble_eq_true rfl, Nat.le_of_ble_eq_true rfl⟩) (z_preV hK hW rfl rfl) rfl rfl hl.1 rfl (lv_room (Nat.le_of_ble_eq_true rfl)) dX12_number_45 ⟨Nat.le_of_ble_eq_true rfl, Nat.le_of_ble_eq_true rfl⟩) (fun r u1 H locs hp hW hS => ?_)
      obtain ⟨e9, rfl⟩ := hp
      rw [e9] at hW
      refine lv_istore (lv' := [(5, .int (-1)), (4, .int 1), (0, .ref (ad 0)), (1, .int a1), (2, .int a2), (3, .int a3)]) hx hb dX12_number_48 hl (by decide) rfl (fun ls hl => ?_)
      refine lv_iload hx hb dX12_number_50 (lv_at hl 0 rfl) ?_
      refine lv_if_ge (tgt := 58) hx hb dX12_number_52 (by decide) (fun c8 => absurd c8 (by decide)) (fun c8 => ?_)
      refine lv_iload hx hb dX12_number_55 (lv_at hl 1 rfl) ?_
      exact z_iret hx hb hr hK hS (Nat.le_of_ble_eq_true rfl) (Nat.le_of_ble_eq_true rfl) hlocks dX12_number_57 (shM, ad, IM, JM, PM ad) hW ⟨rfl, by unfold fr_num; simp [c1, c2]⟩
  · refine lv_bipush (v := 10) hx hb dX12_number_5 (by decide) ?_
    refine lv_goto (tgt := 40) hx hb dX12_number_7 (by decide) ?_
    refine lv_istore (lv' := [(4, .int 10), (0, .ref (ad 0)), (1, .int a1), (2, .int a2), (3, .int a3)]) hx hb dX12_number_40 hl (by decide) rfl (fun ls hl => ?_)
    refine lv_aload_n hx hb dX12_number_42 rfl (lv_at hl 1 rfl) ?_
    refine lv_iload_n hx hb dX12_number_43 rfl (lv_at hl 2 rfl) ?_
    refine lv_iload_n hx hb dX12_number_44 rfl (lv_at hl 3 rfl) ?_
    refine z_ci hW hS hA (va_runV (As := [.int a1, .int a2]) (rest := []) ⟨hx, hb, hml, hown, hts⟩ (ct_X12_inForce l G ad a1 a2 _) (cwV 2 hts gX12_number_X12_inForce rfl rfl rfl (by decide +kernel) ⟨Nat.le_of_ble_eq_true rfl, Nat.le_of_ble_eq_true rfl⟩) (z_preV hK hW rfl rfl) rfl rfl hl.1 rfl (lv_room (Nat.le_of_ble_eq_true rfl)) dX12_number_45 ⟨Nat.le_of_ble_eq_true rfl, Nat.le_of_ble_eq_true rfl⟩) (fun r u1 H locs hp hW hS => ?_)
    obtain ⟨e9, rfl⟩ := hp
    rw [e9] at hW
    refine lv_istore (lv' := [(5, .int (-1)), (4, .int 10), (0, .ref (ad 0)), (1, .int a1), (2, .int a2), (3, .int a3)]) hx hb dX12_number_48 hl (by decide) rfl (fun ls hl => ?_)
    refine lv_iload hx hb dX12_number_50 (lv_at hl 0 rfl) ?_
    refine lv_if_ge (tgt := 58) hx hb dX12_number_52 (by decide) (fun c9 => absurd c9 (by decide)) (fun c9 => ?_)
    refine lv_iload hx hb dX12_number_55 (lv_at hl 1 rfl) ?_
    exact z_iret hx hb hr hK hS (Nat.le_of_ble_eq_true rfl) (Nat.le_of_ble_eq_true rfl) hlocks dX12_number_57 (shM, ad, IM, JM, PM ad) hW ⟨rfl, by unfold fr_num; simp [c1]⟩
set_option maxHeartbeats 4000000 in
set_option maxRecDepth 100000 in
theorem ct_X12_rule (l : Launch) (G : z_G) (ad : Nat → Nat) (a1 : Int32) (a2 : Int32) (a3 : Int32) : z_M l yX12_rule wsX12_rule { frames := 3, cells := 0, slots := 0, locals := 62 } [.ref (ad 0), .int a1, .int a2, .int a3] G (shM, ad, IM, JM, PM ad) (fun r u1 => r = fr_rule a1 a2 a3) 0 0 := by
  intro sz
  refine z_headQ (cc := cX12_rule) (maxL := 4) (ret := (some .int)) (by decide) rfl (Nat.le_of_ble_eq_true rfl) ?_
  intro p e s m below meth c ls hIn hK hsz hW hl
  obtain ⟨hx, hb, hr, hml, hown, hts, hlocks, hname⟩ := hIn
  subst hsz
  have hown : s.vm.findClass RX12 = some m.cls := hown
  have hA : ∀ q : Nat, s.heap.size ≤ q → z_A (shM, ad, IM, JM, PM ad) s.heap.size q := fun q h => Or.inr h
  generalize hAe : z_A (shM, ad, IM, JM, PM ad) s.heap.size = A at *
  have hS : va_S A s.heap s.heap [] := va_S.rf
  have hl : lv_has ls 4 [(0, .ref (ad 0)), (1, .int a1), (2, .int a2), (3, .int a3)] := hl
  refine lv_iload_n hx hb dX12_rule_0 rfl (lv_at hl 1 rfl) ?_
  refine z_ci hW hS hA (va_runS (As := [.int a1]) (rest := []) ⟨hx, hb, hml, hown, hts⟩ (ct_X12_isMonth l G (shM, ad, IM, JM, PM ad) a1 _) (va_cwS 1 hts gX12_rule_X12_isMonth rfl rfl rfl (by decide +kernel) ⟨Nat.le_of_ble_eq_true rfl, Nat.le_of_ble_eq_true rfl⟩) (z_preS hK hW) rfl rfl hl.1 rfl (lv_room (Nat.le_of_ble_eq_true rfl)) dX12_rule_1 ⟨Nat.le_of_ble_eq_true rfl, Nat.le_of_ble_eq_true rfl⟩) (fun r u1 H locs hp hW hS => ?_)
  obtain ⟨e9, hp⟩ := hp
  rw [e9] at hW
  rcases hp with ⟨rfl, h1, h2⟩ | ⟨rfl, h3⟩
  · refine lv_if_eq (tgt := 14) hx hb dX12_rule_4 (by decide) (fun c4 => absurd c4 (by decide)) (fun c4 => ?_)
    refine lv_iload_n hx hb dX12_rule_7 rfl (lv_at hl 2 rfl) ?_
    refine z_ci hW hS hA (va_runS (As := [.int a2]) (rest := []) ⟨hx, hb, hml, hown, hts⟩ (ct_X12_isDay l G (shM, ad, IM, JM, PM ad) a2 _) (va_cwS 1 hts gX12_rule_X12_isDay rfl rfl rfl (by decide +kernel) ⟨Nat.le_of_ble_eq_true rfl, Nat.le_of_ble_eq_true rfl⟩) (z_preS hK hW) rfl rfl hl.1 rfl (lv_room (Nat.le_of_ble_eq_true rfl)) dX12_rule_8 ⟨Nat.le_of_ble_eq_true rfl, Nat.le_of_ble_eq_true rfl⟩) (fun r u1 H locs hp hW hS => ?_)
    obtain ⟨e9, hp⟩ := hp
    rw [e9] at hW
    rcases hp with ⟨rfl, h5, h6⟩ | ⟨rfl, h7⟩
    · refine lv_if_ne (tgt := 18) hx hb dX12_rule_11 (by decide) (fun c8 => ?_) (fun c8 => absurd c8 (by decide))
      refine lv_iload_n hx hb dX12_rule_18 rfl (lv_at hl 3 rfl) ?_
      refine lv_iconst (v := 5) hx hb dX12_rule_19 (by decide) ?_
      refine lv_icmp_ne (tgt := 32) hx hb dX12_rule_20 (by decide) (fun c9 => ?_) (fun c9 => ?_)
      · refine lv_iload_n hx hb dX12_rule_32 rfl (lv_at hl 3 rfl) ?_
        refine lv_iconst (v := 0) hx hb dX12_rule_33 (by decide) ?_
        refine lv_iconst (v := 4) hx hb dX12_rule_34 (by decide) ?_
        refine z_ci hW hS hA (va_runS (As := [.int a3, .int 0, .int 4]) (rest := []) ⟨hx, hb, hml, hown, hts⟩ (ct_X12_within l G (shM, ad, IM, JM, PM ad) a3 0 4 _) (va_cwS 3 hts gX12_rule_X12_within rfl rfl rfl (by decide +kernel) ⟨Nat.le_of_ble_eq_true rfl, Nat.le_of_ble_eq_true rfl⟩) (z_preS hK hW) rfl rfl hl.1 rfl (lv_room (Nat.le_of_ble_eq_true rfl)) dX12_rule_35 ⟨Nat.le_of_ble_eq_true rfl, Nat.le_of_ble_eq_true rfl⟩) (fun r u1 H locs hp hW hS => ?_)
        obtain ⟨e9, hp⟩ := hp
        rw [e9] at hW
        rcases hp with ⟨rfl, h10, h11⟩ | ⟨rfl, h12⟩
        · refine lv_if_eq (tgt := 53) hx hb dX12_rule_38 (by decide) (fun c13 => absurd c13 (by decide)) (fun c13 => ?_)
          rcases z_five h10 h11 with e5 | e5 | e5 | e5 | e5
          · subst e5
            refine lv_aload_n hx hb dX12_rule_41 rfl (lv_at hl 0 rfl) ?_
            refine lv_iload_n hx hb dX12_rule_42 rfl (lv_at hl 1 rfl) ?_
            refine lv_iload_n hx hb dX12_rule_43 rfl (lv_at hl 2 rfl) ?_
            refine lv_iconst (v := 3) hx hb dX12_rule_44 (by decide) ?_
            refine lv_iload_n hx hb dX12_rule_45 rfl (lv_at hl 3 rfl) ?_
            refine lv_iadd hx hb dX12_rule_46 ?_
            refine z_topi (v := 3) (by decide) ?_
            refine z_ci hW hS hA (va_runV (As := [.int a1, .int a2, .int 3]) (rest := []) ⟨hx, hb, hml, hown, hts⟩ (ct_X12_number l G ad a1 a2 3 _) (cwV 3 hts gX12_rule_X12_number rfl rfl rfl (by decide +kernel) ⟨Nat.le_of_ble_eq_true rfl, Nat.le_of_ble_eq_true rfl⟩) (z_preV hK hW rfl rfl) rfl rfl hl.1 rfl (lv_room (Nat.le_of_ble_eq_true rfl)) dX12_rule_47 ⟨Nat.le_of_ble_eq_true rfl, Nat.le_of_ble_eq_true rfl⟩) (fun r u1 H locs hp hW hS => ?_)
            obtain ⟨e9, rfl⟩ := hp
            rw [e9] at hW
            refine z_topi (v := 10) (by decide) ?_
            refine lv_goto (tgt := 54) hx hb dX12_rule_50 (by decide) ?_
            exact z_iret hx hb hr hK hS (Nat.le_of_ble_eq_true rfl) (Nat.le_of_ble_eq_true rfl) hlocks dX12_rule_54 (shM, ad, IM, JM, PM ad) hW (by unfold fr_rule; split <;> first | rfl | decide | (rename_i q; exfalso; simp only [Int32.lt_iff_toInt_lt, Int32.le_iff_toInt_le, ← Int32.toInt_inj, z_l0, z_l1, z_l2, z_l3, z_l4, z_l5, z_l23, z_l719, true_and, and_true] at q h1 h2 h5 h6; omega))
          · subst e5
            refine lv_aload_n hx hb dX12_rule_41 rfl (lv_at hl 0 rfl) ?_
            refine lv_iload_n hx hb dX12_rule_42 rfl (lv_at hl 1 rfl) ?_
            refine lv_iload_n hx hb dX12_rule_43 rfl (lv_at hl 2 rfl) ?_
            refine lv_iconst (v := 3) hx hb dX12_rule_44 (by decide) ?_
            refine lv_iload_n hx hb dX12_rule_45 rfl (lv_at hl 3 rfl) ?_
            refine lv_iadd hx hb dX12_rule_46 ?_
            refine z_topi (v := 4) (by decide) ?_
            refine z_ci hW hS hA (va_runV (As := [.int a1, .int a2, .int 4]) (rest := []) ⟨hx, hb, hml, hown, hts⟩ (ct_X12_number l G ad a1 a2 4 _) (cwV 3 hts gX12_rule_X12_number rfl rfl rfl (by decide +kernel) ⟨Nat.le_of_ble_eq_true rfl, Nat.le_of_ble_eq_true rfl⟩) (z_preV hK hW rfl rfl) rfl rfl hl.1 rfl (lv_room (Nat.le_of_ble_eq_true rfl)) dX12_rule_47 ⟨Nat.le_of_ble_eq_true rfl, Nat.le_of_ble_eq_true rfl⟩) (fun r u1 H locs hp hW hS => ?_)
            obtain ⟨e9, rfl⟩ := hp
            rw [e9] at hW
            refine z_topi (v := 1) (by decide) ?_
            refine lv_goto (tgt := 54) hx hb dX12_rule_50 (by decide) ?_
            exact z_iret hx hb hr hK hS (Nat.le_of_ble_eq_true rfl) (Nat.le_of_ble_eq_true rfl) hlocks dX12_rule_54 (shM, ad, IM, JM, PM ad) hW (by unfold fr_rule; split <;> first | rfl | decide | (rename_i q; exfalso; simp only [Int32.lt_iff_toInt_lt, Int32.le_iff_toInt_le, ← Int32.toInt_inj, z_l0, z_l1, z_l2, z_l3, z_l4, z_l5, z_l23, z_l719, true_and, and_true] at q h1 h2 h5 h6; omega))
          · subst e5
            refine lv_aload_n hx hb dX12_rule_41 rfl (lv_at hl 0 rfl) ?_
            refine lv_iload_n hx hb dX12_rule_42 rfl (lv_at hl 1 rfl) ?_
            refine lv_iload_n hx hb dX12_rule_43 rfl (lv_at hl 2 rfl) ?_
            refine lv_iconst (v := 3) hx hb dX12_rule_44 (by decide) ?_
            refine lv_iload_n hx hb dX12_rule_45 rfl (lv_at hl 3 rfl) ?_
            refine lv_iadd hx hb dX12_rule_46 ?_
            refine z_topi (v := 5) (by decide) ?_
            refine z_ci hW hS hA (va_runV (As := [.int a1, .int a2, .int 5]) (rest := []) ⟨hx, hb, hml, hown, hts⟩ (ct_X12_number l G ad a1 a2 5 _) (cwV 3 hts gX12_rule_X12_number rfl rfl rfl (by decide +kernel) ⟨Nat.le_of_ble_eq_true rfl, Nat.le_of_ble_eq_true rfl⟩) (z_preV hK hW rfl rfl) rfl rfl hl.1 rfl (lv_room (Nat.le_of_ble_eq_true rfl)) dX12_rule_47 ⟨Nat.le_of_ble_eq_true rfl, Nat.le_of_ble_eq_true rfl⟩) (fun r u1 H locs hp hW hS => ?_)
            obtain ⟨e9, rfl⟩ := hp
            rw [e9] at hW
            refine z_topi (v := 5) (by decide) ?_
            refine lv_goto (tgt := 54) hx hb dX12_rule_50 (by decide) ?_
            exact z_iret hx hb hr hK hS (Nat.le_of_ble_eq_true rfl) (Nat.le_of_ble_eq_true rfl) hlocks dX12_rule_54 (shM, ad, IM, JM, PM ad) hW (by unfold fr_rule; split <;> first | rfl | decide | (rename_i q; exfalso; simp only [Int32.lt_iff_toInt_lt, Int32.le_iff_toInt_le, ← Int32.toInt_inj, z_l0, z_l1, z_l2, z_l3, z_l4, z_l5, z_l23, z_l719, true_and, and_true] at q h1 h2 h5 h6; omega))
          · subst e5
            refine lv_aload_n hx hb dX12_rule_41 rfl (lv_at hl 0 rfl) ?_
            refine lv_iload_n hx hb dX12_rule_42 rfl (lv_at hl 1 rfl) ?_
            refine lv_iload_n hx hb dX12_rule_43 rfl (lv_at hl 2 rfl) ?_
            refine lv_iconst (v := 3) hx hb dX12_rule_44 (by decide) ?_
            refine lv_iload_n hx hb dX12_rule_45 rfl (lv_at hl 3 rfl) ?_
            refine lv_iadd hx hb dX12_rule_46 ?_
            refine z_topi (v := 6) (by decide) ?_
            refine z_ci hW hS hA (va_runV (As := [.int a1, .int a2, .int 6]) (rest := []) ⟨hx, hb, hml, hown, hts⟩ (ct_X12_number l G ad a1 a2 6 _) (cwV 3 hts gX12_rule_X12_number rfl rfl rfl (by decide +kernel) ⟨Nat.le_of_ble_eq_true rfl, Nat.le_of_ble_eq_true rfl⟩) (z_preV hK hW rfl rfl) rfl rfl hl.1 rfl (lv_room (Nat.le_of_ble_eq_true rfl)) dX12_rule_47 ⟨Nat.le_of_ble_eq_true rfl, Nat.le_of_ble_eq_true rfl⟩) (fun r u1 H locs hp hW hS => ?_)
            obtain ⟨e9, rfl⟩ := hp
            rw [e9] at hW
            refine z_topi (v := 0) (by decide) ?_
            refine lv_goto (tgt := 54) hx hb dX12_rule_50 (by decide) ?_
            exact z_iret hx hb hr hK hS (Nat.le_of_ble_eq_true rfl) (Nat.le_of_ble_eq_true rfl) hlocks dX12_rule_54 (shM, ad, IM, JM, PM ad) hW (by unfold fr_rule; split <;> first | rfl | decide | (rename_i q; exfalso; simp only [Int32.lt_iff_toInt_lt, Int32.le_iff_toInt_le, ← Int32.toInt_inj, z_l0, z_l1, z_l2, z_l3, z_l4, z_l5, z_l23, z_l719, true_and, and_true] at q h1 h2 h5 h6; omega))
          · subst e5
            refine lv_aload_n hx hb dX12_rule_41 rfl (lv_at hl 0 rfl) ?_
            refine lv_iload_n hx hb dX12_rule_42 rfl (lv_at hl 1 rfl) ?_
            refine lv_iload_n hx hb dX12_rule_43 rfl (lv_at hl 2 rfl) ?_
            refine lv_iconst (v := 3) hx hb dX12_rule_44 (by decide) ?_
            refine lv_iload_n hx hb dX12_rule_45 rfl (lv_at hl 3 rfl) ?_
            refine lv_iadd hx hb dX12_rule_46 ?_
            refine z_topi (v := 7) (by decide) ?_
            refine z_ci hW hS hA (va_runV (As := [.int a1, .int a2, .int 7]) (rest := []) ⟨hx, hb, hml, hown, hts⟩ (ct_X12_number l G ad a1 a2 7 _) (cwV 3 hts gX12_rule_X12_number rfl rfl rfl (by decide +kernel) ⟨Nat.le_of_ble_eq_true rfl, Nat.le_of_ble_eq_true rfl⟩) (z_preV hK hW rfl rfl) rfl rfl hl.1 rfl (lv_room (Nat.le_of_ble_eq_true rfl)) dX12_rule_47 ⟨Nat.le_of_ble_eq_true rfl, Nat.le_of_ble_eq_true rfl⟩) (fun r u1 H locs hp hW hS => ?_)
            obtain ⟨e9, rfl⟩ := hp
            rw [e9] at hW
            refine z_topi (v := 20) (by decide) ?_
            refine lv_goto (tgt := 54) hx hb dX12_rule_50 (by decide) ?_
            exact z_iret hx hb hr hK hS (Nat.le_of_ble_eq_true rfl) (Nat.le_of_ble_eq_true rfl) hlocks dX12_rule_54 (shM, ad, IM, JM, PM ad) hW (by unfold fr_rule; split <;> first | rfl | decide | (rename_i q; exfalso; simp only [Int32.lt_iff_toInt_lt, Int32.le_iff_toInt_le, ← Int32.toInt_inj, z_l0, z_l1, z_l2, z_l3, z_l4, z_l5, z_l23, z_l719, true_and, and_true] at q h1 h2 h5 h6; omega))
        · refine lv_if_eq (tgt := 53) hx hb dX12_rule_38 (by decide) (fun c14 => ?_) (fun c14 => absurd (by decide) c14)
          refine lv_iconst (v := (-1)) hx hb dX12_rule_53 (by decide) ?_
          exact z_iret hx hb hr hK hS (Nat.le_of_ble_eq_true rfl) (Nat.le_of_ble_eq_true rfl) hlocks dX12_rule_54 (shM, ad, IM, JM, PM ad) hW (by unfold fr_rule; split <;> first | rfl | decide | (rename_i q; exfalso; simp only [Int32.lt_iff_toInt_lt, Int32.le_iff_toInt_le, ← Int32.toInt_inj, z_l0, z_l1, z_l2, z_l3, z_l4, z_l5, z_l23, z_l719, true_and, and_true] at q h1 h2 h5 h6 c9 h12; omega))
      · refine lv_aload_n hx hb dX12_rule_23 rfl (lv_at hl 0 rfl) ?_
        refine lv_iload_n hx hb dX12_rule_24 rfl (lv_at hl 1 rfl) ?_
        refine lv_iload_n hx hb dX12_rule_25 rfl (lv_at hl 2 rfl) ?_
        refine z_ci hW hS hA (va_runV (As := [.int a1, .int a2]) (rest := []) ⟨hx, hb, hml, hown, hts⟩ (ct_X12_inForce l G ad a1 a2 _) (cwV 2 hts gX12_rule_X12_inForce rfl rfl rfl (by decide +kernel) ⟨Nat.le_of_ble_eq_true rfl, Nat.le_of_ble_eq_true rfl⟩) (z_preV hK hW rfl rfl) rfl rfl hl.1 rfl (lv_room (Nat.le_of_ble_eq_true rfl)) dX12_rule_26 ⟨Nat.le_of_ble_eq_true rfl, Nat.le_of_ble_eq_true rfl⟩) (fun r u1 H locs hp hW hS => ?_)
        obtain ⟨e9, rfl⟩ := hp
        rw [e9] at hW
        refine lv_goto (tgt := 54) hx hb dX12_rule_29 (by decide) ?_
        exact z_iret hx hb hr hK hS (Nat.le_of_ble_eq_true rfl) (Nat.le_of_ble_eq_true rfl) hlocks dX12_rule_54 (shM, ad, IM, JM, PM ad) hW (by unfold fr_rule; split <;> first | rfl | decide | (rename_i q; exfalso; simp only [Int32.lt_iff_toInt_lt, Int32.le_iff_toInt_le, ← Int32.toInt_inj, z_l0, z_l1, z_l2, z_l3, z_l4, z_l5, z_l23, z_l719, true_and, and_true] at q h1 h2 h5 h6 c9; omega))
    · refine lv_if_ne (tgt := 18) hx hb dX12_rule_11 (by decide) (fun c15 => absurd (by decide) c15) (fun c15 => ?_)
      refine lv_iconst (v := (-1)) hx hb dX12_rule_14 (by decide) ?_
      refine lv_goto (tgt := 54) hx hb dX12_rule_15 (by decide) ?_
      exact z_iret hx hb hr hK hS (Nat.le_of_ble_eq_true rfl) (Nat.le_of_ble_eq_true rfl) hlocks dX12_rule_54 (shM, ad, IM, JM, PM ad) hW (by unfold fr_rule; split <;> first | rfl | decide | (rename_i q; exfalso; simp only [Int32.lt_iff_toInt_lt, Int32.le_iff_toInt_le, ← Int32.toInt_inj, z_l0, z_l1, z_l2, z_l3, z_l4, z_l5, z_l23, z_l719, true_and, and_true] at q h1 h2 h7; omega))
  · refine lv_if_eq (tgt := 14) hx hb dX12_rule_4 (by decide) (fun c16 => ?_) (fun c16 => absurd (by decide) c16)
    refine lv_iconst (v := (-1)) hx hb dX12_rule_14 (by decide) ?_
    refine lv_goto (tgt := 54) hx hb dX12_rule_15 (by decide) ?_
    exact z_iret hx hb hr hK hS (Nat.le_of_ble_eq_true rfl) (Nat.le_of_ble_eq_true rfl) hlocks dX12_rule_54 (shM, ad, IM, JM, PM ad) hW (by unfold fr_rule; split <;> first | rfl | decide | (rename_i q; exfalso; simp only [Int32.lt_iff_toInt_lt, Int32.le_iff_toInt_le, ← Int32.toInt_inj, z_l0, z_l1, z_l2, z_l3, z_l4, z_l5, z_l23, z_l719, true_and, and_true] at q h3; omega))
theorem zi_X12_deals_X12 : ∀ w ∈ wsX120, w ∈ wsX12_deals := fun w h => (List.mem_cons_of_mem _ (List.mem_append_right _ h))
set_option maxHeartbeats 4000000 in
set_option maxRecDepth 100000 in
theorem ct_X12_deals (l : Launch) (G : z_G) (ad : Nat → Nat) (a1 : Int32) (a2 : Int32) : z_Mv l yX12_deals wsX12_deals { frames := 1, cells := 0, slots := 0, locals := 12 } [.ref (ad 0), .int a1, .int a2] G (shM, ad, IM, JM, PM ad) (fun u1 => u1 = (shM, ad, IM, JM, PM ad)) 0 0 := by
  intro sz
  refine z_headQ (cc := cX12_deals) (maxL := 7) (ret := none) (by decide) rfl (Nat.le_of_ble_eq_true rfl) ?_
  intro p e s m below meth c ls hIn hK hsz hW hl
  obtain ⟨hx, hb, hr, hml, hown, hts, hlocks, hname⟩ := hIn
  subst hsz
  have hown : s.vm.findClass RX12 = some m.cls := hown
  have hA : ∀ q : Nat, s.heap.size ≤ q → z_A (shM, ad, IM, JM, PM ad) s.heap.size q := fun q h => Or.inr h
  generalize hAe : z_A (shM, ad, IM, JM, PM ad) s.heap.size = A at *
  have hS : va_S A s.heap s.heap [] := va_S.rf
  have hl : lv_has ls 7 [(0, .ref (ad 0)), (1, .int a1), (2, .int a2)] := hl
  refine lv_iconst (v := 0) hx hb dX12_deals_0 (by decide) ?_
  refine lv_istore_n (lv' := [(3, .int 0), (0, .ref (ad 0)), (1, .int a1), (2, .int a2)]) hx hb dX12_deals_1 rfl hl (by decide) rfl (fun ls hl => ?_)
  refine lv_iconst (v := 0) hx hb dX12_deals_2 (by decide) ?_
  refine lv_istore (lv' := [(4, .int 0), (3, .int 0), (0, .ref (ad 0)), (1, .int a1), (2, .int a2)]) hx hb dX12_deals_3 hl (by decide) rfl (fun ls hl => ?_)
  refine lv_iload hx hb dX12_deals_5 (lv_at hl 0 rfl) ?_
  refine lv_aload_n hx hb dX12_deals_7 rfl (lv_at hl 2 rfl) ?_
  refine z_get (T := TX12) (N := 96) (ci := 12) (i := 0) (v := .int 0) hx hb hts zi_X12_deals_X12 hown hK hW rfl rfl 1 (by decide) (hts (.fieldLink RX12 229 "PetrolBoardModel" "holders" "I") (List.mem_of_getElem? (i := 1) rfl)) (fun _ h => h) rfl dX12_deals_8 ?_
  refine lv_icmp_ge (tgt := 56) hx hb dX12_deals_11 (by decide) (fun c1 => ?_) (fun c1 => absurd (by decide) c1)
  refine lv_iload_n hx hb dX12_deals_56 rfl (lv_at hl 3 rfl) ?_
  refine lv_if_ne (tgt := 61) hx hb dX12_deals_57 (by decide) (fun c2 => ?_) (fun c2 => ?_)
  · refine lv_iconst (v := 0) hx hb dX12_deals_61 (by decide) ?_
    refine lv_istore (lv' := [(4, .int 0), (3, .int 0), (0, .ref (ad 0)), (1, .int a1), (2, .int a2)]) hx hb dX12_deals_62 hl (by decide) rfl (fun ls hl => ?_)
    refine lv_iload hx hb dX12_deals_64 (lv_at hl 0 rfl) ?_
    refine lv_aload_n hx hb dX12_deals_66 rfl (lv_at hl 2 rfl) ?_
    refine z_get (T := TX12) (N := 96) (ci := 12) (i := 0) (v := .int 0) hx hb hts zi_X12_deals_X12 hown hK hW rfl rfl 1 (by decide) (hts (.fieldLink RX12 229 "PetrolBoardModel" "holders" "I") (List.mem_of_getElem? (i := 1) rfl)) (fun _ h => h) rfl dX12_deals_67 ?_
    refine lv_icmp_ge (tgt := 197) hx hb dX12_deals_70 (by decide) (fun c3 => ?_) (fun c3 => absurd (by decide) c3)
    exact z_vret hx hb hr hK hS (Nat.le_of_ble_eq_true rfl) (Nat.le_of_ble_eq_true rfl) hlocks dX12_deals_197 (shM, ad, IM, JM, PM ad) hW rfl
  · exact z_vret hx hb hr hK hS (Nat.le_of_ble_eq_true rfl) (Nat.le_of_ble_eq_true rfl) hlocks dX12_deals_60 (shM, ad, IM, JM, PM ad) hW rfl
theorem zi_X12_stays_X12 : ∀ w ∈ wsX120, w ∈ wsX12_stays := fun w h => (List.mem_cons_of_mem _ (List.mem_append_right _ h))
set_option maxHeartbeats 4000000 in
set_option maxRecDepth 100000 in
theorem ct_X12_stays (l : Launch) (G : z_G) (ad : Nat → Nat) (a1 : Int32) (a2 : Int32) : z_M l yX12_stays wsX12_stays { frames := 2, cells := 0, slots := 0, locals := 38 } [.ref (ad 0), .int a1, .int a2] G (shM, ad, IM, JM, PM ad) (fun r u1 => r = fr_stays a1 a2) 0 0 := by
  intro sz
  refine z_headQ (cc := cX12_stays) (maxL := 5) (ret := (some .int)) (by decide) rfl (Nat.le_of_ble_eq_true rfl) ?_
  intro p e s m below meth c ls hIn hK hsz hW hl
  obtain ⟨hx, hb, hr, hml, hown, hts, hlocks, hname⟩ := hIn
  subst hsz
  have hown : s.vm.findClass RX12 = some m.cls := hown
  have hA : ∀ q : Nat, s.heap.size ≤ q → z_A (shM, ad, IM, JM, PM ad) s.heap.size q := fun q h => Or.inr h
  generalize hAe : z_A (shM, ad, IM, JM, PM ad) s.heap.size = A at *
  have hS : va_S A s.heap s.heap [] := va_S.rf
  have hl : lv_has ls 5 [(0, .ref (ad 0)), (1, .int a1), (2, .int a2)] := hl
  refine lv_iload_n hx hb dX12_stays_0 rfl (lv_at hl 1 rfl) ?_
  refine lv_iconst (v := 0) hx hb dX12_stays_1 (by decide) ?_
  refine lv_iconst (v := 2) hx hb dX12_stays_2 (by decide) ?_
  refine z_ci hW hS hA (va_runS (As := [.int a1, .int 0, .int 2]) (rest := []) ⟨hx, hb, hml, hown, hts⟩ (ct_X12_within l G (shM, ad, IM, JM, PM ad) a1 0 2 _) (va_cwS 3 hts gX12_stays_X12_within rfl rfl rfl (by decide +kernel) ⟨Nat.le_of_ble_eq_true rfl, Nat.le_of_ble_eq_true rfl⟩) (z_preS hK hW) rfl rfl hl.1 rfl (lv_room (Nat.le_of_ble_eq_true rfl)) dX12_stays_3 ⟨Nat.le_of_ble_eq_true rfl, Nat.le_of_ble_eq_true rfl⟩) (fun r u1 H locs hp hW hS => ?_)
  obtain ⟨e9, hp⟩ := hp
  rw [e9] at hW
  rcases hp with ⟨rfl, h1, h2⟩ | ⟨rfl, h3⟩
  · refine lv_if_eq (tgt := 16) hx hb dX12_stays_6 (by decide) (fun c4 => absurd c4 (by decide)) (fun c4 => ?_)
    refine lv_iload_n hx hb dX12_stays_9 rfl (lv_at hl 2 rfl) ?_
    refine z_ci hW hS hA (va_runS (As := [.int a2]) (rest := []) ⟨hx, hb, hml, hown, hts⟩ (ct_X12_isMonth l G (shM, ad, IM, JM, PM ad) a2 _) (va_cwS 1 hts gX12_stays_X12_isMonth rfl rfl rfl (by decide +kernel) ⟨Nat.le_of_ble_eq_true rfl, Nat.le_of_ble_eq_true rfl⟩) (z_preS hK hW) rfl rfl hl.1 rfl (lv_room (Nat.le_of_ble_eq_true rfl)) dX12_stays_10 ⟨Nat.le_of_ble_eq_true rfl, Nat.le_of_ble_eq_true rfl⟩) (fun r u1 H locs hp hW hS => ?_)
    obtain ⟨e9, hp⟩ := hp
    rw [e9] at hW
    rcases hp with ⟨rfl, h5, h6⟩ | ⟨rfl, h7⟩
    · refine lv_if_ne (tgt := 18) hx hb dX12_stays_13 (by decide) (fun c8 => ?_) (fun c8 => absurd c8 (by decide))
      refine lv_aload_n hx hb dX12_stays_18 rfl (lv_at hl 0 rfl) ?_
      refine lv_iload_n hx hb dX12_stays_19 rfl (lv_at hl 1 rfl) ?_
      refine lv_iload_n hx hb dX12_stays_20 rfl (lv_at hl 2 rfl) ?_
      refine z_cv hW hS hA (va_runV (As := [.int a1, .int a2]) (rest := []) ⟨hx, hb, hml, hown, hts⟩ (ct_X12_deals l G ad a1 a2 _) (cwV 2 hts gX12_stays_X12_deals rfl rfl rfl (by decide +kernel) ⟨Nat.le_of_ble_eq_true rfl, Nat.le_of_ble_eq_true rfl⟩) (z_preV hK hW rfl rfl) rfl rfl hl.1 rfl (lv_room (Nat.le_of_ble_eq_true rfl)) dX12_stays_21 ⟨Nat.le_of_ble_eq_true rfl, Nat.le_of_ble_eq_true rfl⟩) (fun u1 H locs hp hW hS => ?_)
      rw [hp] at hW
      refine lv_iconst (v := 0) hx hb dX12_stays_24 (by decide) ?_
      refine lv_istore_n (lv' := [(3, .int 0), (0, .ref (ad 0)), (1, .int a1), (2, .int a2)]) hx hb dX12_stays_25 rfl hl (by decide) rfl (fun ls hl => ?_)
      refine lv_iconst (v := 0) hx hb dX12_stays_26 (by decide) ?_
      refine lv_istore (lv' := [(4, .int 0), (3, .int 0), (0, .ref (ad 0)), (1, .int a1), (2, .int a2)]) hx hb dX12_stays_27 hl (by decide) rfl (fun ls hl => ?_)
      refine lv_iload hx hb dX12_stays_29 (lv_at hl 0 rfl) ?_
      refine lv_aload_n hx hb dX12_stays_31 rfl (lv_at hl 2 rfl) ?_
      refine z_get (T := TX12) (N := 96) (ci := 12) (i := 0) (v := .int 0) hx hb hts zi_X12_stays_X12 hown hK hW rfl rfl 1 (by decide) (hts (.fieldLink RX12 229 "PetrolBoardModel" "holders" "I") (List.mem_of_getElem? (i := 1) rfl)) (fun _ h => h) rfl dX12_stays_32 ?_
      refine lv_icmp_ge (tgt := 64) hx hb dX12_stays_35 (by decide) (fun c9 => ?_) (fun c9 => absurd (by decide) c9)
      refine lv_iload_n hx hb dX12_stays_64 rfl (lv_at hl 1 rfl) ?_
      exact z_iret hx hb hr hK hS (Nat.le_of_ble_eq_true rfl) (Nat.le_of_ble_eq_true rfl) hlocks dX12_stays_65 (shM, ad, IM, JM, PM ad) hW (by unfold fr_stays; split <;> first | rfl | decide | (rename_i q; exfalso; simp only [Int32.lt_iff_toInt_lt, Int32.le_iff_toInt_le, ← Int32.toInt_inj, z_l0, z_l1, z_l2, z_l23, true_and, and_true] at q h1 h2 h5 h6; omega))
    · refine lv_if_ne (tgt := 18) hx hb dX12_stays_13 (by decide) (fun c10 => absurd (by decide) c10) (fun c10 => ?_)
      refine lv_iconst (v := (-1)) hx hb dX12_stays_16 (by decide) ?_
      exact z_iret hx hb hr hK hS (Nat.le_of_ble_eq_true rfl) (Nat.le_of_ble_eq_true rfl) hlocks dX12_stays_17 (shM, ad, IM, JM, PM ad) hW (by unfold fr_stays; split <;> first | rfl | decide | (rename_i q; exfalso; simp only [Int32.lt_iff_toInt_lt, Int32.le_iff_toInt_le, ← Int32.toInt_inj, z_l0, z_l1, z_l2, z_l23, true_and, and_true] at q h1 h2 h7; omega))
  · refine lv_if_eq (tgt := 16) hx hb dX12_stays_6 (by decide) (fun c11 => ?_) (fun c11 => absurd (by decide) c11)
    refine lv_iconst (v := (-1)) hx hb dX12_stays_16 (by decide) ?_
    exact z_iret hx hb hr hK hS (Nat.le_of_ble_eq_true rfl) (Nat.le_of_ble_eq_true rfl) hlocks dX12_stays_17 (shM, ad, IM, JM, PM ad) hW (by unfold fr_stays; split <;> first | rfl | decide | (rename_i q; exfalso; simp only [Int32.lt_iff_toInt_lt, Int32.le_iff_toInt_le, ← Int32.toInt_inj, z_l0, z_l1, z_l2, z_l23, true_and, and_true] at q h3; omega))
theorem zi_X12_pool_X12 : ∀ w ∈ wsX120, w ∈ wsX12_pool := fun w h => (List.mem_cons_of_mem _ (List.mem_append_right _ h))
set_option maxHeartbeats 4000000 in
set_option maxRecDepth 100000 in
theorem ct_X12_pool (l : Launch) (G : z_G) (ad : Nat → Nat) (a1 : Int32) (a2 : Int32) (a3 : Int32) : z_M l yX12_pool wsX12_pool { frames := 2, cells := 0, slots := 0, locals := 34 } [.ref (ad 0), .int a1, .int a2, .int a3] G (shM, ad, IM, JM, PM ad) (fun r u1 => r = -1) 0 0 := by
  intro sz
  refine z_headQ (cc := cX12_pool) (maxL := 12) (ret := (some .int)) (by decide) rfl (Nat.le_of_ble_eq_true rfl) ?_
  intro p e s m below meth c ls hIn hK hsz hW hl
  obtain ⟨hx, hb, hr, hml, hown, hts, hlocks, hname⟩ := hIn
  subst hsz
  have hown : s.vm.findClass RX12 = some m.cls := hown
  have hA : ∀ q : Nat, s.heap.size ≤ q → z_A (shM, ad, IM, JM, PM ad) s.heap.size q := fun q h => Or.inr h
  generalize hAe : z_A (shM, ad, IM, JM, PM ad) s.heap.size = A at *
  have hS : va_S A s.heap s.heap [] := va_S.rf
  have hl : lv_has ls 12 [(0, .ref (ad 0)), (1, .int a1), (2, .int a2), (3, .int a3)] := hl
  refine lv_iload_n hx hb dX12_pool_0 rfl (lv_at hl 3 rfl) ?_
  refine lv_iconst (v := 0) hx hb dX12_pool_1 (by decide) ?_
  refine lv_iconst (v := 3) hx hb dX12_pool_2 (by decide) ?_
  refine z_ci hW hS hA (va_runS (As := [.int a3, .int 0, .int 3]) (rest := []) ⟨hx, hb, hml, hown, hts⟩ (ct_X12_within l G (shM, ad, IM, JM, PM ad) a3 0 3 _) (va_cwS 3 hts gX12_pool_X12_within rfl rfl rfl (by decide +kernel) ⟨Nat.le_of_ble_eq_true rfl, Nat.le_of_ble_eq_true rfl⟩) (z_preS hK hW) rfl rfl hl.1 rfl (lv_room (Nat.le_of_ble_eq_true rfl)) dX12_pool_3 ⟨Nat.le_of_ble_eq_true rfl, Nat.le_of_ble_eq_true rfl⟩) (fun r u1 H locs hp hW hS => ?_)
  obtain ⟨e9, hp⟩ := hp
  rw [e9] at hW
  rcases hp with ⟨rfl, h1, h2⟩ | ⟨rfl, h3⟩
  · refine lv_if_ne (tgt := 11) hx hb dX12_pool_6 (by decide) (fun c4 => ?_) (fun c4 => absurd c4 (by decide))
    refine lv_iconst (v := 0) hx hb dX12_pool_11 (by decide) ?_
    refine lv_istore (lv' := [(4, .int 0), (0, .ref (ad 0)), (1, .int a1), (2, .int a2), (3, .int a3)]) hx hb dX12_pool_12 hl (by decide) rfl (fun ls hl => ?_)
    refine lv_iconst (v := 0) hx hb dX12_pool_14 (by decide) ?_
    refine lv_istore (lv' := [(5, .int 0), (4, .int 0), (0, .ref (ad 0)), (1, .int a1), (2, .int a2), (3, .int a3)]) hx hb dX12_pool_15 hl (by decide) rfl (fun ls hl => ?_)
    refine lv_iconst (v := 0) hx hb dX12_pool_17 (by decide) ?_
    refine lv_istore (lv' := [(6, .int 0), (5, .int 0), (4, .int 0), (0, .ref (ad 0)), (1, .int a1), (2, .int a2), (3, .int a3)]) hx hb dX12_pool_18 hl (by decide) rfl (fun ls hl => ?_)
    refine lv_iload hx hb dX12_pool_20 (lv_at hl 0 rfl) ?_
    refine lv_aload_n hx hb dX12_pool_22 rfl (lv_at hl 3 rfl) ?_
    refine z_get (T := TX12) (N := 96) (ci := 12) (i := 0) (v := .int 0) hx hb hts zi_X12_pool_X12 hown hK hW rfl rfl 83 (by decide) (hts (.fieldLink RX12 505 "PetrolBoardModel" "journeys" "I") (List.mem_of_getElem? (i := 1) rfl)) (fun _ h => h) rfl dX12_pool_23 ?_
    refine lv_icmp_ge (tgt := 91) hx hb dX12_pool_26 (by decide) (fun c5 => ?_) (fun c5 => absurd (by decide) c5)
    refine lv_iload hx hb dX12_pool_91 (lv_at hl 2 rfl) ?_
    refine lv_if_ne (tgt := 98) hx hb dX12_pool_93 (by decide) (fun c6 => absurd (by decide) c6) (fun c6 => ?_)
    refine lv_iconst (v := (-1)) hx hb dX12_pool_96 (by decide) ?_
    exact z_iret hx hb hr hK hS (Nat.le_of_ble_eq_true rfl) (Nat.le_of_ble_eq_true rfl) hlocks dX12_pool_97 (shM, ad, IM, JM, PM ad) hW rfl
  · refine lv_if_ne (tgt := 11) hx hb dX12_pool_6 (by decide) (fun c7 => absurd (by decide) c7) (fun c7 => ?_)
    refine lv_iconst (v := (-1)) hx hb dX12_pool_9 (by decide) ?_
    exact z_iret hx hb hr hK hS (Nat.le_of_ble_eq_true rfl) (Nat.le_of_ble_eq_true rfl) hlocks dX12_pool_10 (shM, ad, IM, JM, PM ad) hW rfl
theorem zi_X12_station_X12 : ∀ w ∈ wsX120, w ∈ wsX12_station := fun w h => (List.mem_cons_of_mem _ (List.mem_append_right _ h))
set_option maxHeartbeats 4000000 in
set_option maxRecDepth 100000 in
theorem ct_X12_station (l : Launch) (G : z_G) (ad : Nat → Nat) : z_M l yX12_station wsX12_station { frames := 1, cells := 0, slots := 0, locals := 12 } [.ref (ad 0)] G (shM, ad, IM, JM, PM ad) (fun r u1 => r = 0) 0 0 := by
  intro sz
  refine z_headQ (cc := cX12_station) (maxL := 1) (ret := (some .int)) (by decide) rfl (Nat.le_of_ble_eq_true rfl) ?_
  intro p e s m below meth c ls hIn hK hsz hW hl
  obtain ⟨hx, hb, hr, hml, hown, hts, hlocks, hname⟩ := hIn
  subst hsz
  have hown : s.vm.findClass RX12 = some m.cls := hown
  have hA : ∀ q : Nat, s.heap.size ≤ q → z_A (shM, ad, IM, JM, PM ad) s.heap.size q := fun q h => Or.inr h
  generalize hAe : z_A (shM, ad, IM, JM, PM ad) s.heap.size = A at *
  have hS : va_S A s.heap s.heap [] := va_S.rf
  have hl : lv_has ls 1 [(0, .ref (ad 0))] := hl
  refine lv_aload_n hx hb dX12_station_0 rfl (lv_at hl 0 rfl) ?_
  refine z_get (T := TX12) (N := 96) (ci := 12) (i := 0) (v := .int 0) hx hb hts zi_X12_station_X12 hown hK hW rfl rfl 54 (by decide) (hts (.fieldLink RX12 461 "PetrolBoardModel" "stations" "I") (List.mem_of_getElem? (i := 1) rfl)) (fun _ h => h) rfl dX12_station_1 ?_
  refine lv_bipush (v := 10) hx hb dX12_station_4 (by decide) ?_
  refine lv_icmp_ne (tgt := 11) hx hb dX12_station_6 (by decide) (fun c1 => ?_) (fun c1 => absurd c1 (by decide))
  refine lv_aload_n hx hb dX12_station_11 rfl (lv_at hl 0 rfl) ?_
  refine lv_dup hx hb dX12_station_12 rfl ?_
  refine z_get (T := TX12) (N := 96) (ci := 12) (i := 0) (v := .int 0) hx hb hts zi_X12_station_X12 hown hK hW rfl rfl 54 (by decide) (hts (.fieldLink RX12 461 "PetrolBoardModel" "stations" "I") (List.mem_of_getElem? (i := 1) rfl)) (fun _ h => h) rfl dX12_station_13 ?_
  refine lv_iconst (v := 1) hx hb dX12_station_16 (by decide) ?_
  refine lv_iadd hx hb dX12_station_17 ?_
  refine z_topi (v := 1) (by decide) ?_
  refine z_put (T := TX12) (N := 96) (ci := 12) (i := 0) (v := .int 1) (I1 := (z_up IM 0 54 1)) (J1 := JM) (P1 := PM ad) hx hb hts zi_X12_station_X12 tyX12 tyX12_ok nmX12 hown hK hW hS rfl rfl 54 (by decide) (hts (.fieldLink RX12 461 "PetrolBoardModel" "stations" "I") (List.mem_of_getElem? (i := 1) rfl)) (fun _ h => h) rfl rfl rfl (by first | rfl | exact congrArg _ z_up_s) (fun a b h ty => z_vI h ty) dX12_station_18 (fun H locs hz1 hW hS => ?_)
  refine lv_aload_n hx hb dX12_station_21 rfl (lv_at hl 0 rfl) ?_
  refine z_get (T := TX12) (N := 96) (ci := 12) (i := 0) (v := .int 1) hx hb hts zi_X12_station_X12 hown hK hW rfl rfl 54 (by decide) (hts (.fieldLink RX12 461 "PetrolBoardModel" "stations" "I") (List.mem_of_getElem? (i := 1) rfl)) (fun _ h => h) rfl dX12_station_22 ?_
  refine lv_iconst (v := 1) hx hb dX12_station_25 (by decide) ?_
  refine lv_isub hx hb dX12_station_26 ?_
  refine z_topi (v := 0) (by decide) ?_
  exact z_iret hx hb hr hK hS (Nat.le_of_ble_eq_true rfl) (Nat.le_of_ble_eq_true rfl) hlocks dX12_station_27 (shM, ad, (z_up IM 0 54 1), JM, PM ad) hW rfl
