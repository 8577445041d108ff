set_option maxRecDepth 20000 in
theorem ggX9_setKind_X9_counter : GoodIn wsX9_setKind wsX9_counter := goodIn_r _ [73, 1, 74, 75, 108, 109, 110, 111, 112, 113, 114, 115, 116, 117] (by decide +kernel) (by decide +kernel)
set_option maxRecDepth 20000 in
theorem gX9_setKind_X9_counter : GoodIn wsX9_setKind (wsV RX9 33 RX9 yX9_counter wsX9_counter) := goodIn_app (goodIn_of _ (by decide +kernel)) ggX9_setKind_X9_counter
set_option maxRecDepth 20000 in
theorem ggX9_setKind_X0_changeKind : GoodIn wsX9_setKind wsX0_changeKind := goodIn_r _ [79, 80, 81, 82, 83, 84, 85, 20, 86, 22, 87, 72, 88, 127, 128, 118, 119, 120, 121, 122, 123, 124, 125, 126] (by decide +kernel) (by decide +kernel)
set_option maxRecDepth 20000 in
theorem gX9_setKind_X0_changeKind : GoodIn wsX9_setKind (wsV RX9 37 RX0 yX0_changeKind wsX0_changeKind) := goodIn_app (goodIn_of _ (by decide +kernel)) ggX9_setKind_X0_changeKind
set_option maxRecDepth 20000 in
theorem ggX9_setKind_X3_settle : GoodIn wsX9_setKind wsX3_settle := goodIn_r _ [92, 93, 72, 94, 95, 96, 97, 98, 99, 100, 5, 101, 102, 103, 7, 104, 105, 106, 107, 87, 88, 111, 112, 113, 114] (by decide +kernel) (by decide +kernel)
set_option maxRecDepth 20000 in
theorem gX9_setKind_X3_settle : GoodIn wsX9_setKind (wsV RX9 43 RX3 yX3_settle wsX3_settle) := goodIn_app (goodIn_of _ (by decide +kernel)) ggX9_setKind_X3_settle
theorem dX9_setKind_0 : decode cX9_setKind 0 = .ok (.aload_n 0, 1) := by decide +kernel
theorem dX9_setKind_1 : decode cX9_setKind 1 = .ok (.getfield 10, 3) := by decide +kernel
theorem dX9_setKind_4 : decode cX9_setKind 4 = .ok (.invokevirtual 30, 3) := by decide +kernel
theorem dX9_setKind_7 : decode cX9_setKind 7 = .ok (.aload_n 0, 1) := by decide +kernel
theorem dX9_setKind_8 : decode cX9_setKind 8 = .ok (.getfield 10, 3) := by decide +kernel
theorem dX9_setKind_11 : decode cX9_setKind 11 = .ok (.aload_n 0, 1) := by decide +kernel
theorem dX9_setKind_12 : decode cX9_setKind 12 = .ok (.invokevirtual 33, 3) := by decide +kernel
theorem dX9_setKind_15 : decode cX9_setKind 15 = .ok (.iload_n 1, 1) := by decide +kernel
theorem dX9_setKind_16 : decode cX9_setKind 16 = .ok (.iload_n 2, 1) := by decide +kernel
theorem dX9_setKind_17 : decode cX9_setKind 17 = .ok (.iload_n 3, 1) := by decide +kernel
theorem dX9_setKind_18 : decode cX9_setKind 18 = .ok (.invokevirtual 37, 3) := by decide +kernel
theorem dX9_setKind_21 : decode cX9_setKind 21 = .ok (.invokevirtual 43, 3) := by decide +kernel
theorem dX9_setKind_24 : decode cX9_setKind 24 = .ok (.ireturn, 1) := by decide +kernel
set_option maxRecDepth 20000 in
theorem ggX9_setScale_X3_prepare : GoodIn wsX9_setScale wsX3_prepare := goodIn_r _ [6, 7, 8, 9, 10, 11, 12, 13, 14, 15, 16, 17, 18, 19, 20, 21, 22, 23, 24, 25, 26, 27, 28, 29, 30, 31, 32, 33, 34, 35, 36, 37, 38, 39, 40, 41, 42, 43, 44, 45, 46, 47, 48, 49, 50, 51, 52, 53, 54, 55, 56, 57, 58, 59, 60, 61, 62, 63, 64, 65, 66, 67, 68, 115, 116, 117, 118, 119, 120, 121, 122, 123, 124, 125, 126, 127, 128, 129, 130, 131, 132, 133, 134, 135, 136, 137, 138, 139, 140, 141, 142, 143, 144, 145, 146, 147, 148] (by decide +kernel) (by decide +kernel)
set_option maxRecDepth 20000 in
theorem gX9_setScale_X3_prepare : GoodIn wsX9_setScale (wsV RX9 30 RX3 yX3_prepare wsX3_prepare) := goodIn_app (goodIn_of _ (by decide +kernel)) ggX9_setScale_X3_prepare
set_option maxRecDepth 20000 in
theorem ggX9_setScale_X9_counter : GoodIn wsX9_setScale wsX9_counter := goodIn_r _ [73, 1, 74, 75, 112, 113, 114, 115, 116, 117, 118, 119, 120, 121] (by decide +kernel) (by decide +kernel)
set_option maxRecDepth 20000 in
theorem gX9_setScale_X9_counter : GoodIn wsX9_setScale (wsV RX9 33 RX9 yX9_counter wsX9_counter) := goodIn_app (goodIn_of _ (by decide +kernel)) ggX9_setScale_X9_counter
set_option maxRecDepth 20000 in
theorem ggX9_setScale_X0_changeScale : GoodIn wsX9_setScale wsX0_changeScale := goodIn_r _ [79, 80, 25, 81, 82, 83, 84, 85, 86, 87, 88, 89, 90, 91, 72, 92, 122, 123, 124, 125, 126, 127, 128, 129, 130, 146, 147, 148] (by decide +kernel) (by decide +kernel)
set_option maxRecDepth 20000 in
theorem gX9_setScale_X0_changeScale : GoodIn wsX9_setScale (wsV RX9 47 RX0 yX0_changeScale wsX0_changeScale) := goodIn_app (goodIn_of _ (by decide +kernel)) ggX9_setScale_X0_changeScale
set_option maxRecDepth 20000 in
theorem ggX9_setScale_X3_settle : GoodIn wsX9_setScale wsX3_settle := goodIn_r _ [96, 97, 72, 98, 99, 100, 101, 102, 103, 104, 5, 105, 106, 107, 7, 108, 109, 110, 111, 91, 92, 115, 116, 117, 118] (by decide +kernel) (by decide +kernel)
set_option maxRecDepth 20000 in
theorem gX9_setScale_X3_settle : GoodIn wsX9_setScale (wsV RX9 43 RX3 yX3_settle wsX3_settle) := goodIn_app (goodIn_of _ (by decide +kernel)) ggX9_setScale_X3_settle
theorem dX9_setScale_0 : decode cX9_setScale 0 = .ok (.aload_n 0, 1) := by decide +kernel
theorem dX9_setScale_1 : decode cX9_setScale 1 = .ok (.getfield 10, 3) := by decide +kernel
theorem dX9_setScale_4 : decode cX9_setScale 4 = .ok (.invokevirtual 30, 3) := by decide +kernel
theorem dX9_setScale_7 : decode cX9_setScale 7 = .ok (.aload_n 0, 1) := by decide +kernel
theorem dX9_setScale_8 : decode cX9_setScale 8 = .ok (.getfield 10, 3) := by decide +kernel
theorem dX9_setScale_11 : decode cX9_setScale 11 = .ok (.aload_n 0, 1) := by decide +kernel
theorem dX9_setScale_12 : decode cX9_setScale 12 = .ok (.invokevirtual 33, 3) := by decide +kernel
theorem dX9_setScale_15 : decode cX9_setScale 15 = .ok (.iload_n 1, 1) := by decide +kernel
theorem dX9_setScale_16 : decode cX9_setScale 16 = .ok (.iload_n 2, 1) := by decide +kernel
theorem dX9_setScale_17 : decode cX9_setScale 17 = .ok (.invokevirtual 47, 3) := by decide +kernel
theorem dX9_setScale_20 : decode cX9_setScale 20 = .ok (.invokevirtual 43, 3) := by decide +kernel
theorem dX9_setScale_23 : decode cX9_setScale 23 = .ok (.ireturn, 1) := by decide +kernel
set_option maxRecDepth 20000 in
theorem ggX9_setBias_X3_prepare : GoodIn wsX9_setBias wsX3_prepare := goodIn_r _ [6, 7, 8, 9, 10, 11, 12, 13, 14, 15, 16, 17, 18, 19, 20, 21, 22, 23, 24, 25, 26, 27, 28, 29, 30, 31, 32, 33, 34, 35, 36, 37, 38, 39, 40, 41, 42, 43, 44, 45, 46, 47, 48, 49, 50, 51, 52, 53, 54, 55, 56, 57, 58, 59, 60, 61, 62, 63, 64, 65, 66, 67, 68, 107, 108, 109, 110, 111, 112, 113, 114, 115, 116, 117, 118, 119, 120, 121, 122, 123, 124, 125, 126, 127, 128, 129, 130, 131, 132, 133, 134, 135, 136, 137, 138, 139, 140] (by decide +kernel) (by decide +kernel)
set_option maxRecDepth 20000 in
theorem gX9_setBias_X3_prepare : GoodIn wsX9_setBias (wsV RX9 30 RX3 yX3_prepare wsX3_prepare) := goodIn_app (goodIn_of _ (by decide +kernel)) ggX9_setBias_X3_prepare
set_option maxRecDepth 20000 in
theorem ggX9_setBias_X9_counter : GoodIn wsX9_setBias wsX9_counter := goodIn_r _ [73, 1, 74, 75, 104, 105, 106, 107, 108, 109, 110, 111, 112, 113] (by decide +kernel) (by decide +kernel)
set_option maxRecDepth 20000 in
theorem gX9_setBias_X9_counter : GoodIn wsX9_setBias (wsV RX9 33 RX9 yX9_counter wsX9_counter) := goodIn_app (goodIn_of _ (by decide +kernel)) ggX9_setBias_X9_counter
set_option maxRecDepth 20000 in
theorem ggX9_setBias_X0_changeBias : GoodIn wsX9_setBias wsX0_changeBias := goodIn_r _ [79, 25, 80, 81, 82, 83, 72, 84, 114, 115, 116, 117, 118, 119, 120, 121, 122, 138, 139, 140] (by decide +kernel) (by decide +kernel)
set_option maxRecDepth 20000 in
theorem gX9_setBias_X0_changeBias : GoodIn wsX9_setBias (wsV RX9 51 RX0 yX0_changeBias wsX0_changeBias) := goodIn_app (goodIn_of _ (by decide +kernel)) ggX9_setBias_X0_changeBias
set_option maxRecDepth 20000 in
theorem ggX9_setBias_X3_settle : GoodIn wsX9_setBias wsX3_settle := goodIn_r _ [88, 89, 72, 90, 91, 92, 93, 94, 95, 96, 5, 97, 98, 99, 7, 100, 101, 102, 103, 83, 84, 107, 108, 109, 110] (by decide +kernel) (by decide +kernel)
set_option maxRecDepth 20000 in
theorem gX9_setBias_X3_settle : GoodIn wsX9_setBias (wsV RX9 43 RX3 yX3_settle wsX3_settle) := goodIn_app (goodIn_of _ (by decide +kernel)) ggX9_setBias_X3_settle
theorem dX9_setBias_0 : decode cX9_setBias 0 = .ok (.aload_n 0, 1) := by decide +kernel
theorem dX9_setBias_1 : decode cX9_setBias 1 = .ok (.getfield 10, 3) := by decide +kernel
theorem dX9_setBias_4 : decode cX9_setBias 4 = .ok (.invokevirtual 30, 3) := by decide +kernel
theorem dX9_setBias_7 : decode cX9_setBias 7 = .ok (.aload_n 0, 1) := by decide +kernel
theorem dX9_setBias_8 : decode cX9_setBias 8 = .ok (.getfield 10, 3) := by decide +kernel
theorem dX9_setBias_11 : decode cX9_setBias 11 = .ok (.aload_n 0, 1) := by decide +kernel
theorem dX9_setBias_12 : decode cX9_setBias 12 = .ok (.invokevirtual 33, 3) := by decide +kernel
theorem dX9_setBias_15 : decode cX9_setBias 15 = .ok (.iload_n 1, 1) := by decide +kernel
theorem dX9_setBias_16 : decode cX9_setBias 16 = .ok (.invokevirtual 51, 3) := by decide +kernel
theorem dX9_setBias_19 : decode cX9_setBias 19 = .ok (.invokevirtual 43, 3) := by decide +kernel
theorem dX9_setBias_22 : decode cX9_setBias 22 = .ok (.ireturn, 1) := by decide +kernel
set_option maxRecDepth 20000 in
theorem ggX9_setRule_X3_prepare : GoodIn wsX9_setRule wsX3_prepare := goodIn_r _ [6, 7, 8, 9, 10, 11, 12, 13, 14, 15, 16, 17, 18, 19, 20, 21, 22, 23, 24, 25, 26, 27, 28, 29, 30, 31, 32, 33, 34, 35, 36, 37, 38, 39, 40, 41, 42, 43, 44, 45, 46, 47, 48, 49, 50, 51, 52, 53, 54, 55, 56, 57, 58, 59, 60, 61, 62, 63, 64, 65, 66, 67, 68, 105, 106, 107, 108, 109, 110, 111, 112, 113, 114, 115, 116, 117, 118, 119, 120, 121, 122, 123, 124, 125, 126, 127, 128, 129, 130, 131, 132, 133, 134, 135, 136, 137, 138] (by decide +kernel) (by decide +kernel)
set_option maxRecDepth 20000 in
theorem gX9_setRule_X3_prepare : GoodIn wsX9_setRule (wsV RX9 30 RX3 yX3_prepare wsX3_prepare) := goodIn_app (goodIn_of _ (by decide +kernel)) ggX9_setRule_X3_prepare
set_option maxRecDepth 20000 in
theorem ggX9_setRule_X9_counter : GoodIn wsX9_setRule wsX9_counter := goodIn_r _ [73, 1, 74, 75, 102, 103, 104, 105, 106, 107, 108, 109, 110, 111] (by decide +kernel) (by decide +kernel)
set_option maxRecDepth 20000 in
theorem gX9_setRule_X9_counter : GoodIn wsX9_setRule (wsV RX9 33 RX9 yX9_counter wsX9_counter) := goodIn_app (goodIn_of _ (by decide +kernel)) ggX9_setRule_X9_counter
set_option maxRecDepth 20000 in
theorem ggX9_setRule_X0_changeRule : GoodIn wsX9_setRule wsX0_changeRule := goodIn_r _ [79, 80, 28, 81, 72, 82, 112, 113, 114, 115, 116, 117, 118, 119, 120] (by decide +kernel) (by decide +kernel)
set_option maxRecDepth 20000 in
theorem gX9_setRule_X0_changeRule : GoodIn wsX9_setRule (wsV RX9 54 RX0 yX0_changeRule wsX0_changeRule) := goodIn_app (goodIn_of _ (by decide +kernel)) ggX9_setRule_X0_changeRule
set_option maxRecDepth 20000 in
theorem ggX9_setRule_X3_settle : GoodIn wsX9_setRule wsX3_settle := goodIn_r _ [86, 87, 72, 88, 89, 90, 91, 92, 93, 94, 5, 95, 96, 97, 7, 98, 99, 100, 101, 81, 82, 105, 106, 107, 108] (by decide +kernel) (by decide +kernel)
set_option maxRecDepth 20000 in
theorem gX9_setRule_X3_settle : GoodIn wsX9_setRule (wsV RX9 43 RX3 yX3_settle wsX3_settle) := goodIn_app (goodIn_of _ (by decide +kernel)) ggX9_setRule_X3_settle
theorem dX9_setRule_0 : decode cX9_setRule 0 = .ok (.aload_n 0, 1) := by decide +kernel
theorem dX9_setRule_1 : decode cX9_setRule 1 = .ok (.getfield 10, 3) := by decide +kernel
theorem dX9_setRule_4 : decode cX9_setRule 4 = .ok (.invokevirtual 30, 3) := by decide +kernel
theorem dX9_setRule_7 : decode cX9_setRule 7 = .ok (.aload_n 0, 1) := by decide +kernel
theorem dX9_setRule_8 : decode cX9_setRule 8 = .ok (.getfield 10, 3) := by decide +kernel
theorem dX9_setRule_11 : decode cX9_setRule 11 = .ok (.aload_n 0, 1) := by decide +kernel
theorem dX9_setRule_12 : decode cX9_setRule 12 = .ok (.invokevirtual 33, 3) := by decide +kernel
theorem dX9_setRule_15 : decode cX9_setRule 15 = .ok (.iload_n 1, 1) := by decide +kernel
theorem dX9_setRule_16 : decode cX9_setRule 16 = .ok (.invokevirtual 54, 3) := by decide +kernel
theorem dX9_setRule_19 : decode cX9_setRule 19 = .ok (.invokevirtual 43, 3) := by decide +kernel
theorem dX9_setRule_22 : decode cX9_setRule 22 = .ok (.ireturn, 1) := by decide +kernel
set_option maxRecDepth 20000 in
theorem ggX9_come_X3_prepare : GoodIn wsX9_come wsX3_prepare := goodIn_r _ [6, 7, 8, 9, 10, 11, 12, 13, 14, 15, 16, 17, 18, 19, 20, 21, 22, 23, 24, 25, 26, 27, 28, 29, 30, 31, 32, 33, 34, 35, 36, 37, 38, 39, 40, 41, 42, 43, 44, 45, 46, 47, 48, 49, 50, 51, 52, 53, 54, 55, 56, 57, 58, 59, 60, 61, 62, 63, 64, 65, 66, 67, 68, 110, 111, 112, 113, 114, 115, 116, 117, 118, 119, 120, 121, 122, 123, 124, 125, 126, 127, 128, 129, 130, 131, 132, 133, 134, 135, 136, 137, 138, 139, 140, 141, 142, 143] (by decide +kernel) (by decide +kernel)
set_option maxRecDepth 20000 in
theorem gX9_come_X3_prepare : GoodIn wsX9_come (wsV RX9 30 RX3 yX3_prepare wsX3_prepare) := goodIn_app (goodIn_of _ (by decide +kernel)) ggX9_come_X3_prepare
set_option maxRecDepth 20000 in
theorem ggX9_come_X9_counter : GoodIn wsX9_come wsX9_counter := goodIn_r _ [73, 1, 74, 75, 107, 108, 109, 110, 111, 112, 113, 114, 115, 116] (by decide +kernel) (by decide +kernel)
set_option maxRecDepth 20000 in
theorem gX9_come_X9_counter : GoodIn wsX9_come (wsV RX9 33 RX9 yX9_counter wsX9_counter) := goodIn_app (goodIn_of _ (by decide +kernel)) ggX9_come_X9_counter
set_option maxRecDepth 20000 in
theorem ggX9_come_X0_addCustomer : GoodIn wsX9_come wsX0_addCustomer := goodIn_r _ [79, 80, 26, 81, 23, 82, 72, 83, 84, 85, 86, 41, 87, 43, 44, 117, 118, 119, 120, 121, 122, 123, 124, 125, 128, 129, 130, 131, 132, 133] (by decide +kernel) (by decide +kernel)
set_option maxRecDepth 20000 in
theorem gX9_come_X0_addCustomer : GoodIn wsX9_come (wsV RX9 60 RX0 yX0_addCustomer wsX0_addCustomer) := goodIn_app (goodIn_of _ (by decide +kernel)) ggX9_come_X0_addCustomer
set_option maxRecDepth 20000 in
theorem ggX9_come_X3_settle : GoodIn wsX9_come wsX3_settle := goodIn_r _ [91, 92, 72, 93, 94, 95, 96, 97, 98, 99, 5, 100, 101, 102, 7, 103, 104, 105, 106, 82, 83, 110, 111, 112, 113] (by decide +kernel) (by decide +kernel)
set_option maxRecDepth 20000 in
theorem gX9_come_X3_settle : GoodIn wsX9_come (wsV RX9 43 RX3 yX3_settle wsX3_settle) := goodIn_app (goodIn_of _ (by decide +kernel)) ggX9_come_X3_settle
theorem dX9_come_0 : decode cX9_come 0 = .ok (.aload_n 0, 1) := by decide +kernel
theorem dX9_come_1 : decode cX9_come 1 = .ok (.getfield 10, 3) := by decide +kernel
theorem dX9_come_4 : decode cX9_come 4 = .ok (.invokevirtual 30, 3) := by decide +kernel
theorem dX9_come_7 : decode cX9_come 7 = .ok (.aload_n 0, 1) := by decide +kernel
theorem dX9_come_8 : decode cX9_come 8 = .ok (.getfield 10, 3) := by decide +kernel
theorem dX9_come_11 : decode cX9_come 11 = .ok (.aload_n 0, 1) := by decide +kernel
theorem dX9_come_12 : decode cX9_come 12 = .ok (.invokevirtual 33, 3) := by decide +kernel
theorem dX9_come_15 : decode cX9_come 15 = .ok (.iload_n 1, 1) := by decide +kernel
theorem dX9_come_16 : decode cX9_come 16 = .ok (.invokevirtual 60, 3) := by decide +kernel
theorem dX9_come_19 : decode cX9_come 19 = .ok (.invokevirtual 43, 3) := by decide +kernel
theorem dX9_come_22 : decode cX9_come 22 = .ok (.ireturn, 1) := by decide +kernel
set_option maxRecDepth 20000 in
theorem ggX9_leave_X3_prepare : GoodIn wsX9_leave wsX3_prepare := goodIn_r _ [6, 7, 8, 9, 10, 11, 12, 13, 14, 15, 16, 17, 18, 19, 20, 21, 22, 23, 24, 25, 26, 27, 28, 29, 30, 31, 32, 33, 34, 35, 36, 37, 38, 39, 40, 41, 42, 43, 44, 45, 46, 47, 48, 49, 50, 51, 52, 53, 54, 55, 56, 57, 58, 59, 60, 61, 62, 63, 64, 65, 66, 67, 68, 114, 115, 116, 117, 118, 119, 120, 121, 122, 123, 124, 125, 126, 127, 128, 129, 130, 131, 132, 133, 134, 135, 136, 137, 138, 139, 140, 141, 142, 143, 144, 145, 146, 147] (by decide +kernel) (by decide +kernel)
set_option maxRecDepth 20000 in
theorem gX9_leave_X3_prepare : GoodIn wsX9_leave (wsV RX9 30 RX3 yX3_prepare wsX3_prepare) := goodIn_app (goodIn_of _ (by decide +kernel)) ggX9_leave_X3_prepare
set_option maxRecDepth 20000 in
theorem ggX9_leave_X9_counter : GoodIn wsX9_leave wsX9_counter := goodIn_r _ [73, 1, 74, 75, 111, 112, 113, 114, 115, 116, 117, 118, 119, 120] (by decide +kernel) (by decide +kernel)
set_option maxRecDepth 20000 in
theorem gX9_leave_X9_counter : GoodIn wsX9_leave (wsV RX9 33 RX9 yX9_counter wsX9_counter) := goodIn_app (goodIn_of _ (by decide +kernel)) ggX9_leave_X9_counter
set_option maxRecDepth 20000 in
theorem ggX9_leave_X0_dropCustomer : GoodIn wsX9_leave wsX0_dropCustomer := goodIn_r _ [79, 80, 81, 23, 26, 82, 83, 84, 20, 85, 86, 72, 87, 88, 89, 90, 41, 91, 43, 44, 132, 133, 134, 135, 136, 137, 121, 122, 123, 124, 125, 126, 127, 128, 129] (by decide +kernel) (by decide +kernel)
set_option maxRecDepth 20000 in
theorem gX9_leave_X0_dropCustomer : GoodIn wsX9_leave (wsV RX9 63 RX0 yX0_dropCustomer wsX0_dropCustomer) := goodIn_app (goodIn_of _ (by decide +kernel)) ggX9_leave_X0_dropCustomer
set_option maxRecDepth 20000 in
theorem ggX9_leave_X3_settle : GoodIn wsX9_leave wsX3_settle := goodIn_r _ [95, 96, 72, 97, 98, 99, 100, 101, 102, 103, 5, 104, 105, 106, 7, 107, 108, 109, 110, 86, 87, 114, 115, 116, 117] (by decide +kernel) (by decide +kernel)
set_option maxRecDepth 20000 in
theorem gX9_leave_X3_settle : GoodIn wsX9_leave (wsV RX9 43 RX3 yX3_settle wsX3_settle) := goodIn_app (goodIn_of _ (by decide +kernel)) ggX9_leave_X3_settle
theorem dX9_leave_0 : decode cX9_leave 0 = .ok (.aload_n 0, 1) := by decide +kernel
theorem dX9_leave_1 : decode cX9_leave 1 = .ok (.getfield 10, 3) := by decide +kernel
theorem dX9_leave_4 : decode cX9_leave 4 = .ok (.invokevirtual 30, 3) := by decide +kernel
theorem dX9_leave_7 : decode cX9_leave 7 = .ok (.aload_n 0, 1) := by decide +kernel
theorem dX9_leave_8 : decode cX9_leave 8 = .ok (.getfield 10, 3) := by decide +kernel
theorem dX9_leave_11 : decode cX9_leave 11 = .ok (.aload_n 0, 1) := by decide +kernel
theorem dX9_leave_12 : decode cX9_leave 12 = .ok (.invokevirtual 33, 3) := by decide +kernel
theorem dX9_leave_15 : decode cX9_leave 15 = .ok (.iload_n 1, 1) := by decide +kernel
theorem dX9_leave_16 : decode cX9_leave 16 = .ok (.invokevirtual 63, 3) := by decide +kernel
theorem dX9_leave_19 : decode cX9_leave 19 = .ok (.invokevirtual 43, 3) := by decide +kernel
theorem dX9_leave_22 : decode cX9_leave 22 = .ok (.ireturn, 1) := by decide +kernel
set_option maxRecDepth 20000 in
theorem ggX9_weigh_X3_prepare : GoodIn wsX9_weigh wsX3_prepare := goodIn_r _ [6, 7, 8, 9, 10, 11, 12, 13, 14, 15, 16, 17, 18, 19, 20, 21, 22, 23, 24, 25, 26, 27, 28, 29, 30, 31, 32, 33, 34, 35, 36, 37, 38, 39, 40, 41, 42, 43, 44, 45, 46, 47, 48, 49, 50, 51, 52, 53, 54, 55, 56, 57, 58, 59, 60, 61, 62, 63, 64, 65, 66, 67, 68, 181, 182, 183, 184, 185, 186, 187, 188, 189, 190, 191, 192, 193, 194, 195, 196, 197, 198, 199, 200, 201, 202, 203, 204, 205, 206, 207, 208, 209, 210, 211, 212, 213, 214] (by decide +kernel) (by decide +kernel)
set_option maxRecDepth 20000 in
theorem gX9_weigh_X3_prepare : GoodIn wsX9_weigh (wsV RX9 30 RX3 yX3_prepare wsX3_prepare) := goodIn_app (goodIn_of _ (by decide +kernel)) ggX9_weigh_X3_prepare
set_option maxRecDepth 20000 in
theorem ggX9_weigh_X9_counter : GoodIn wsX9_weigh wsX9_counter := goodIn_r _ [73, 1, 74, 75, 178, 179, 180, 181, 182, 183, 184, 185, 186, 187] (by decide +kernel) (by decide +kernel)
set_option maxRecDepth 20000 in
theorem gX9_weigh_X9_counter : GoodIn wsX9_weigh (wsV RX9 33 RX9 yX9_counter wsX9_counter) := goodIn_app (goodIn_of _ (by decide +kernel)) ggX9_weigh_X9_counter
set_option maxRecDepth 20000 in
theorem ggX9_weigh_X0_weighBundle : GoodIn wsX9_weigh wsX0_weighBundle := goodIn_r _ [79, 80, 81, 25, 82, 83, 84, 28, 30, 85, 86, 87, 20, 88, 26, 23, 89, 72, 90, 91, 92, 93, 94, 22, 95, 96, 97, 98, 99, 100, 101, 102, 103, 104, 105, 106, 107, 108, 109, 110, 64, 111, 112, 113, 114, 115, 116, 117, 118, 119, 120, 121, 67, 122, 123, 124, 34, 125, 36, 37, 126, 127, 128, 129, 66, 130, 131, 132, 133, 134, 135, 136, 137, 138, 139, 140, 141, 142, 143, 144, 145, 146, 147, 148, 149, 150, 151, 152, 41, 153, 43, 154, 155, 156, 157, 158, 44, 45, 46, 47, 48, 197, 198, 188, 189, 190, 191, 192, 193, 194, 195, 196, 212, 213, 214, 199, 200, 201, 202, 203, 204] (by decide +kernel) (by decide +kernel)
set_option maxRecDepth 20000 in
theorem gX9_weigh_X0_weighBundle : GoodIn wsX9_weigh (wsV RX9 66 RX0 yX0_weighBundle wsX0_weighBundle) := goodIn_app (goodIn_of _ (by decide +kernel)) ggX9_weigh_X0_weighBundle
set_option maxRecDepth 20000 in
theorem ggX9_weigh_X3_settle : GoodIn wsX9_weigh wsX3_settle := goodIn_r _ [162, 163, 72, 164, 165, 166, 167, 168, 169, 170, 5, 171, 172, 173, 7, 174, 175, 176, 177, 89, 90, 181, 182, 183, 184] (by decide +kernel) (by decide +kernel)
set_option maxRecDepth 20000 in
theorem gX9_weigh_X3_settle : GoodIn wsX9_weigh (wsV RX9 43 RX3 yX3_settle wsX3_settle) := goodIn_app (goodIn_of _ (by decide +kernel)) ggX9_weigh_X3_settle
theorem dX9_weigh_0 : decode cX9_weigh 0 = .ok (.aload_n 0, 1) := by decide +kernel
theorem dX9_weigh_1 : decode cX9_weigh 1 = .ok (.getfield 10, 3) := by decide +kernel
theorem dX9_weigh_4 : decode cX9_weigh 4 = .ok (.invokevirtual 30, 3) := by decide +kernel
theorem dX9_weigh_7 : decode cX9_weigh 7 = .ok (.aload_n 0, 1) := by decide +kernel
theorem dX9_weigh_8 : decode cX9_weigh 8 = .ok (.getfield 10, 3) := by decide +kernel
theorem dX9_weigh_11 : decode cX9_weigh 11 = .ok (.aload_n 0, 1) := by decide +kernel
theorem dX9_weigh_12 : decode cX9_weigh 12 = .ok (.invokevirtual 33, 3) := by decide +kernel
theorem dX9_weigh_15 : decode cX9_weigh 15 = .ok (.iload_n 1, 1) := by decide +kernel
theorem dX9_weigh_16 : decode cX9_weigh 16 = .ok (.iload_n 2, 1) := by decide +kernel
theorem dX9_weigh_17 : decode cX9_weigh 17 = .ok (.iload_n 3, 1) := by decide +kernel
theorem dX9_weigh_18 : decode cX9_weigh 18 = .ok (.iload 4, 2) := by decide +kernel
theorem dX9_weigh_20 : decode cX9_weigh 20 = .ok (.invokevirtual 66, 3) := by decide +kernel
theorem dX9_weigh_23 : decode cX9_weigh 23 = .ok (.invokevirtual 43, 3) := by decide +kernel
theorem dX9_weigh_26 : decode cX9_weigh 26 = .ok (.ireturn, 1) := by decide +kernel
set_option maxRecDepth 20000 in
theorem ggX9_claim_X3_prepare : GoodIn wsX9_claim wsX3_prepare := goodIn_r _ [6, 7, 8, 9, 10, 11, 12, 13, 14, 15, 16, 17, 18, 19, 20, 21, 22, 23, 24, 25, 26, 27, 28, 29, 30, 31, 32, 33, 34, 35, 36, 37, 38, 39, 40, 41, 42, 43, 44, 45, 46, 47, 48, 49, 50, 51, 52, 53, 54, 55, 56, 57, 58, 59, 60, 61, 62, 63, 64, 65, 66, 67, 68, 173, 174, 175, 176, 177, 178, 179, 180, 181, 182, 183, 184, 185, 186, 187, 188, 189, 190, 191, 192, 193, 194, 195, 196, 197, 198, 199, 200, 201, 202, 203, 204, 205, 206] (by decide +kernel) (by decide +kernel)
set_option maxRecDepth 20000 in
theorem gX9_claim_X3_prepare : GoodIn wsX9_claim (wsV RX9 30 RX3 yX3_prepare wsX3_prepare) := goodIn_app (goodIn_of _ (by decide +kernel)) ggX9_claim_X3_prepare
set_option maxRecDepth 20000 in
theorem ggX9_claim_X9_counter : GoodIn wsX9_claim wsX9_counter := goodIn_r _ [73, 1, 74, 75, 170, 171, 172, 173, 174, 175, 176, 177, 178, 179] (by decide +kernel) (by decide +kernel)
set_option maxRecDepth 20000 in
theorem gX9_claim_X9_counter : GoodIn wsX9_claim (wsV RX9 33 RX9 yX9_counter wsX9_counter) := goodIn_app (goodIn_of _ (by decide +kernel)) ggX9_claim_X9_counter
set_option maxRecDepth 20000 in
theorem ggX9_claim_X0_settleClaim : GoodIn wsX9_claim wsX0_settleClaim := goodIn_r _ [79, 80, 81, 82, 83, 84, 85, 86, 30, 29, 87, 88, 89, 20, 90, 26, 23, 91, 72, 92, 93, 94, 95, 96, 22, 97, 98, 99, 100, 25, 101, 102, 103, 64, 104, 67, 105, 106, 107, 108, 109, 110, 111, 34, 112, 36, 37, 113, 114, 115, 116, 66, 117, 118, 119, 120, 121, 122, 123, 124, 125, 126, 127, 128, 129, 130, 131, 132, 133, 134, 135, 136, 137, 138, 139, 140, 141, 41, 142, 43, 143, 144, 145, 146, 147, 46, 148, 149, 150, 48, 191, 192, 193, 194, 195, 196, 180, 181, 182, 183, 184, 185, 186, 187, 188, 204, 205, 206, 189, 190] (by decide +kernel) (by decide +kernel)
set_option maxRecDepth 20000 in
theorem gX9_claim_X0_settleClaim : GoodIn wsX9_claim (wsV RX9 70 RX0 yX0_settleClaim wsX0_settleClaim) := goodIn_app (goodIn_of _ (by decide +kernel)) ggX9_claim_X0_settleClaim
set_option maxRecDepth 20000 in
theorem ggX9_claim_X3_settle : GoodIn wsX9_claim wsX3_settle := goodIn_r _ [154, 155, 72, 156, 157, 158, 159, 160, 161, 162, 5, 163, 164, 165, 7, 166, 167, 168, 169, 91, 92, 173, 174, 175, 176] (by decide +kernel) (by decide +kernel)
set_option maxRecDepth 20000 in
theorem gX9_claim_X3_settle : GoodIn wsX9_claim (wsV RX9 43 RX3 yX3_settle wsX3_settle) := goodIn_app (goodIn_of _ (by decide +kernel)) ggX9_claim_X3_settle
theorem dX9_claim_0 : decode cX9_claim 0 = .ok (.aload_n 0, 1) := by decide +kernel
theorem dX9_claim_1 : decode cX9_claim 1 = .ok (.getfield 10, 3) := by decide +kernel
theorem dX9_claim_4 : decode cX9_claim 4 = .ok (.invokevirtual 30, 3) := by decide +kernel
theorem dX9_claim_7 : decode cX9_claim 7 = .ok (.aload_n 0, 1) := by decide +kernel
theorem dX9_claim_8 : decode cX9_claim 8 = .ok (.getfield 10, 3) := by decide +kernel
theorem dX9_claim_11 : decode cX9_claim 11 = .ok (.aload_n 0, 1) := by decide +kernel
theorem dX9_claim_12 : decode cX9_claim 12 = .ok (.invokevirtual 33, 3) := by decide +kernel
theorem dX9_claim_15 : decode cX9_claim 15 = .ok (.iload_n 1, 1) := by decide +kernel
theorem dX9_claim_16 : decode cX9_claim 16 = .ok (.iload_n 2, 1) := by decide +kernel
theorem dX9_claim_17 : decode cX9_claim 17 = .ok (.invokevirtual 70, 3) := by decide +kernel
theorem dX9_claim_20 : decode cX9_claim 20 = .ok (.invokevirtual 43, 3) := by decide +kernel
theorem dX9_claim_23 : decode cX9_claim 23 = .ok (.ireturn, 1) := by decide +kernel
set_option maxRecDepth 20000 in
theorem ggX9_addPrize_X3_prepare : GoodIn wsX9_addPrize wsX3_prepare := goodIn_r _ [6, 7, 8, 9, 10, 11, 12, 13, 14, 15, 16, 17, 18, 19, 20, 21, 22, 23, 24, 25, 26, 27, 28, 29, 30, 31, 32, 33, 34, 35, 36, 37, 38, 39, 40, 41, 42, 43, 44, 45, 46, 47, 48, 49, 50, 51, 52, 53, 54, 55, 56, 57, 58, 59, 60, 61, 62, 63, 64, 65, 66, 67, 68, 111, 112, 113, 114, 115, 116, 117, 118, 119, 120, 121, 122, 123, 124, 125, 126, 127, 128, 129, 130, 131, 132, 133, 134, 135, 136, 137, 138, 139, 140, 141, 142, 143, 144] (by decide +kernel) (by decide +kernel)
set_option maxRecDepth 20000 in
theorem gX9_addPrize_X3_prepare : GoodIn wsX9_addPrize (wsV RX9 30 RX3 yX3_prepare wsX3_prepare) := goodIn_app (goodIn_of _ (by decide +kernel)) ggX9_addPrize_X3_prepare
set_option maxRecDepth 20000 in
theorem ggX9_addPrize_X9_counter : GoodIn wsX9_addPrize wsX9_counter := goodIn_r _ [73, 1, 74, 75, 108, 109, 110, 111, 112, 113, 114, 115, 116, 117] (by decide +kernel) (by decide +kernel)
set_option maxRecDepth 20000 in
theorem gX9_addPrize_X9_counter : GoodIn wsX9_addPrize (wsV RX9 33 RX9 yX9_counter wsX9_counter) := goodIn_app (goodIn_of _ (by decide +kernel)) ggX9_addPrize_X9_counter
set_option maxRecDepth 20000 in
theorem ggX9_addPrize_X0_placePrize : GoodIn wsX9_addPrize wsX0_placePrize := goodIn_r _ [79, 80, 81, 27, 82, 24, 83, 72, 84, 85, 86, 87, 52, 88, 54, 55, 56, 57, 58, 59, 60, 118, 119, 120, 121, 122, 123, 124, 125, 126, 135, 136, 137, 138, 139, 140, 141] (by decide +kernel) (by decide +kernel)
set_option maxRecDepth 20000 in
theorem gX9_addPrize_X0_placePrize : GoodIn wsX9_addPrize (wsV RX9 73 RX0 yX0_placePrize wsX0_placePrize) := goodIn_app (goodIn_of _ (by decide +kernel)) ggX9_addPrize_X0_placePrize
set_option maxRecDepth 20000 in
theorem ggX9_addPrize_X3_settle : GoodIn wsX9_addPrize wsX3_settle := goodIn_r _ [92, 93, 72, 94, 95, 96, 97, 98, 99, 100, 5, 101, 102, 103, 7, 104, 105, 106, 107, 83, 84, 111, 112, 113, 114] (by decide +kernel) (by decide +kernel)
set_option maxRecDepth 20000 in
theorem gX9_addPrize_X3_settle : GoodIn wsX9_addPrize (wsV RX9 43 RX3 yX3_settle wsX3_settle) := goodIn_app (goodIn_of _ (by decide +kernel)) ggX9_addPrize_X3_settle
theorem dX9_addPrize_0 : decode cX9_addPrize 0 = .ok (.aload_n 0, 1) := by decide +kernel
theorem dX9_addPrize_1 : decode cX9_addPrize 1 = .ok (.getfield 10, 3) := by decide +kernel
theorem dX9_addPrize_4 : decode cX9_addPrize 4 = .ok (.invokevirtual 30, 3) := by decide +kernel
theorem dX9_addPrize_7 : decode cX9_addPrize 7 = .ok (.aload_n 0, 1) := by decide +kernel
theorem dX9_addPrize_8 : decode cX9_addPrize 8 = .ok (.getfield 10, 3) := by decide +kernel
theorem dX9_addPrize_11 : decode cX9_addPrize 11 = .ok (.aload_n 0, 1) := by decide +kernel
theorem dX9_addPrize_12 : decode cX9_addPrize 12 = .ok (.invokevirtual 33, 3) := by decide +kernel
theorem dX9_addPrize_15 : decode cX9_addPrize 15 = .ok (.iload_n 1, 1) := by decide +kernel
theorem dX9_addPrize_16 : decode cX9_addPrize 16 = .ok (.iload_n 2, 1) := by decide +kernel
theorem dX9_addPrize_17 : decode cX9_addPrize 17 = .ok (.iload_n 3, 1) := by decide +kernel
theorem dX9_addPrize_18 : decode cX9_addPrize 18 = .ok (.iload 4, 2) := by decide +kernel
theorem dX9_addPrize_20 : decode cX9_addPrize 20 = .ok (.iload 5, 2) := by decide +kernel
theorem dX9_addPrize_22 : decode cX9_addPrize 22 = .ok (.invokevirtual 73, 3) := by decide +kernel
theorem dX9_addPrize_25 : decode cX9_addPrize 25 = .ok (.invokevirtual 43, 3) := by decide +kernel
theorem dX9_addPrize_28 : decode cX9_addPrize 28 = .ok (.ireturn, 1) := by decide +kernel
set_option maxRecDepth 20000 in
theorem ggX9_buy_X3_prepare : GoodIn wsX9_buy wsX3_prepare := goodIn_r _ [6, 7, 8, 9, 10, 11, 12, 13, 14, 15, 16, 17, 18, 19, 20, 21, 22, 23, 24, 25, 26, 27, 28, 29, 30, 31, 32, 33, 34, 35, 36, 37, 38, 39, 40, 41, 42, 43, 44, 45, 46, 47, 48, 49, 50, 51, 52, 53, 54, 55, 56, 57, 58, 59, 60, 61, 62, 63, 64, 65, 66, 67, 68, 132, 133, 134, 135, 136, 137, 138, 139, 140, 141, 142, 143, 144, 145, 146, 147, 148, 149, 150, 151, 152, 153, 154, 155, 156, 157, 158, 159, 160, 161, 162, 163, 164, 165] (by decide +kernel) (by decide +kernel)
set_option maxRecDepth 20000 in
theorem gX9_buy_X3_prepare : GoodIn wsX9_buy (wsV RX9 30 RX3 yX3_prepare wsX3_prepare) := goodIn_app (goodIn_of _ (by decide +kernel)) ggX9_buy_X3_prepare
set_option maxRecDepth 20000 in
theorem ggX9_buy_X9_counter : GoodIn wsX9_buy wsX9_counter := goodIn_r _ [73, 1, 74, 75, 129, 130, 131, 132, 133, 134, 135, 136, 137, 138] (by decide +kernel) (by decide +kernel)
set_option maxRecDepth 20000 in
theorem gX9_buy_X9_counter : GoodIn wsX9_buy (wsV RX9 33 RX9 yX9_counter wsX9_counter) := goodIn_app (goodIn_of _ (by decide +kernel)) ggX9_buy_X9_counter
set_option maxRecDepth 20000 in
theorem ggX9_buy_X0_sellPrize : GoodIn wsX9_buy wsX0_sellPrize := goodIn_r _ [79, 80, 81, 82, 83, 84, 85, 86, 87, 88, 20, 89, 26, 23, 90, 72, 91, 92, 93, 94, 95, 27, 24, 96, 97, 98, 52, 99, 56, 59, 55, 57, 60, 58, 100, 101, 102, 103, 104, 105, 106, 107, 108, 109, 150, 151, 152, 153, 154, 155, 156, 157, 158, 159, 160, 161, 162, 139, 140, 141, 142, 143, 144, 145, 146, 147] (by decide +kernel) (by decide +kernel)
set_option maxRecDepth 20000 in
theorem gX9_buy_X0_sellPrize : GoodIn wsX9_buy (wsV RX9 83 RX0 yX0_sellPrize wsX0_sellPrize) := goodIn_app (goodIn_of _ (by decide +kernel)) ggX9_buy_X0_sellPrize
set_option maxRecDepth 20000 in
theorem ggX9_buy_X3_settle : GoodIn wsX9_buy wsX3_settle := goodIn_r _ [113, 114, 72, 115, 116, 117, 118, 119, 120, 121, 5, 122, 123, 124, 7, 125, 126, 127, 128, 90, 91, 132, 133, 134, 135] (by decide +kernel) (by decide +kernel)
set_option maxRecDepth 20000 in
theorem gX9_buy_X3_settle : GoodIn wsX9_buy (wsV RX9 43 RX3 yX3_settle wsX3_settle) := goodIn_app (goodIn_of _ (by decide +kernel)) ggX9_buy_X3_settle
theorem dX9_buy_0 : decode cX9_buy 0 = .ok (.aload_n 0, 1) := by decide +kernel
theorem dX9_buy_1 : decode cX9_buy 1 = .ok (.getfield 10, 3) := by decide +kernel
theorem dX9_buy_4 : decode cX9_buy 4 = .ok (.invokevirtual 30, 3) := by decide +kernel
theorem dX9_buy_7 : decode cX9_buy 7 = .ok (.aload_n 0, 1) := by decide +kernel
theorem dX9_buy_8 : decode cX9_buy 8 = .ok (.getfield 10, 3) := by decide +kernel
theorem dX9_buy_11 : decode cX9_buy 11 = .ok (.aload_n 0, 1) := by decide +kernel
theorem dX9_buy_12 : decode cX9_buy 12 = .ok (.invokevirtual 33, 3) := by decide +kernel
theorem dX9_buy_15 : decode cX9_buy 15 = .ok (.iload_n 1, 1) := by decide +kernel
theorem dX9_buy_16 : decode cX9_buy 16 = .ok (.iload_n 2, 1) := by decide +kernel
theorem dX9_buy_17 : decode cX9_buy 17 = .ok (.iload_n 3, 1) := by decide +kernel
theorem dX9_buy_18 : decode cX9_buy 18 = .ok (.invokevirtual 83, 3) := by decide +kernel
theorem dX9_buy_21 : decode cX9_buy 21 = .ok (.invokevirtual 43, 3) := by decide +kernel
theorem dX9_buy_24 : decode cX9_buy 24 = .ok (.ireturn, 1) := by decide +kernel
set_option maxRecDepth 20000 in
theorem ggX9_undo_X3_stepBack : GoodIn wsX9_undo wsX3_stepBack := goodIn_r _ [6, 7, 8, 9, 10, 11, 12, 13, 17, 18, 19, 20] (by decide +kernel) (by decide +kernel)
set_option maxRecDepth 20000 in
theorem gX9_undo_X3_stepBack : GoodIn wsX9_undo (wsV RX9 98 RX3 yX3_stepBack wsX3_stepBack) := goodIn_app (goodIn_of _ (by decide +kernel)) ggX9_undo_X3_stepBack
theorem dX9_undo_0 : decode cX9_undo 0 = .ok (.aload_n 0, 1) := by decide +kernel
theorem dX9_undo_1 : decode cX9_undo 1 = .ok (.getfield 10, 3) := by decide +kernel
theorem dX9_undo_4 : decode cX9_undo 4 = .ok (.invokevirtual 98, 3) := by decide +kernel
theorem dX9_undo_7 : decode cX9_undo 7 = .ok (.ireturn, 1) := by decide +kernel
set_option maxRecDepth 20000 in
theorem ggX9_count_X8_slotsInUse : GoodIn wsX9_count wsX8_slotsInUse := goodIn_r _ [10, 11, 63, 64, 65] (by decide +kernel) (by decide +kernel)
set_option maxRecDepth 20000 in
theorem gX9_count_X8_slotsInUse : GoodIn wsX9_count (wsV RX9 124 RX8 yX8_slotsInUse wsX8_slotsInUse) := goodIn_app (goodIn_of _ (by decide +kernel)) ggX9_count_X8_slotsInUse
set_option maxRecDepth 20000 in
theorem ggX9_count_X9_counter : GoodIn wsX9_count wsX9_counter := goodIn_r _ [16, 1, 2, 17, 50, 51, 52, 53, 54, 55, 56, 63, 64, 65] (by decide +kernel) (by decide +kernel)
set_option maxRecDepth 20000 in
theorem gX9_count_X9_counter : GoodIn wsX9_count (wsV RX9 33 RX9 yX9_counter wsX9_counter) := goodIn_app (goodIn_of _ (by decide +kernel)) ggX9_count_X9_counter
set_option maxRecDepth 20000 in
theorem ggX9_count_X0_number : GoodIn wsX9_count wsX0_number := goodIn_r _ [22, 23, 24, 25, 26, 27, 28, 29, 30, 31, 32, 33, 34, 35, 21, 36, 37, 38, 39, 40, 41, 42, 43, 44, 45, 46, 47, 48, 49, 66, 67, 68, 69, 70, 71, 72, 73, 74, 75, 76, 77, 78, 79, 80, 81, 82, 83, 84, 85, 86, 87, 88, 89, 90] (by decide +kernel) (by decide +kernel)
set_option maxRecDepth 20000 in
theorem gX9_count_X0_number : GoodIn wsX9_count (wsV RX9 134 RX0 yX0_number wsX0_number) := goodIn_app (goodIn_of _ (by decide +kernel)) ggX9_count_X0_number
theorem dX9_count_0 : decode cX9_count 0 = .ok (.iload_n 1, 1) := by decide +kernel
theorem dX9_count_1 : decode cX9_count 1 = .ok (.tableswitch 54 11 13 #[27, 38, 46], 27) := by decide +kernel
theorem dX9_count_28 : decode cX9_count 28 = .ok (.aload_n 0, 1) := by decide +kernel
theorem dX9_count_29 : decode cX9_count 29 = .ok (.getfield 10, 3) := by decide +kernel
theorem dX9_count_32 : decode cX9_count 32 = .ok (.getfield 86, 3) := by decide +kernel
theorem dX9_count_35 : decode cX9_count 35 = .ok (.invokevirtual 124, 3) := by decide +kernel
theorem dX9_count_38 : decode cX9_count 38 = .ok (.ireturn, 1) := by decide +kernel
theorem dX9_count_39 : decode cX9_count 39 = .ok (.aload_n 0, 1) := by decide +kernel
theorem dX9_count_40 : decode cX9_count 40 = .ok (.getfield 10, 3) := by decide +kernel
theorem dX9_count_43 : decode cX9_count 43 = .ok (.getfield 127, 3) := by decide +kernel
theorem dX9_count_46 : decode cX9_count 46 = .ok (.ireturn, 1) := by decide +kernel
theorem dX9_count_47 : decode cX9_count 47 = .ok (.aload_n 0, 1) := by decide +kernel
theorem dX9_count_48 : decode cX9_count 48 = .ok (.getfield 19, 3) := by decide +kernel
theorem dX9_count_51 : decode cX9_count 51 = .ok (.getfield 131, 3) := by decide +kernel
theorem dX9_count_54 : decode cX9_count 54 = .ok (.ireturn, 1) := by decide +kernel
theorem dX9_count_55 : decode cX9_count 55 = .ok (.aload_n 0, 1) := by decide +kernel
theorem dX9_count_56 : decode cX9_count 56 = .ok (.invokevirtual 33, 3) := by decide +kernel
theorem dX9_count_59 : decode cX9_count 59 = .ok (.iload_n 1, 1) := by decide +kernel
theorem dX9_count_60 : decode cX9_count 60 = .ok (.invokevirtual 134, 3) := by decide +kernel
theorem dX9_count_63 : decode cX9_count 63 = .ok (.ireturn, 1) := by decide +kernel
set_option maxRecDepth 20000 in
theorem ggX9_kind_X9_counter : GoodIn wsX9_kind wsX9_counter := goodIn_r _ [8, 9, 10, 11, 23, 24, 25, 26, 27, 28, 29, 30, 31, 32] (by decide +kernel) (by decide +kernel)
set_option maxRecDepth 20000 in
theorem gX9_kind_X9_counter : GoodIn wsX9_kind (wsV RX9 33 RX9 yX9_counter wsX9_counter) := goodIn_app (goodIn_of _ (by decide +kernel)) ggX9_kind_X9_counter
set_option maxRecDepth 20000 in
theorem ggX9_kind_X0_kindAt : GoodIn wsX9_kind wsX0_kindAt := goodIn_r _ [16, 17, 18, 7, 19, 33, 34, 35, 36, 37, 38, 39, 40, 41] (by decide +kernel) (by decide +kernel)
set_option maxRecDepth 20000 in
theorem gX9_kind_X0_kindAt : GoodIn wsX9_kind (wsV RX9 137 RX0 yX0_kindAt wsX0_kindAt) := goodIn_app (goodIn_of _ (by decide +kernel)) ggX9_kind_X0_kindAt
set_option maxRecDepth 20000 in
theorem ggX9_kind_X9_within : GoodIn wsX9_kind wsX9_within := goodIn_r _ [19] (by decide +kernel) (by decide +kernel)
set_option maxRecDepth 20000 in
theorem gX9_kind_X9_within : GoodIn wsX9_kind (va_wsS RX9 141 yX9_within wsX9_within) := goodIn_app (goodIn_of _ (by decide +kernel)) ggX9_kind_X9_within
theorem dX9_kind_0 : decode cX9_kind 0 = .ok (.aload_n 0, 1) := by decide +kernel
theorem dX9_kind_1 : decode cX9_kind 1 = .ok (.invokevirtual 33, 3) := by decide +kernel
theorem dX9_kind_4 : decode cX9_kind 4 = .ok (.iload_n 1, 1) := by decide +kernel
theorem dX9_kind_5 : decode cX9_kind 5 = .ok (.invokevirtual 137, 3) := by decide +kernel
theorem dX9_kind_8 : decode cX9_kind 8 = .ok (.astore_n 3, 1) := by decide +kernel
theorem dX9_kind_9 : decode cX9_kind 9 = .ok (.aload_n 3, 1) := by decide +kernel
theorem dX9_kind_10 : decode cX9_kind 10 = .ok (.ifnull 12, 3) := by decide +kernel
theorem dX9_kind_13 : decode cX9_kind 13 = .ok (.iload_n 2, 1) := by decide +kernel
theorem dX9_kind_14 : decode cX9_kind 14 = .ok (.iconst 0, 1) := by decide +kernel
theorem dX9_kind_15 : decode cX9_kind 15 = .ok (.iconst 1, 1) := by decide +kernel
theorem dX9_kind_16 : decode cX9_kind 16 = .ok (.invokestatic 141, 3) := by decide +kernel
theorem dX9_kind_19 : decode cX9_kind 19 = .ok (.ifCond .ne 6, 3) := by decide +kernel
theorem dX9_kind_22 : decode cX9_kind 22 = .ok (.ldc 145, 2) := by decide +kernel
theorem dX9_kind_24 : decode cX9_kind 24 = .ok (.ireturn, 1) := by decide +kernel
theorem dX9_kind_25 : decode cX9_kind 25 = .ok (.iload_n 2, 1) := by decide +kernel
theorem dX9_kind_26 : decode cX9_kind 26 = .ok (.ifCond .ne 10, 3) := by decide +kernel
theorem dX9_kind_29 : decode cX9_kind 29 = .ok (.aload_n 3, 1) := by decide +kernel
theorem dX9_kind_30 : decode cX9_kind 30 = .ok (.getfield 146, 3) := by decide +kernel
theorem dX9_kind_33 : decode cX9_kind 33 = .ok (.goto 7, 3) := by decide +kernel
theorem dX9_kind_36 : decode cX9_kind 36 = .ok (.aload_n 3, 1) := by decide +kernel
theorem dX9_kind_37 : decode cX9_kind 37 = .ok (.getfield 151, 3) := by decide +kernel
theorem dX9_kind_40 : decode cX9_kind 40 = .ok (.ireturn, 1) := by decide +kernel
set_option maxRecDepth 20000 in
theorem ggX9_customer_X9_counter : GoodIn wsX9_customer wsX9_counter := goodIn_r _ [6, 7, 8, 9, 32, 33, 34, 35, 36, 37, 38, 39, 40, 41] (by decide +kernel) (by decide +kernel)
set_option maxRecDepth 20000 in
theorem gX9_customer_X9_counter : GoodIn wsX9_customer (wsV RX9 33 RX9 yX9_counter wsX9_counter) := goodIn_app (goodIn_of _ (by decide +kernel)) ggX9_customer_X9_counter
set_option maxRecDepth 20000 in
theorem ggX9_customer_X0_customerAt : GoodIn wsX9_customer wsX0_customerAt := goodIn_r _ [14, 15, 16, 17, 5, 18, 42, 43, 44, 45, 46, 47, 48, 49, 50] (by decide +kernel) (by decide +kernel)
set_option maxRecDepth 20000 in
theorem gX9_customer_X0_customerAt : GoodIn wsX9_customer (wsV RX9 154 RX0 yX0_customerAt wsX0_customerAt) := goodIn_app (goodIn_of _ (by decide +kernel)) ggX9_customer_X0_customerAt
set_option maxRecDepth 20000 in
theorem ggX9_customer_X1_part : GoodIn wsX9_customer wsX1_part := goodIn_r _ [23, 24, 25, 26, 27, 28, 29, 30, 31, 17, 5, 18, 51, 52, 53, 54, 55, 56] (by decide +kernel) (by decide +kernel)
set_option maxRecDepth 20000 in
theorem gX9_customer_X1_part : GoodIn wsX9_customer (wsV RX9 158 RX1 yX1_part wsX1_part) := goodIn_app (goodIn_of _ (by decide +kernel)) ggX9_customer_X1_part
theorem dX9_customer_0 : decode cX9_customer 0 = .ok (.aload_n 0, 1) := by decide +kernel
theorem dX9_customer_1 : decode cX9_customer 1 = .ok (.invokevirtual 33, 3) := by decide +kernel
theorem dX9_customer_4 : decode cX9_customer 4 = .ok (.iload_n 1, 1) := by decide +kernel
theorem dX9_customer_5 : decode cX9_customer 5 = .ok (.invokevirtual 154, 3) := by decide +kernel
theorem dX9_customer_8 : decode cX9_customer 8 = .ok (.astore_n 3, 1) := by decide +kernel
theorem dX9_customer_9 : decode cX9_customer 9 = .ok (.aload_n 3, 1) := by decide +kernel
theorem dX9_customer_10 : decode cX9_customer 10 = .ok (.ifnonnull 6, 3) := by decide +kernel
theorem dX9_customer_13 : decode cX9_customer 13 = .ok (.ldc 145, 2) := by decide +kernel
theorem dX9_customer_15 : decode cX9_customer 15 = .ok (.ireturn, 1) := by decide +kernel
theorem dX9_customer_16 : decode cX9_customer 16 = .ok (.aload_n 3, 1) := by decide +kernel
theorem dX9_customer_17 : decode cX9_customer 17 = .ok (.iload_n 2, 1) := by decide +kernel
theorem dX9_customer_18 : decode cX9_customer 18 = .ok (.invokevirtual 158, 3) := by decide +kernel
theorem dX9_customer_21 : decode cX9_customer 21 = .ok (.ireturn, 1) := by decide +kernel
set_option maxRecDepth 20000 in
theorem ggX9_prize_X9_counter : GoodIn wsX9_prize wsX9_counter := goodIn_r _ [6, 7, 8, 9, 32, 33, 34, 35, 36, 37, 38, 39, 40, 41] (by decide +kernel) (by decide +kernel)
set_option maxRecDepth 20000 in
theorem gX9_prize_X9_counter : GoodIn wsX9_prize (wsV RX9 33 RX9 yX9_counter wsX9_counter) := goodIn_app (goodIn_of _ (by decide +kernel)) ggX9_prize_X9_counter
set_option maxRecDepth 20000 in
theorem ggX9_prize_X0_prizeAt : GoodIn wsX9_prize wsX0_prizeAt := goodIn_r _ [14, 15, 16, 17, 5, 18, 42, 43, 44, 45, 46, 47, 48, 49, 50] (by decide +kernel) (by decide +kernel)
set_option maxRecDepth 20000 in
theorem gX9_prize_X0_prizeAt : GoodIn wsX9_prize (wsV RX9 161 RX0 yX0_prizeAt wsX0_prizeAt) := goodIn_app (goodIn_of _ (by decide +kernel)) ggX9_prize_X0_prizeAt
set_option maxRecDepth 20000 in
theorem ggX9_prize_X5_part : GoodIn wsX9_prize wsX5_part := goodIn_r _ [23, 24, 25, 26, 27, 28, 29, 30, 31, 51, 52, 53, 54, 55, 56, 57] (by decide +kernel) (by decide +kernel)
set_option maxRecDepth 20000 in
theorem gX9_prize_X5_part : GoodIn wsX9_prize (wsV RX9 165 RX5 yX5_part wsX5_part) := goodIn_app (goodIn_of _ (by decide +kernel)) ggX9_prize_X5_part
theorem dX9_prize_0 : decode cX9_prize 0 = .ok (.aload_n 0, 1) := by decide +kernel
theorem dX9_prize_1 : decode cX9_prize 1 = .ok (.invokevirtual 33, 3) := by decide +kernel
theorem dX9_prize_4 : decode cX9_prize 4 = .ok (.iload_n 1, 1) := by decide +kernel
theorem dX9_prize_5 : decode cX9_prize 5 = .ok (.invokevirtual 161, 3) := by decide +kernel
theorem dX9_prize_8 : decode cX9_prize 8 = .ok (.astore_n 3, 1) := by decide +kernel
theorem dX9_prize_9 : decode cX9_prize 9 = .ok (.aload_n 3, 1) := by decide +kernel
theorem dX9_prize_10 : decode cX9_prize 10 = .ok (.ifnonnull 6, 3) := by decide +kernel
theorem dX9_prize_13 : decode cX9_prize 13 = .ok (.ldc 145, 2) := by decide +kernel
theorem dX9_prize_15 : decode cX9_prize 15 = .ok (.ireturn, 1) := by decide +kernel
theorem dX9_prize_16 : decode cX9_prize 16 = .ok (.aload_n 3, 1) := by decide +kernel
theorem dX9_prize_17 : decode cX9_prize 17 = .ok (.iload_n 2, 1) := by decide +kernel
theorem dX9_prize_18 : decode cX9_prize 18 = .ok (.invokevirtual 165, 3) := by decide +kernel
theorem dX9_prize_21 : decode cX9_prize 21 = .ok (.ireturn, 1) := by decide +kernel
set_option maxRecDepth 20000 in
theorem ggX9_read_X9_within : GoodIn wsX9_read wsX9_within := goodIn_r _ [8] (by decide +kernel) (by decide +kernel)
set_option maxRecDepth 20000 in
theorem gX9_read_X9_within : GoodIn wsX9_read (va_wsS RX9 141 yX9_within wsX9_within) := goodIn_app (goodIn_of _ (by decide +kernel)) ggX9_read_X9_within
set_option maxRecDepth 20000 in
theorem ggX9_read_X9_counter : GoodIn wsX9_read wsX9_counter := goodIn_r _ [12, 13, 14, 15, 42, 43, 44, 45, 46, 47, 48, 49, 50, 51] (by decide +kernel) (by decide +kernel)
set_option maxRecDepth 20000 in
theorem gX9_read_X9_counter : GoodIn wsX9_read (wsV RX9 33 RX9 yX9_counter wsX9_counter) := goodIn_app (goodIn_of _ (by decide +kernel)) ggX9_read_X9_counter
set_option maxRecDepth 20000 in
theorem ggX9_read_X9_readingAt : GoodIn wsX9_read wsX9_readingAt := goodIn_r _ [18, 19, 20, 21, 22, 23, 24, 7, 25, 26, 27, 28, 29] (by decide +kernel) (by decide +kernel)
set_option maxRecDepth 20000 in
theorem gX9_read_X9_readingAt : GoodIn wsX9_read (va_wsS RX9 176 yX9_readingAt wsX9_readingAt) := goodIn_app (goodIn_of _ (by decide +kernel)) ggX9_read_X9_readingAt
theorem dX9_read_0 : decode cX9_read 0 = .ok (.iload_n 1, 1) := by decide +kernel
theorem dX9_read_1 : decode cX9_read 1 = .ok (.sipush (-5000), 3) := by decide +kernel
theorem dX9_read_4 : decode cX9_read 4 = .ok (.ldc 166, 2) := by decide +kernel
theorem dX9_read_6 : decode cX9_read 6 = .ok (.invokestatic 141, 3) := by decide +kernel
theorem dX9_read_9 : decode cX9_read 9 = .ok (.ifCond .ne 6, 3) := by decide +kernel
theorem dX9_read_12 : decode cX9_read 12 = .ok (.ldc 145, 2) := by decide +kernel
theorem dX9_read_14 : decode cX9_read 14 = .ok (.ireturn, 1) := by decide +kernel
theorem dX9_read_15 : decode cX9_read 15 = .ok (.aload_n 0, 1) := by decide +kernel
theorem dX9_read_16 : decode cX9_read 16 = .ok (.invokevirtual 33, 3) := by decide +kernel
theorem dX9_read_19 : decode cX9_read 19 = .ok (.getfield 167, 3) := by decide +kernel
theorem dX9_read_22 : decode cX9_read 22 = .ok (.getfield 171, 3) := by decide +kernel
theorem dX9_read_25 : decode cX9_read 25 = .ok (.iload_n 1, 1) := by decide +kernel
theorem dX9_read_26 : decode cX9_read 26 = .ok (.invokestatic 176, 3) := by decide +kernel
theorem dX9_read_29 : decode cX9_read 29 = .ok (.ireturn, 1) := by decide +kernel
set_option maxRecDepth 20000 in
theorem ggX9_allowed_X9_counter : GoodIn wsX9_allowed wsX9_counter := goodIn_r _ [9, 10, 11, 12, 75, 76, 77, 78, 79, 80, 81, 82, 83, 84] (by decide +kernel) (by decide +kernel)
set_option maxRecDepth 20000 in
theorem gX9_allowed_X9_counter : GoodIn wsX9_allowed (wsV RX9 33 RX9 yX9_counter wsX9_counter) := goodIn_app (goodIn_of _ (by decide +kernel)) ggX9_allowed_X9_counter
set_option maxRecDepth 20000 in
theorem ggX9_allowed_X0_kindAt : GoodIn wsX9_allowed wsX0_kindAt := goodIn_r _ [17, 18, 19, 8, 20, 66, 67, 68, 69, 70, 71, 72, 73, 74] (by decide +kernel) (by decide +kernel)
set_option maxRecDepth 20000 in
theorem gX9_allowed_X0_kindAt : GoodIn wsX9_allowed (wsV RX9 137 RX0 yX0_kindAt wsX0_kindAt) := goodIn_app (goodIn_of _ (by decide +kernel)) ggX9_allowed_X0_kindAt
set_option maxRecDepth 20000 in
theorem ggX9_allowed_X9_within : GoodIn wsX9_allowed wsX9_within := goodIn_r _ [20] (by decide +kernel) (by decide +kernel)
set_option maxRecDepth 20000 in
theorem gX9_allowed_X9_within : GoodIn wsX9_allowed (va_wsS RX9 141 yX9_within wsX9_within) := goodIn_app (goodIn_of _ (by decide +kernel)) ggX9_allowed_X9_within
set_option maxRecDepth 20000 in
theorem ggX9_allowed_X7_leastCount : GoodIn wsX9_allowed wsX7_leastCount := goodIn_r _ [26, 27, 28, 29, 30, 31, 32, 33, 34, 35, 36, 37, 38, 39, 40, 41, 25, 42, 43, 44, 8, 45, 46, 47, 48, 49, 85, 86, 87, 88, 89] (by decide +kernel) (by decide +kernel)
set_option maxRecDepth 20000 in
theorem gX9_allowed_X7_leastCount : GoodIn wsX9_allowed (wsV RX9 179 RX7 yX7_leastCount wsX7_leastCount) := goodIn_app (goodIn_of _ (by decide +kernel)) ggX9_allowed_X7_leastCount
set_option maxRecDepth 20000 in
theorem ggX9_allowed_X7_greatestCount : GoodIn wsX9_allowed wsX7_greatestCount := goodIn_r _ [53, 27, 54, 55, 56, 25, 57, 43, 58, 59, 60, 61, 62, 63, 64, 35, 65, 37, 38, 44, 8, 45, 46, 47, 48, 49, 85, 86, 87, 88, 89] (by decide +kernel) (by decide +kernel)
set_option maxRecDepth 20000 in
theorem gX9_allowed_X7_greatestCount : GoodIn wsX9_allowed (wsV RX9 183 RX7 yX7_greatestCount wsX7_greatestCount) := goodIn_app (goodIn_of _ (by decide +kernel)) ggX9_allowed_X7_greatestCount
theorem dX9_allowed_0 : decode cX9_allowed 0 = .ok (.aload_n 0, 1) := by decide +kernel
theorem dX9_allowed_1 : decode cX9_allowed 1 = .ok (.invokevirtual 33, 3) := by decide +kernel
theorem dX9_allowed_4 : decode cX9_allowed 4 = .ok (.iload_n 2, 1) := by decide +kernel
theorem dX9_allowed_5 : decode cX9_allowed 5 = .ok (.invokevirtual 137, 3) := by decide +kernel
theorem dX9_allowed_8 : decode cX9_allowed 8 = .ok (.astore 4, 2) := by decide +kernel
theorem dX9_allowed_10 : decode cX9_allowed 10 = .ok (.iload_n 1, 1) := by decide +kernel
theorem dX9_allowed_11 : decode cX9_allowed 11 = .ok (.iconst 0, 1) := by decide +kernel
theorem dX9_allowed_12 : decode cX9_allowed 12 = .ok (.ldc 166, 2) := by decide +kernel
theorem dX9_allowed_14 : decode cX9_allowed 14 = .ok (.invokestatic 141, 3) := by decide +kernel
theorem dX9_allowed_17 : decode cX9_allowed 17 = .ok (.ifCond .eq 17, 3) := by decide +kernel
theorem dX9_allowed_20 : decode cX9_allowed 20 = .ok (.aload 4, 2) := by decide +kernel
theorem dX9_allowed_22 : decode cX9_allowed 22 = .ok (.ifnull 12, 3) := by decide +kernel
theorem dX9_allowed_25 : decode cX9_allowed 25 = .ok (.iload_n 3, 1) := by decide +kernel
theorem dX9_allowed_26 : decode cX9_allowed 26 = .ok (.iconst 0, 1) := by decide +kernel
theorem dX9_allowed_27 : decode cX9_allowed 27 = .ok (.iconst 2, 1) := by decide +kernel
theorem dX9_allowed_28 : decode cX9_allowed 28 = .ok (.invokestatic 141, 3) := by decide +kernel
theorem dX9_allowed_31 : decode cX9_allowed 31 = .ok (.ifCond .ne 6, 3) := by decide +kernel
theorem dX9_allowed_34 : decode cX9_allowed 34 = .ok (.ldc 145, 2) := by decide +kernel
theorem dX9_allowed_36 : decode cX9_allowed 36 = .ok (.ireturn, 1) := by decide +kernel
theorem dX9_allowed_37 : decode cX9_allowed 37 = .ok (.aload_n 0, 1) := by decide +kernel
theorem dX9_allowed_38 : decode cX9_allowed 38 = .ok (.invokevirtual 33, 3) := by decide +kernel
theorem dX9_allowed_41 : decode cX9_allowed 41 = .ok (.getfield 167, 3) := by decide +kernel
theorem dX9_allowed_44 : decode cX9_allowed 44 = .ok (.iload_n 1, 1) := by decide +kernel
theorem dX9_allowed_45 : decode cX9_allowed 45 = .ok (.aload 4, 2) := by decide +kernel
theorem dX9_allowed_47 : decode cX9_allowed 47 = .ok (.invokevirtual 179, 3) := by decide +kernel
theorem dX9_allowed_50 : decode cX9_allowed 50 = .ok (.istore 5, 2) := by decide +kernel
theorem dX9_allowed_52 : decode cX9_allowed 52 = .ok (.aload_n 0, 1) := by decide +kernel
theorem dX9_allowed_53 : decode cX9_allowed 53 = .ok (.invokevirtual 33, 3) := by decide +kernel
theorem dX9_allowed_56 : decode cX9_allowed 56 = .ok (.getfield 167, 3) := by decide +kernel
theorem dX9_allowed_59 : decode cX9_allowed 59 = .ok (.iload_n 1, 1) := by decide +kernel
theorem dX9_allowed_60 : decode cX9_allowed 60 = .ok (.aload 4, 2) := by decide +kernel
theorem dX9_allowed_62 : decode cX9_allowed 62 = .ok (.invokevirtual 183, 3) := by decide +kernel
theorem dX9_allowed_65 : decode cX9_allowed 65 = .ok (.istore 6, 2) := by decide +kernel
theorem dX9_allowed_67 : decode cX9_allowed 67 = .ok (.iload 5, 2) := by decide +kernel
theorem dX9_allowed_69 : decode cX9_allowed 69 = .ok (.iload 6, 2) := by decide +kernel
theorem dX9_allowed_71 : decode cX9_allowed 71 = .ok (.if_icmp .le 15, 3) := by decide +kernel
theorem dX9_allowed_74 : decode cX9_allowed 74 = .ok (.iload_n 3, 1) := by decide +kernel
theorem dX9_allowed_75 : decode cX9_allowed 75 = .ok (.iconst 2, 1) := by decide +kernel
theorem dX9_allowed_76 : decode cX9_allowed 76 = .ok (.if_icmp .ne 7, 3) := by decide +kernel
theorem dX9_allowed_79 : decode cX9_allowed 79 = .ok (.iconst 0, 1) := by decide +kernel
theorem dX9_allowed_80 : decode cX9_allowed 80 = .ok (.goto 5, 3) := by decide +kernel
theorem dX9_allowed_83 : decode cX9_allowed 83 = .ok (.ldc 186, 2) := by decide +kernel
theorem dX9_allowed_85 : decode cX9_allowed 85 = .ok (.ireturn, 1) := by decide +kernel
theorem dX9_allowed_86 : decode cX9_allowed 86 = .ok (.iload_n 3, 1) := by decide +kernel
theorem dX9_allowed_87 : decode cX9_allowed 87 = .ok (.lookupswitch 31 #[(0, 25), (1, 28)], 25) := by decide +kernel
theorem dX9_allowed_112 : decode cX9_allowed 112 = .ok (.iload 5, 2) := by decide +kernel
theorem dX9_allowed_114 : decode cX9_allowed 114 = .ok (.ireturn, 1) := by decide +kernel
theorem dX9_allowed_115 : decode cX9_allowed 115 = .ok (.iload 6, 2) := by decide +kernel
theorem dX9_allowed_117 : decode cX9_allowed 117 = .ok (.ireturn, 1) := by decide +kernel
theorem dX9_allowed_118 : decode cX9_allowed 118 = .ok (.iload 6, 2) := by decide +kernel
theorem dX9_allowed_120 : decode cX9_allowed 120 = .ok (.iload 5, 2) := by decide +kernel
theorem dX9_allowed_122 : decode cX9_allowed 122 = .ok (.isub, 1) := by decide +kernel
theorem dX9_allowed_123 : decode cX9_allowed 123 = .ok (.iconst 1, 1) := by decide +kernel
theorem dX9_allowed_124 : decode cX9_allowed 124 = .ok (.iadd, 1) := by decide +kernel
theorem dX9_allowed_125 : decode cX9_allowed 125 = .ok (.ireturn, 1) := by decide +kernel
set_option maxRecDepth 20000 in
theorem ggX9_guess_X9_counter : GoodIn wsX9_guess wsX9_counter := goodIn_r _ [8, 9, 10, 11, 87, 88, 89, 90, 91, 92, 93, 94, 95, 96] (by decide +kernel) (by decide +kernel)
set_option maxRecDepth 20000 in
theorem gX9_guess_X9_counter : GoodIn wsX9_guess (wsV RX9 33 RX9 yX9_counter wsX9_counter) := goodIn_app (goodIn_of _ (by decide +kernel)) ggX9_guess_X9_counter
set_option maxRecDepth 20000 in
theorem ggX9_guess_X0_kindAt : GoodIn wsX9_guess wsX0_kindAt := goodIn_r _ [16, 17, 18, 7, 19, 78, 79, 80, 81, 82, 83, 84, 85, 86] (by decide +kernel) (by decide +kernel)
set_option maxRecDepth 20000 in
theorem gX9_guess_X0_kindAt : GoodIn wsX9_guess (wsV RX9 137 RX0 yX0_kindAt wsX0_kindAt) := goodIn_app (goodIn_of _ (by decide +kernel)) ggX9_guess_X0_kindAt
set_option maxRecDepth 20000 in
theorem ggX9_guess_X9_within : GoodIn wsX9_guess wsX9_within := goodIn_r _ [19] (by decide +kernel) (by decide +kernel)
set_option maxRecDepth 20000 in
theorem gX9_guess_X9_within : GoodIn wsX9_guess (va_wsS RX9 141 yX9_within wsX9_within) := goodIn_app (goodIn_of _ (by decide +kernel)) ggX9_guess_X9_within
set_option maxRecDepth 20000 in
theorem ggX9_guess_X7_guessFrom : GoodIn wsX9_guess wsX7_guessFrom := goodIn_r _ [25, 26, 27, 28, 29, 30, 31, 32, 33, 34, 35, 36, 37, 24, 38, 39, 40, 41, 42, 43, 44, 45, 46, 47, 48, 49, 50, 51, 52, 7, 53, 54, 55, 56, 57, 58, 59, 60, 61, 62, 63, 64, 65, 66, 67, 68, 69, 70, 71, 72, 73, 74, 75, 76, 77, 97, 98, 99, 100, 101] (by decide +kernel) (by decide +kernel)
set_option maxRecDepth 20000 in
theorem gX9_guess_X7_guessFrom : GoodIn wsX9_guess (wsV RX9 187 RX7 yX7_guessFrom wsX7_guessFrom) := goodIn_app (goodIn_of _ (by decide +kernel)) ggX9_guess_X7_guessFrom
theorem dX9_guess_0 : decode cX9_guess 0 = .ok (.aload_n 0, 1) := by decide +kernel
theorem dX9_guess_1 : decode cX9_guess 1 = .ok (.invokevirtual 33, 3) := by decide +kernel
theorem dX9_guess_4 : decode cX9_guess 4 = .ok (.iload_n 2, 1) := by decide +kernel
theorem dX9_guess_5 : decode cX9_guess 5 = .ok (.invokevirtual 137, 3) := by decide +kernel
theorem dX9_guess_8 : decode cX9_guess 8 = .ok (.astore 4, 2) := by decide +kernel
theorem dX9_guess_10 : decode cX9_guess 10 = .ok (.iload_n 1, 1) := by decide +kernel
theorem dX9_guess_11 : decode cX9_guess 11 = .ok (.iconst 0, 1) := by decide +kernel
theorem dX9_guess_12 : decode cX9_guess 12 = .ok (.ldc 166, 2) := by decide +kernel
theorem dX9_guess_14 : decode cX9_guess 14 = .ok (.invokestatic 141, 3) := by decide +kernel
theorem dX9_guess_17 : decode cX9_guess 17 = .ok (.ifCond .eq 17, 3) := by decide +kernel
theorem dX9_guess_20 : decode cX9_guess 20 = .ok (.aload 4, 2) := by decide +kernel
theorem dX9_guess_22 : decode cX9_guess 22 = .ok (.ifnull 12, 3) := by decide +kernel
theorem dX9_guess_25 : decode cX9_guess 25 = .ok (.iload_n 3, 1) := by decide +kernel
theorem dX9_guess_26 : decode cX9_guess 26 = .ok (.iconst 0, 1) := by decide +kernel
theorem dX9_guess_27 : decode cX9_guess 27 = .ok (.iconst 3, 1) := by decide +kernel
theorem dX9_guess_28 : decode cX9_guess 28 = .ok (.invokestatic 141, 3) := by decide +kernel
theorem dX9_guess_31 : decode cX9_guess 31 = .ok (.ifCond .ne 6, 3) := by decide +kernel
theorem dX9_guess_34 : decode cX9_guess 34 = .ok (.ldc 145, 2) := by decide +kernel
theorem dX9_guess_36 : decode cX9_guess 36 = .ok (.ireturn, 1) := by decide +kernel
theorem dX9_guess_37 : decode cX9_guess 37 = .ok (.aload_n 0, 1) := by decide +kernel
theorem dX9_guess_38 : decode cX9_guess 38 = .ok (.invokevirtual 33, 3) := by decide +kernel
theorem dX9_guess_41 : decode cX9_guess 41 = .ok (.getfield 167, 3) := by decide +kernel
theorem dX9_guess_44 : decode cX9_guess 44 = .ok (.iload_n 1, 1) := by decide +kernel
theorem dX9_guess_45 : decode cX9_guess 45 = .ok (.aload 4, 2) := by decide +kernel
theorem dX9_guess_47 : decode cX9_guess 47 = .ok (.iload_n 3, 1) := by decide +kernel
theorem dX9_guess_48 : decode cX9_guess 48 = .ok (.invokevirtual 187, 3) := by decide +kernel
theorem dX9_guess_51 : decode cX9_guess 51 = .ok (.ireturn, 1) := by decide +kernel
set_option maxRecDepth 20000 in
theorem ggX9_apartUpTo_X9_counter : GoodIn wsX9_apartUpTo wsX9_counter := goodIn_r _ [7, 8, 9, 10, 63, 64, 65, 66, 67, 68, 69, 70, 71, 72] (by decide +kernel) (by decide +kernel)
set_option maxRecDepth 20000 in
theorem gX9_apartUpTo_X9_counter : GoodIn wsX9_apartUpTo (wsV RX9 33 RX9 yX9_counter wsX9_counter) := goodIn_app (goodIn_of _ (by decide +kernel)) ggX9_apartUpTo_X9_counter
set_option maxRecDepth 20000 in
theorem ggX9_apartUpTo_X0_kindAt : GoodIn wsX9_apartUpTo wsX0_kindAt := goodIn_r _ [15, 16, 17, 6, 18, 54, 55, 56, 57, 58, 59, 60, 61, 62] (by decide +kernel) (by decide +kernel)
set_option maxRecDepth 20000 in
theorem gX9_apartUpTo_X0_kindAt : GoodIn wsX9_apartUpTo (wsV RX9 137 RX0 yX0_kindAt wsX0_kindAt) := goodIn_app (goodIn_of _ (by decide +kernel)) ggX9_apartUpTo_X0_kindAt
set_option maxRecDepth 20000 in
theorem ggX9_apartUpTo_X7_lastApart : GoodIn wsX9_apartUpTo wsX7_lastApart := goodIn_r _ [23, 24, 25, 26, 27, 22, 28, 29, 30, 31, 32, 33, 34, 35, 36, 37, 6, 38, 39, 40, 41, 42, 43, 44, 45, 46, 47, 48, 49, 50, 51, 52, 53, 73, 74, 75, 76, 77] (by decide +kernel) (by decide +kernel)
set_option maxRecDepth 20000 in
theorem gX9_apartUpTo_X7_lastApart : GoodIn wsX9_apartUpTo (wsV RX9 191 RX7 yX7_lastApart wsX7_lastApart) := goodIn_app (goodIn_of _ (by decide +kernel)) ggX9_apartUpTo_X7_lastApart
theorem dX9_apartUpTo_0 : decode cX9_apartUpTo 0 = .ok (.aload_n 0, 1) := by decide +kernel
theorem dX9_apartUpTo_1 : decode cX9_apartUpTo 1 = .ok (.invokevirtual 33, 3) := by decide +kernel
theorem dX9_apartUpTo_4 : decode cX9_apartUpTo 4 = .ok (.iload_n 1, 1) := by decide +kernel
theorem dX9_apartUpTo_5 : decode cX9_apartUpTo 5 = .ok (.invokevirtual 137, 3) := by decide +kernel
theorem dX9_apartUpTo_8 : decode cX9_apartUpTo 8 = .ok (.astore_n 2, 1) := by decide +kernel
theorem dX9_apartUpTo_9 : decode cX9_apartUpTo 9 = .ok (.aload_n 2, 1) := by decide +kernel
theorem dX9_apartUpTo_10 : decode cX9_apartUpTo 10 = .ok (.ifnonnull 6, 3) := by decide +kernel
theorem dX9_apartUpTo_13 : decode cX9_apartUpTo 13 = .ok (.ldc 145, 2) := by decide +kernel
theorem dX9_apartUpTo_15 : decode cX9_apartUpTo 15 = .ok (.ireturn, 1) := by decide +kernel
theorem dX9_apartUpTo_16 : decode cX9_apartUpTo 16 = .ok (.aload_n 0, 1) := by decide +kernel
theorem dX9_apartUpTo_17 : decode cX9_apartUpTo 17 = .ok (.invokevirtual 33, 3) := by decide +kernel
theorem dX9_apartUpTo_20 : decode cX9_apartUpTo 20 = .ok (.getfield 167, 3) := by decide +kernel
theorem dX9_apartUpTo_23 : decode cX9_apartUpTo 23 = .ok (.aload_n 2, 1) := by decide +kernel
theorem dX9_apartUpTo_24 : decode cX9_apartUpTo 24 = .ok (.invokevirtual 191, 3) := by decide +kernel
theorem dX9_apartUpTo_27 : decode cX9_apartUpTo 27 = .ok (.ireturn, 1) := by decide +kernel
set_option maxRecDepth 20000 in
theorem ggX9_bestStep_X9_counter : GoodIn wsX9_bestStep wsX9_counter := goodIn_r _ [7, 8, 9, 10, 68, 69, 70, 71, 72, 73, 74, 75, 76, 77] (by decide +kernel) (by decide +kernel)
set_option maxRecDepth 20000 in
theorem gX9_bestStep_X9_counter : GoodIn wsX9_bestStep (wsV RX9 33 RX9 yX9_counter wsX9_counter) := goodIn_app (goodIn_of _ (by decide +kernel)) ggX9_bestStep_X9_counter
set_option maxRecDepth 20000 in
theorem ggX9_bestStep_X0_kindAt : GoodIn wsX9_bestStep wsX0_kindAt := goodIn_r _ [15, 16, 17, 6, 18, 59, 60, 61, 62, 63, 64, 65, 66, 67] (by decide +kernel) (by decide +kernel)
set_option maxRecDepth 20000 in
theorem gX9_bestStep_X0_kindAt : GoodIn wsX9_bestStep (wsV RX9 137 RX0 yX0_kindAt wsX0_kindAt) := goodIn_app (goodIn_of _ (by decide +kernel)) ggX9_bestStep_X0_kindAt
set_option maxRecDepth 20000 in
theorem ggX9_bestStep_X9_within : GoodIn wsX9_bestStep wsX9_within := goodIn_r _ [18] (by decide +kernel) (by decide +kernel)
set_option maxRecDepth 20000 in
theorem gX9_bestStep_X9_within : GoodIn wsX9_bestStep (va_wsS RX9 141 yX9_within wsX9_within) := goodIn_app (goodIn_of _ (by decide +kernel)) ggX9_bestStep_X9_within
set_option maxRecDepth 20000 in
theorem ggX9_bestStep_X7_greatestStep : GoodIn wsX9_bestStep wsX7_greatestStep := goodIn_r _ [24, 25, 26, 27, 28, 23, 29, 30, 31, 32, 33, 34, 35, 36, 37, 38, 39, 40, 41, 42, 6, 43, 44, 45, 46, 47, 48, 49, 50, 51, 52, 53, 54, 55, 56, 57, 58, 78, 79, 80, 81, 82] (by decide +kernel) (by decide +kernel)
set_option maxRecDepth 20000 in
theorem gX9_bestStep_X7_greatestStep : GoodIn wsX9_bestStep (wsV RX9 195 RX7 yX7_greatestStep wsX7_greatestStep) := goodIn_app (goodIn_of _ (by decide +kernel)) ggX9_bestStep_X7_greatestStep
theorem dX9_bestStep_0 : decode cX9_bestStep 0 = .ok (.aload_n 0, 1) := by decide +kernel
theorem dX9_bestStep_1 : decode cX9_bestStep 1 = .ok (.invokevirtual 33, 3) := by decide +kernel
theorem dX9_bestStep_4 : decode cX9_bestStep 4 = .ok (.iload_n 1, 1) := by decide +kernel
theorem dX9_bestStep_5 : decode cX9_bestStep 5 = .ok (.invokevirtual 137, 3) := by decide +kernel
theorem dX9_bestStep_8 : decode cX9_bestStep 8 = .ok (.astore_n 3, 1) := by decide +kernel
theorem dX9_bestStep_9 : decode cX9_bestStep 9 = .ok (.aload_n 3, 1) := by decide +kernel
theorem dX9_bestStep_10 : decode cX9_bestStep 10 = .ok (.ifnull 13, 3) := by decide +kernel
theorem dX9_bestStep_13 : decode cX9_bestStep 13 = .ok (.iload_n 2, 1) := by decide +kernel
theorem dX9_bestStep_14 : decode cX9_bestStep 14 = .ok (.iconst 0, 1) := by decide +kernel
theorem dX9_bestStep_15 : decode cX9_bestStep 15 = .ok (.bipush 99, 2) := by decide +kernel
theorem dX9_bestStep_17 : decode cX9_bestStep 17 = .ok (.invokestatic 141, 3) := by decide +kernel
theorem dX9_bestStep_20 : decode cX9_bestStep 20 = .ok (.ifCond .ne 6, 3) := by decide +kernel
theorem dX9_bestStep_23 : decode cX9_bestStep 23 = .ok (.ldc 145, 2) := by decide +kernel
theorem dX9_bestStep_25 : decode cX9_bestStep 25 = .ok (.ireturn, 1) := by decide +kernel
theorem dX9_bestStep_26 : decode cX9_bestStep 26 = .ok (.aload_n 0, 1) := by decide +kernel
theorem dX9_bestStep_27 : decode cX9_bestStep 27 = .ok (.invokevirtual 33, 3) := by decide +kernel
theorem dX9_bestStep_30 : decode cX9_bestStep 30 = .ok (.getfield 167, 3) := by decide +kernel
theorem dX9_bestStep_33 : decode cX9_bestStep 33 = .ok (.aload_n 3, 1) := by decide +kernel
theorem dX9_bestStep_34 : decode cX9_bestStep 34 = .ok (.iload_n 2, 1) := by decide +kernel
theorem dX9_bestStep_35 : decode cX9_bestStep 35 = .ok (.invokevirtual 195, 3) := by decide +kernel
theorem dX9_bestStep_38 : decode cX9_bestStep 38 = .ok (.ireturn, 1) := by decide +kernel
set_option maxRecDepth 20000 in
theorem ggX9_mixed_X9_counter : GoodIn wsX9_mixed wsX9_counter := goodIn_r _ [8, 9, 10, 11, 65, 66, 67, 68, 69, 70, 71, 72, 73, 74] (by decide +kernel) (by decide +kernel)
set_option maxRecDepth 20000 in
theorem gX9_mixed_X9_counter : GoodIn wsX9_mixed (wsV RX9 33 RX9 yX9_counter wsX9_counter) := goodIn_app (goodIn_of _ (by decide +kernel)) ggX9_mixed_X9_counter
set_option maxRecDepth 20000 in
theorem ggX9_mixed_X0_kindAt : GoodIn wsX9_mixed wsX0_kindAt := goodIn_r _ [16, 17, 18, 7, 19, 56, 57, 58, 59, 60, 61, 62, 63, 64] (by decide +kernel) (by decide +kernel)
set_option maxRecDepth 20000 in
theorem gX9_mixed_X0_kindAt : GoodIn wsX9_mixed (wsV RX9 137 RX0 yX0_kindAt wsX0_kindAt) := goodIn_app (goodIn_of _ (by decide +kernel)) ggX9_mixed_X0_kindAt
set_option maxRecDepth 20000 in
theorem ggX9_mixed_X9_within : GoodIn wsX9_mixed wsX9_within := goodIn_r _ [19] (by decide +kernel) (by decide +kernel)
set_option maxRecDepth 20000 in
theorem gX9_mixed_X9_within : GoodIn wsX9_mixed (va_wsS RX9 141 yX9_within wsX9_within) := goodIn_app (goodIn_of _ (by decide +kernel)) ggX9_mixed_X9_within
set_option maxRecDepth 20000 in
theorem ggX9_mixed_X7_mixedPairs : GoodIn wsX9_mixed wsX7_mixedPairs := goodIn_r _ [25, 26, 27, 28, 29, 24, 30, 31, 32, 33, 34, 35, 36, 37, 38, 39, 40, 41, 42, 43, 44, 45, 46, 47, 48, 49, 50, 51, 52, 53, 54, 55, 75, 76, 77, 78, 79] (by decide +kernel) (by decide +kernel)
set_option maxRecDepth 20000 in
theorem gX9_mixed_X7_mixedPairs : GoodIn wsX9_mixed (wsV RX9 199 RX7 yX7_mixedPairs wsX7_mixedPairs) := goodIn_app (goodIn_of _ (by decide +kernel)) ggX9_mixed_X7_mixedPairs
theorem dX9_mixed_0 : decode cX9_mixed 0 = .ok (.aload_n 0, 1) := by decide +kernel
theorem dX9_mixed_1 : decode cX9_mixed 1 = .ok (.invokevirtual 33, 3) := by decide +kernel
theorem dX9_mixed_4 : decode cX9_mixed 4 = .ok (.iload_n 1, 1) := by decide +kernel
theorem dX9_mixed_5 : decode cX9_mixed 5 = .ok (.invokevirtual 137, 3) := by decide +kernel
theorem dX9_mixed_8 : decode cX9_mixed 8 = .ok (.astore 5, 2) := by decide +kernel
theorem dX9_mixed_10 : decode cX9_mixed 10 = .ok (.aload_n 0, 1) := by decide +kernel
theorem dX9_mixed_11 : decode cX9_mixed 11 = .ok (.invokevirtual 33, 3) := by decide +kernel
theorem dX9_mixed_14 : decode cX9_mixed 14 = .ok (.iload_n 2, 1) := by decide +kernel
theorem dX9_mixed_15 : decode cX9_mixed 15 = .ok (.invokevirtual 137, 3) := by decide +kernel
theorem dX9_mixed_18 : decode cX9_mixed 18 = .ok (.astore 6, 2) := by decide +kernel
theorem dX9_mixed_20 : decode cX9_mixed 20 = .ok (.aload 5, 2) := by decide +kernel
theorem dX9_mixed_22 : decode cX9_mixed 22 = .ok (.ifnull 13, 3) := by decide +kernel
theorem dX9_mixed_25 : decode cX9_mixed 25 = .ok (.aload 6, 2) := by decide +kernel
theorem dX9_mixed_27 : decode cX9_mixed 27 = .ok (.ifnull 8, 3) := by decide +kernel
theorem dX9_mixed_30 : decode cX9_mixed 30 = .ok (.iload_n 1, 1) := by decide +kernel
theorem dX9_mixed_31 : decode cX9_mixed 31 = .ok (.iload_n 2, 1) := by decide +kernel
theorem dX9_mixed_32 : decode cX9_mixed 32 = .ok (.if_icmp .ne 6, 3) := by decide +kernel
theorem dX9_mixed_35 : decode cX9_mixed 35 = .ok (.ldc 145, 2) := by decide +kernel
theorem dX9_mixed_37 : decode cX9_mixed 37 = .ok (.ireturn, 1) := by decide +kernel
theorem dX9_mixed_38 : decode cX9_mixed 38 = .ok (.iload_n 3, 1) := by decide +kernel
theorem dX9_mixed_39 : decode cX9_mixed 39 = .ok (.iconst 0, 1) := by decide +kernel
theorem dX9_mixed_40 : decode cX9_mixed 40 = .ok (.ldc 166, 2) := by decide +kernel
theorem dX9_mixed_42 : decode cX9_mixed 42 = .ok (.invokestatic 141, 3) := by decide +kernel
theorem dX9_mixed_45 : decode cX9_mixed 45 = .ok (.ifCond .eq 13, 3) := by decide +kernel
theorem dX9_mixed_48 : decode cX9_mixed 48 = .ok (.iload 4, 2) := by decide +kernel
theorem dX9_mixed_50 : decode cX9_mixed 50 = .ok (.iconst 0, 1) := by decide +kernel
theorem dX9_mixed_51 : decode cX9_mixed 51 = .ok (.iconst 2, 1) := by decide +kernel
theorem dX9_mixed_52 : decode cX9_mixed 52 = .ok (.invokestatic 141, 3) := by decide +kernel
theorem dX9_mixed_55 : decode cX9_mixed 55 = .ok (.ifCond .ne 6, 3) := by decide +kernel
theorem dX9_mixed_58 : decode cX9_mixed 58 = .ok (.ldc 145, 2) := by decide +kernel
theorem dX9_mixed_60 : decode cX9_mixed 60 = .ok (.ireturn, 1) := by decide +kernel
theorem dX9_mixed_61 : decode cX9_mixed 61 = .ok (.aload_n 0, 1) := by decide +kernel
theorem dX9_mixed_62 : decode cX9_mixed 62 = .ok (.invokevirtual 33, 3) := by decide +kernel
theorem dX9_mixed_65 : decode cX9_mixed 65 = .ok (.getfield 167, 3) := by decide +kernel
theorem dX9_mixed_68 : decode cX9_mixed 68 = .ok (.aload 5, 2) := by decide +kernel
theorem dX9_mixed_70 : decode cX9_mixed 70 = .ok (.aload 6, 2) := by decide +kernel
theorem dX9_mixed_72 : decode cX9_mixed 72 = .ok (.iload_n 3, 1) := by decide +kernel
theorem dX9_mixed_73 : decode cX9_mixed 73 = .ok (.iload 4, 2) := by decide +kernel
theorem dX9_mixed_75 : decode cX9_mixed 75 = .ok (.invokevirtual 199, 3) := by decide +kernel
theorem dX9_mixed_78 : decode cX9_mixed 78 = .ok (.ireturn, 1) := by decide +kernel
set_option maxRecDepth 20000 in
theorem ggX9_would_X9_within : GoodIn wsX9_would wsX9_within := goodIn_r _ [5] (by decide +kernel) (by decide +kernel)
set_option maxRecDepth 20000 in
theorem gX9_would_X9_within : GoodIn wsX9_would (va_wsS RX9 141 yX9_within wsX9_within) := goodIn_app (goodIn_of _ (by decide +kernel)) ggX9_would_X9_within
set_option maxRecDepth 20000 in
theorem ggX9_would_X9_counter : GoodIn wsX9_would wsX9_counter := goodIn_r _ [9, 10, 11, 12, 88, 89, 90, 91, 92, 93, 94, 95, 96, 97] (by decide +kernel) (by decide +kernel)
set_option maxRecDepth 20000 in
theorem gX9_would_X9_counter : GoodIn wsX9_would (wsV RX9 33 RX9 yX9_counter wsX9_counter) := goodIn_app (goodIn_of _ (by decide +kernel)) ggX9_would_X9_counter
set_option maxRecDepth 20000 in
theorem ggX9_would_X0_given : GoodIn wsX9_would wsX0_given := goodIn_r _ [17, 18, 19, 20, 21, 22, 23, 24, 25, 26, 27, 28, 16, 29, 30, 3, 4, 5, 31, 32, 33, 34, 35, 36, 37, 38, 39, 40, 41, 42, 43, 44, 45, 46, 47, 48, 49, 50, 51, 52, 53, 54, 55, 56, 57, 58, 59, 60, 61, 62, 63, 64, 65, 66, 67, 68, 69, 70, 71, 72, 73, 74, 75, 76, 77, 78, 79, 80, 81, 82, 83, 84, 85, 86, 87, 98, 99, 100, 101, 102, 103, 104, 105, 106, 107, 108, 109, 110, 111, 112, 113, 114, 115, 116, 117] (by decide +kernel) (by decide +kernel)
set_option maxRecDepth 20000 in
theorem gX9_would_X0_given : GoodIn wsX9_would (wsV RX9 203 RX0 yX0_given wsX0_given) := goodIn_app (goodIn_of _ (by decide +kernel)) ggX9_would_X0_given
theorem dX9_would_0 : decode cX9_would 0 = .ok (.iload_n 1, 1) := by decide +kernel
theorem dX9_would_1 : decode cX9_would 1 = .ok (.iconst 0, 1) := by decide +kernel
theorem dX9_would_2 : decode cX9_would 2 = .ok (.iconst 3, 1) := by decide +kernel
theorem dX9_would_3 : decode cX9_would 3 = .ok (.invokestatic 141, 3) := by decide +kernel
theorem dX9_would_6 : decode cX9_would 6 = .ok (.ifCond .ne 6, 3) := by decide +kernel
theorem dX9_would_9 : decode cX9_would 9 = .ok (.ldc 145, 2) := by decide +kernel
theorem dX9_would_11 : decode cX9_would 11 = .ok (.ireturn, 1) := by decide +kernel
theorem dX9_would_12 : decode cX9_would 12 = .ok (.aload_n 0, 1) := by decide +kernel
theorem dX9_would_13 : decode cX9_would 13 = .ok (.invokevirtual 33, 3) := by decide +kernel
theorem dX9_would_16 : decode cX9_would 16 = .ok (.iload_n 1, 1) := by decide +kernel
theorem dX9_would_17 : decode cX9_would 17 = .ok (.invokevirtual 203, 3) := by decide +kernel
theorem dX9_would_20 : decode cX9_would 20 = .ok (.ireturn, 1) := by decide +kernel
set_option maxRecDepth 20000 in
theorem ggX9_fairest_X9_counter : GoodIn wsX9_fairest wsX9_counter := goodIn_r _ [5, 6, 7, 8, 93, 94, 95, 96, 97, 98, 99, 100, 101, 102] (by decide +kernel) (by decide +kernel)
set_option maxRecDepth 20000 in
theorem gX9_fairest_X9_counter : GoodIn wsX9_fairest (wsV RX9 33 RX9 yX9_counter wsX9_counter) := goodIn_app (goodIn_of _ (by decide +kernel)) ggX9_fairest_X9_counter
set_option maxRecDepth 20000 in
theorem ggX9_fairest_X0_fairestRule : GoodIn wsX9_fairest wsX0_fairestRule := goodIn_r _ [13, 14, 15, 16, 17, 18, 19, 20, 21, 22, 12, 23, 24, 25, 26, 27, 28, 29, 30, 31, 32, 33, 34, 35, 4, 36, 37, 38, 39, 40, 41, 42, 43, 44, 45, 46, 47, 48, 49, 50, 51, 52, 53, 54, 55, 56, 57, 58, 59, 60, 61, 62, 63, 64, 65, 66, 67, 68, 69, 70, 71, 72, 73, 74, 75, 76, 77, 78, 79, 80, 81, 82, 83, 84, 85, 86, 87, 88, 89, 90, 91, 92, 103, 104, 105, 106, 107, 108, 109, 110, 111, 112, 113, 114, 115, 116, 117, 118, 119, 120, 121, 122] (by decide +kernel) (by decide +kernel)
set_option maxRecDepth 20000 in
theorem gX9_fairest_X0_fairestRule : GoodIn wsX9_fairest (wsV RX9 206 RX0 yX0_fairestRule wsX0_fairestRule) := goodIn_app (goodIn_of _ (by decide +kernel)) ggX9_fairest_X0_fairestRule
theorem dX9_fairest_0 : decode cX9_fairest 0 = .ok (.aload_n 0, 1) := by decide +kernel
theorem dX9_fairest_1 : decode cX9_fairest 1 = .ok (.invokevirtual 33, 3) := by decide +kernel
theorem dX9_fairest_4 : decode cX9_fairest 4 = .ok (.invokevirtual 206, 3) := by decide +kernel
theorem dX9_fairest_7 : decode cX9_fairest 7 = .ok (.ireturn, 1) := by decide +kernel
set_option maxRecDepth 20000 in
theorem ggX9_soldOut_X9_counter : GoodIn wsX9_soldOut wsX9_counter := goodIn_r _ [7, 8, 9, 10, 51, 52, 53, 54, 55, 56, 57, 58, 59, 60] (by decide +kernel) (by decide +kernel)
set_option maxRecDepth 20000 in
theorem gX9_soldOut_X9_counter : GoodIn wsX9_soldOut (wsV RX9 33 RX9 yX9_counter wsX9_counter) := goodIn_app (goodIn_of _ (by decide +kernel)) ggX9_soldOut_X9_counter
set_option maxRecDepth 20000 in
theorem ggX9_soldOut_X0_prizeAt : GoodIn wsX9_soldOut wsX0_prizeAt := goodIn_r _ [15, 16, 17, 18, 6, 19, 61, 62, 63, 64, 65, 66, 67, 68, 69] (by decide +kernel) (by decide +kernel)
set_option maxRecDepth 20000 in
theorem gX9_soldOut_X0_prizeAt : GoodIn wsX9_soldOut (wsV RX9 161 RX0 yX0_prizeAt wsX0_prizeAt) := goodIn_app (goodIn_of _ (by decide +kernel)) ggX9_soldOut_X0_prizeAt
set_option maxRecDepth 20000 in
theorem ggX9_soldOut_X5_copyFrom : GoodIn wsX9_soldOut wsX5_copyFrom := goodIn_r _ [24, 25, 26, 27, 28, 29, 30, 31, 70, 71, 72, 73, 74, 75, 76] (by decide +kernel) (by decide +kernel)
set_option maxRecDepth 20000 in
theorem gX9_soldOut_X5_copyFrom : GoodIn wsX9_soldOut (wsV RX9 209 RX5 yX5_copyFrom wsX5_copyFrom) := goodIn_app (goodIn_of _ (by decide +kernel)) ggX9_soldOut_X5_copyFrom
set_option maxRecDepth 20000 in
theorem ggX9_soldOut_X5_sellOut : GoodIn wsX9_soldOut wsX5_sellOut := goodIn_r _ [35, 27, 36, 37, 38, 39, 23, 40, 30, 26, 28, 31, 29, 41, 42, 43, 44, 45, 6, 46, 47, 48, 49, 50, 70, 71, 72, 73, 74, 75, 76] (by decide +kernel) (by decide +kernel)
set_option maxRecDepth 20000 in
theorem gX9_soldOut_X5_sellOut : GoodIn wsX9_soldOut (wsV RX9 213 RX5 yX5_sellOut wsX5_sellOut) := goodIn_app (goodIn_of _ (by decide +kernel)) ggX9_soldOut_X5_sellOut
theorem dX9_soldOut_0 : decode cX9_soldOut 0 = .ok (.aload_n 0, 1) := by decide +kernel
theorem dX9_soldOut_1 : decode cX9_soldOut 1 = .ok (.invokevirtual 33, 3) := by decide +kernel
theorem dX9_soldOut_4 : decode cX9_soldOut 4 = .ok (.iload_n 1, 1) := by decide +kernel
theorem dX9_soldOut_5 : decode cX9_soldOut 5 = .ok (.invokevirtual 161, 3) := by decide +kernel
theorem dX9_soldOut_8 : decode cX9_soldOut 8 = .ok (.astore_n 2, 1) := by decide +kernel
theorem dX9_soldOut_9 : decode cX9_soldOut 9 = .ok (.aload_n 2, 1) := by decide +kernel
theorem dX9_soldOut_10 : decode cX9_soldOut 10 = .ok (.ifnonnull 6, 3) := by decide +kernel
theorem dX9_soldOut_13 : decode cX9_soldOut 13 = .ok (.ldc 145, 2) := by decide +kernel
theorem dX9_soldOut_15 : decode cX9_soldOut 15 = .ok (.ireturn, 1) := by decide +kernel
theorem dX9_soldOut_16 : decode cX9_soldOut 16 = .ok (.aload_n 0, 1) := by decide +kernel
theorem dX9_soldOut_17 : decode cX9_soldOut 17 = .ok (.getfield 26, 3) := by decide +kernel
theorem dX9_soldOut_20 : decode cX9_soldOut 20 = .ok (.aload_n 2, 1) := by decide +kernel
theorem dX9_soldOut_21 : decode cX9_soldOut 21 = .ok (.invokevirtual 209, 3) := by decide +kernel
theorem dX9_soldOut_24 : decode cX9_soldOut 24 = .ok (.aload_n 0, 1) := by decide +kernel
theorem dX9_soldOut_25 : decode cX9_soldOut 25 = .ok (.getfield 26, 3) := by decide +kernel
theorem dX9_soldOut_28 : decode cX9_soldOut 28 = .ok (.invokevirtual 213, 3) := by decide +kernel
theorem dX9_soldOut_31 : decode cX9_soldOut 31 = .ok (.ireturn, 1) := by decide +kernel
set_option maxRecDepth 20000 in
theorem ggX9_shop_X9_counter : GoodIn wsX9_shop wsX9_counter := goodIn_r _ [7, 8, 9, 10, 58, 59, 60, 61, 62, 63, 64, 65, 66, 67] (by decide +kernel) (by decide +kernel)
set_option maxRecDepth 20000 in
theorem gX9_shop_X9_counter : GoodIn wsX9_shop (wsV RX9 33 RX9 yX9_counter wsX9_counter) := goodIn_app (goodIn_of _ (by decide +kernel)) ggX9_shop_X9_counter
set_option maxRecDepth 20000 in
theorem ggX9_shop_X0_customerAt : GoodIn wsX9_shop wsX0_customerAt := goodIn_r _ [15, 16, 17, 18, 6, 19, 68, 69, 70, 71, 72, 73, 74, 75, 76] (by decide +kernel) (by decide +kernel)
set_option maxRecDepth 20000 in
theorem gX9_shop_X0_customerAt : GoodIn wsX9_shop (wsV RX9 154 RX0 yX0_customerAt wsX0_customerAt) := goodIn_app (goodIn_of _ (by decide +kernel)) ggX9_shop_X0_customerAt
set_option maxRecDepth 20000 in
theorem ggX9_shop_X9_within : GoodIn wsX9_shop wsX9_within := goodIn_r _ [19] (by decide +kernel) (by decide +kernel)
set_option maxRecDepth 20000 in
theorem gX9_shop_X9_within : GoodIn wsX9_shop (va_wsS RX9 141 yX9_within wsX9_within) := goodIn_app (goodIn_of _ (by decide +kernel)) ggX9_shop_X9_within
set_option maxRecDepth 20000 in
theorem ggX9_shop_X0_shopWith : GoodIn wsX9_shop wsX0_shopWith := goodIn_r _ [24, 25, 26, 27, 28, 29, 30, 31, 32, 33, 34, 14, 35, 36, 37, 38, 39, 40, 41, 42, 43, 44, 45, 18, 6, 19, 46, 47, 48, 49, 50, 51, 77, 78, 79, 80, 81, 82, 83, 68, 69, 70, 71, 72, 73, 74, 75, 76] (by decide +kernel) (by decide +kernel)
set_option maxRecDepth 20000 in
theorem gX9_shop_X0_shopWith : GoodIn wsX9_shop (wsV RX9 219 RX0 yX0_shopWith wsX0_shopWith) := goodIn_app (goodIn_of _ (by decide +kernel)) ggX9_shop_X0_shopWith
theorem dX9_shop_0 : decode cX9_shop 0 = .ok (.aload_n 0, 1) := by decide +kernel
theorem dX9_shop_1 : decode cX9_shop 1 = .ok (.invokevirtual 33, 3) := by decide +kernel
theorem dX9_shop_4 : decode cX9_shop 4 = .ok (.iload_n 1, 1) := by decide +kernel
theorem dX9_shop_5 : decode cX9_shop 5 = .ok (.invokevirtual 154, 3) := by decide +kernel
theorem dX9_shop_8 : decode cX9_shop 8 = .ok (.astore_n 3, 1) := by decide +kernel
theorem dX9_shop_9 : decode cX9_shop 9 = .ok (.aload_n 3, 1) := by decide +kernel
theorem dX9_shop_10 : decode cX9_shop 10 = .ok (.ifnull 12, 3) := by decide +kernel
theorem dX9_shop_13 : decode cX9_shop 13 = .ok (.iload_n 2, 1) := by decide +kernel
theorem dX9_shop_14 : decode cX9_shop 14 = .ok (.iconst 0, 1) := by decide +kernel
theorem dX9_shop_15 : decode cX9_shop 15 = .ok (.iconst 2, 1) := by decide +kernel
theorem dX9_shop_16 : decode cX9_shop 16 = .ok (.invokestatic 141, 3) := by decide +kernel
theorem dX9_shop_19 : decode cX9_shop 19 = .ok (.ifCond .ne 6, 3) := by decide +kernel
theorem dX9_shop_22 : decode cX9_shop 22 = .ok (.ldc 145, 2) := by decide +kernel
theorem dX9_shop_24 : decode cX9_shop 24 = .ok (.ireturn, 1) := by decide +kernel
theorem dX9_shop_25 : decode cX9_shop 25 = .ok (.aload_n 0, 1) := by decide +kernel
theorem dX9_shop_26 : decode cX9_shop 26 = .ok (.invokevirtual 33, 3) := by decide +kernel
theorem dX9_shop_29 : decode cX9_shop 29 = .ok (.aload_n 3, 1) := by decide +kernel
theorem dX9_shop_30 : decode cX9_shop 30 = .ok (.getfield 216, 3) := by decide +kernel
theorem dX9_shop_33 : decode cX9_shop 33 = .ok (.iload_n 2, 1) := by decide +kernel
theorem dX9_shop_34 : decode cX9_shop 34 = .ok (.invokevirtual 219, 3) := by decide +kernel
theorem dX9_shop_37 : decode cX9_shop 37 = .ok (.ireturn, 1) := by decide +kernel
theorem dX9_counter_0 : decode cX9_counter 0 = .ok (.aload_n 0, 1) := by decide +kernel
theorem dX9_counter_1 : decode cX9_counter 1 = .ok (.getfield 10, 3) := by decide +kernel
theorem dX9_counter_4 : decode cX9_counter 4 = .ok (.getfield 86, 3) := by decide +kernel
theorem dX9_counter_7 : decode cX9_counter 7 = .ok (.getfield 222, 3) := by decide +kernel
theorem dX9_counter_10 : decode cX9_counter 10 = .ok (.areturn, 1) := by decide +kernel
theorem dX9_within_0 : decode cX9_within 0 = .ok (.iload_n 0, 1) := by decide +kernel
theorem dX9_within_1 : decode cX9_within 1 = .ok (.iload_n 1, 1) := by decide +kernel
theorem dX9_within_2 : decode cX9_within 2 = .ok (.if_icmp .lt 12, 3) := by decide +kernel
theorem dX9_within_5 : decode cX9_within 5 = .ok (.iload_n 0, 1) := by decide +kernel
theorem dX9_within_6 : decode cX9_within 6 = .ok (.iload_n 2, 1) := by decide +kernel
theorem dX9_within_7 : decode cX9_within 7 = .ok (.if_icmp .gt 7, 3) := by decide +kernel
theorem dX9_within_10 : decode cX9_within 10 = .ok (.iconst 1, 1) := by decide +kernel
theorem dX9_within_11 : decode cX9_within 11 = .ok (.goto 4, 3) := by decide +kernel
theorem dX9_within_14 : decode cX9_within 14 = .ok (.iconst 0, 1) := by decide +kernel
theorem dX9_within_15 : decode cX9_within 15 = .ok (.ireturn, 1) := by decide +kernel
theorem dX9_isError_0 : decode cX9_isError 0 = .ok (.iload_n 0, 1) := by decide +kernel
theorem dX9_isError_1 : decode cX9_isError 1 = .ok (.ldc 145, 2) := by decide +kernel
theorem dX9_isError_3 : decode cX9_isError 3 = .ok (.if_icmp .eq 15, 3) := by decide +kernel
theorem dX9_isError_6 : decode cX9_isError 6 = .ok (.iload_n 0, 1) := by decide +kernel
theorem dX9_isError_7 : decode cX9_isError 7 = .ok (.ldc 225, 2) := by decide +kernel
theorem dX9_isError_9 : decode cX9_isError 9 = .ok (.if_icmp .eq 9, 3) := by decide +kernel
theorem dX9_isError_12 : decode cX9_isError 12 = .ok (.iload_n 0, 1) := by decide +kernel
theorem dX9_isError_13 : decode cX9_isError 13 = .ok (.ldc 226, 2) := by decide +kernel
theorem dX9_isError_15 : decode cX9_isError 15 = .ok (.if_icmp .ne 7, 3) := by decide +kernel
theorem dX9_isError_18 : decode cX9_isError 18 = .ok (.iconst 1, 1) := by decide +kernel
theorem dX9_isError_19 : decode cX9_isError 19 = .ok (.goto 4, 3) := by decide +kernel
theorem dX9_isError_22 : decode cX9_isError 22 = .ok (.iconst 0, 1) := by decide +kernel
theorem dX9_isError_23 : decode cX9_isError 23 = .ok (.ireturn, 1) := by decide +kernel
set_option maxRecDepth 20000 in
theorem ggX9_quotient_J9_floorDiv_7cf53 : GoodIn wsX9_quotient wsJ9_floorDiv_7cf53 := goodIn_r _ [4] (by decide +kernel) (by decide +kernel)
set_option maxRecDepth 20000 in
theorem gX9_quotient_J9_floorDiv_7cf53 : GoodIn wsX9_quotient (va_wsS RX9 227 yJ9_floorDiv_7cf53 wsJ9_floorDiv_7cf53) := goodIn_app (goodIn_of _ (by decide +kernel)) ggX9_quotient_J9_floorDiv_7cf53
theorem dX9_quotient_0 : decode cX9_quotient 0 = .ok (.iload_n 1, 1) := by decide +kernel
theorem dX9_quotient_1 : decode cX9_quotient 1 = .ok (.iconst 1, 1) := by decide +kernel
theorem dX9_quotient_2 : decode cX9_quotient 2 = .ok (.if_icmp .ge 5, 3) := by decide +kernel
theorem dX9_quotient_5 : decode cX9_quotient 5 = .ok (.iconst 0, 1) := by decide +kernel
theorem dX9_quotient_6 : decode cX9_quotient 6 = .ok (.ireturn, 1) := by decide +kernel
theorem dX9_quotient_7 : decode cX9_quotient 7 = .ok (.iload_n 0, 1) := by decide +kernel
theorem dX9_quotient_8 : decode cX9_quotient 8 = .ok (.iload_n 1, 1) := by decide +kernel
theorem dX9_quotient_9 : decode cX9_quotient 9 = .ok (.invokestatic 227, 3) := by decide +kernel
theorem dX9_quotient_12 : decode cX9_quotient 12 = .ok (.ireturn, 1) := by decide +kernel
set_option maxRecDepth 20000 in
theorem ggX9_readingAt_X9_quotient : GoodIn wsX9_readingAt wsX9_quotient := goodIn_r _ [8, 9, 10, 11, 12] (by decide +kernel) (by decide +kernel)
set_option maxRecDepth 20000 in
theorem gX9_readingAt_X9_quotient : GoodIn wsX9_readingAt (va_wsS RX9 232 yX9_quotient wsX9_quotient) := goodIn_app (goodIn_of _ (by decide +kernel)) ggX9_readingAt_X9_quotient
theorem dX9_readingAt_0 : decode cX9_readingAt 0 = .ok (.iconst 0, 1) := by decide +kernel
theorem dX9_readingAt_1 : decode cX9_readingAt 1 = .ok (.iload_n 0, 1) := by decide +kernel
theorem dX9_readingAt_2 : decode cX9_readingAt 2 = .ok (.iconst 2, 1) := by decide +kernel
theorem dX9_readingAt_3 : decode cX9_readingAt 3 = .ok (.iload_n 1, 1) := by decide +kernel
theorem dX9_readingAt_4 : decode cX9_readingAt 4 = .ok (.imul, 1) := by decide +kernel
theorem dX9_readingAt_5 : decode cX9_readingAt 5 = .ok (.iload_n 0, 1) := by decide +kernel
theorem dX9_readingAt_6 : decode cX9_readingAt 6 = .ok (.iadd, 1) := by decide +kernel
theorem dX9_readingAt_7 : decode cX9_readingAt 7 = .ok (.iconst 2, 1) := by decide +kernel
theorem dX9_readingAt_8 : decode cX9_readingAt 8 = .ok (.iload_n 0, 1) := by decide +kernel
theorem dX9_readingAt_9 : decode cX9_readingAt 9 = .ok (.imul, 1) := by decide +kernel
theorem dX9_readingAt_10 : decode cX9_readingAt 10 = .ok (.invokestatic 232, 3) := by decide +kernel
theorem dX9_readingAt_13 : decode cX9_readingAt 13 = .ok (.imul, 1) := by decide +kernel
theorem dX9_readingAt_14 : decode cX9_readingAt 14 = .ok (.invokestatic 235, 3) := by decide +kernel
theorem dX9_readingAt_17 : decode cX9_readingAt 17 = .ok (.ireturn, 1) := by decide +kernel
theorem dJ9_floorDiv_7cf53_0 : decode cJ9_floorDiv_7cf53 0 = .ok (.iload_n 0, 1) := by decide +kernel
theorem dJ9_floorDiv_7cf53_1 : decode cJ9_floorDiv_7cf53 1 = .ok (.iload_n 1, 1) := by decide +kernel
theorem dJ9_floorDiv_7cf53_2 : decode cJ9_floorDiv_7cf53 2 = .ok (.idiv, 1) := by decide +kernel
theorem dJ9_floorDiv_7cf53_3 : decode cJ9_floorDiv_7cf53 3 = .ok (.istore_n 2, 1) := by decide +kernel
theorem dJ9_floorDiv_7cf53_4 : decode cJ9_floorDiv_7cf53 4 = .ok (.iload_n 0, 1) := by decide +kernel
theorem dJ9_floorDiv_7cf53_5 : decode cJ9_floorDiv_7cf53 5 = .ok (.iload_n 1, 1) := by decide +kernel
theorem dJ9_floorDiv_7cf53_6 : decode cJ9_floorDiv_7cf53 6 = .ok (.ixor, 1) := by decide +kernel
theorem dJ9_floorDiv_7cf53_7 : decode cJ9_floorDiv_7cf53 7 = .ok (.ifCond .ge 14, 3) := by decide +kernel
theorem dJ9_floorDiv_7cf53_10 : decode cJ9_floorDiv_7cf53 10 = .ok (.iload_n 2, 1) := by decide +kernel
theorem dJ9_floorDiv_7cf53_11 : decode cJ9_floorDiv_7cf53 11 = .ok (.iload_n 1, 1) := by decide +kernel
theorem dJ9_floorDiv_7cf53_12 : decode cJ9_floorDiv_7cf53 12 = .ok (.imul, 1) := by decide +kernel
theorem dJ9_floorDiv_7cf53_13 : decode cJ9_floorDiv_7cf53 13 = .ok (.iload_n 0, 1) := by decide +kernel
theorem dJ9_floorDiv_7cf53_14 : decode cJ9_floorDiv_7cf53 14 = .ok (.if_icmp .eq 7, 3) := by decide +kernel
theorem dJ9_floorDiv_7cf53_17 : decode cJ9_floorDiv_7cf53 17 = .ok (.iload_n 2, 1) := by decide +kernel
theorem dJ9_floorDiv_7cf53_18 : decode cJ9_floorDiv_7cf53 18 = .ok (.iconst 1, 1) := by decide +kernel
theorem dJ9_floorDiv_7cf53_19 : decode cJ9_floorDiv_7cf53 19 = .ok (.isub, 1) := by decide +kernel
theorem dJ9_floorDiv_7cf53_20 : decode cJ9_floorDiv_7cf53 20 = .ok (.ireturn, 1) := by decide +kernel
theorem dJ9_floorDiv_7cf53_21 : decode cJ9_floorDiv_7cf53 21 = .ok (.iload_n 2, 1) := by decide +kernel
theorem dJ9_floorDiv_7cf53_22 : decode cJ9_floorDiv_7cf53 22 = .ok (.ireturn, 1) := by decide +kernel
theorem dJ9_abs_0f7a4_0 : decode cJ9_abs_0f7a4 0 = .ok (.iload_n 0, 1) := by decide +kernel
theorem dJ9_abs_0f7a4_1 : decode cJ9_abs_0f7a4 1 = .ok (.ifCond .ge 8, 3) := by decide +kernel
theorem dJ9_abs_0f7a4_4 : decode cJ9_abs_0f7a4 4 = .ok (.iload_n 0, 1) := by decide +kernel
theorem dJ9_abs_0f7a4_5 : decode cJ9_abs_0f7a4 5 = .ok (.ineg, 1) := by decide +kernel
theorem dJ9_abs_0f7a4_6 : decode cJ9_abs_0f7a4 6 = .ok (.goto 4, 3) := by decide +kernel
theorem dJ9_abs_0f7a4_9 : decode cJ9_abs_0f7a4 9 = .ok (.iload_n 0, 1) := by decide +kernel
theorem dJ9_abs_0f7a4_10 : decode cJ9_abs_0f7a4 10 = .ok (.ireturn, 1) := by decide +kernel
theorem dJ9_max_7cf53_0 : decode cJ9_max_7cf53 0 = .ok (.iload_n 0, 1) := by decide +kernel
theorem dJ9_max_7cf53_1 : decode cJ9_max_7cf53 1 = .ok (.iload_n 1, 1) := by decide +kernel
theorem dJ9_max_7cf53_2 : decode cJ9_max_7cf53 2 = .ok (.if_icmp .lt 7, 3) := by decide +kernel
theorem dJ9_max_7cf53_5 : decode cJ9_max_7cf53 5 = .ok (.iload_n 0, 1) := by decide +kernel
theorem dJ9_max_7cf53_6 : decode cJ9_max_7cf53 6 = .ok (.goto 4, 3) := by decide +kernel
theorem dJ9_max_7cf53_9 : decode cJ9_max_7cf53 9 = .ok (.iload_n 1, 1) := by decide +kernel
theorem dJ9_max_7cf53_10 : decode cJ9_max_7cf53 10 = .ok (.ireturn, 1) := by decide +kernel
theorem dJ9_min_7cf53_0 : decode cJ9_min_7cf53 0 = .ok (.iload_n 0, 1) := by decide +kernel
theorem dJ9_min_7cf53_1 : decode cJ9_min_7cf53 1 = .ok (.iload_n 1, 1) := by decide +kernel
theorem dJ9_min_7cf53_2 : decode cJ9_min_7cf53 2 = .ok (.if_icmp .gt 7, 3) := by decide +kernel
theorem dJ9_min_7cf53_5 : decode cJ9_min_7cf53 5 = .ok (.iload_n 0, 1) := by decide +kernel
theorem dJ9_min_7cf53_6 : decode cJ9_min_7cf53 6 = .ok (.goto 4, 3) := by decide +kernel
theorem dJ9_min_7cf53_9 : decode cJ9_min_7cf53 9 = .ok (.iload_n 1, 1) := by decide +kernel
theorem dJ9_min_7cf53_10 : decode cJ9_min_7cf53 10 = .ok (.ireturn, 1) := by decide +kernel
abbrev vwCl : List vw_C := [(RX0, TX0, 9), (RX1, TX1, 6), (RX2, TX2, 4), (RX3, TX3, 4), (RX4, TX4, 2), (RX5, TX5, 7), (RX6, TX6, 6), (RX7, TX7, 3), (RX8, TX8, 3), (RX9, TX9, 3)]
