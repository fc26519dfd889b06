theorem dX2_readTerm_0 : decode cX2_readTerm 0 = .ok (.aload_n 0, 1) := by decide +kernel
theorem dX2_readTerm_1 : decode cX2_readTerm 1 = .ok (.iload_n 1, 1) := by decide +kernel
set_option maxRecDepth 20000 in
theorem ggX2_readTerm_X2_readPart : GoodIn wsX2_readTerm wsX2_readPart := goodIn_r _ [133, 96, 134, 135, 136, 4, 5, 6, 7, 8, 9, 10, 11, 12, 13, 14, 15, 16, 17, 18, 19, 20, 21, 22, 23, 24, 25, 26, 27, 28, 29, 30, 31, 32, 33, 34, 35, 36, 37, 38, 39, 40, 41, 42, 43, 44, 45, 46, 47, 48, 49, 50, 51, 52, 53, 54, 55, 56, 57, 58, 59, 60, 61, 62, 63, 64, 65, 66, 67, 68, 69, 70, 71, 72, 73, 74, 75, 76, 98, 99, 100, 101, 102, 103, 104, 105, 106, 107, 108, 109, 110, 111, 112, 77, 78, 79, 80, 81, 82, 83, 84, 85, 86, 87, 88, 89, 90, 91, 92, 93, 94, 95, 97, 113, 114, 115, 116, 117, 118, 119, 120, 121, 122, 123, 124, 125, 126, 127, 128, 129, 130, 131, 132, 137, 138, 139, 140, 0, 1, 2, 3, 141, 142, 143, 144, 145, 146, 147, 148, 149, 150, 151, 152, 153, 154, 155] (by decide +kernel) (by decide +kernel)
set_option maxRecDepth 20000 in
theorem gX2_readTerm_X2_readPart : GoodIn wsX2_readTerm (wsV RX2 73 RX2 yX2_readPart wsX2_readPart) := goodIn_app (goodIn_of _ (by decide +kernel)) ggX2_readTerm_X2_readPart
theorem dX2_readTerm_2 : decode cX2_readTerm 2 = .ok (.invokevirtual 73, 3) := by decide +kernel
theorem dX2_readTerm_5 : decode cX2_readTerm 5 = .ok (.istore_n 2, 1) := by decide +kernel
theorem dX2_readTerm_6 : decode cX2_readTerm 6 = .ok (.iconst 0, 1) := by decide +kernel
theorem dX2_readTerm_7 : decode cX2_readTerm 7 = .ok (.istore_n 3, 1) := by decide +kernel
theorem dX2_readTerm_8 : decode cX2_readTerm 8 = .ok (.iload_n 3, 1) := by decide +kernel
theorem dX2_readTerm_9 : decode cX2_readTerm 9 = .ok (.sipush 200, 3) := by decide +kernel
theorem dX2_readTerm_12 : decode cX2_readTerm 12 = .ok (.if_icmp .ge 68, 3) := by decide +kernel
theorem dX2_readTerm_80 : decode cX2_readTerm 80 = .ok (.iload_n 2, 1) := by decide +kernel
theorem dX2_readTerm_81 : decode cX2_readTerm 81 = .ok (.ireturn, 1) := by decide +kernel
theorem dX2_readTerm_15 : decode cX2_readTerm 15 = .ok (.iload_n 2, 1) := by decide +kernel
theorem dX2_readTerm_16 : decode cX2_readTerm 16 = .ok (.ifCond .eq 64, 3) := by decide +kernel
theorem dX2_readTerm_19 : decode cX2_readTerm 19 = .ok (.aload_n 0, 1) := by decide +kernel
theorem dX2_readTerm_20 : decode cX2_readTerm 20 = .ok (.ldc 76, 2) := by decide +kernel
set_option maxRecDepth 20000 in
theorem ggX2_readTerm_X2_isAt : GoodIn wsX2_readTerm wsX2_isAt := goodIn_r _ [8, 9, 10, 11, 12, 13, 14, 15, 16, 17, 18, 19, 20, 21, 22, 23, 24, 25, 26, 27, 28, 29, 30, 31, 32, 33, 34, 35, 36, 37, 38, 39, 40, 41, 42, 43, 44, 45, 46, 47, 48, 49, 50, 51, 52, 53, 54, 55, 56, 57, 58, 59, 60, 141, 142, 143, 144, 145, 146, 147, 148, 149, 150, 151] (by decide +kernel) (by decide +kernel)
set_option maxRecDepth 20000 in
theorem gX2_readTerm_X2_isAt : GoodIn wsX2_readTerm (wsV RX2 63 RX2 yX2_isAt wsX2_isAt) := goodIn_app (goodIn_of _ (by decide +kernel)) ggX2_readTerm_X2_isAt
theorem dX2_readTerm_22 : decode cX2_readTerm 22 = .ok (.invokevirtual 63, 3) := by decide +kernel
theorem dX2_readTerm_25 : decode cX2_readTerm 25 = .ok (.ifCond .ne 12, 3) := by decide +kernel
theorem dX2_readTerm_37 : decode cX2_readTerm 37 = .ok (.aload_n 0, 1) := by decide +kernel
theorem dX2_readTerm_38 : decode cX2_readTerm 38 = .ok (.ldc 76, 2) := by decide +kernel
theorem dX2_readTerm_40 : decode cX2_readTerm 40 = .ok (.invokevirtual 63, 3) := by decide +kernel
theorem dX2_readTerm_43 : decode cX2_readTerm 43 = .ok (.ifCond .eq 8, 3) := by decide +kernel
theorem dX2_readTerm_51 : decode cX2_readTerm 51 = .ok (.bipush 12, 2) := by decide +kernel
theorem dX2_readTerm_53 : decode cX2_readTerm 53 = .ok (.istore 4, 2) := by decide +kernel
theorem dX2_readTerm_55 : decode cX2_readTerm 55 = .ok (.aload_n 0, 1) := by decide +kernel
set_option maxRecDepth 20000 in
theorem ggX2_readTerm_X2_advance : GoodIn wsX2_readTerm wsX2_advance := goodIn_r _ [64, 9, 10, 11, 65, 66, 67, 68, 69, 70, 71, 4, 72, 73, 74, 75, 76, 141, 142, 143, 144, 145, 146, 147, 148, 149, 150, 151] (by decide +kernel) (by decide +kernel)
set_option maxRecDepth 20000 in
theorem gX2_readTerm_X2_advance : GoodIn wsX2_readTerm (wsV RX2 41 RX2 yX2_advance wsX2_advance) := goodIn_app (goodIn_of _ (by decide +kernel)) ggX2_readTerm_X2_advance
theorem dX2_readTerm_56 : decode cX2_readTerm 56 = .ok (.invokevirtual 41, 3) := by decide +kernel
theorem dX2_readTerm_59 : decode cX2_readTerm 59 = .ok (.aload_n 0, 1) := by decide +kernel
theorem dX2_readTerm_60 : decode cX2_readTerm 60 = .ok (.iload_n 1, 1) := by decide +kernel
theorem dX2_readTerm_61 : decode cX2_readTerm 61 = .ok (.invokevirtual 73, 3) := by decide +kernel
theorem dX2_readTerm_64 : decode cX2_readTerm 64 = .ok (.istore_n 2, 1) := by decide +kernel
theorem dX2_readTerm_65 : decode cX2_readTerm 65 = .ok (.aload_n 0, 1) := by decide +kernel
theorem dX2_readTerm_66 : decode cX2_readTerm 66 = .ok (.iload 4, 2) := by decide +kernel
theorem dX2_readTerm_68 : decode cX2_readTerm 68 = .ok (.iconst (-1), 1) := by decide +kernel
theorem dX2_readTerm_69 : decode cX2_readTerm 69 = .ok (.iconst (-1), 1) := by decide +kernel
theorem dX2_readTerm_70 : decode cX2_readTerm 70 = .ok (.iconst (-1), 1) := by decide +kernel
set_option maxRecDepth 20000 in
theorem ggX2_readTerm_X2_emit : GoodIn wsX2_readTerm wsX2_emit := goodIn_r _ [80, 81, 82, 83, 84, 85, 86, 87, 88, 89, 90, 91, 92, 93, 94, 141, 142, 143, 144, 145, 146, 147, 148, 149, 152, 153, 154, 155] (by decide +kernel) (by decide +kernel)
set_option maxRecDepth 20000 in
theorem gX2_readTerm_X2_emit : GoodIn wsX2_readTerm (wsV RX2 69 RX2 yX2_emit wsX2_emit) := goodIn_app (goodIn_of _ (by decide +kernel)) ggX2_readTerm_X2_emit
theorem dX2_readTerm_71 : decode cX2_readTerm 71 = .ok (.invokevirtual 69, 3) := by decide +kernel
theorem dX2_readTerm_74 : decode cX2_readTerm 74 = .ok (.iinc 3 1, 3) := by decide +kernel
theorem dX2_readTerm_77 : decode cX2_readTerm 77 = .ok (.goto (-69), 3) := by decide +kernel
theorem dX2_readTerm_46 : decode cX2_readTerm 46 = .ok (.bipush 11, 2) := by decide +kernel
theorem dX2_readTerm_48 : decode cX2_readTerm 48 = .ok (.goto 5, 3) := by decide +kernel
theorem dX2_readTerm_28 : decode cX2_readTerm 28 = .ok (.aload_n 0, 1) := by decide +kernel
theorem dX2_readTerm_29 : decode cX2_readTerm 29 = .ok (.ldc 78, 2) := by decide +kernel
theorem dX2_readTerm_31 : decode cX2_readTerm 31 = .ok (.invokevirtual 63, 3) := by decide +kernel
theorem dX2_readTerm_34 : decode cX2_readTerm 34 = .ok (.ifCond .eq 46, 3) := by decide +kernel
theorem dX2_readSum_0 : decode cX2_readSum 0 = .ok (.aload_n 0, 1) := by decide +kernel
theorem dX2_readSum_1 : decode cX2_readSum 1 = .ok (.iload_n 1, 1) := by decide +kernel
set_option maxRecDepth 20000 in
theorem ggX2_readSum_X2_readTerm : GoodIn wsX2_readSum wsX2_readTerm := goodIn_r _ [137, 138, 139, 140, 4, 5, 6, 7, 8, 9, 10, 11, 12, 13, 14, 15, 16, 17, 18, 19, 20, 21, 22, 23, 24, 25, 26, 27, 28, 29, 30, 31, 32, 33, 34, 35, 36, 37, 38, 39, 40, 41, 42, 43, 44, 45, 46, 47, 48, 49, 50, 51, 52, 53, 54, 55, 56, 57, 58, 59, 60, 61, 62, 63, 64, 65, 66, 67, 68, 69, 70, 71, 72, 73, 74, 75, 76, 77, 78, 79, 80, 81, 82, 83, 84, 85, 86, 87, 88, 89, 90, 91, 92, 93, 94, 95, 96, 97, 98, 99, 100, 101, 102, 103, 104, 105, 106, 107, 108, 109, 110, 111, 112, 113, 114, 115, 116, 117, 118, 119, 120, 121, 122, 123, 124, 125, 126, 127, 128, 129, 130, 131, 132, 133, 134, 135, 136, 0, 1, 2, 3, 141, 142, 143, 144, 145, 146, 147, 148, 149, 150, 151, 152, 153, 154, 155] (by decide +kernel) (by decide +kernel)
set_option maxRecDepth 20000 in
theorem gX2_readSum_X2_readTerm : GoodIn wsX2_readSum (wsV RX2 58 RX2 yX2_readTerm wsX2_readTerm) := goodIn_app (goodIn_of _ (by decide +kernel)) ggX2_readSum_X2_readTerm
theorem dX2_readSum_2 : decode cX2_readSum 2 = .ok (.invokevirtual 58, 3) := by decide +kernel
theorem dX2_readSum_5 : decode cX2_readSum 5 = .ok (.istore_n 2, 1) := by decide +kernel
theorem dX2_readSum_6 : decode cX2_readSum 6 = .ok (.iconst 0, 1) := by decide +kernel
theorem dX2_readSum_7 : decode cX2_readSum 7 = .ok (.istore_n 3, 1) := by decide +kernel
theorem dX2_readSum_8 : decode cX2_readSum 8 = .ok (.iload_n 3, 1) := by decide +kernel
theorem dX2_readSum_9 : decode cX2_readSum 9 = .ok (.sipush 200, 3) := by decide +kernel
theorem dX2_readSum_12 : decode cX2_readSum 12 = .ok (.if_icmp .ge 68, 3) := by decide +kernel
theorem dX2_readSum_80 : decode cX2_readSum 80 = .ok (.iload_n 2, 1) := by decide +kernel
theorem dX2_readSum_81 : decode cX2_readSum 81 = .ok (.ireturn, 1) := by decide +kernel
theorem dX2_readSum_15 : decode cX2_readSum 15 = .ok (.iload_n 2, 1) := by decide +kernel
theorem dX2_readSum_16 : decode cX2_readSum 16 = .ok (.ifCond .eq 64, 3) := by decide +kernel
theorem dX2_readSum_19 : decode cX2_readSum 19 = .ok (.aload_n 0, 1) := by decide +kernel
theorem dX2_readSum_20 : decode cX2_readSum 20 = .ok (.ldc 61, 2) := by decide +kernel
set_option maxRecDepth 20000 in
theorem ggX2_readSum_X2_isAt : GoodIn wsX2_readSum wsX2_isAt := goodIn_r _ [8, 9, 10, 11, 12, 13, 14, 15, 16, 17, 18, 19, 20, 21, 22, 23, 24, 25, 26, 27, 28, 29, 30, 31, 32, 33, 34, 35, 36, 37, 38, 39, 40, 41, 42, 43, 44, 45, 46, 47, 48, 49, 50, 51, 52, 53, 54, 55, 56, 57, 58, 59, 60, 141, 142, 143, 144, 145, 146, 147, 148, 149, 150, 151] (by decide +kernel) (by decide +kernel)
set_option maxRecDepth 20000 in
theorem gX2_readSum_X2_isAt : GoodIn wsX2_readSum (wsV RX2 63 RX2 yX2_isAt wsX2_isAt) := goodIn_app (goodIn_of _ (by decide +kernel)) ggX2_readSum_X2_isAt
theorem dX2_readSum_22 : decode cX2_readSum 22 = .ok (.invokevirtual 63, 3) := by decide +kernel
theorem dX2_readSum_25 : decode cX2_readSum 25 = .ok (.ifCond .ne 12, 3) := by decide +kernel
theorem dX2_readSum_37 : decode cX2_readSum 37 = .ok (.aload_n 0, 1) := by decide +kernel
theorem dX2_readSum_38 : decode cX2_readSum 38 = .ok (.ldc 61, 2) := by decide +kernel
theorem dX2_readSum_40 : decode cX2_readSum 40 = .ok (.invokevirtual 63, 3) := by decide +kernel
theorem dX2_readSum_43 : decode cX2_readSum 43 = .ok (.ifCond .eq 8, 3) := by decide +kernel
theorem dX2_readSum_51 : decode cX2_readSum 51 = .ok (.bipush 10, 2) := by decide +kernel
theorem dX2_readSum_53 : decode cX2_readSum 53 = .ok (.istore 4, 2) := by decide +kernel
theorem dX2_readSum_55 : decode cX2_readSum 55 = .ok (.aload_n 0, 1) := by decide +kernel
set_option maxRecDepth 20000 in
theorem ggX2_readSum_X2_advance : GoodIn wsX2_readSum wsX2_advance := goodIn_r _ [64, 9, 10, 11, 65, 66, 67, 68, 69, 70, 71, 4, 72, 73, 74, 75, 76, 141, 142, 143, 144, 145, 146, 147, 148, 149, 150, 151] (by decide +kernel) (by decide +kernel)
set_option maxRecDepth 20000 in
theorem gX2_readSum_X2_advance : GoodIn wsX2_readSum (wsV RX2 41 RX2 yX2_advance wsX2_advance) := goodIn_app (goodIn_of _ (by decide +kernel)) ggX2_readSum_X2_advance
theorem dX2_readSum_56 : decode cX2_readSum 56 = .ok (.invokevirtual 41, 3) := by decide +kernel
theorem dX2_readSum_59 : decode cX2_readSum 59 = .ok (.aload_n 0, 1) := by decide +kernel
theorem dX2_readSum_60 : decode cX2_readSum 60 = .ok (.iload_n 1, 1) := by decide +kernel
theorem dX2_readSum_61 : decode cX2_readSum 61 = .ok (.invokevirtual 58, 3) := by decide +kernel
theorem dX2_readSum_64 : decode cX2_readSum 64 = .ok (.istore_n 2, 1) := by decide +kernel
theorem dX2_readSum_65 : decode cX2_readSum 65 = .ok (.aload_n 0, 1) := by decide +kernel
theorem dX2_readSum_66 : decode cX2_readSum 66 = .ok (.iload 4, 2) := by decide +kernel
theorem dX2_readSum_68 : decode cX2_readSum 68 = .ok (.iconst (-1), 1) := by decide +kernel
theorem dX2_readSum_69 : decode cX2_readSum 69 = .ok (.iconst (-1), 1) := by decide +kernel
theorem dX2_readSum_70 : decode cX2_readSum 70 = .ok (.iconst (-1), 1) := by decide +kernel
set_option maxRecDepth 20000 in
theorem ggX2_readSum_X2_emit : GoodIn wsX2_readSum wsX2_emit := goodIn_r _ [80, 81, 82, 83, 84, 85, 86, 87, 88, 89, 90, 91, 92, 93, 94, 141, 142, 143, 144, 145, 146, 147, 148, 149, 152, 153, 154, 155] (by decide +kernel) (by decide +kernel)
set_option maxRecDepth 20000 in
theorem gX2_readSum_X2_emit : GoodIn wsX2_readSum (wsV RX2 69 RX2 yX2_emit wsX2_emit) := goodIn_app (goodIn_of _ (by decide +kernel)) ggX2_readSum_X2_emit
theorem dX2_readSum_71 : decode cX2_readSum 71 = .ok (.invokevirtual 69, 3) := by decide +kernel
theorem dX2_readSum_74 : decode cX2_readSum 74 = .ok (.iinc 3 1, 3) := by decide +kernel
theorem dX2_readSum_77 : decode cX2_readSum 77 = .ok (.goto (-69), 3) := by decide +kernel
theorem dX2_readSum_46 : decode cX2_readSum 46 = .ok (.bipush 9, 2) := by decide +kernel
theorem dX2_readSum_48 : decode cX2_readSum 48 = .ok (.goto 5, 3) := by decide +kernel
theorem dX2_readSum_28 : decode cX2_readSum 28 = .ok (.aload_n 0, 1) := by decide +kernel
theorem dX2_readSum_29 : decode cX2_readSum 29 = .ok (.ldc 67, 2) := by decide +kernel
theorem dX2_readSum_31 : decode cX2_readSum 31 = .ok (.invokevirtual 63, 3) := by decide +kernel
theorem dX2_readSum_34 : decode cX2_readSum 34 = .ok (.ifCond .eq 46, 3) := by decide +kernel
set_option maxHeartbeats 8000000 in
set_option maxRecDepth 100000 in
theorem k_X2_readTerm (l : Launch) (dC : Nat → ClassId) (dI : Nat → Nat → Nat) (cA : Nat → ClassId) (sz : Nat) (ax : Nat → Nat) (xSz : Int32) (xPl : Int32) (xBe : Int32) (xRt : Int32) (xRf : Int32) (xRd : Int32) (xLk : Int32) (xTz : Int32) (gB : Nat → Int32) (gSt : Nat → Option Nat) (dp : Int32) (adK : Nat → Nat) (adV : Nat → Nat) (rl : Nat) (FR : Nat) (LO : Nat) (i_xSz : 0 ≤ xSz.toInt ∧ xSz.toInt ≤ 200) (i_xPl : 0 ≤ xPl.toInt ∧ xPl.toInt ≤ 200) (i_xBe : 0 ≤ xBe.toInt ∧ xBe.toInt ≤ 200) (i_xRt : 0 ≤ xRt.toInt ∧ xRt.toInt ≤ 20) (i_xTz : 0 ≤ xTz.toInt ∧ xTz.toInt ≤ 200) (i_gB : inB 0 255 200 gB) (hbe : xPl.toInt ≤ xBe.toInt ∧ xBe.toInt ≤ xTz.toInt) (htk : tokOK gB xPl xBe xTz) (hdp : 0 ≤ dp.toInt ∧ dp.toInt ≤ 8) (hop : 8 - dp.toInt ≤ (rl : Int)) (ih : 0 < rl → XSumC l dC dI cA (rl - 1) FR LO) : Met l yX2_readTerm wsX2_readTerm ({ frames := FR + 9, cells := (200 - xSz.toInt).toNat, slots := (4 * (200 - xSz.toInt).toNat), locals := LO + 196 }) (va_Pc [.ref (ax 13), .int dp] (fun U => U.heap.size = sz ∧ va_P (dC, dI) vwCl [((ax 13), .inr (2, [.ref (ax 11), .ref (ax 14), .int xSz, .int xPl, .int xBe, .int xRt, .int xRf, .int xRd, .int xLk])), ((ax 11), .inr (5, [.ref (ax 12), .int xTz])), ((ax 12), .inl (cA 0, 200, .inl gB)), ((ax 14), .inl (cA 4, 200, .inr (.inr (.inr (.inr gSt)))))] U.heap ∧ va_K (dC, dI) vwCl (tyL cA) U ∧ va_D (fun _ => True) [((ax 13), .inr (2, [.ref (ax 11), .ref (ax 14), .int xSz, .int xPl, .int xBe, .int xRt, .int xRf, .int xRd, .int xLk])), ((ax 11), .inr (5, [.ref (ax 12), .int xTz])), ((ax 12), .inl (cA 0, 200, .inl gB)), ((ax 14), .inl (cA 4, 200, .inr (.inr (.inr (.inr gSt)))))] ∧ st_ok adK adV (va_A [((ax 13), .inr (2, [.ref (ax 11), .ref (ax 14), .int xSz, .int xPl, .int xBe, .int xRt, .int xRf, .int xRd, .int xLk])), ((ax 11), .inr (5, [.ref (ax 12), .int xTz])), ((ax 12), .inl (cA 0, 200, .inl gB)), ((ax 14), .inl (cA 4, 200, .inr (.inr (.inr (.inr gSt)))))] sz) U)) (va_Qi (fun (r : Int32) (u : Int32 × Int32 × Int32 × Int32 × Int32 × Int32 × (Nat → Option Nat) × (List Nat) × (Nat → va_E)) => (0 ≤ u.1.toInt ∧ u.1.toInt ≤ 200) ∧ (0 ≤ u.2.1.toInt ∧ u.2.1.toInt ≤ 200) ∧ (0 ≤ u.2.2.1.toInt ∧ u.2.2.1.toInt ≤ 200) ∧ (u.2.1.toInt ≤ u.2.2.1.toInt ∧ u.2.2.1.toInt ≤ xTz.toInt ∧ (r.toInt = 0 ∨ r.toInt = 1)) ∧ (tokOK gB u.2.1 u.2.2.1 xTz) ∧ (stq xSz.toInt u.1.toInt gSt u.2.2.2.2.2.2.1 u.2.2.2.2.2.2.2.1 u.2.2.2.2.2.2.2.2)) (fun (u : Int32 × Int32 × Int32 × Int32 × Int32 × Int32 × (Nat → Option Nat) × (List Nat) × (Nat → va_E)) (t : State) => va_P (dC, dI) vwCl ([((ax 13), .inr (2, [.ref (ax 11), .ref (ax 14), .int u.1, .int u.2.1, .int u.2.2.1, .int xRt, .int u.2.2.2.1, .int u.2.2.2.2.1, .int u.2.2.2.2.2.1])), ((ax 11), .inr (5, [.ref (ax 12), .int xTz])), ((ax 12), .inl (cA 0, 200, .inl gB)), ((ax 14), .inl (cA 4, 200, .inr (.inr (.inr (.inr u.2.2.2.2.2.2.1)))))] ++ va_pl u.2.2.2.2.2.2.2.1 u.2.2.2.2.2.2.2.2) t.heap ∧ va_D (va_A [((ax 13), .inr (2, [.ref (ax 11), .ref (ax 14), .int xSz, .int xPl, .int xBe, .int xRt, .int xRf, .int xRd, .int xLk])), ((ax 11), .inr (5, [.ref (ax 12), .int xTz])), ((ax 12), .inl (cA 0, 200, .inl gB)), ((ax 14), .inl (cA 4, 200, .inr (.inr (.inr (.inr gSt)))))] sz) ([((ax 13), .inr (2, [.ref (ax 11), .ref (ax 14), .int u.1, .int u.2.1, .int u.2.2.1, .int xRt, .int u.2.2.2.1, .int u.2.2.2.2.1, .int u.2.2.2.2.2.1])), ((ax 11), .inr (5, [.ref (ax 12), .int xTz])), ((ax 12), .inl (cA 0, 200, .inl gB)), ((ax 14), .inl (cA 4, 200, .inr (.inr (.inr (.inr u.2.2.2.2.2.2.1)))))] ++ va_pl u.2.2.2.2.2.2.2.1 u.2.2.2.2.2.2.2.2) ∧ (t.heap.size ≤ sz + (u.1.toInt - xSz.toInt).toNat ∧ ssum sz t.heap ≤ 4 * (u.1.toInt - xSz.toInt).toNat)) (va_A [((ax 13), .inr (2, [.ref (ax 11), .ref (ax 14), .int xSz, .int xPl, .int xBe, .int xRt, .int xRf, .int xRd, .int xLk])), ((ax 11), .inr (5, [.ref (ax 12), .int xTz])), ((ax 12), .inl (cA 0, 200, .inl gB)), ((ax 14), .inl (cA 4, 200, .inr (.inr (.inr (.inr gSt)))))] sz)) ((200 - xSz.toInt).toNat) (4 * (200 - xSz.toInt).toNat) (va_A [((ax 13), .inr (2, [.ref (ax 11), .ref (ax 14), .int xSz, .int xPl, .int xBe, .int xRt, .int xRf, .int xRd, .int xLk])), ((ax 11), .inr (5, [.ref (ax 12), .int xTz])), ((ax 12), .inl (cA 0, 200, .inl gB)), ((ax 14), .inl (cA 4, 200, .inr (.inr (.inr (.inr gSt)))))] sz) := by
  refine Met.ofW (cc := cX2_readTerm) (maxL := 5) (ret := (some .boolean)) (by decide) rfl ?_
  intro p e s m args below meth c s₁ B hml hv
  obtain ⟨rfl, hsz, hP, hK, hD0, hN⟩ := hv
  have hx := B.exec
  have hb := B.bytes
  have hr := B.returns
  have hts := atoms_spec (ws := wsX2_readTerm) B.pre
  have hown : s.vm.findClass RX2 = some m.cls := findClass_of_methodNamed B.named
  have hlocks := B.notSynchronized
  subst hsz
  have hD := hD0.self (sz := s.heap.size)
  generalize hAe : va_A [((ax 13), .inr (2, [.ref (ax 11), .ref (ax 14), .int xSz, .int xPl, .int xBe, .int xRt, .int xRf, .int xRd, .int xLk])), ((ax 11), .inr (5, [.ref (ax 12), .int xTz])), ((ax 12), .inl (cA 0, 200, .inl gB)), ((ax 14), .inl (cA 4, 200, .inr (.inr (.inr (.inr gSt)))))] s.heap.size = A at hD hN ⊢
  have hSt := hN
  have hN := hSt.1
  have hA : ∀ q : Nat, s.heap.size ≤ q → A q := fun q h => by rw [← hAe]; exact Or.inr h
  have hS : va_S A s.heap s.heap [] := va_S.rf
  have hlt0 : (ax 13) < s.heap.size := (hP 0 _ rfl).lt
  have hlt1 : (ax 11) < s.heap.size := (hP 1 _ rfl).lt
  have hlt2 : (ax 12) < s.heap.size := (hP 2 _ rfl).lt
  have hlt3 : (ax 14) < s.heap.size := (hP 3 _ rfl).lt
  obtain ⟨pfz, hpfz⟩ : ∃ f : Nat → va_E, f = fun _ => .inr (0, []) := ⟨_, rfl⟩
  replace hP : va_P (dC, dI) vwCl ([((ax 13), .inr (2, [.ref (ax 11), .ref (ax 14), .int xSz, .int xPl, .int xBe, .int xRt, .int xRf, .int xRd, .int xLk])), ((ax 11), .inr (5, [.ref (ax 12), .int xTz])), ((ax 12), .inl (cA 0, 200, .inl gB)), ((ax 14), .inl (cA 4, 200, .inr (.inr (.inr (.inr gSt)))))] ++ va_pl ([]) pfz) s.heap := hP
  replace hD : va_D A ([((ax 13), .inr (2, [.ref (ax 11), .ref (ax 14), .int xSz, .int xPl, .int xBe, .int xRt, .int xRf, .int xRd, .int xLk])), ((ax 11), .inr (5, [.ref (ax 12), .int xTz])), ((ax 12), .inl (cA 0, 200, .inl gB)), ((ax 14), .inl (cA 4, 200, .inr (.inr (.inr (.inr gSt)))))] ++ va_pl ([]) pfz) := hD
  have hl := lv_entry ([.ref (ax 13), .int dp]) (n := 5) (Nat.le_of_ble_eq_true rfl)
  rw [lg_entry_eq]
  generalize (lg_sl ([.ref (ax 13), .int dp]) ++ List.replicate (5 - (lg_sl ([.ref (ax 13), .int dp])).length) Slot.unset).toArray = ls at hl ⊢
  have hl : lv_has ls 5 [(0, .ref (ax 13)), (1, .int dp)] := hl
  generalize hQe : MQ below _ _ _ _ _ _ = QQ
  refine lv_aload_n hx hb dX2_readTerm_0 rfl (lv_at hl 0 rfl) ?_
  refine lv_iload_n hx hb dX2_readTerm_1 rfl (lv_at hl 1 rfl) ?_
  have hPc := hP.sub (ws' := [((ax 13), .inr (2, [.ref (ax 11), .ref (ax 14), .int xSz, .int xPl, .int xBe, .int xRt, .int xRf, .int xRd, .int xLk])), ((ax 11), .inr (5, [.ref (ax 12), .int xTz])), ((ax 12), .inl (cA 0, 200, .inl gB)), ((ax 14), .inl (cA 4, 200, .inr (.inr (.inr (.inr gSt)))))]) [0, 1, 2, 3] rfl
  have hDc := hD.sub (ws' := [((ax 13), .inr (2, [.ref (ax 11), .ref (ax 14), .int xSz, .int xPl, .int xBe, .int xRt, .int xRf, .int xRd, .int xLk])), ((ax 11), .inr (5, [.ref (ax 12), .int xTz])), ((ax 12), .inl (cA 0, 200, .inl gB)), ((ax 14), .inl (cA 4, 200, .inr (.inr (.inr (.inr gSt)))))]) [0, 1, 2, 3] (by decide) rfl
  have hFc := va_free (wc := [((ax 13), .inr (2, [.ref (ax 11), .ref (ax 14), .int xSz, .int xPl, .int xBe, .int xRt, .int xRf, .int xRd, .int xLk])), ((ax 11), .inr (5, [.ref (ax 12), .int xTz])), ((ax 12), .inl (cA 0, 200, .inl gB)), ((ax 14), .inl (cA 4, 200, .inr (.inr (.inr (.inr gSt)))))]) hD hS hA [0, 1, 2, 3] rfl
  refine W.know (fun hkn1 hkn2 => ?_)
  have hS0 := hS.1
  refine va_calli (va_runV (As := [.int dp]) (rest := []) ⟨hx, hb, hml, hown, hts⟩ (k_X2_readPart l dC dI cA s.heap.size ax xSz xPl xBe xRt xRf xRd xLk xTz gB gSt dp adK adV rl FR LO (by omega) (by omega) (by omega) (by omega) (by omega) i_gB hbe htk hdp hop ih) (cwV 1 hts gX2_readTerm_X2_readPart rfl rfl rfl (by decide +kernel) ⟨(show (FR + 8) + 1 ≤ FR + 9 by omega), (show 8 + (2 + 11) + (LO + 175) ≤ LO + 196 by omega)⟩) ⟨fun a U g mk q => by obtain ⟨q0, q1, qP, qK, qD, qN⟩ := q; exact ⟨q0, q1, qP, va_K.moved (u := U) (U := U.calling g mk a) (Vm.Alike.refl U.vm) qK, qD, qN.same rfl rfl⟩, va_recv hK hPc (ci := 2) (q0 := 0) rfl rfl, fun U hU hW => ⟨rfl, by rw [hU], by rw [hU]; exact hPc, va_K.moved hW.alike hK, hDc.weaken (fun _ _ _ _ => trivial), hSt.call hS hU hW hFc⟩⟩ rfl rfl hl.1 rfl (lv_room (Nat.le_of_ble_eq_true rfl)) dX2_readTerm_2 ⟨(show 0 + ((200 - xSz.toInt).toNat) ≤ (200 - xSz.toInt).toNat by omega), (show 0 + (4 * (200 - xSz.toInt).toNat) ≤ (4 * (200 - xSz.toInt).toNat) by omega)⟩) hS (fun q _ h => hFc q h) hFc (fun r_1 u_2 t H1 locs ht hvm hw_3 hB hz1 hk1 hS => ?_)
  obtain ⟨w_4, w_5, w_6, w_7, w_8, w_9, w_10, w_11, w_12⟩ := u_2
  try dsimp only at hw_3 hB
  obtain ⟨iv_13, iv_14, iv_15, po_16, tk_17, st_18⟩ := hw_3
  obtain ⟨hP1, hD1, hX1⟩ := hB
  rw [ht] at hP1 hX1
  obtain ⟨hP, hD⟩ := va_joinQ (wr := []) (w1 := [((ax 13), .inr (2, [.ref (ax 11), .ref (ax 14), .int w_4, .int w_5, .int w_6, .int xRt, .int w_7, .int w_8, .int w_9])), ((ax 11), .inr (5, [.ref (ax 12), .int xTz])), ((ax 12), .inl (cA 0, 200, .inl gB)), ((ax 14), .inl (cA 4, 200, .inr (.inr (.inr (.inr w_10)))))] ++ va_pl w_11 w_12) hP hD [0, 1, 2, 3] [] rfl rfl (by decide) (by decide) hk1 hFc hP1 hD1
  obtain ⟨fm_19, hma_fm_19, hmb_fm_19, hP, hD⟩ := pl_merge hP hD
  have sq_fm_19 := stq_tr stq_0 st_18 hma_fm_19 hmb_fm_19
  have hle_fm_19 := sq_fm_19.1
  have hlf_fm_19 := st_18.1
  refine W.tight (cells' := (w_4.toInt - xSz.toInt).toNat) (slots' := 4 * (w_4.toInt - xSz.toInt).toNat) (by omega) (by have hch := ssum_chain hS0 hz1 (fun q h1 h2 => hk1 q h2 (na_of (fun k e hk => by rcases mem4 hk with h | h | h | h <;> omega) h1 h2)); omega) ?_
  clear hz1
  generalize H1 = H at hP hS ⊢
  replace hP : va_P (dC, dI) vwCl ([((ax 13), .inr (2, [.ref (ax 11), .ref (ax 14), .int w_4, .int w_5, .int w_6, .int xRt, .int w_7, .int w_8, .int w_9])), ((ax 11), .inr (5, [.ref (ax 12), .int xTz])), ((ax 12), .inl (cA 0, 200, .inl gB)), ((ax 14), .inl (cA 4, 200, .inr (.inr (.inr (.inr w_10)))))] ++ va_pl ([] ++ w_11) fm_19) H := hP
  replace hD : va_D A ([((ax 13), .inr (2, [.ref (ax 11), .ref (ax 14), .int w_4, .int w_5, .int w_6, .int xRt, .int w_7, .int w_8, .int w_9])), ((ax 11), .inr (5, [.ref (ax 12), .int xTz])), ((ax 12), .inl (cA 0, 200, .inl gB)), ((ax 14), .inl (cA 4, 200, .inr (.inr (.inr (.inr w_10)))))] ++ va_pl ([] ++ w_11) fm_19) := hD
  refine lv_istore_n (lv' := [(2, .int r_1), (0, .ref (ax 13)), (1, .int dp)]) hx hb dX2_readTerm_5 rfl hl (by decide) rfl (fun ls hl => ?_)
  refine lv_iconst (v := 0) hx hb dX2_readTerm_6 (by decide) ?_
  refine lv_istore_n (lv' := [(3, .int 0), (2, .int r_1), (0, .ref (ax 13)), (1, .int dp)]) hx hb dX2_readTerm_7 rfl hl (by decide) rfl (fun ls hl => ?_)
  have loop8_20 : ∀ (n : Nat) (i3 : Int32) (so2 : Int32) (w_xSz_8 : Int32) (w_xPl_8 : Int32) (w_xBe_8 : Int32) (w_xRf_8 : Int32) (w_xRd_8 : Int32) (w_xLk_8 : Int32) (w_gSt_8 : Nat → Option Nat) (w_L_8 : List Nat) (w_pf_8 : Nat → va_E) (H : Heap) (locs : List Loc) (ls : Array Slot), 200 - i3.toInt < (n : Int) → (0 ≤ i3.toInt ∧ i3.toInt ≤ 200) → (0 ≤ so2.toInt ∧ so2.toInt ≤ 1) → (0 ≤ w_xSz_8.toInt ∧ w_xSz_8.toInt ≤ 200) → (0 ≤ w_xPl_8.toInt ∧ w_xPl_8.toInt ≤ 200) → (0 ≤ w_xBe_8.toInt ∧ w_xBe_8.toInt ≤ 200) → (w_xPl_8.toInt ≤ w_xBe_8.toInt ∧ w_xBe_8.toInt ≤ xTz.toInt) → (tokOK gB w_xPl_8 w_xBe_8 xTz) → (stq xSz.toInt w_xSz_8.toInt gSt w_gSt_8 w_L_8 w_pf_8) → va_P (dC, dI) vwCl ([((ax 13), .inr (2, [.ref (ax 11), .ref (ax 14), .int w_xSz_8, .int w_xPl_8, .int w_xBe_8, .int xRt, .int w_xRf_8, .int w_xRd_8, .int w_xLk_8])), ((ax 11), .inr (5, [.ref (ax 12), .int xTz])), ((ax 12), .inl (cA 0, 200, .inl gB)), ((ax 14), .inl (cA 4, 200, .inr (.inr (.inr (.inr w_gSt_8)))))] ++ va_pl w_L_8 w_pf_8) H → va_D A ([((ax 13), .inr (2, [.ref (ax 11), .ref (ax 14), .int w_xSz_8, .int w_xPl_8, .int w_xBe_8, .int xRt, .int w_xRf_8, .int w_xRd_8, .int w_xLk_8])), ((ax 11), .inr (5, [.ref (ax 12), .int xTz])), ((ax 12), .inl (cA 0, 200, .inl gB)), ((ax 14), .inl (cA 4, 200, .inr (.inr (.inr (.inr w_gSt_8)))))] ++ va_pl w_L_8 w_pf_8) → va_S A s.heap H locs → lv_has ls 5 [(3, .int i3), (2, .int so2), (0, .ref (ax 13)), (1, .int dp)] → W p l e ({ frames := FR + 9, cells := (200 - xSz.toInt).toNat, slots := (4 * (200 - xSz.toInt).toNat), locals := LO + 196 }) s m ([.ref (ax 13), .int dp] : List Value).toArray below meth c H locs (w_xSz_8.toInt - xSz.toInt).toNat (4 * (w_xSz_8.toInt - xSz.toInt).toNat) QQ (F0 m 8 ls []) := by
    intro n
    induction n with
    | zero => intro i3 so2 w_xSz_8 w_xPl_8 w_xBe_8 w_xRf_8 w_xRd_8 w_xLk_8 w_gSt_8 w_L_8 w_pf_8 H locs ls hme hv0_8 hv1_8 hv2_8 hv3_8 hv4_8 hv5_8 hv6_8 hv7_8; exfalso; omega
    | succ n ih_8 =>
      intro i3 so2 w_xSz_8 w_xPl_8 w_xBe_8 w_xRf_8 w_xRd_8 w_xLk_8 w_gSt_8 w_L_8 w_pf_8 H locs ls hme_8 hv0_8 hv1_8 hv2_8 hv3_8 hv4_8 hv5_8 hv6_8 hv7_8 hP hD hS hl
      have hle8 := hv7_8.1
      refine lv_iload_n hx hb dX2_readTerm_8 rfl (lv_at hl 0 rfl) ?_
      refine lv_sipush (v := 200) hx hb dX2_readTerm_9 (by decide) ?_
      refine lv_icmp_ge (tgt := 80) hx hb dX2_readTerm_12 (by decide) (fun c_21 => ?_) (fun c_21 => ?_)
      · have dc_21 : 200 ≤ i3.toInt := jI_le c_21 (by decide) rfl
        refine lv_iload_n hx hb dX2_readTerm_80 rfl (lv_at hl 1 rfl) ?_
        have hP9 := hP.part (cx := [((ax 13), .inr (2, [.ref (ax 11), .ref (ax 14), .int w_xSz_8, .int w_xPl_8, .int w_xBe_8, .int xRt, .int w_xRf_8, .int w_xRd_8, .int w_xLk_8])), ((ax 11), .inr (5, [.ref (ax 12), .int xTz])), ((ax 12), .inl (cA 0, 200, .inl gB)), ((ax 14), .inl (cA 4, 200, .inr (.inr (.inr (.inr w_gSt_8)))))]) [0, 1, 2, 3] rfl
        have hD9 := hD.part (cx := [((ax 13), .inr (2, [.ref (ax 11), .ref (ax 14), .int w_xSz_8, .int w_xPl_8, .int w_xBe_8, .int xRt, .int w_xRf_8, .int w_xRd_8, .int w_xLk_8])), ((ax 11), .inr (5, [.ref (ax 12), .int xTz])), ((ax 12), .inl (cA 0, 200, .inl gB)), ((ax 14), .inl (cA 4, 200, .inr (.inr (.inr (.inr w_gSt_8)))))]) [0, 1, 2, 3] (by decide) rfl
        refine W.know (fun hkn1 hkn2 => ?_)
        have hBx : H.size ≤ s.heap.size + (w_xSz_8.toInt - xSz.toInt).toNat ∧ ssum s.heap.size H ≤ 4 * (w_xSz_8.toInt - xSz.toInt).toNat := ⟨by omega, by omega⟩
        subst hQe
        refine W.widen (k := (200 - xSz.toInt).toNat) (n := (4 * (200 - xSz.toInt).toNat)) (by omega) (by omega) ?_
        have hans : (so2 : Int32).toInt = so2.toInt := rfl
        have hpost : (0 ≤ w_xSz_8.toInt ∧ w_xSz_8.toInt ≤ 200) ∧ (0 ≤ w_xPl_8.toInt ∧ w_xPl_8.toInt ≤ 200) ∧ (0 ≤ w_xBe_8.toInt ∧ w_xBe_8.toInt ≤ 200) ∧ (w_xPl_8.toInt ≤ w_xBe_8.toInt ∧ w_xBe_8.toInt ≤ xTz.toInt ∧ ((so2 : Int32).toInt = 0 ∨ (so2 : Int32).toInt = 1)) ∧ (tokOK gB w_xPl_8 w_xBe_8 xTz) ∧ (stq xSz.toInt w_xSz_8.toInt gSt w_gSt_8 w_L_8 w_pf_8) := ⟨by omega, by omega, by omega, by omega, hv6_8, hv7_8⟩
        exact W.zret (v := so2) hx hb hr (jnarZ (by omega)) (fun t ht hW => ⟨⟨so2, (w_xSz_8, w_xPl_8, w_xBe_8, w_xRf_8, w_xRd_8, w_xLk_8, w_gSt_8, w_L_8, w_pf_8), rfl, hpost, by rw [ht]; exact hP9, hD9, by rw [ht]; exact hBx⟩, hS.F ht⟩) hS.2.2 dX2_readTerm_81
      · have dc_21 : i3.toInt < 200 := jI_nle c_21 (by decide) rfl
        refine lv_iload_n hx hb dX2_readTerm_15 rfl (lv_at hl 1 rfl) ?_
        refine lv_if_eq (tgt := 80) hx hb dX2_readTerm_16 (by decide) (fun c_22 => ?_) (fun c_22 => ?_)
        · have dc_22 : so2.toInt = 0 := jI_eq c_22 rfl (by decide)
          refine lv_iload_n hx hb dX2_readTerm_80 rfl (lv_at hl 1 rfl) ?_
          have hP9 := hP.part (cx := [((ax 13), .inr (2, [.ref (ax 11), .ref (ax 14), .int w_xSz_8, .int w_xPl_8, .int w_xBe_8, .int xRt, .int w_xRf_8, .int w_xRd_8, .int w_xLk_8])), ((ax 11), .inr (5, [.ref (ax 12), .int xTz])), ((ax 12), .inl (cA 0, 200, .inl gB)), ((ax 14), .inl (cA 4, 200, .inr (.inr (.inr (.inr w_gSt_8)))))]) [0, 1, 2, 3] rfl
          have hD9 := hD.part (cx := [((ax 13), .inr (2, [.ref (ax 11), .ref (ax 14), .int w_xSz_8, .int w_xPl_8, .int w_xBe_8, .int xRt, .int w_xRf_8, .int w_xRd_8, .int w_xLk_8])), ((ax 11), .inr (5, [.ref (ax 12), .int xTz])), ((ax 12), .inl (cA 0, 200, .inl gB)), ((ax 14), .inl (cA 4, 200, .inr (.inr (.inr (.inr w_gSt_8)))))]) [0, 1, 2, 3] (by decide) rfl
          refine W.know (fun hkn1 hkn2 => ?_)
          have hBx : H.size ≤ s.heap.size + (w_xSz_8.toInt - xSz.toInt).toNat ∧ ssum s.heap.size H ≤ 4 * (w_xSz_8.toInt - xSz.toInt).toNat := ⟨by omega, by omega⟩
          subst hQe
          refine W.widen (k := (200 - xSz.toInt).toNat) (n := (4 * (200 - xSz.toInt).toNat)) (by omega) (by omega) ?_
          have hans : (so2 : Int32).toInt = so2.toInt := rfl
          have hpost : (0 ≤ w_xSz_8.toInt ∧ w_xSz_8.toInt ≤ 200) ∧ (0 ≤ w_xPl_8.toInt ∧ w_xPl_8.toInt ≤ 200) ∧ (0 ≤ w_xBe_8.toInt ∧ w_xBe_8.toInt ≤ 200) ∧ (w_xPl_8.toInt ≤ w_xBe_8.toInt ∧ w_xBe_8.toInt ≤ xTz.toInt ∧ ((so2 : Int32).toInt = 0 ∨ (so2 : Int32).toInt = 1)) ∧ (tokOK gB w_xPl_8 w_xBe_8 xTz) ∧ (stq xSz.toInt w_xSz_8.toInt gSt w_gSt_8 w_L_8 w_pf_8) := ⟨by omega, by omega, by omega, by omega, hv6_8, hv7_8⟩
          exact W.zret (v := so2) hx hb hr (jnarZ (by omega)) (fun t ht hW => ⟨⟨so2, (w_xSz_8, w_xPl_8, w_xBe_8, w_xRf_8, w_xRd_8, w_xLk_8, w_gSt_8, w_L_8, w_pf_8), rfl, hpost, by rw [ht]; exact hP9, hD9, by rw [ht]; exact hBx⟩, hS.F ht⟩) hS.2.2 dX2_readTerm_81
        · have dc_22 : ¬ so2.toInt = 0 := jI_ne c_22 rfl (by decide)
          refine lv_aload_n hx hb dX2_readTerm_19 rfl (lv_at hl 2 rfl) ?_
          refine va_ldcS hx hb hown (show vk_R RX2 76 "*" (adK 2) s from hSt.2.1 2 (by decide)) dX2_readTerm_20 ?_
          have hPc := hP.sub (ws' := [((ax 13), .inr (2, [.ref (ax 11), .ref (ax 14), .int w_xSz_8, .int w_xPl_8, .int w_xBe_8, .int xRt, .int w_xRf_8, .int w_xRd_8, .int w_xLk_8])), ((ax 11), .inr (5, [.ref (ax 12), .int xTz])), ((ax 12), .inl (cA 0, 200, .inl gB))]) [0, 1, 2] rfl
          have hDc := hD.sub (ws' := [((ax 13), .inr (2, [.ref (ax 11), .ref (ax 14), .int w_xSz_8, .int w_xPl_8, .int w_xBe_8, .int xRt, .int w_xRf_8, .int w_xRd_8, .int w_xLk_8])), ((ax 11), .inr (5, [.ref (ax 12), .int xTz])), ((ax 12), .inl (cA 0, 200, .inl gB))]) [0, 1, 2] (by decide) rfl
          have hFc := va_free (wc := [((ax 13), .inr (2, [.ref (ax 11), .ref (ax 14), .int w_xSz_8, .int w_xPl_8, .int w_xBe_8, .int xRt, .int w_xRf_8, .int w_xRd_8, .int w_xLk_8])), ((ax 11), .inr (5, [.ref (ax 12), .int xTz])), ((ax 12), .inl (cA 0, 200, .inl gB))]) hD hS hA [0, 1, 2] rfl
          refine va_calli (va_runV (As := [.ref (adK 2)]) (rest := []) ⟨hx, hb, hml, hown, hts⟩ (k_X2_isAt l dC dI cA H.size ax w_xSz_8 w_xPl_8 w_xBe_8 xRt w_xRf_8 w_xRd_8 w_xLk_8 xTz gB adK adV 2 (by omega) (by omega) (by omega) (by omega) (by omega) i_gB (by omega) hv5_8) (cwV 1 hts gX2_readTerm_X2_isAt rfl rfl rfl (by decide +kernel) ⟨(show 4 + 1 ≤ FR + 9 by omega), (show 8 + (4 + 11) + 85 ≤ LO + 196 by omega)⟩) ⟨fun a U g mk q => by obtain ⟨q0, q1, qP, qK, qD, qN⟩ := q; exact ⟨q0, q1, qP, va_K.moved (u := U) (U := U.calling g mk a) (Vm.Alike.refl U.vm) qK, qD, qN.same rfl rfl⟩, va_recv hK hPc (ci := 2) (q0 := 0) rfl rfl, fun U hU hW => ⟨rfl, by rw [hU], by rw [hU]; exact hPc, va_K.moved hW.alike hK, hDc.weaken (fun _ _ _ _ => trivial), hSt.call hS hU hW hFc⟩⟩ rfl rfl hl.1 rfl (lv_room (Nat.le_of_ble_eq_true rfl)) dX2_readTerm_22 ⟨(show (w_xSz_8.toInt - xSz.toInt).toNat + 0 ≤ (200 - xSz.toInt).toNat by omega), (show (4 * (w_xSz_8.toInt - xSz.toInt).toNat) + 0 ≤ (4 * (200 - xSz.toInt).toNat) by omega)⟩) hS (fun q _ h => hFc q h) hFc (fun r_23 u_24 t H1 locs ht hvm hw_25 hB hz1 hk1 hS => ?_)
          try dsimp only at hw_25 hB
          have po_26 := hw_25
          obtain ⟨hP1, hD1⟩ := hB
          rw [ht] at hP1
          obtain ⟨hP, hD⟩ := va_joinQ (wr := [((ax 14), .inl (cA 4, 200, .inr (.inr (.inr (.inr w_gSt_8)))))]) (w1 := [((ax 13), .inr (2, [.ref (ax 11), .ref (ax 14), .int w_xSz_8, .int w_xPl_8, .int w_xBe_8, .int xRt, .int w_xRf_8, .int w_xRd_8, .int w_xLk_8])), ((ax 11), .inr (5, [.ref (ax 12), .int xTz])), ((ax 12), .inl (cA 0, 200, .inl gB))]) hP hD [0, 1, 2] [3] rfl rfl (by decide) (by decide) hk1 hFc hP1 hD1
          clear hz1
          generalize H1 = H at hP hS ⊢
          replace hP : va_P (dC, dI) vwCl ([((ax 14), .inl (cA 4, 200, .inr (.inr (.inr (.inr w_gSt_8))))), ((ax 13), .inr (2, [.ref (ax 11), .ref (ax 14), .int w_xSz_8, .int w_xPl_8, .int w_xBe_8, .int xRt, .int w_xRf_8, .int w_xRd_8, .int w_xLk_8])), ((ax 11), .inr (5, [.ref (ax 12), .int xTz])), ((ax 12), .inl (cA 0, 200, .inl gB))] ++ va_pl w_L_8 w_pf_8) H := hP
          replace hD : va_D A ([((ax 14), .inl (cA 4, 200, .inr (.inr (.inr (.inr w_gSt_8))))), ((ax 13), .inr (2, [.ref (ax 11), .ref (ax 14), .int w_xSz_8, .int w_xPl_8, .int w_xBe_8, .int xRt, .int w_xRf_8, .int w_xRd_8, .int w_xLk_8])), ((ax 11), .inr (5, [.ref (ax 12), .int xTz])), ((ax 12), .inl (cA 0, 200, .inl gB))] ++ va_pl w_L_8 w_pf_8) := hD
          refine lv_if_ne (tgt := 37) hx hb dX2_readTerm_25 (by decide) (fun c_27 => ?_) (fun c_27 => ?_)
          · have dc_27 : ¬ r_23.toInt = 0 := jI_ne c_27 rfl (by decide)
            refine lv_aload_n hx hb dX2_readTerm_37 rfl (lv_at hl 2 rfl) ?_
            refine va_ldcS hx hb hown (show vk_R RX2 76 "*" (adK 2) s from hSt.2.1 2 (by decide)) dX2_readTerm_38 ?_
            have hPc := hP.sub (ws' := [((ax 13), .inr (2, [.ref (ax 11), .ref (ax 14), .int w_xSz_8, .int w_xPl_8, .int w_xBe_8, .int xRt, .int w_xRf_8, .int w_xRd_8, .int w_xLk_8])), ((ax 11), .inr (5, [.ref (ax 12), .int xTz])), ((ax 12), .inl (cA 0, 200, .inl gB))]) [1, 2, 3] rfl
            have hDc := hD.sub (ws' := [((ax 13), .inr (2, [.ref (ax 11), .ref (ax 14), .int w_xSz_8, .int w_xPl_8, .int w_xBe_8, .int xRt, .int w_xRf_8, .int w_xRd_8, .int w_xLk_8])), ((ax 11), .inr (5, [.ref (ax 12), .int xTz])), ((ax 12), .inl (cA 0, 200, .inl gB))]) [1, 2, 3] (by decide) rfl
            have hFc := va_free (wc := [((ax 13), .inr (2, [.ref (ax 11), .ref (ax 14), .int w_xSz_8, .int w_xPl_8, .int w_xBe_8, .int xRt, .int w_xRf_8, .int w_xRd_8, .int w_xLk_8])), ((ax 11), .inr (5, [.ref (ax 12), .int xTz])), ((ax 12), .inl (cA 0, 200, .inl gB))]) hD hS hA [1, 2, 3] rfl
            refine va_calli (va_runV (As := [.ref (adK 2)]) (rest := []) ⟨hx, hb, hml, hown, hts⟩ (k_X2_isAt l dC dI cA H.size ax w_xSz_8 w_xPl_8 w_xBe_8 xRt w_xRf_8 w_xRd_8 w_xLk_8 xTz gB adK adV 2 (by omega) (by omega) (by omega) (by omega) (by omega) i_gB (by omega) hv5_8) (cwV 1 hts gX2_readTerm_X2_isAt rfl rfl rfl (by decide +kernel) ⟨(show 4 + 1 ≤ FR + 9 by omega), (show 8 + (4 + 11) + 85 ≤ LO + 196 by omega)⟩) ⟨fun a U g mk q => by obtain ⟨q0, q1, qP, qK, qD, qN⟩ := q; exact ⟨q0, q1, qP, va_K.moved (u := U) (U := U.calling g mk a) (Vm.Alike.refl U.vm) qK, qD, qN.same rfl rfl⟩, va_recv hK hPc (ci := 2) (q0 := 0) rfl rfl, fun U hU hW => ⟨rfl, by rw [hU], by rw [hU]; exact hPc, va_K.moved hW.alike hK, hDc.weaken (fun _ _ _ _ => trivial), hSt.call hS hU hW hFc⟩⟩ rfl rfl hl.1 rfl (lv_room (Nat.le_of_ble_eq_true rfl)) dX2_readTerm_40 ⟨(show (w_xSz_8.toInt - xSz.toInt).toNat + 0 ≤ (200 - xSz.toInt).toNat by omega), (show (4 * (w_xSz_8.toInt - xSz.toInt).toNat) + 0 ≤ (4 * (200 - xSz.toInt).toNat) by omega)⟩) hS (fun q _ h => hFc q h) hFc (fun r_28 u_29 t H1 locs ht hvm hw_30 hB hz1 hk1 hS => ?_)
            try dsimp only at hw_30 hB
            have po_31 := hw_30
            obtain ⟨hP1, hD1⟩ := hB
            rw [ht] at hP1
            obtain ⟨hP, hD⟩ := va_joinQ (wr := [((ax 14), .inl (cA 4, 200, .inr (.inr (.inr (.inr w_gSt_8)))))]) (w1 := [((ax 13), .inr (2, [.ref (ax 11), .ref (ax 14), .int w_xSz_8, .int w_xPl_8, .int w_xBe_8, .int xRt, .int w_xRf_8, .int w_xRd_8, .int w_xLk_8])), ((ax 11), .inr (5, [.ref (ax 12), .int xTz])), ((ax 12), .inl (cA 0, 200, .inl gB))]) hP hD [1, 2, 3] [0] rfl rfl (by decide) (by decide) hk1 hFc hP1 hD1
            clear hz1
            generalize H1 = H at hP hS ⊢
            replace hP : va_P (dC, dI) vwCl ([((ax 14), .inl (cA 4, 200, .inr (.inr (.inr (.inr w_gSt_8))))), ((ax 13), .inr (2, [.ref (ax 11), .ref (ax 14), .int w_xSz_8, .int w_xPl_8, .int w_xBe_8, .int xRt, .int w_xRf_8, .int w_xRd_8, .int w_xLk_8])), ((ax 11), .inr (5, [.ref (ax 12), .int xTz])), ((ax 12), .inl (cA 0, 200, .inl gB))] ++ va_pl w_L_8 w_pf_8) H := hP
            replace hD : va_D A ([((ax 14), .inl (cA 4, 200, .inr (.inr (.inr (.inr w_gSt_8))))), ((ax 13), .inr (2, [.ref (ax 11), .ref (ax 14), .int w_xSz_8, .int w_xPl_8, .int w_xBe_8, .int xRt, .int w_xRf_8, .int w_xRd_8, .int w_xLk_8])), ((ax 11), .inr (5, [.ref (ax 12), .int xTz])), ((ax 12), .inl (cA 0, 200, .inl gB))] ++ va_pl w_L_8 w_pf_8) := hD
            refine lv_if_eq (tgt := 51) hx hb dX2_readTerm_43 (by decide) (fun c_32 => ?_) (fun c_32 => ?_)
            · have dc_32 : r_28.toInt = 0 := jI_eq c_32 rfl (by decide)
              refine lv_bipush (v := 12) hx hb dX2_readTerm_51 (by decide) ?_
              refine lv_istore (lv' := [(4, .int 12), (3, .int i3), (2, .int so2), (0, .ref (ax 13)), (1, .int dp)]) hx hb dX2_readTerm_53 hl (by decide) rfl (fun ls hl => ?_)
              refine lv_aload_n hx hb dX2_readTerm_55 rfl (lv_at hl 3 rfl) ?_
              have hPc := hP.sub (ws' := [((ax 13), .inr (2, [.ref (ax 11), .ref (ax 14), .int w_xSz_8, .int w_xPl_8, .int w_xBe_8, .int xRt, .int w_xRf_8, .int w_xRd_8, .int w_xLk_8])), ((ax 11), .inr (5, [.ref (ax 12), .int xTz])), ((ax 12), .inl (cA 0, 200, .inl gB))]) [1, 2, 3] rfl
              have hDc := hD.sub (ws' := [((ax 13), .inr (2, [.ref (ax 11), .ref (ax 14), .int w_xSz_8, .int w_xPl_8, .int w_xBe_8, .int xRt, .int w_xRf_8, .int w_xRd_8, .int w_xLk_8])), ((ax 11), .inr (5, [.ref (ax 12), .int xTz])), ((ax 12), .inl (cA 0, 200, .inl gB))]) [1, 2, 3] (by decide) rfl
              have hFc := va_free (wc := [((ax 13), .inr (2, [.ref (ax 11), .ref (ax 14), .int w_xSz_8, .int w_xPl_8, .int w_xBe_8, .int xRt, .int w_xRf_8, .int w_xRd_8, .int w_xLk_8])), ((ax 11), .inr (5, [.ref (ax 12), .int xTz])), ((ax 12), .inl (cA 0, 200, .inl gB))]) hD hS hA [1, 2, 3] rfl
              refine va_callv (va_runV (As := []) (rest := []) ⟨hx, hb, hml, hown, hts⟩ (k_X2_advance l dC dI cA H.size ax w_xSz_8 w_xPl_8 w_xBe_8 xRt w_xRf_8 w_xRd_8 w_xLk_8 xTz gB (by omega) (by omega) (by omega) (by omega) (by omega) i_gB (by omega)) (cwV 0 hts gX2_readTerm_X2_advance rfl rfl rfl (by decide +kernel) ⟨(show 1 + 1 ≤ FR + 9 by omega), (show 8 + (3 + 11) + 23 ≤ LO + 196 by omega)⟩) ⟨fun a U g mk q => by obtain ⟨q0, q1, qP, qK, qD, qN⟩ := q; exact ⟨q0, q1, qP, va_K.moved (u := U) (U := U.calling g mk a) (Vm.Alike.refl U.vm) qK, qD, qN.same rfl⟩, va_recv hK hPc (ci := 2) (q0 := 0) rfl rfl, fun U hU hW => ⟨rfl, by rw [hU], by rw [hU]; exact hPc, va_K.moved hW.alike hK, hDc.weaken (fun _ _ _ _ => trivial), hN.warm hW⟩⟩ rfl rfl hl.1 rfl (lv_room (Nat.le_of_ble_eq_true rfl)) dX2_readTerm_56 ⟨(show (w_xSz_8.toInt - xSz.toInt).toNat + 0 ≤ (200 - xSz.toInt).toNat by omega), (show (4 * (w_xSz_8.toInt - xSz.toInt).toNat) + 0 ≤ (4 * (200 - xSz.toInt).toNat) by omega)⟩) hS (fun q _ h => hFc q h) hFc (fun u_33 t H1 locs ht hvm hw_34 hB hz1 hk1 hS => ?_)
              obtain ⟨w_35, w_36⟩ := u_33
              try dsimp only at hw_34 hB
              obtain ⟨iv_37, iv_38, po_39, tk_40⟩ := hw_34
              obtain ⟨hP1, hD1⟩ := hB
              rw [ht] at hP1
              obtain ⟨hP, hD⟩ := va_joinQ (wr := [((ax 14), .inl (cA 4, 200, .inr (.inr (.inr (.inr w_gSt_8)))))]) (w1 := [((ax 13), .inr (2, [.ref (ax 11), .ref (ax 14), .int w_xSz_8, .int w_35, .int w_36, .int xRt, .int w_xRf_8, .int w_xRd_8, .int w_xLk_8])), ((ax 11), .inr (5, [.ref (ax 12), .int xTz])), ((ax 12), .inl (cA 0, 200, .inl gB))]) hP hD [1, 2, 3] [0] rfl rfl (by decide) (by decide) hk1 hFc hP1 hD1
              clear hz1
              generalize H1 = H at hP hS ⊢
              replace hP : va_P (dC, dI) vwCl ([((ax 14), .inl (cA 4, 200, .inr (.inr (.inr (.inr w_gSt_8))))), ((ax 13), .inr (2, [.ref (ax 11), .ref (ax 14), .int w_xSz_8, .int w_35, .int w_36, .int xRt, .int w_xRf_8, .int w_xRd_8, .int w_xLk_8])), ((ax 11), .inr (5, [.ref (ax 12), .int xTz])), ((ax 12), .inl (cA 0, 200, .inl gB))] ++ va_pl w_L_8 w_pf_8) H := hP
              replace hD : va_D A ([((ax 14), .inl (cA 4, 200, .inr (.inr (.inr (.inr w_gSt_8))))), ((ax 13), .inr (2, [.ref (ax 11), .ref (ax 14), .int w_xSz_8, .int w_35, .int w_36, .int xRt, .int w_xRf_8, .int w_xRd_8, .int w_xLk_8])), ((ax 11), .inr (5, [.ref (ax 12), .int xTz])), ((ax 12), .inl (cA 0, 200, .inl gB))] ++ va_pl w_L_8 w_pf_8) := hD
              refine lv_aload_n hx hb dX2_readTerm_59 rfl (lv_at hl 3 rfl) ?_
              refine lv_iload_n hx hb dX2_readTerm_60 rfl (lv_at hl 4 rfl) ?_
              have hPc := hP.sub (ws' := [((ax 13), .inr (2, [.ref (ax 11), .ref (ax 14), .int w_xSz_8, .int w_35, .int w_36, .int xRt, .int w_xRf_8, .int w_xRd_8, .int w_xLk_8])), ((ax 11), .inr (5, [.ref (ax 12), .int xTz])), ((ax 12), .inl (cA 0, 200, .inl gB)), ((ax 14), .inl (cA 4, 200, .inr (.inr (.inr (.inr w_gSt_8)))))]) [1, 2, 3, 0] rfl
              have hDc := hD.sub (ws' := [((ax 13), .inr (2, [.ref (ax 11), .ref (ax 14), .int w_xSz_8, .int w_35, .int w_36, .int xRt, .int w_xRf_8, .int w_xRd_8, .int w_xLk_8])), ((ax 11), .inr (5, [.ref (ax 12), .int xTz])), ((ax 12), .inl (cA 0, 200, .inl gB)), ((ax 14), .inl (cA 4, 200, .inr (.inr (.inr (.inr w_gSt_8)))))]) [1, 2, 3, 0] (by decide) rfl
              have hFc := va_free (wc := [((ax 13), .inr (2, [.ref (ax 11), .ref (ax 14), .int w_xSz_8, .int w_35, .int w_36, .int xRt, .int w_xRf_8, .int w_xRd_8, .int w_xLk_8])), ((ax 11), .inr (5, [.ref (ax 12), .int xTz])), ((ax 12), .inl (cA 0, 200, .inl gB)), ((ax 14), .inl (cA 4, 200, .inr (.inr (.inr (.inr w_gSt_8)))))]) hD hS hA [1, 2, 3, 0] rfl
              refine W.know (fun hkn1 hkn2 => ?_)
              have hS0 := hS.1
              refine va_calli (va_runV (As := [.int dp]) (rest := []) ⟨hx, hb, hml, hown, hts⟩ (k_X2_readPart l dC dI cA H.size ax w_xSz_8 w_35 w_36 xRt w_xRf_8 w_xRd_8 w_xLk_8 xTz gB w_gSt_8 dp adK adV rl FR LO (by omega) (by omega) (by omega) (by omega) (by omega) i_gB (by omega) tk_40 hdp hop ih) (cwV 1 hts gX2_readTerm_X2_readPart rfl rfl rfl (by decide +kernel) ⟨(show (FR + 8) + 1 ≤ FR + 9 by omega), (show 8 + (2 + 11) + (LO + 175) ≤ LO + 196 by omega)⟩) ⟨fun a U g mk q => by obtain ⟨q0, q1, qP, qK, qD, qN⟩ := q; exact ⟨q0, q1, qP, va_K.moved (u := U) (U := U.calling g mk a) (Vm.Alike.refl U.vm) qK, qD, qN.same rfl rfl⟩, va_recv hK hPc (ci := 2) (q0 := 0) rfl rfl, fun U hU hW => ⟨rfl, by rw [hU], by rw [hU]; exact hPc, va_K.moved hW.alike hK, hDc.weaken (fun _ _ _ _ => trivial), hSt.call hS hU hW hFc⟩⟩ rfl rfl hl.1 rfl (lv_room (Nat.le_of_ble_eq_true rfl)) dX2_readTerm_61 ⟨(show (w_xSz_8.toInt - xSz.toInt).toNat + ((200 - w_xSz_8.toInt).toNat) ≤ (200 - xSz.toInt).toNat by omega), (show (4 * (w_xSz_8.toInt - xSz.toInt).toNat) + (4 * (200 - w_xSz_8.toInt).toNat) ≤ (4 * (200 - xSz.toInt).toNat) by omega)⟩) hS (fun q _ h => hFc q h) hFc (fun r_41 u_42 t H1 locs ht hvm hw_43 hB hz1 hk1 hS => ?_)
              obtain ⟨w_44, w_45, w_46, w_47, w_48, w_49, w_50, w_51, w_52⟩ := u_42
              try dsimp only at hw_43 hB
              obtain ⟨iv_53, iv_54, iv_55, po_56, tk_57, st_58⟩ := hw_43
              obtain ⟨hP1, hD1, hX1⟩ := hB
              rw [ht] at hP1 hX1
              obtain ⟨hP, hD⟩ := va_joinQ (wr := []) (w1 := [((ax 13), .inr (2, [.ref (ax 11), .ref (ax 14), .int w_44, .int w_45, .int w_46, .int xRt, .int w_47, .int w_48, .int w_49])), ((ax 11), .inr (5, [.ref (ax 12), .int xTz])), ((ax 12), .inl (cA 0, 200, .inl gB)), ((ax 14), .inl (cA 4, 200, .inr (.inr (.inr (.inr w_50)))))] ++ va_pl w_51 w_52) hP hD [1, 2, 3, 0] [] rfl rfl (by decide) (by decide) hk1 hFc hP1 hD1
              obtain ⟨fm_59, hma_fm_59, hmb_fm_59, hP, hD⟩ := pl_merge hP hD
              have sq_fm_59 := stq_tr hv7_8 st_58 hma_fm_59 hmb_fm_59
              have hle_fm_59 := sq_fm_59.1
              have hlf_fm_59 := st_58.1
              refine W.tight (cells' := (w_44.toInt - xSz.toInt).toNat) (slots' := 4 * (w_44.toInt - xSz.toInt).toNat) (by omega) (by have hch := ssum_chain hS0 hz1 (fun q h1 h2 => hk1 q h2 (na_of (fun k e hk => by rcases mem4 hk with h | h | h | h <;> omega) h1 h2)); omega) ?_
              clear hz1
              generalize H1 = H at hP hS ⊢
              replace hP : va_P (dC, dI) vwCl ([((ax 13), .inr (2, [.ref (ax 11), .ref (ax 14), .int w_44, .int w_45, .int w_46, .int xRt, .int w_47, .int w_48, .int w_49])), ((ax 11), .inr (5, [.ref (ax 12), .int xTz])), ((ax 12), .inl (cA 0, 200, .inl gB)), ((ax 14), .inl (cA 4, 200, .inr (.inr (.inr (.inr w_50)))))] ++ va_pl (w_L_8 ++ w_51) fm_59) H := hP
              replace hD : va_D A ([((ax 13), .inr (2, [.ref (ax 11), .ref (ax 14), .int w_44, .int w_45, .int w_46, .int xRt, .int w_47, .int w_48, .int w_49])), ((ax 11), .inr (5, [.ref (ax 12), .int xTz])), ((ax 12), .inl (cA 0, 200, .inl gB)), ((ax 14), .inl (cA 4, 200, .inr (.inr (.inr (.inr w_50)))))] ++ va_pl (w_L_8 ++ w_51) fm_59) := hD
              refine lv_istore_n (lv' := [(2, .int r_41), (4, .int 12), (3, .int i3), (0, .ref (ax 13)), (1, .int dp)]) hx hb dX2_readTerm_64 rfl hl (by decide) rfl (fun ls hl => ?_)
              refine lv_aload_n hx hb dX2_readTerm_65 rfl (lv_at hl 3 rfl) ?_
              refine lv_iload hx hb dX2_readTerm_66 (lv_at hl 1 rfl) ?_
              refine lv_iconst (v := (-1)) hx hb dX2_readTerm_68 (by decide) ?_
              refine lv_iconst (v := (-1)) hx hb dX2_readTerm_69 (by decide) ?_
              refine lv_iconst (v := (-1)) hx hb dX2_readTerm_70 (by decide) ?_
              have hk_60 : (12 : Int32).toInt = 12 := by decide
              have hk_61 : ((-1) : Int32).toInt = (-1) := by decide
              have hPc := hP.sub (ws' := [((ax 13), .inr (2, [.ref (ax 11), .ref (ax 14), .int w_44, .int w_45, .int w_46, .int xRt, .int w_47, .int w_48, .int w_49])), ((ax 11), .inr (5, [.ref (ax 12), .int xTz])), ((ax 12), .inl (cA 0, 200, .inl gB)), ((ax 14), .inl (cA 4, 200, .inr (.inr (.inr (.inr w_50)))))]) [0, 1, 2, 3] rfl
              have hDc := hD.sub (ws' := [((ax 13), .inr (2, [.ref (ax 11), .ref (ax 14), .int w_44, .int w_45, .int w_46, .int xRt, .int w_47, .int w_48, .int w_49])), ((ax 11), .inr (5, [.ref (ax 12), .int xTz])), ((ax 12), .inl (cA 0, 200, .inl gB)), ((ax 14), .inl (cA 4, 200, .inr (.inr (.inr (.inr w_50)))))]) [0, 1, 2, 3] (by decide) rfl
              have hFc := va_free (wc := [((ax 13), .inr (2, [.ref (ax 11), .ref (ax 14), .int w_44, .int w_45, .int w_46, .int xRt, .int w_47, .int w_48, .int w_49])), ((ax 11), .inr (5, [.ref (ax 12), .int xTz])), ((ax 12), .inl (cA 0, 200, .inl gB)), ((ax 14), .inl (cA 4, 200, .inr (.inr (.inr (.inr w_50)))))]) hD hS hA [0, 1, 2, 3] rfl
              refine W.know (fun hkn1 hkn2 => ?_)
              have hS0 := hS.1
              refine va_callv (va_runV (As := [.int 12, .int (-1), .int (-1), .int (-1)]) (rest := []) ⟨hx, hb, hml, hown, hts⟩ (k_X2_emit l dC dI cA H.size ax w_44 w_45 w_46 xRt w_47 w_48 w_49 xTz gB w_50 12 (-1) (-1) (-1) (by omega) (by omega) (by omega) (by omega) (by omega) i_gB (by omega)) (cwV 4 hts gX2_readTerm_X2_emit rfl rfl rfl (by decide +kernel) ⟨(show 2 + 1 ≤ FR + 9 by omega), (show 8 + (5 + 11) + 44 ≤ LO + 196 by omega)⟩) ⟨fun a U g mk q => by obtain ⟨q0, q1, qP, qK, qD, qN⟩ := q; exact ⟨q0, q1, qP, va_K.moved (u := U) (U := U.calling g mk a) (Vm.Alike.refl U.vm) qK, qD, qN.same rfl⟩, va_recv hK hPc (ci := 2) (q0 := 0) rfl rfl, fun U hU hW => ⟨rfl, by rw [hU], by rw [hU]; exact hPc, va_K.moved hW.alike hK, hDc.weaken (fun _ _ _ _ => trivial), hN.warm hW⟩⟩ rfl rfl hl.1 rfl (lv_room (Nat.le_of_ble_eq_true rfl)) dX2_readTerm_71 ⟨(show (w_44.toInt - xSz.toInt).toNat + ((200 - w_44.toInt).toNat) ≤ (200 - xSz.toInt).toNat by omega), (show (4 * (w_44.toInt - xSz.toInt).toNat) + (4 * (200 - w_44.toInt).toNat) ≤ (4 * (200 - xSz.toInt).toNat) by omega)⟩) hS (fun q _ h => hFc q h) hFc (fun u_62 t H1 locs ht hvm hw_63 hB hz1 hk1 hS => ?_)
              obtain ⟨w_64, w_65, w_66, w_67⟩ := u_62
              try dsimp only at hw_63 hB
              obtain ⟨iv_68, st_69⟩ := hw_63
              try simp only [hk_60, hk_61] at st_69
              obtain ⟨hP1, hD1, hX1⟩ := hB
              rw [ht] at hP1 hX1
              obtain ⟨hP, hD⟩ := va_joinQ (wr := []) (w1 := [((ax 13), .inr (2, [.ref (ax 11), .ref (ax 14), .int w_64, .int w_45, .int w_46, .int xRt, .int w_47, .int w_48, .int w_49])), ((ax 11), .inr (5, [.ref (ax 12), .int xTz])), ((ax 12), .inl (cA 0, 200, .inl gB)), ((ax 14), .inl (cA 4, 200, .inr (.inr (.inr (.inr w_65)))))] ++ va_pl w_66 w_67) hP hD [0, 1, 2, 3] [] rfl rfl (by decide) (by decide) hk1 hFc hP1 hD1
              obtain ⟨fm_70, hma_fm_70, hmb_fm_70, hP, hD⟩ := pl_merge hP hD
              have sq_fm_70 := stq_tr sq_fm_59 st_69 hma_fm_70 hmb_fm_70
              have hle_fm_70 := sq_fm_70.1
              have hlf_fm_70 := st_69.1
              refine W.tight (cells' := (w_64.toInt - xSz.toInt).toNat) (slots' := 4 * (w_64.toInt - xSz.toInt).toNat) (by omega) (by have hch := ssum_chain hS0 hz1 (fun q h1 h2 => hk1 q h2 (na_of (fun k e hk => by rcases mem4 hk with h | h | h | h <;> omega) h1 h2)); omega) ?_
              clear hz1
              generalize H1 = H at hP hS ⊢
              replace hP : va_P (dC, dI) vwCl ([((ax 13), .inr (2, [.ref (ax 11), .ref (ax 14), .int w_64, .int w_45, .int w_46, .int xRt, .int w_47, .int w_48, .int w_49])), ((ax 11), .inr (5, [.ref (ax 12), .int xTz])), ((ax 12), .inl (cA 0, 200, .inl gB)), ((ax 14), .inl (cA 4, 200, .inr (.inr (.inr (.inr w_65)))))] ++ va_pl ((w_L_8 ++ w_51) ++ w_66) fm_70) H := hP
              replace hD : va_D A ([((ax 13), .inr (2, [.ref (ax 11), .ref (ax 14), .int w_64, .int w_45, .int w_46, .int xRt, .int w_47, .int w_48, .int w_49])), ((ax 11), .inr (5, [.ref (ax 12), .int xTz])), ((ax 12), .inl (cA 0, 200, .inl gB)), ((ax 14), .inl (cA 4, 200, .inr (.inr (.inr (.inr w_65)))))] ++ va_pl ((w_L_8 ++ w_51) ++ w_66) fm_70) := hD
              obtain ⟨x_71, ex_71⟩ : ∃ y : Int32, y = i3 + 1 := ⟨_, rfl⟩
              have dx_71 : x_71.toInt = i3.toInt + 1 := by rw [ex_71]; exact jI_add rfl (by decide) (by omega) (by omega)
              refine lv_iinc (v := x_71) (lv' := [(3, .int x_71), (2, .int r_41), (4, .int 12), (0, .ref (ax 13)), (1, .int dp)]) hx hb dX2_readTerm_74 hl (k := 2) rfl (by rw [ex_71]; rfl) (by decide) rfl (fun ls hl => ?_)
              refine lv_goto (tgt := 8) hx hb dX2_readTerm_77 (by decide) ?_
              exact ih_8 x_71 r_41 w_64 w_45 w_46 w_47 w_48 w_49 w_65 ((w_L_8 ++ w_51) ++ w_66) fm_70 _ _ ls (by omega) (by omega) (by omega) (by omega) (by omega) (by omega) (by omega) (tk_57) (sq_fm_70) (hP.part (cx := [((ax 13), .inr (2, [.ref (ax 11), .ref (ax 14), .int w_64, .int w_45, .int w_46, .int xRt, .int w_47, .int w_48, .int w_49])), ((ax 11), .inr (5, [.ref (ax 12), .int xTz])), ((ax 12), .inl (cA 0, 200, .inl gB)), ((ax 14), .inl (cA 4, 200, .inr (.inr (.inr (.inr w_65)))))]) [0, 1, 2, 3] rfl) (hD.part (cx := [((ax 13), .inr (2, [.ref (ax 11), .ref (ax 14), .int w_64, .int w_45, .int w_46, .int xRt, .int w_47, .int w_48, .int w_49])), ((ax 11), .inr (5, [.ref (ax 12), .int xTz])), ((ax 12), .inl (cA 0, 200, .inl gB)), ((ax 14), .inl (cA 4, 200, .inr (.inr (.inr (.inr w_65)))))]) [0, 1, 2, 3] (by decide) rfl) hS (lv_sub hl [0, 1, 3, 4] rfl)
            · have dc_32 : ¬ r_28.toInt = 0 := jI_ne c_32 rfl (by decide)
              refine lv_bipush (v := 11) hx hb dX2_readTerm_46 (by decide) ?_
              refine lv_goto (tgt := 53) hx hb dX2_readTerm_48 (by decide) ?_
              refine lv_istore (lv' := [(4, .int 11), (3, .int i3), (2, .int so2), (0, .ref (ax 13)), (1, .int dp)]) hx hb dX2_readTerm_53 hl (by decide) rfl (fun ls hl => ?_)
              refine lv_aload_n hx hb dX2_readTerm_55 rfl (lv_at hl 3 rfl) ?_
              have hPc := hP.sub (ws' := [((ax 13), .inr (2, [.ref (ax 11), .ref (ax 14), .int w_xSz_8, .int w_xPl_8, .int w_xBe_8, .int xRt, .int w_xRf_8, .int w_xRd_8, .int w_xLk_8])), ((ax 11), .inr (5, [.ref (ax 12), .int xTz])), ((ax 12), .inl (cA 0, 200, .inl gB))]) [1, 2, 3] rfl
              have hDc := hD.sub (ws' := [((ax 13), .inr (2, [.ref (ax 11), .ref (ax 14), .int w_xSz_8, .int w_xPl_8, .int w_xBe_8, .int xRt, .int w_xRf_8, .int w_xRd_8, .int w_xLk_8])), ((ax 11), .inr (5, [.ref (ax 12), .int xTz])), ((ax 12), .inl (cA 0, 200, .inl gB))]) [1, 2, 3] (by decide) rfl
              have hFc := va_free (wc := [((ax 13), .inr (2, [.ref (ax 11), .ref (ax 14), .int w_xSz_8, .int w_xPl_8, .int w_xBe_8, .int xRt, .int w_xRf_8, .int w_xRd_8, .int w_xLk_8])), ((ax 11), .inr (5, [.ref (ax 12), .int xTz])), ((ax 12), .inl (cA 0, 200, .inl gB))]) hD hS hA [1, 2, 3] rfl
              refine va_callv (va_runV (As := []) (rest := []) ⟨hx, hb, hml, hown, hts⟩ (k_X2_advance l dC dI cA H.size ax w_xSz_8 w_xPl_8 w_xBe_8 xRt w_xRf_8 w_xRd_8 w_xLk_8 xTz gB (by omega) (by omega) (by omega) (by omega) (by omega) i_gB (by omega)) (cwV 0 hts gX2_readTerm_X2_advance rfl rfl rfl (by decide +kernel) ⟨(show 1 + 1 ≤ FR + 9 by omega), (show 8 + (3 + 11) + 23 ≤ LO + 196 by omega)⟩) ⟨fun a U g mk q => by obtain ⟨q0, q1, qP, qK, qD, qN⟩ := q; exact ⟨q0, q1, qP, va_K.moved (u := U) (U := U.calling g mk a) (Vm.Alike.refl U.vm) qK, qD, qN.same rfl⟩, va_recv hK hPc (ci := 2) (q0 := 0) rfl rfl, fun U hU hW => ⟨rfl, by rw [hU], by rw [hU]; exact hPc, va_K.moved hW.alike hK, hDc.weaken (fun _ _ _ _ => trivial), hN.warm hW⟩⟩ rfl rfl hl.1 rfl (lv_room (Nat.le_of_ble_eq_true rfl)) dX2_readTerm_56 ⟨(show (w_xSz_8.toInt - xSz.toInt).toNat + 0 ≤ (200 - xSz.toInt).toNat by omega), (show (4 * (w_xSz_8.toInt - xSz.toInt).toNat) + 0 ≤ (4 * (200 - xSz.toInt).toNat) by omega)⟩) hS (fun q _ h => hFc q h) hFc (fun u_72 t H1 locs ht hvm hw_73 hB hz1 hk1 hS => ?_)
              obtain ⟨w_74, w_75⟩ := u_72
              try dsimp only at hw_73 hB
              obtain ⟨iv_76, iv_77, po_78, tk_79⟩ := hw_73
              obtain ⟨hP1, hD1⟩ := hB
              rw [ht] at hP1
              obtain ⟨hP, hD⟩ := va_joinQ (wr := [((ax 14), .inl (cA 4, 200, .inr (.inr (.inr (.inr w_gSt_8)))))]) (w1 := [((ax 13), .inr (2, [.ref (ax 11), .ref (ax 14), .int w_xSz_8, .int w_74, .int w_75, .int xRt, .int w_xRf_8, .int w_xRd_8, .int w_xLk_8])), ((ax 11), .inr (5, [.ref (ax 12), .int xTz])), ((ax 12), .inl (cA 0, 200, .inl gB))]) hP hD [1, 2, 3] [0] rfl rfl (by decide) (by decide) hk1 hFc hP1 hD1
              clear hz1
              generalize H1 = H at hP hS ⊢
              replace hP : va_P (dC, dI) vwCl ([((ax 14), .inl (cA 4, 200, .inr (.inr (.inr (.inr w_gSt_8))))), ((ax 13), .inr (2, [.ref (ax 11), .ref (ax 14), .int w_xSz_8, .int w_74, .int w_75, .int xRt, .int w_xRf_8, .int w_xRd_8, .int w_xLk_8])), ((ax 11), .inr (5, [.ref (ax 12), .int xTz])), ((ax 12), .inl (cA 0, 200, .inl gB))] ++ va_pl w_L_8 w_pf_8) H := hP
              replace hD : va_D A ([((ax 14), .inl (cA 4, 200, .inr (.inr (.inr (.inr w_gSt_8))))), ((ax 13), .inr (2, [.ref (ax 11), .ref (ax 14), .int w_xSz_8, .int w_74, .int w_75, .int xRt, .int w_xRf_8, .int w_xRd_8, .int w_xLk_8])), ((ax 11), .inr (5, [.ref (ax 12), .int xTz])), ((ax 12), .inl (cA 0, 200, .inl gB))] ++ va_pl w_L_8 w_pf_8) := hD
              refine lv_aload_n hx hb dX2_readTerm_59 rfl (lv_at hl 3 rfl) ?_
              refine lv_iload_n hx hb dX2_readTerm_60 rfl (lv_at hl 4 rfl) ?_
              have hPc := hP.sub (ws' := [((ax 13), .inr (2, [.ref (ax 11), .ref (ax 14), .int w_xSz_8, .int w_74, .int w_75, .int xRt, .int w_xRf_8, .int w_xRd_8, .int w_xLk_8])), ((ax 11), .inr (5, [.ref (ax 12), .int xTz])), ((ax 12), .inl (cA 0, 200, .inl gB)), ((ax 14), .inl (cA 4, 200, .inr (.inr (.inr (.inr w_gSt_8)))))]) [1, 2, 3, 0] rfl
              have hDc := hD.sub (ws' := [((ax 13), .inr (2, [.ref (ax 11), .ref (ax 14), .int w_xSz_8, .int w_74, .int w_75, .int xRt, .int w_xRf_8, .int w_xRd_8, .int w_xLk_8])), ((ax 11), .inr (5, [.ref (ax 12), .int xTz])), ((ax 12), .inl (cA 0, 200, .inl gB)), ((ax 14), .inl (cA 4, 200, .inr (.inr (.inr (.inr w_gSt_8)))))]) [1, 2, 3, 0] (by decide) rfl
              have hFc := va_free (wc := [((ax 13), .inr (2, [.ref (ax 11), .ref (ax 14), .int w_xSz_8, .int w_74, .int w_75, .int xRt, .int w_xRf_8, .int w_xRd_8, .int w_xLk_8])), ((ax 11), .inr (5, [.ref (ax 12), .int xTz])), ((ax 12), .inl (cA 0, 200, .inl gB)), ((ax 14), .inl (cA 4, 200, .inr (.inr (.inr (.inr w_gSt_8)))))]) hD hS hA [1, 2, 3, 0] rfl
              refine W.know (fun hkn1 hkn2 => ?_)
              have hS0 := hS.1
              refine va_calli (va_runV (As := [.int dp]) (rest := []) ⟨hx, hb, hml, hown, hts⟩ (k_X2_readPart l dC dI cA H.size ax w_xSz_8 w_74 w_75 xRt w_xRf_8 w_xRd_8 w_xLk_8 xTz gB w_gSt_8 dp adK adV rl FR LO (by omega) (by omega) (by omega) (by omega) (by omega) i_gB (by omega) tk_79 hdp hop ih) (cwV 1 hts gX2_readTerm_X2_readPart rfl rfl rfl (by decide +kernel) ⟨(show (FR + 8) + 1 ≤ FR + 9 by omega), (show 8 + (2 + 11) + (LO + 175) ≤ LO + 196 by omega)⟩) ⟨fun a U g mk q => by obtain ⟨q0, q1, qP, qK, qD, qN⟩ := q; exact ⟨q0, q1, qP, va_K.moved (u := U) (U := U.calling g mk a) (Vm.Alike.refl U.vm) qK, qD, qN.same rfl rfl⟩, va_recv hK hPc (ci := 2) (q0 := 0) rfl rfl, fun U hU hW => ⟨rfl, by rw [hU], by rw [hU]; exact hPc, va_K.moved hW.alike hK, hDc.weaken (fun _ _ _ _ => trivial), hSt.call hS hU hW hFc⟩⟩ rfl rfl hl.1 rfl (lv_room (Nat.le_of_ble_eq_true rfl)) dX2_readTerm_61 ⟨(show (w_xSz_8.toInt - xSz.toInt).toNat + ((200 - w_xSz_8.toInt).toNat) ≤ (200 - xSz.toInt).toNat by omega), (show (4 * (w_xSz_8.toInt - xSz.toInt).toNat) + (4 * (200 - w_xSz_8.toInt).toNat) ≤ (4 * (200 - xSz.toInt).toNat) by omega)⟩) hS (fun q _ h => hFc q h) hFc (fun r_80 u_81 t H1 locs ht hvm hw_82 hB hz1 hk1 hS => ?_)
              obtain ⟨w_83, w_84, w_85, w_86, w_87, w_88, w_89, w_90, w_91⟩ := u_81
              try dsimp only at hw_82 hB
              obtain ⟨iv_92, iv_93, iv_94, po_95, tk_96, st_97⟩ := hw_82
              obtain ⟨hP1, hD1, hX1⟩ := hB
              rw [ht] at hP1 hX1
              obtain ⟨hP, hD⟩ := va_joinQ (wr := []) (w1 := [((ax 13), .inr (2, [.ref (ax 11), .ref (ax 14), .int w_83, .int w_84, .int w_85, .int xRt, .int w_86, .int w_87, .int w_88])), ((ax 11), .inr (5, [.ref (ax 12), .int xTz])), ((ax 12), .inl (cA 0, 200, .inl gB)), ((ax 14), .inl (cA 4, 200, .inr (.inr (.inr (.inr w_89)))))] ++ va_pl w_90 w_91) hP hD [1, 2, 3, 0] [] rfl rfl (by decide) (by decide) hk1 hFc hP1 hD1
              obtain ⟨fm_98, hma_fm_98, hmb_fm_98, hP, hD⟩ := pl_merge hP hD
              have sq_fm_98 := stq_tr hv7_8 st_97 hma_fm_98 hmb_fm_98
              have hle_fm_98 := sq_fm_98.1
              have hlf_fm_98 := st_97.1
              refine W.tight (cells' := (w_83.toInt - xSz.toInt).toNat) (slots' := 4 * (w_83.toInt - xSz.toInt).toNat) (by omega) (by have hch := ssum_chain hS0 hz1 (fun q h1 h2 => hk1 q h2 (na_of (fun k e hk => by rcases mem4 hk with h | h | h | h <;> omega) h1 h2)); omega) ?_
              clear hz1
              generalize H1 = H at hP hS ⊢
              replace hP : va_P (dC, dI) vwCl ([((ax 13), .inr (2, [.ref (ax 11), .ref (ax 14), .int w_83, .int w_84, .int w_85, .int xRt, .int w_86, .int w_87, .int w_88])), ((ax 11), .inr (5, [.ref (ax 12), .int xTz])), ((ax 12), .inl (cA 0, 200, .inl gB)), ((ax 14), .inl (cA 4, 200, .inr (.inr (.inr (.inr w_89)))))] ++ va_pl (w_L_8 ++ w_90) fm_98) H := hP
              replace hD : va_D A ([((ax 13), .inr (2, [.ref (ax 11), .ref (ax 14), .int w_83, .int w_84, .int w_85, .int xRt, .int w_86, .int w_87, .int w_88])), ((ax 11), .inr (5, [.ref (ax 12), .int xTz])), ((ax 12), .inl (cA 0, 200, .inl gB)), ((ax 14), .inl (cA 4, 200, .inr (.inr (.inr (.inr w_89)))))] ++ va_pl (w_L_8 ++ w_90) fm_98) := hD
              refine lv_istore_n (lv' := [(2, .int r_80), (4, .int 11), (3, .int i3), (0, .ref (ax 13)), (1, .int dp)]) hx hb dX2_readTerm_64 rfl hl (by decide) rfl (fun ls hl => ?_)
              refine lv_aload_n hx hb dX2_readTerm_65 rfl (lv_at hl 3 rfl) ?_
              refine lv_iload hx hb dX2_readTerm_66 (lv_at hl 1 rfl) ?_
              refine lv_iconst (v := (-1)) hx hb dX2_readTerm_68 (by decide) ?_
              refine lv_iconst (v := (-1)) hx hb dX2_readTerm_69 (by decide) ?_
              refine lv_iconst (v := (-1)) hx hb dX2_readTerm_70 (by decide) ?_
              have hk_99 : (11 : Int32).toInt = 11 := by decide
              have hk_100 : ((-1) : Int32).toInt = (-1) := by decide
              have hPc := hP.sub (ws' := [((ax 13), .inr (2, [.ref (ax 11), .ref (ax 14), .int w_83, .int w_84, .int w_85, .int xRt, .int w_86, .int w_87, .int w_88])), ((ax 11), .inr (5, [.ref (ax 12), .int xTz])), ((ax 12), .inl (cA 0, 200, .inl gB)), ((ax 14), .inl (cA 4, 200, .inr (.inr (.inr (.inr w_89)))))]) [0, 1, 2, 3] rfl
              have hDc := hD.sub (ws' := [((ax 13), .inr (2, [.ref (ax 11), .ref (ax 14), .int w_83, .int w_84, .int w_85, .int xRt, .int w_86, .int w_87, .int w_88])), ((ax 11), .inr (5, [.ref (ax 12), .int xTz])), ((ax 12), .inl (cA 0, 200, .inl gB)), ((ax 14), .inl (cA 4, 200, .inr (.inr (.inr (.inr w_89)))))]) [0, 1, 2, 3] (by decide) rfl
              have hFc := va_free (wc := [((ax 13), .inr (2, [.ref (ax 11), .ref (ax 14), .int w_83, .int w_84, .int w_85, .int xRt, .int w_86, .int w_87, .int w_88])), ((ax 11), .inr (5, [.ref (ax 12), .int xTz])), ((ax 12), .inl (cA 0, 200, .inl gB)), ((ax 14), .inl (cA 4, 200, .inr (.inr (.inr (.inr w_89)))))]) hD hS hA [0, 1, 2, 3] rfl
              refine W.know (fun hkn1 hkn2 => ?_)
              have hS0 := hS.1
              refine va_callv (va_runV (As := [.int 11, .int (-1), .int (-1), .int (-1)]) (rest := []) ⟨hx, hb, hml, hown, hts⟩ (k_X2_emit l dC dI cA H.size ax w_83 w_84 w_85 xRt w_86 w_87 w_88 xTz gB w_89 11 (-1) (-1) (-1) (by omega) (by omega) (by omega) (by omega) (by omega) i_gB (by omega)) (cwV 4 hts gX2_readTerm_X2_emit rfl rfl rfl (by decide +kernel) ⟨(show 2 + 1 ≤ FR + 9 by omega), (show 8 + (5 + 11) + 44 ≤ LO + 196 by omega)⟩) ⟨fun a U g mk q => by obtain ⟨q0, q1, qP, qK, qD, qN⟩ := q; exact ⟨q0, q1, qP, va_K.moved (u := U) (U := U.calling g mk a) (Vm.Alike.refl U.vm) qK, qD, qN.same rfl⟩, va_recv hK hPc (ci := 2) (q0 := 0) rfl rfl, fun U hU hW => ⟨rfl, by rw [hU], by rw [hU]; exact hPc, va_K.moved hW.alike hK, hDc.weaken (fun _ _ _ _ => trivial), hN.warm hW⟩⟩ rfl rfl hl.1 rfl (lv_room (Nat.le_of_ble_eq_true rfl)) dX2_readTerm_71 ⟨(show (w_83.toInt - xSz.toInt).toNat + ((200 - w_83.toInt).toNat) ≤ (200 - xSz.toInt).toNat by omega), (show (4 * (w_83.toInt - xSz.toInt).toNat) + (4 * (200 - w_83.toInt).toNat) ≤ (4 * (200 - xSz.toInt).toNat) by omega)⟩) hS (fun q _ h => hFc q h) hFc (fun u_101 t H1 locs ht hvm hw_102 hB hz1 hk1 hS => ?_)
              obtain ⟨w_103, w_104, w_105, w_106⟩ := u_101
              try dsimp only at hw_102 hB
              obtain ⟨iv_107, st_108⟩ := hw_102
              try simp only [hk_99, hk_100] at st_108
              obtain ⟨hP1, hD1, hX1⟩ := hB
              rw [ht] at hP1 hX1
              obtain ⟨hP, hD⟩ := va_joinQ (wr := []) (w1 := [((ax 13), .inr (2, [.ref (ax 11), .ref (ax 14), .int w_103, .int w_84, .int w_85, .int xRt, .int w_86, .int w_87, .int w_88])), ((ax 11), .inr (5, [.ref (ax 12), .int xTz])), ((ax 12), .inl (cA 0, 200, .inl gB)), ((ax 14), .inl (cA 4, 200, .inr (.inr (.inr (.inr w_104)))))] ++ va_pl w_105 w_106) hP hD [0, 1, 2, 3] [] rfl rfl (by decide) (by decide) hk1 hFc hP1 hD1
              obtain ⟨fm_109, hma_fm_109, hmb_fm_109, hP, hD⟩ := pl_merge hP hD
              have sq_fm_109 := stq_tr sq_fm_98 st_108 hma_fm_109 hmb_fm_109
              have hle_fm_109 := sq_fm_109.1
              have hlf_fm_109 := st_108.1
              refine W.tight (cells' := (w_103.toInt - xSz.toInt).toNat) (slots' := 4 * (w_103.toInt - xSz.toInt).toNat) (by omega) (by have hch := ssum_chain hS0 hz1 (fun q h1 h2 => hk1 q h2 (na_of (fun k e hk => by rcases mem4 hk with h | h | h | h <;> omega) h1 h2)); omega) ?_
              clear hz1
              generalize H1 = H at hP hS ⊢
              replace hP : va_P (dC, dI) vwCl ([((ax 13), .inr (2, [.ref (ax 11), .ref (ax 14), .int w_103, .int w_84, .int w_85, .int xRt, .int w_86, .int w_87, .int w_88])), ((ax 11), .inr (5, [.ref (ax 12), .int xTz])), ((ax 12), .inl (cA 0, 200, .inl gB)), ((ax 14), .inl (cA 4, 200, .inr (.inr (.inr (.inr w_104)))))] ++ va_pl ((w_L_8 ++ w_90) ++ w_105) fm_109) H := hP
              replace hD : va_D A ([((ax 13), .inr (2, [.ref (ax 11), .ref (ax 14), .int w_103, .int w_84, .int w_85, .int xRt, .int w_86, .int w_87, .int w_88])), ((ax 11), .inr (5, [.ref (ax 12), .int xTz])), ((ax 12), .inl (cA 0, 200, .inl gB)), ((ax 14), .inl (cA 4, 200, .inr (.inr (.inr (.inr w_104)))))] ++ va_pl ((w_L_8 ++ w_90) ++ w_105) fm_109) := hD
              obtain ⟨x_110, ex_110⟩ : ∃ y : Int32, y = i3 + 1 := ⟨_, rfl⟩
              have dx_110 : x_110.toInt = i3.toInt + 1 := by rw [ex_110]; exact jI_add rfl (by decide) (by omega) (by omega)
              refine lv_iinc (v := x_110) (lv' := [(3, .int x_110), (2, .int r_80), (4, .int 11), (0, .ref (ax 13)), (1, .int dp)]) hx hb dX2_readTerm_74 hl (k := 2) rfl (by rw [ex_110]; rfl) (by decide) rfl (fun ls hl => ?_)
              refine lv_goto (tgt := 8) hx hb dX2_readTerm_77 (by decide) ?_
              exact ih_8 x_110 r_80 w_103 w_84 w_85 w_86 w_87 w_88 w_104 ((w_L_8 ++ w_90) ++ w_105) fm_109 _ _ ls (by omega) (by omega) (by omega) (by omega) (by omega) (by omega) (by omega) (tk_96) (sq_fm_109) (hP.part (cx := [((ax 13), .inr (2, [.ref (ax 11), .ref (ax 14), .int w_103, .int w_84, .int w_85, .int xRt, .int w_86, .int w_87, .int w_88])), ((ax 11), .inr (5, [.ref (ax 12), .int xTz])), ((ax 12), .inl (cA 0, 200, .inl gB)), ((ax 14), .inl (cA 4, 200, .inr (.inr (.inr (.inr w_104)))))]) [0, 1, 2, 3] rfl) (hD.part (cx := [((ax 13), .inr (2, [.ref (ax 11), .ref (ax 14), .int w_103, .int w_84, .int w_85, .int xRt, .int w_86, .int w_87, .int w_88])), ((ax 11), .inr (5, [.ref (ax 12), .int xTz])), ((ax 12), .inl (cA 0, 200, .inl gB)), ((ax 14), .inl (cA 4, 200, .inr (.inr (.inr (.inr w_104)))))]) [0, 1, 2, 3] (by decide) rfl) hS (lv_sub hl [0, 1, 3, 4] rfl)
          · have dc_27 : r_23.toInt = 0 := jI_eq c_27 rfl (by decide)
            refine lv_aload_n hx hb dX2_readTerm_28 rfl (lv_at hl 2 rfl) ?_
            refine va_ldcS hx hb hown (show vk_R RX2 78 "/" (adK 3) s from hSt.2.1 3 (by decide)) dX2_readTerm_29 ?_
            have hPc := hP.sub (ws' := [((ax 13), .inr (2, [.ref (ax 11), .ref (ax 14), .int w_xSz_8, .int w_xPl_8, .int w_xBe_8, .int xRt, .int w_xRf_8, .int w_xRd_8, .int w_xLk_8])), ((ax 11), .inr (5, [.ref (ax 12), .int xTz])), ((ax 12), .inl (cA 0, 200, .inl gB))]) [1, 2, 3] rfl
            have hDc := hD.sub (ws' := [((ax 13), .inr (2, [.ref (ax 11), .ref (ax 14), .int w_xSz_8, .int w_xPl_8, .int w_xBe_8, .int xRt, .int w_xRf_8, .int w_xRd_8, .int w_xLk_8])), ((ax 11), .inr (5, [.ref (ax 12), .int xTz])), ((ax 12), .inl (cA 0, 200, .inl gB))]) [1, 2, 3] (by decide) rfl
            have hFc := va_free (wc := [((ax 13), .inr (2, [.ref (ax 11), .ref (ax 14), .int w_xSz_8, .int w_xPl_8, .int w_xBe_8, .int xRt, .int w_xRf_8, .int w_xRd_8, .int w_xLk_8])), ((ax 11), .inr (5, [.ref (ax 12), .int xTz])), ((ax 12), .inl (cA 0, 200, .inl gB))]) hD hS hA [1, 2, 3] rfl
            refine va_calli (va_runV (As := [.ref (adK 3)]) (rest := []) ⟨hx, hb, hml, hown, hts⟩ (k_X2_isAt l dC dI cA H.size ax w_xSz_8 w_xPl_8 w_xBe_8 xRt w_xRf_8 w_xRd_8 w_xLk_8 xTz gB adK adV 3 (by omega) (by omega) (by omega) (by omega) (by omega) i_gB (by omega) hv5_8) (cwV 1 hts gX2_readTerm_X2_isAt rfl rfl rfl (by decide +kernel) ⟨(show 4 + 1 ≤ FR + 9 by omega), (show 8 + (4 + 11) + 85 ≤ LO + 196 by omega)⟩) ⟨fun a U g mk q => by obtain ⟨q0, q1, qP, qK, qD, qN⟩ := q; exact ⟨q0, q1, qP, va_K.moved (u := U) (U := U.calling g mk a) (Vm.Alike.refl U.vm) qK, qD, qN.same rfl rfl⟩, va_recv hK hPc (ci := 2) (q0 := 0) rfl rfl, fun U hU hW => ⟨rfl, by rw [hU], by rw [hU]; exact hPc, va_K.moved hW.alike hK, hDc.weaken (fun _ _ _ _ => trivial), hSt.call hS hU hW hFc⟩⟩ rfl rfl hl.1 rfl (lv_room (Nat.le_of_ble_eq_true rfl)) dX2_readTerm_31 ⟨(show (w_xSz_8.toInt - xSz.toInt).toNat + 0 ≤ (200 - xSz.toInt).toNat by omega), (show (4 * (w_xSz_8.toInt - xSz.toInt).toNat) + 0 ≤ (4 * (200 - xSz.toInt).toNat) by omega)⟩) hS (fun q _ h => hFc q h) hFc (fun r_111 u_112 t H1 locs ht hvm hw_113 hB hz1 hk1 hS => ?_)
            try dsimp only at hw_113 hB
            have po_114 := hw_113
            obtain ⟨hP1, hD1⟩ := hB
            rw [ht] at hP1
            obtain ⟨hP, hD⟩ := va_joinQ (wr := [((ax 14), .inl (cA 4, 200, .inr (.inr (.inr (.inr w_gSt_8)))))]) (w1 := [((ax 13), .inr (2, [.ref (ax 11), .ref (ax 14), .int w_xSz_8, .int w_xPl_8, .int w_xBe_8, .int xRt, .int w_xRf_8, .int w_xRd_8, .int w_xLk_8])), ((ax 11), .inr (5, [.ref (ax 12), .int xTz])), ((ax 12), .inl (cA 0, 200, .inl gB))]) hP hD [1, 2, 3] [0] rfl rfl (by decide) (by decide) hk1 hFc hP1 hD1
            clear hz1
            generalize H1 = H at hP hS ⊢
            replace hP : va_P (dC, dI) vwCl ([((ax 14), .inl (cA 4, 200, .inr (.inr (.inr (.inr w_gSt_8))))), ((ax 13), .inr (2, [.ref (ax 11), .ref (ax 14), .int w_xSz_8, .int w_xPl_8, .int w_xBe_8, .int xRt, .int w_xRf_8, .int w_xRd_8, .int w_xLk_8])), ((ax 11), .inr (5, [.ref (ax 12), .int xTz])), ((ax 12), .inl (cA 0, 200, .inl gB))] ++ va_pl w_L_8 w_pf_8) H := hP
            replace hD : va_D A ([((ax 14), .inl (cA 4, 200, .inr (.inr (.inr (.inr w_gSt_8))))), ((ax 13), .inr (2, [.ref (ax 11), .ref (ax 14), .int w_xSz_8, .int w_xPl_8, .int w_xBe_8, .int xRt, .int w_xRf_8, .int w_xRd_8, .int w_xLk_8])), ((ax 11), .inr (5, [.ref (ax 12), .int xTz])), ((ax 12), .inl (cA 0, 200, .inl gB))] ++ va_pl w_L_8 w_pf_8) := hD
            refine lv_if_eq (tgt := 80) hx hb dX2_readTerm_34 (by decide) (fun c_115 => ?_) (fun c_115 => ?_)
            · have dc_115 : r_111.toInt = 0 := jI_eq c_115 rfl (by decide)
              refine lv_iload_n hx hb dX2_readTerm_80 rfl (lv_at hl 1 rfl) ?_
              have hP9 := hP.part (cx := [((ax 13), .inr (2, [.ref (ax 11), .ref (ax 14), .int w_xSz_8, .int w_xPl_8, .int w_xBe_8, .int xRt, .int w_xRf_8, .int w_xRd_8, .int w_xLk_8])), ((ax 11), .inr (5, [.ref (ax 12), .int xTz])), ((ax 12), .inl (cA 0, 200, .inl gB)), ((ax 14), .inl (cA 4, 200, .inr (.inr (.inr (.inr w_gSt_8)))))]) [1, 2, 3, 0] rfl
              have hD9 := hD.part (cx := [((ax 13), .inr (2, [.ref (ax 11), .ref (ax 14), .int w_xSz_8, .int w_xPl_8, .int w_xBe_8, .int xRt, .int w_xRf_8, .int w_xRd_8, .int w_xLk_8])), ((ax 11), .inr (5, [.ref (ax 12), .int xTz])), ((ax 12), .inl (cA 0, 200, .inl gB)), ((ax 14), .inl (cA 4, 200, .inr (.inr (.inr (.inr w_gSt_8)))))]) [1, 2, 3, 0] (by decide) rfl
              refine W.know (fun hkn1 hkn2 => ?_)
              have hBx : H.size ≤ s.heap.size + (w_xSz_8.toInt - xSz.toInt).toNat ∧ ssum s.heap.size H ≤ 4 * (w_xSz_8.toInt - xSz.toInt).toNat := ⟨by omega, by omega⟩
              subst hQe
              refine W.widen (k := (200 - xSz.toInt).toNat) (n := (4 * (200 - xSz.toInt).toNat)) (by omega) (by omega) ?_
              have hans : (so2 : Int32).toInt = so2.toInt := rfl
              have hpost : (0 ≤ w_xSz_8.toInt ∧ w_xSz_8.toInt ≤ 200) ∧ (0 ≤ w_xPl_8.toInt ∧ w_xPl_8.toInt ≤ 200) ∧ (0 ≤ w_xBe_8.toInt ∧ w_xBe_8.toInt ≤ 200) ∧ (w_xPl_8.toInt ≤ w_xBe_8.toInt ∧ w_xBe_8.toInt ≤ xTz.toInt ∧ ((so2 : Int32).toInt = 0 ∨ (so2 : Int32).toInt = 1)) ∧ (tokOK gB w_xPl_8 w_xBe_8 xTz) ∧ (stq xSz.toInt w_xSz_8.toInt gSt w_gSt_8 w_L_8 w_pf_8) := ⟨by omega, by omega, by omega, by omega, hv6_8, hv7_8⟩
              exact W.zret (v := so2) hx hb hr (jnarZ (by omega)) (fun t ht hW => ⟨⟨so2, (w_xSz_8, w_xPl_8, w_xBe_8, w_xRf_8, w_xRd_8, w_xLk_8, w_gSt_8, w_L_8, w_pf_8), rfl, hpost, by rw [ht]; exact hP9, hD9, by rw [ht]; exact hBx⟩, hS.F ht⟩) hS.2.2 dX2_readTerm_81
            · have dc_115 : ¬ r_111.toInt = 0 := jI_ne c_115 rfl (by decide)
              refine lv_aload_n hx hb dX2_readTerm_37 rfl (lv_at hl 2 rfl) ?_
              refine va_ldcS hx hb hown (show vk_R RX2 76 "*" (adK 2) s from hSt.2.1 2 (by decide)) dX2_readTerm_38 ?_
              have hPc := hP.sub (ws' := [((ax 13), .inr (2, [.ref (ax 11), .ref (ax 14), .int w_xSz_8, .int w_xPl_8, .int w_xBe_8, .int xRt, .int w_xRf_8, .int w_xRd_8, .int w_xLk_8])), ((ax 11), .inr (5, [.ref (ax 12), .int xTz])), ((ax 12), .inl (cA 0, 200, .inl gB))]) [1, 2, 3] rfl
              have hDc := hD.sub (ws' := [((ax 13), .inr (2, [.ref (ax 11), .ref (ax 14), .int w_xSz_8, .int w_xPl_8, .int w_xBe_8, .int xRt, .int w_xRf_8, .int w_xRd_8, .int w_xLk_8])), ((ax 11), .inr (5, [.ref (ax 12), .int xTz])), ((ax 12), .inl (cA 0, 200, .inl gB))]) [1, 2, 3] (by decide) rfl
              have hFc := va_free (wc := [((ax 13), .inr (2, [.ref (ax 11), .ref (ax 14), .int w_xSz_8, .int w_xPl_8, .int w_xBe_8, .int xRt, .int w_xRf_8, .int w_xRd_8, .int w_xLk_8])), ((ax 11), .inr (5, [.ref (ax 12), .int xTz])), ((ax 12), .inl (cA 0, 200, .inl gB))]) hD hS hA [1, 2, 3] rfl
              refine va_calli (va_runV (As := [.ref (adK 2)]) (rest := []) ⟨hx, hb, hml, hown, hts⟩ (k_X2_isAt l dC dI cA H.size ax w_xSz_8 w_xPl_8 w_xBe_8 xRt w_xRf_8 w_xRd_8 w_xLk_8 xTz gB adK adV 2 (by omega) (by omega) (by omega) (by omega) (by omega) i_gB (by omega) hv5_8) (cwV 1 hts gX2_readTerm_X2_isAt rfl rfl rfl (by decide +kernel) ⟨(show 4 + 1 ≤ FR + 9 by omega), (show 8 + (4 + 11) + 85 ≤ LO + 196 by omega)⟩) ⟨fun a U g mk q => by obtain ⟨q0, q1, qP, qK, qD, qN⟩ := q; exact ⟨q0, q1, qP, va_K.moved (u := U) (U := U.calling g mk a) (Vm.Alike.refl U.vm) qK, qD, qN.same rfl rfl⟩, va_recv hK hPc (ci := 2) (q0 := 0) rfl rfl, fun U hU hW => ⟨rfl, by rw [hU], by rw [hU]; exact hPc, va_K.moved hW.alike hK, hDc.weaken (fun _ _ _ _ => trivial), hSt.call hS hU hW hFc⟩⟩ rfl rfl hl.1 rfl (lv_room (Nat.le_of_ble_eq_true rfl)) dX2_readTerm_40 ⟨(show (w_xSz_8.toInt - xSz.toInt).toNat + 0 ≤ (200 - xSz.toInt).toNat by omega), (show (4 * (w_xSz_8.toInt - xSz.toInt).toNat) + 0 ≤ (4 * (200 - xSz.toInt).toNat) by omega)⟩) hS (fun q _ h => hFc q h) hFc (fun r_116 u_117 t H1 locs ht hvm hw_118 hB hz1 hk1 hS => ?_)
              try dsimp only at hw_118 hB
              have po_119 := hw_118
              obtain ⟨hP1, hD1⟩ := hB
              rw [ht] at hP1
              obtain ⟨hP, hD⟩ := va_joinQ (wr := [((ax 14), .inl (cA 4, 200, .inr (.inr (.inr (.inr w_gSt_8)))))]) (w1 := [((ax 13), .inr (2, [.ref (ax 11), .ref (ax 14), .int w_xSz_8, .int w_xPl_8, .int w_xBe_8, .int xRt, .int w_xRf_8, .int w_xRd_8, .int w_xLk_8])), ((ax 11), .inr (5, [.ref (ax 12), .int xTz])), ((ax 12), .inl (cA 0, 200, .inl gB))]) hP hD [1, 2, 3] [0] rfl rfl (by decide) (by decide) hk1 hFc hP1 hD1
              clear hz1
              generalize H1 = H at hP hS ⊢
              replace hP : va_P (dC, dI) vwCl ([((ax 14), .inl (cA 4, 200, .inr (.inr (.inr (.inr w_gSt_8))))), ((ax 13), .inr (2, [.ref (ax 11), .ref (ax 14), .int w_xSz_8, .int w_xPl_8, .int w_xBe_8, .int xRt, .int w_xRf_8, .int w_xRd_8, .int w_xLk_8])), ((ax 11), .inr (5, [.ref (ax 12), .int xTz])), ((ax 12), .inl (cA 0, 200, .inl gB))] ++ va_pl w_L_8 w_pf_8) H := hP
              replace hD : va_D A ([((ax 14), .inl (cA 4, 200, .inr (.inr (.inr (.inr w_gSt_8))))), ((ax 13), .inr (2, [.ref (ax 11), .ref (ax 14), .int w_xSz_8, .int w_xPl_8, .int w_xBe_8, .int xRt, .int w_xRf_8, .int w_xRd_8, .int w_xLk_8])), ((ax 11), .inr (5, [.ref (ax 12), .int xTz])), ((ax 12), .inl (cA 0, 200, .inl gB))] ++ va_pl w_L_8 w_pf_8) := hD
              refine lv_if_eq (tgt := 51) hx hb dX2_readTerm_43 (by decide) (fun c_120 => ?_) (fun c_120 => ?_)
              · have dc_120 : r_116.toInt = 0 := jI_eq c_120 rfl (by decide)
                refine lv_bipush (v := 12) hx hb dX2_readTerm_51 (by decide) ?_
                refine lv_istore (lv' := [(4, .int 12), (3, .int i3), (2, .int so2), (0, .ref (ax 13)), (1, .int dp)]) hx hb dX2_readTerm_53 hl (by decide) rfl (fun ls hl => ?_)
                refine lv_aload_n hx hb dX2_readTerm_55 rfl (lv_at hl 3 rfl) ?_
                have hPc := hP.sub (ws' := [((ax 13), .inr (2, [.ref (ax 11), .ref (ax 14), .int w_xSz_8, .int w_xPl_8, .int w_xBe_8, .int xRt, .int w_xRf_8, .int w_xRd_8, .int w_xLk_8])), ((ax 11), .inr (5, [.ref (ax 12), .int xTz])), ((ax 12), .inl (cA 0, 200, .inl gB))]) [1, 2, 3] rfl
                have hDc := hD.sub (ws' := [((ax 13), .inr (2, [.ref (ax 11), .ref (ax 14), .int w_xSz_8, .int w_xPl_8, .int w_xBe_8, .int xRt, .int w_xRf_8, .int w_xRd_8, .int w_xLk_8])), ((ax 11), .inr (5, [.ref (ax 12), .int xTz])), ((ax 12), .inl (cA 0, 200, .inl gB))]) [1, 2, 3] (by decide) rfl
                have hFc := va_free (wc := [((ax 13), .inr (2, [.ref (ax 11), .ref (ax 14), .int w_xSz_8, .int w_xPl_8, .int w_xBe_8, .int xRt, .int w_xRf_8, .int w_xRd_8, .int w_xLk_8])), ((ax 11), .inr (5, [.ref (ax 12), .int xTz])), ((ax 12), .inl (cA 0, 200, .inl gB))]) hD hS hA [1, 2, 3] rfl
                refine va_callv (va_runV (As := []) (rest := []) ⟨hx, hb, hml, hown, hts⟩ (k_X2_advance l dC dI cA H.size ax w_xSz_8 w_xPl_8 w_xBe_8 xRt w_xRf_8 w_xRd_8 w_xLk_8 xTz gB (by omega) (by omega) (by omega) (by omega) (by omega) i_gB (by omega)) (cwV 0 hts gX2_readTerm_X2_advance rfl rfl rfl (by decide +kernel) ⟨(show 1 + 1 ≤ FR + 9 by omega), (show 8 + (3 + 11) + 23 ≤ LO + 196 by omega)⟩) ⟨fun a U g mk q => by obtain ⟨q0, q1, qP, qK, qD, qN⟩ := q; exact ⟨q0, q1, qP, va_K.moved (u := U) (U := U.calling g mk a) (Vm.Alike.refl U.vm) qK, qD, qN.same rfl⟩, va_recv hK hPc (ci := 2) (q0 := 0) rfl rfl, fun U hU hW => ⟨rfl, by rw [hU], by rw [hU]; exact hPc, va_K.moved hW.alike hK, hDc.weaken (fun _ _ _ _ => trivial), hN.warm hW⟩⟩ rfl rfl hl.1 rfl (lv_room (Nat.le_of_ble_eq_true rfl)) dX2_readTerm_56 ⟨(show (w_xSz_8.toInt - xSz.toInt).toNat + 0 ≤ (200 - xSz.toInt).toNat by omega), (show (4 * (w_xSz_8.toInt - xSz.toInt).toNat) + 0 ≤ (4 * (200 - xSz.toInt).toNat) by omega)⟩) hS (fun q _ h => hFc q h) hFc (fun u_121 t H1 locs ht hvm hw_122 hB hz1 hk1 hS => ?_)
                obtain ⟨w_123, w_124⟩ := u_121
                try dsimp only at hw_122 hB
                obtain ⟨iv_125, iv_126, po_127, tk_128⟩ := hw_122
                obtain ⟨hP1, hD1⟩ := hB
                rw [ht] at hP1
                obtain ⟨hP, hD⟩ := va_joinQ (wr := [((ax 14), .inl (cA 4, 200, .inr (.inr (.inr (.inr w_gSt_8)))))]) (w1 := [((ax 13), .inr (2, [.ref (ax 11), .ref (ax 14), .int w_xSz_8, .int w_123, .int w_124, .int xRt, .int w_xRf_8, .int w_xRd_8, .int w_xLk_8])), ((ax 11), .inr (5, [.ref (ax 12), .int xTz])), ((ax 12), .inl (cA 0, 200, .inl gB))]) hP hD [1, 2, 3] [0] rfl rfl (by decide) (by decide) hk1 hFc hP1 hD1
                clear hz1
                generalize H1 = H at hP hS ⊢
                replace hP : va_P (dC, dI) vwCl ([((ax 14), .inl (cA 4, 200, .inr (.inr (.inr (.inr w_gSt_8))))), ((ax 13), .inr (2, [.ref (ax 11), .ref (ax 14), .int w_xSz_8, .int w_123, .int w_124, .int xRt, .int w_xRf_8, .int w_xRd_8, .int w_xLk_8])), ((ax 11), .inr (5, [.ref (ax 12), .int xTz])), ((ax 12), .inl (cA 0, 200, .inl gB))] ++ va_pl w_L_8 w_pf_8) H := hP
                replace hD : va_D A ([((ax 14), .inl (cA 4, 200, .inr (.inr (.inr (.inr w_gSt_8))))), ((ax 13), .inr (2, [.ref (ax 11), .ref (ax 14), .int w_xSz_8, .int w_123, .int w_124, .int xRt, .int w_xRf_8, .int w_xRd_8, .int w_xLk_8])), ((ax 11), .inr (5, [.ref (ax 12), .int xTz])), ((ax 12), .inl (cA 0, 200, .inl gB))] ++ va_pl w_L_8 w_pf_8) := hD
                refine lv_aload_n hx hb dX2_readTerm_59 rfl (lv_at hl 3 rfl) ?_
                refine lv_iload_n hx hb dX2_readTerm_60 rfl (lv_at hl 4 rfl) ?_
                have hPc := hP.sub (ws' := [((ax 13), .inr (2, [.ref (ax 11), .ref (ax 14), .int w_xSz_8, .int w_123, .int w_124, .int xRt, .int w_xRf_8, .int w_xRd_8, .int w_xLk_8])), ((ax 11), .inr (5, [.ref (ax 12), .int xTz])), ((ax 12), .inl (cA 0, 200, .inl gB)), ((ax 14), .inl (cA 4, 200, .inr (.inr (.inr (.inr w_gSt_8)))))]) [1, 2, 3, 0] rfl
                have hDc := hD.sub (ws' := [((ax 13), .inr (2, [.ref (ax 11), .ref (ax 14), .int w_xSz_8, .int w_123, .int w_124, .int xRt, .int w_xRf_8, .int w_xRd_8, .int w_xLk_8])), ((ax 11), .inr (5, [.ref (ax 12), .int xTz])), ((ax 12), .inl (cA 0, 200, .inl gB)), ((ax 14), .inl (cA 4, 200, .inr (.inr (.inr (.inr w_gSt_8)))))]) [1, 2, 3, 0] (by decide) rfl
                have hFc := va_free (wc := [((ax 13), .inr (2, [.ref (ax 11), .ref (ax 14), .int w_xSz_8, .int w_123, .int w_124, .int xRt, .int w_xRf_8, .int w_xRd_8, .int w_xLk_8])), ((ax 11), .inr (5, [.ref (ax 12), .int xTz])), ((ax 12), .inl (cA 0, 200, .inl gB)), ((ax 14), .inl (cA 4, 200, .inr (.inr (.inr (.inr w_gSt_8)))))]) hD hS hA [1, 2, 3, 0] rfl
                refine W.know (fun hkn1 hkn2 => ?_)
                have hS0 := hS.1
                refine va_calli (va_runV (As := [.int dp]) (rest := []) ⟨hx, hb, hml, hown, hts⟩ (k_X2_readPart l dC dI cA H.size ax w_xSz_8 w_123 w_124 xRt w_xRf_8 w_xRd_8 w_xLk_8 xTz gB w_gSt_8 dp adK adV rl FR LO (by omega) (by omega) (by omega) (by omega) (by omega) i_gB (by omega) tk_128 hdp hop ih) (cwV 1 hts gX2_readTerm_X2_readPart rfl rfl rfl (by decide +kernel) ⟨(show (FR + 8) + 1 ≤ FR + 9 by omega), (show 8 + (2 + 11) + (LO + 175) ≤ LO + 196 by omega)⟩) ⟨fun a U g mk q => by obtain ⟨q0, q1, qP, qK, qD, qN⟩ := q; exact ⟨q0, q1, qP, va_K.moved (u := U) (U := U.calling g mk a) (Vm.Alike.refl U.vm) qK, qD, qN.same rfl rfl⟩, va_recv hK hPc (ci := 2) (q0 := 0) rfl rfl, fun U hU hW => ⟨rfl, by rw [hU], by rw [hU]; exact hPc, va_K.moved hW.alike hK, hDc.weaken (fun _ _ _ _ => trivial), hSt.call hS hU hW hFc⟩⟩ rfl rfl hl.1 rfl (lv_room (Nat.le_of_ble_eq_true rfl)) dX2_readTerm_61 ⟨(show (w_xSz_8.toInt - xSz.toInt).toNat + ((200 - w_xSz_8.toInt).toNat) ≤ (200 - xSz.toInt).toNat by omega), (show (4 * (w_xSz_8.toInt - xSz.toInt).toNat) + (4 * (200 - w_xSz_8.toInt).toNat) ≤ (4 * (200 - xSz.toInt).toNat) by omega)⟩) hS (fun q _ h => hFc q h) hFc (fun r_129 u_130 t H1 locs ht hvm hw_131 hB hz1 hk1 hS => ?_)
                obtain ⟨w_132, w_133, w_134, w_135, w_136, w_137, w_138, w_139, w_140⟩ := u_130
                try dsimp only at hw_131 hB
                obtain ⟨iv_141, iv_142, iv_143, po_144, tk_145, st_146⟩ := hw_131
                obtain ⟨hP1, hD1, hX1⟩ := hB
                rw [ht] at hP1 hX1
                obtain ⟨hP, hD⟩ := va_joinQ (wr := []) (w1 := [((ax 13), .inr (2, [.ref (ax 11), .ref (ax 14), .int w_132, .int w_133, .int w_134, .int xRt, .int w_135, .int w_136, .int w_137])), ((ax 11), .inr (5, [.ref (ax 12), .int xTz])), ((ax 12), .inl (cA 0, 200, .inl gB)), ((ax 14), .inl (cA 4, 200, .inr (.inr (.inr (.inr w_138)))))] ++ va_pl w_139 w_140) hP hD [1, 2, 3, 0] [] rfl rfl (by decide) (by decide) hk1 hFc hP1 hD1
                obtain ⟨fm_147, hma_fm_147, hmb_fm_147, hP, hD⟩ := pl_merge hP hD
                have sq_fm_147 := stq_tr hv7_8 st_146 hma_fm_147 hmb_fm_147
                have hle_fm_147 := sq_fm_147.1
                have hlf_fm_147 := st_146.1
                refine W.tight (cells' := (w_132.toInt - xSz.toInt).toNat) (slots' := 4 * (w_132.toInt - xSz.toInt).toNat) (by omega) (by have hch := ssum_chain hS0 hz1 (fun q h1 h2 => hk1 q h2 (na_of (fun k e hk => by rcases mem4 hk with h | h | h | h <;> omega) h1 h2)); omega) ?_
                clear hz1
                generalize H1 = H at hP hS ⊢
                replace hP : va_P (dC, dI) vwCl ([((ax 13), .inr (2, [.ref (ax 11), .ref (ax 14), .int w_132, .int w_133, .int w_134, .int xRt, .int w_135, .int w_136, .int w_137])), ((ax 11), .inr (5, [.ref (ax 12), .int xTz])), ((ax 12), .inl (cA 0, 200, .inl gB)), ((ax 14), .inl (cA 4, 200, .inr (.inr (.inr (.inr w_138)))))] ++ va_pl (w_L_8 ++ w_139) fm_147) H := hP
                replace hD : va_D A ([((ax 13), .inr (2, [.ref (ax 11), .ref (ax 14), .int w_132, .int w_133, .int w_134, .int xRt, .int w_135, .int w_136, .int w_137])), ((ax 11), .inr (5, [.ref (ax 12), .int xTz])), ((ax 12), .inl (cA 0, 200, .inl gB)), ((ax 14), .inl (cA 4, 200, .inr (.inr (.inr (.inr w_138)))))] ++ va_pl (w_L_8 ++ w_139) fm_147) := hD
                refine lv_istore_n (lv' := [(2, .int r_129), (4, .int 12), (3, .int i3), (0, .ref (ax 13)), (1, .int dp)]) hx hb dX2_readTerm_64 rfl hl (by decide) rfl (fun ls hl => ?_)
                refine lv_aload_n hx hb dX2_readTerm_65 rfl (lv_at hl 3 rfl) ?_
                refine lv_iload hx hb dX2_readTerm_66 (lv_at hl 1 rfl) ?_
                refine lv_iconst (v := (-1)) hx hb dX2_readTerm_68 (by decide) ?_
                refine lv_iconst (v := (-1)) hx hb dX2_readTerm_69 (by decide) ?_
                refine lv_iconst (v := (-1)) hx hb dX2_readTerm_70 (by decide) ?_
                have hk_148 : (12 : Int32).toInt = 12 := by decide
                have hk_149 : ((-1) : Int32).toInt = (-1) := by decide
                have hPc := hP.sub (ws' := [((ax 13), .inr (2, [.ref (ax 11), .ref (ax 14), .int w_132, .int w_133, .int w_134, .int xRt, .int w_135, .int w_136, .int w_137])), ((ax 11), .inr (5, [.ref (ax 12), .int xTz])), ((ax 12), .inl (cA 0, 200, .inl gB)), ((ax 14), .inl (cA 4, 200, .inr (.inr (.inr (.inr w_138)))))]) [0, 1, 2, 3] rfl
                have hDc := hD.sub (ws' := [((ax 13), .inr (2, [.ref (ax 11), .ref (ax 14), .int w_132, .int w_133, .int w_134, .int xRt, .int w_135, .int w_136, .int w_137])), ((ax 11), .inr (5, [.ref (ax 12), .int xTz])), ((ax 12), .inl (cA 0, 200, .inl gB)), ((ax 14), .inl (cA 4, 200, .inr (.inr (.inr (.inr w_138)))))]) [0, 1, 2, 3] (by decide) rfl
                have hFc := va_free (wc := [((ax 13), .inr (2, [.ref (ax 11), .ref (ax 14), .int w_132, .int w_133, .int w_134, .int xRt, .int w_135, .int w_136, .int w_137])), ((ax 11), .inr (5, [.ref (ax 12), .int xTz])), ((ax 12), .inl (cA 0, 200, .inl gB)), ((ax 14), .inl (cA 4, 200, .inr (.inr (.inr (.inr w_138)))))]) hD hS hA [0, 1, 2, 3] rfl
                refine W.know (fun hkn1 hkn2 => ?_)
                have hS0 := hS.1
                refine va_callv (va_runV (As := [.int 12, .int (-1), .int (-1), .int (-1)]) (rest := []) ⟨hx, hb, hml, hown, hts⟩ (k_X2_emit l dC dI cA H.size ax w_132 w_133 w_134 xRt w_135 w_136 w_137 xTz gB w_138 12 (-1) (-1) (-1) (by omega) (by omega) (by omega) (by omega) (by omega) i_gB (by omega)) (cwV 4 hts gX2_readTerm_X2_emit rfl rfl rfl (by decide +kernel) ⟨(show 2 + 1 ≤ FR + 9 by omega), (show 8 + (5 + 11) + 44 ≤ LO + 196 by omega)⟩) ⟨fun a U g mk q => by obtain ⟨q0, q1, qP, qK, qD, qN⟩ := q; exact ⟨q0, q1, qP, va_K.moved (u := U) (U := U.calling g mk a) (Vm.Alike.refl U.vm) qK, qD, qN.same rfl⟩, va_recv hK hPc (ci := 2) (q0 := 0) rfl rfl, fun U hU hW => ⟨rfl, by rw [hU], by rw [hU]; exact hPc, va_K.moved hW.alike hK, hDc.weaken (fun _ _ _ _ => trivial), hN.warm hW⟩⟩ rfl rfl hl.1 rfl (lv_room (Nat.le_of_ble_eq_true rfl)) dX2_readTerm_71 ⟨(show (w_132.toInt - xSz.toInt).toNat + ((200 - w_132.toInt).toNat) ≤ (200 - xSz.toInt).toNat by omega), (show (4 * (w_132.toInt - xSz.toInt).toNat) + (4 * (200 - w_132.toInt).toNat) ≤ (4 * (200 - xSz.toInt).toNat) by omega)⟩) hS (fun q _ h => hFc q h) hFc (fun u_150 t H1 locs ht hvm hw_151 hB hz1 hk1 hS => ?_)
                obtain ⟨w_152, w_153, w_154, w_155⟩ := u_150
                try dsimp only at hw_151 hB
                obtain ⟨iv_156, st_157⟩ := hw_151
                try simp only [hk_148, hk_149] at st_157
                obtain ⟨hP1, hD1, hX1⟩ := hB
                rw [ht] at hP1 hX1
                obtain ⟨hP, hD⟩ := va_joinQ (wr := []) (w1 := [((ax 13), .inr (2, [.ref (ax 11), .ref (ax 14), .int w_152, .int w_133, .int w_134, .int xRt, .int w_135, .int w_136, .int w_137])), ((ax 11), .inr (5, [.ref (ax 12), .int xTz])), ((ax 12), .inl (cA 0, 200, .inl gB)), ((ax 14), .inl (cA 4, 200, .inr (.inr (.inr (.inr w_153)))))] ++ va_pl w_154 w_155) hP hD [0, 1, 2, 3] [] rfl rfl (by decide) (by decide) hk1 hFc hP1 hD1
                obtain ⟨fm_158, hma_fm_158, hmb_fm_158, hP, hD⟩ := pl_merge hP hD
                have sq_fm_158 := stq_tr sq_fm_147 st_157 hma_fm_158 hmb_fm_158
                have hle_fm_158 := sq_fm_158.1
                have hlf_fm_158 := st_157.1
                refine W.tight (cells' := (w_152.toInt - xSz.toInt).toNat) (slots' := 4 * (w_152.toInt - xSz.toInt).toNat) (by omega) (by have hch := ssum_chain hS0 hz1 (fun q h1 h2 => hk1 q h2 (na_of (fun k e hk => by rcases mem4 hk with h | h | h | h <;> omega) h1 h2)); omega) ?_
                clear hz1
                generalize H1 = H at hP hS ⊢
                replace hP : va_P (dC, dI) vwCl ([((ax 13), .inr (2, [.ref (ax 11), .ref (ax 14), .int w_152, .int w_133, .int w_134, .int xRt, .int w_135, .int w_136, .int w_137])), ((ax 11), .inr (5, [.ref (ax 12), .int xTz])), ((ax 12), .inl (cA 0, 200, .inl gB)), ((ax 14), .inl (cA 4, 200, .inr (.inr (.inr (.inr w_153)))))] ++ va_pl ((w_L_8 ++ w_139) ++ w_154) fm_158) H := hP
                replace hD : va_D A ([((ax 13), .inr (2, [.ref (ax 11), .ref (ax 14), .int w_152, .int w_133, .int w_134, .int xRt, .int w_135, .int w_136, .int w_137])), ((ax 11), .inr (5, [.ref (ax 12), .int xTz])), ((ax 12), .inl (cA 0, 200, .inl gB)), ((ax 14), .inl (cA 4, 200, .inr (.inr (.inr (.inr w_153)))))] ++ va_pl ((w_L_8 ++ w_139) ++ w_154) fm_158) := hD
                obtain ⟨x_159, ex_159⟩ : ∃ y : Int32, y = i3 + 1 := ⟨_, rfl⟩
                have dx_159 : x_159.toInt = i3.toInt + 1 := by rw [ex_159]; exact jI_add rfl (by decide) (by omega) (by omega)
                refine lv_iinc (v := x_159) (lv' := [(3, .int x_159), (2, .int r_129), (4, .int 12), (0, .ref (ax 13)), (1, .int dp)]) hx hb dX2_readTerm_74 hl (k := 2) rfl (by rw [ex_159]; rfl) (by decide) rfl (fun ls hl => ?_)
                refine lv_goto (tgt := 8) hx hb dX2_readTerm_77 (by decide) ?_
                exact ih_8 x_159 r_129 w_152 w_133 w_134 w_135 w_136 w_137 w_153 ((w_L_8 ++ w_139) ++ w_154) fm_158 _ _ ls (by omega) (by omega) (by omega) (by omega) (by omega) (by omega) (by omega) (tk_145) (sq_fm_158) (hP.part (cx := [((ax 13), .inr (2, [.ref (ax 11), .ref (ax 14), .int w_152, .int w_133, .int w_134, .int xRt, .int w_135, .int w_136, .int w_137])), ((ax 11), .inr (5, [.ref (ax 12), .int xTz])), ((ax 12), .inl (cA 0, 200, .inl gB)), ((ax 14), .inl (cA 4, 200, .inr (.inr (.inr (.inr w_153)))))]) [0, 1, 2, 3] rfl) (hD.part (cx := [((ax 13), .inr (2, [.ref (ax 11), .ref (ax 14), .int w_152, .int w_133, .int w_134, .int xRt, .int w_135, .int w_136, .int w_137])), ((ax 11), .inr (5, [.ref (ax 12), .int xTz])), ((ax 12), .inl (cA 0, 200, .inl gB)), ((ax 14), .inl (cA 4, 200, .inr (.inr (.inr (.inr w_153)))))]) [0, 1, 2, 3] (by decide) rfl) hS (lv_sub hl [0, 1, 3, 4] rfl)
              · have dc_120 : ¬ r_116.toInt = 0 := jI_ne c_120 rfl (by decide)
                refine lv_bipush (v := 11) hx hb dX2_readTerm_46 (by decide) ?_
                refine lv_goto (tgt := 53) hx hb dX2_readTerm_48 (by decide) ?_
                refine lv_istore (lv' := [(4, .int 11), (3, .int i3), (2, .int so2), (0, .ref (ax 13)), (1, .int dp)]) hx hb dX2_readTerm_53 hl (by decide) rfl (fun ls hl => ?_)
                refine lv_aload_n hx hb dX2_readTerm_55 rfl (lv_at hl 3 rfl) ?_
                have hPc := hP.sub (ws' := [((ax 13), .inr (2, [.ref (ax 11), .ref (ax 14), .int w_xSz_8, .int w_xPl_8, .int w_xBe_8, .int xRt, .int w_xRf_8, .int w_xRd_8, .int w_xLk_8])), ((ax 11), .inr (5, [.ref (ax 12), .int xTz])), ((ax 12), .inl (cA 0, 200, .inl gB))]) [1, 2, 3] rfl
                have hDc := hD.sub (ws' := [((ax 13), .inr (2, [.ref (ax 11), .ref (ax 14), .int w_xSz_8, .int w_xPl_8, .int w_xBe_8, .int xRt, .int w_xRf_8, .int w_xRd_8, .int w_xLk_8])), ((ax 11), .inr (5, [.ref (ax 12), .int xTz])), ((ax 12), .inl (cA 0, 200, .inl gB))]) [1, 2, 3] (by decide) rfl
                have hFc := va_free (wc := [((ax 13), .inr (2, [.ref (ax 11), .ref (ax 14), .int w_xSz_8, .int w_xPl_8, .int w_xBe_8, .int xRt, .int w_xRf_8, .int w_xRd_8, .int w_xLk_8])), ((ax 11), .inr (5, [.ref (ax 12), .int xTz])), ((ax 12), .inl (cA 0, 200, .inl gB))]) hD hS hA [1, 2, 3] rfl
                refine va_callv (va_runV (As := []) (rest := []) ⟨hx, hb, hml, hown, hts⟩ (k_X2_advance l dC dI cA H.size ax w_xSz_8 w_xPl_8 w_xBe_8 xRt w_xRf_8 w_xRd_8 w_xLk_8 xTz gB (by omega) (by omega) (by omega) (by omega) (by omega) i_gB (by omega)) (cwV 0 hts gX2_readTerm_X2_advance rfl rfl rfl (by decide +kernel) ⟨(show 1 + 1 ≤ FR + 9 by omega), (show 8 + (3 + 11) + 23 ≤ LO + 196 by omega)⟩) ⟨fun a U g mk q => by obtain ⟨q0, q1, qP, qK, qD, qN⟩ := q; exact ⟨q0, q1, qP, va_K.moved (u := U) (U := U.calling g mk a) (Vm.Alike.refl U.vm) qK, qD, qN.same rfl⟩, va_recv hK hPc (ci := 2) (q0 := 0) rfl rfl, fun U hU hW => ⟨rfl, by rw [hU], by rw [hU]; exact hPc, va_K.moved hW.alike hK, hDc.weaken (fun _ _ _ _ => trivial), hN.warm hW⟩⟩ rfl rfl hl.1 rfl (lv_room (Nat.le_of_ble_eq_true rfl)) dX2_readTerm_56 ⟨(show (w_xSz_8.toInt - xSz.toInt).toNat + 0 ≤ (200 - xSz.toInt).toNat by omega), (show (4 * (w_xSz_8.toInt - xSz.toInt).toNat) + 0 ≤ (4 * (200 - xSz.toInt).toNat) by omega)⟩) hS (fun q _ h => hFc q h) hFc (fun u_160 t H1 locs ht hvm hw_161 hB hz1 hk1 hS => ?_)
                obtain ⟨w_162, w_163⟩ := u_160
                try dsimp only at hw_161 hB
                obtain ⟨iv_164, iv_165, po_166, tk_167⟩ := hw_161
                obtain ⟨hP1, hD1⟩ := hB
                rw [ht] at hP1
                obtain ⟨hP, hD⟩ := va_joinQ (wr := [((ax 14), .inl (cA 4, 200, .inr (.inr (.inr (.inr w_gSt_8)))))]) (w1 := [((ax 13), .inr (2, [.ref (ax 11), .ref (ax 14), .int w_xSz_8, .int w_162, .int w_163, .int xRt, .int w_xRf_8, .int w_xRd_8, .int w_xLk_8])), ((ax 11), .inr (5, [.ref (ax 12), .int xTz])), ((ax 12), .inl (cA 0, 200, .inl gB))]) hP hD [1, 2, 3] [0] rfl rfl (by decide) (by decide) hk1 hFc hP1 hD1
                clear hz1
                generalize H1 = H at hP hS ⊢
                replace hP : va_P (dC, dI) vwCl ([((ax 14), .inl (cA 4, 200, .inr (.inr (.inr (.inr w_gSt_8))))), ((ax 13), .inr (2, [.ref (ax 11), .ref (ax 14), .int w_xSz_8, .int w_162, .int w_163, .int xRt, .int w_xRf_8, .int w_xRd_8, .int w_xLk_8])), ((ax 11), .inr (5, [.ref (ax 12), .int xTz])), ((ax 12), .inl (cA 0, 200, .inl gB))] ++ va_pl w_L_8 w_pf_8) H := hP
                replace hD : va_D A ([((ax 14), .inl (cA 4, 200, .inr (.inr (.inr (.inr w_gSt_8))))), ((ax 13), .inr (2, [.ref (ax 11), .ref (ax 14), .int w_xSz_8, .int w_162, .int w_163, .int xRt, .int w_xRf_8, .int w_xRd_8, .int w_xLk_8])), ((ax 11), .inr (5, [.ref (ax 12), .int xTz])), ((ax 12), .inl (cA 0, 200, .inl gB))] ++ va_pl w_L_8 w_pf_8) := hD
                refine lv_aload_n hx hb dX2_readTerm_59 rfl (lv_at hl 3 rfl) ?_
                refine lv_iload_n hx hb dX2_readTerm_60 rfl (lv_at hl 4 rfl) ?_
                have hPc := hP.sub (ws' := [((ax 13), .inr (2, [.ref (ax 11), .ref (ax 14), .int w_xSz_8, .int w_162, .int w_163, .int xRt, .int w_xRf_8, .int w_xRd_8, .int w_xLk_8])), ((ax 11), .inr (5, [.ref (ax 12), .int xTz])), ((ax 12), .inl (cA 0, 200, .inl gB)), ((ax 14), .inl (cA 4, 200, .inr (.inr (.inr (.inr w_gSt_8)))))]) [1, 2, 3, 0] rfl
                have hDc := hD.sub (ws' := [((ax 13), .inr (2, [.ref (ax 11), .ref (ax 14), .int w_xSz_8, .int w_162, .int w_163, .int xRt, .int w_xRf_8, .int w_xRd_8, .int w_xLk_8])), ((ax 11), .inr (5, [.ref (ax 12), .int xTz])), ((ax 12), .inl (cA 0, 200, .inl gB)), ((ax 14), .inl (cA 4, 200, .inr (.inr (.inr (.inr w_gSt_8)))))]) [1, 2, 3, 0] (by decide) rfl
                have hFc := va_free (wc := [((ax 13), .inr (2, [.ref (ax 11), .ref (ax 14), .int w_xSz_8, .int w_162, .int w_163, .int xRt, .int w_xRf_8, .int w_xRd_8, .int w_xLk_8])), ((ax 11), .inr (5, [.ref (ax 12), .int xTz])), ((ax 12), .inl (cA 0, 200, .inl gB)), ((ax 14), .inl (cA 4, 200, .inr (.inr (.inr (.inr w_gSt_8)))))]) hD hS hA [1, 2, 3, 0] rfl
                refine W.know (fun hkn1 hkn2 => ?_)
                have hS0 := hS.1
                refine va_calli (va_runV (As := [.int dp]) (rest := []) ⟨hx, hb, hml, hown, hts⟩ (k_X2_readPart l dC dI cA H.size ax w_xSz_8 w_162 w_163 xRt w_xRf_8 w_xRd_8 w_xLk_8 xTz gB w_gSt_8 dp adK adV rl FR LO (by omega) (by omega) (by omega) (by omega) (by omega) i_gB (by omega) tk_167 hdp hop ih) (cwV 1 hts gX2_readTerm_X2_readPart rfl rfl rfl (by decide +kernel) ⟨(show (FR + 8) + 1 ≤ FR + 9 by omega), (show 8 + (2 + 11) + (LO + 175) ≤ LO + 196 by omega)⟩) ⟨fun a U g mk q => by obtain ⟨q0, q1, qP, qK, qD, qN⟩ := q; exact ⟨q0, q1, qP, va_K.moved (u := U) (U := U.calling g mk a) (Vm.Alike.refl U.vm) qK, qD, qN.same rfl rfl⟩, va_recv hK hPc (ci := 2) (q0 := 0) rfl rfl, fun U hU hW => ⟨rfl, by rw [hU], by rw [hU]; exact hPc, va_K.moved hW.alike hK, hDc.weaken (fun _ _ _ _ => trivial), hSt.call hS hU hW hFc⟩⟩ rfl rfl hl.1 rfl (lv_room (Nat.le_of_ble_eq_true rfl)) dX2_readTerm_61 ⟨(show (w_xSz_8.toInt - xSz.toInt).toNat + ((200 - w_xSz_8.toInt).toNat) ≤ (200 - xSz.toInt).toNat by omega), (show (4 * (w_xSz_8.toInt - xSz.toInt).toNat) + (4 * (200 - w_xSz_8.toInt).toNat) ≤ (4 * (200 - xSz.toInt).toNat) by omega)⟩) hS (fun q _ h => hFc q h) hFc (fun r_168 u_169 t H1 locs ht hvm hw_170 hB hz1 hk1 hS => ?_)
                obtain ⟨w_171, w_172, w_173, w_174, w_175, w_176, w_177, w_178, w_179⟩ := u_169
                try dsimp only at hw_170 hB
                obtain ⟨iv_180, iv_181, iv_182, po_183, tk_184, st_185⟩ := hw_170
                obtain ⟨hP1, hD1, hX1⟩ := hB
                rw [ht] at hP1 hX1
                obtain ⟨hP, hD⟩ := va_joinQ (wr := []) (w1 := [((ax 13), .inr (2, [.ref (ax 11), .ref (ax 14), .int w_171, .int w_172, .int w_173, .int xRt, .int w_174, .int w_175, .int w_176])), ((ax 11), .inr (5, [.ref (ax 12), .int xTz])), ((ax 12), .inl (cA 0, 200, .inl gB)), ((ax 14), .inl (cA 4, 200, .inr (.inr (.inr (.inr w_177)))))] ++ va_pl w_178 w_179) hP hD [1, 2, 3, 0] [] rfl rfl (by decide) (by decide) hk1 hFc hP1 hD1
                obtain ⟨fm_186, hma_fm_186, hmb_fm_186, hP, hD⟩ := pl_merge hP hD
                have sq_fm_186 := stq_tr hv7_8 st_185 hma_fm_186 hmb_fm_186
                have hle_fm_186 := sq_fm_186.1
                have hlf_fm_186 := st_185.1
                refine W.tight (cells' := (w_171.toInt - xSz.toInt).toNat) (slots' := 4 * (w_171.toInt - xSz.toInt).toNat) (by omega) (by have hch := ssum_chain hS0 hz1 (fun q h1 h2 => hk1 q h2 (na_of (fun k e hk => by rcases mem4 hk with h | h | h | h <;> omega) h1 h2)); omega) ?_
                clear hz1
                generalize H1 = H at hP hS ⊢
                replace hP : va_P (dC, dI) vwCl ([((ax 13), .inr (2, [.ref (ax 11), .ref (ax 14), .int w_171, .int w_172, .int w_173, .int xRt, .int w_174, .int w_175, .int w_176])), ((ax 11), .inr (5, [.ref (ax 12), .int xTz])), ((ax 12), .inl (cA 0, 200, .inl gB)), ((ax 14), .inl (cA 4, 200, .inr (.inr (.inr (.inr w_177)))))] ++ va_pl (w_L_8 ++ w_178) fm_186) H := hP
                replace hD : va_D A ([((ax 13), .inr (2, [.ref (ax 11), .ref (ax 14), .int w_171, .int w_172, .int w_173, .int xRt, .int w_174, .int w_175, .int w_176])), ((ax 11), .inr (5, [.ref (ax 12), .int xTz])), ((ax 12), .inl (cA 0, 200, .inl gB)), ((ax 14), .inl (cA 4, 200, .inr (.inr (.inr (.inr w_177)))))] ++ va_pl (w_L_8 ++ w_178) fm_186) := hD
                refine lv_istore_n (lv' := [(2, .int r_168), (4, .int 11), (3, .int i3), (0, .ref (ax 13)), (1, .int dp)]) hx hb dX2_readTerm_64 rfl hl (by decide) rfl (fun ls hl => ?_)
                refine lv_aload_n hx hb dX2_readTerm_65 rfl (lv_at hl 3 rfl) ?_
                refine lv_iload hx hb dX2_readTerm_66 (lv_at hl 1 rfl) ?_
                refine lv_iconst (v := (-1)) hx hb dX2_readTerm_68 (by decide) ?_
                refine lv_iconst (v := (-1)) hx hb dX2_readTerm_69 (by decide) ?_
                refine lv_iconst (v := (-1)) hx hb dX2_readTerm_70 (by decide) ?_
                have hk_187 : (11 : Int32).toInt = 11 := by decide
                have hk_188 : ((-1) : Int32).toInt = (-1) := by decide
                have hPc := hP.sub (ws' := [((ax 13), .inr (2, [.ref (ax 11), .ref (ax 14), .int w_171, .int w_172, .int w_173, .int xRt, .int w_174, .int w_175, .int w_176])), ((ax 11), .inr (5, [.ref (ax 12), .int xTz])), ((ax 12), .inl (cA 0, 200, .inl gB)), ((ax 14), .inl (cA 4, 200, .inr (.inr (.inr (.inr w_177)))))]) [0, 1, 2, 3] rfl
                have hDc := hD.sub (ws' := [((ax 13), .inr (2, [.ref (ax 11), .ref (ax 14), .int w_171, .int w_172, .int w_173, .int xRt, .int w_174, .int w_175, .int w_176])), ((ax 11), .inr (5, [.ref (ax 12), .int xTz])), ((ax 12), .inl (cA 0, 200, .inl gB)), ((ax 14), .inl (cA 4, 200, .inr (.inr (.inr (.inr w_177)))))]) [0, 1, 2, 3] (by decide) rfl
                have hFc := va_free (wc := [((ax 13), .inr (2, [.ref (ax 11), .ref (ax 14), .int w_171, .int w_172, .int w_173, .int xRt, .int w_174, .int w_175, .int w_176])), ((ax 11), .inr (5, [.ref (ax 12), .int xTz])), ((ax 12), .inl (cA 0, 200, .inl gB)), ((ax 14), .inl (cA 4, 200, .inr (.inr (.inr (.inr w_177)))))]) hD hS hA [0, 1, 2, 3] rfl
                refine W.know (fun hkn1 hkn2 => ?_)
                have hS0 := hS.1
                refine va_callv (va_runV (As := [.int 11, .int (-1), .int (-1), .int (-1)]) (rest := []) ⟨hx, hb, hml, hown, hts⟩ (k_X2_emit l dC dI cA H.size ax w_171 w_172 w_173 xRt w_174 w_175 w_176 xTz gB w_177 11 (-1) (-1) (-1) (by omega) (by omega) (by omega) (by omega) (by omega) i_gB (by omega)) (cwV 4 hts gX2_readTerm_X2_emit rfl rfl rfl (by decide +kernel) ⟨(show 2 + 1 ≤ FR + 9 by omega), (show 8 + (5 + 11) + 44 ≤ LO + 196 by omega)⟩) ⟨fun a U g mk q => by obtain ⟨q0, q1, qP, qK, qD, qN⟩ := q; exact ⟨q0, q1, qP, va_K.moved (u := U) (U := U.calling g mk a) (Vm.Alike.refl U.vm) qK, qD, qN.same rfl⟩, va_recv hK hPc (ci := 2) (q0 := 0) rfl rfl, fun U hU hW => ⟨rfl, by rw [hU], by rw [hU]; exact hPc, va_K.moved hW.alike hK, hDc.weaken (fun _ _ _ _ => trivial), hN.warm hW⟩⟩ rfl rfl hl.1 rfl (lv_room (Nat.le_of_ble_eq_true rfl)) dX2_readTerm_71 ⟨(show (w_171.toInt - xSz.toInt).toNat + ((200 - w_171.toInt).toNat) ≤ (200 - xSz.toInt).toNat by omega), (show (4 * (w_171.toInt - xSz.toInt).toNat) + (4 * (200 - w_171.toInt).toNat) ≤ (4 * (200 - xSz.toInt).toNat) by omega)⟩) hS (fun q _ h => hFc q h) hFc (fun u_189 t H1 locs ht hvm hw_190 hB hz1 hk1 hS => ?_)
                obtain ⟨w_191, w_192, w_193, w_194⟩ := u_189
                try dsimp only at hw_190 hB
                obtain ⟨iv_195, st_196⟩ := hw_190
                try simp only [hk_187, hk_188] at st_196
                obtain ⟨hP1, hD1, hX1⟩ := hB
                rw [ht] at hP1 hX1
                obtain ⟨hP, hD⟩ := va_joinQ (wr := []) (w1 := [((ax 13), .inr (2, [.ref (ax 11), .ref (ax 14), .int w_191, .int w_172, .int w_173, .int xRt, .int w_174, .int w_175, .int w_176])), ((ax 11), .inr (5, [.ref (ax 12), .int xTz])), ((ax 12), .inl (cA 0, 200, .inl gB)), ((ax 14), .inl (cA 4, 200, .inr (.inr (.inr (.inr w_192)))))] ++ va_pl w_193 w_194) hP hD [0, 1, 2, 3] [] rfl rfl (by decide) (by decide) hk1 hFc hP1 hD1
                obtain ⟨fm_197, hma_fm_197, hmb_fm_197, hP, hD⟩ := pl_merge hP hD
                have sq_fm_197 := stq_tr sq_fm_186 st_196 hma_fm_197 hmb_fm_197
                have hle_fm_197 := sq_fm_197.1
                have hlf_fm_197 := st_196.1
                refine W.tight (cells' := (w_191.toInt - xSz.toInt).toNat) (slots' := 4 * (w_191.toInt - xSz.toInt).toNat) (by omega) (by have hch := ssum_chain hS0 hz1 (fun q h1 h2 => hk1 q h2 (na_of (fun k e hk => by rcases mem4 hk with h | h | h | h <;> omega) h1 h2)); omega) ?_
                clear hz1
                generalize H1 = H at hP hS ⊢
                replace hP : va_P (dC, dI) vwCl ([((ax 13), .inr (2, [.ref (ax 11), .ref (ax 14), .int w_191, .int w_172, .int w_173, .int xRt, .int w_174, .int w_175, .int w_176])), ((ax 11), .inr (5, [.ref (ax 12), .int xTz])), ((ax 12), .inl (cA 0, 200, .inl gB)), ((ax 14), .inl (cA 4, 200, .inr (.inr (.inr (.inr w_192)))))] ++ va_pl ((w_L_8 ++ w_178) ++ w_193) fm_197) H := hP
                replace hD : va_D A ([((ax 13), .inr (2, [.ref (ax 11), .ref (ax 14), .int w_191, .int w_172, .int w_173, .int xRt, .int w_174, .int w_175, .int w_176])), ((ax 11), .inr (5, [.ref (ax 12), .int xTz])), ((ax 12), .inl (cA 0, 200, .inl gB)), ((ax 14), .inl (cA 4, 200, .inr (.inr (.inr (.inr w_192)))))] ++ va_pl ((w_L_8 ++ w_178) ++ w_193) fm_197) := hD
                obtain ⟨x_198, ex_198⟩ : ∃ y : Int32, y = i3 + 1 := ⟨_, rfl⟩
                have dx_198 : x_198.toInt = i3.toInt + 1 := by rw [ex_198]; exact jI_add rfl (by decide) (by omega) (by omega)
                refine lv_iinc (v := x_198) (lv' := [(3, .int x_198), (2, .int r_168), (4, .int 11), (0, .ref (ax 13)), (1, .int dp)]) hx hb dX2_readTerm_74 hl (k := 2) rfl (by rw [ex_198]; rfl) (by decide) rfl (fun ls hl => ?_)
                refine lv_goto (tgt := 8) hx hb dX2_readTerm_77 (by decide) ?_
                exact ih_8 x_198 r_168 w_191 w_172 w_173 w_174 w_175 w_176 w_192 ((w_L_8 ++ w_178) ++ w_193) fm_197 _ _ ls (by omega) (by omega) (by omega) (by omega) (by omega) (by omega) (by omega) (tk_184) (sq_fm_197) (hP.part (cx := [((ax 13), .inr (2, [.ref (ax 11), .ref (ax 14), .int w_191, .int w_172, .int w_173, .int xRt, .int w_174, .int w_175, .int w_176])), ((ax 11), .inr (5, [.ref (ax 12), .int xTz])), ((ax 12), .inl (cA 0, 200, .inl gB)), ((ax 14), .inl (cA 4, 200, .inr (.inr (.inr (.inr w_192)))))]) [0, 1, 2, 3] rfl) (hD.part (cx := [((ax 13), .inr (2, [.ref (ax 11), .ref (ax 14), .int w_191, .int w_172, .int w_173, .int xRt, .int w_174, .int w_175, .int w_176])), ((ax 11), .inr (5, [.ref (ax 12), .int xTz])), ((ax 12), .inl (cA 0, 200, .inl gB)), ((ax 14), .inl (cA 4, 200, .inr (.inr (.inr (.inr w_192)))))]) [0, 1, 2, 3] (by decide) rfl) hS (lv_sub hl [0, 1, 3, 4] rfl)
  have hk_199 : (0 : Int32).toInt = 0 := by decide
  exact loop8_20 (Int.toNat (200 - (0 : Int32).toInt) + 1) 0 r_1 w_4 w_5 w_6 w_7 w_8 w_9 w_10 ([] ++ w_11) fm_19 _ _ ls (by omega) (by omega) (by omega) (by omega) (by omega) (by omega) (by omega) (tk_17) (sq_fm_19) hP hD hS (lv_sub hl [0, 1, 2, 3] rfl)

set_option maxHeartbeats 8000000 in
set_option maxRecDepth 100000 in
theorem k_X2_readSum (l : Launch) (dC : Nat → ClassId) (dI : Nat → Nat → Nat) (cA : Nat → ClassId) (sz : Nat) (ax : Nat → Nat) (xSz : Int32) (xPl : Int32) (xBe : Int32) (xRt : Int32) (xRf : Int32) (xRd : Int32) (xLk : Int32) (xTz : Int32) (gB : Nat → Int32) (gSt : Nat → Option Nat) (dp : Int32) (adK : Nat → Nat) (adV : Nat → Nat) (rl : Nat) (FR : Nat) (LO : Nat) (i_xSz : 0 ≤ xSz.toInt ∧ xSz.toInt ≤ 200) (i_xPl : 0 ≤ xPl.toInt ∧ xPl.toInt ≤ 200) (i_xBe : 0 ≤ xBe.toInt ∧ xBe.toInt ≤ 200) (i_xRt : 0 ≤ xRt.toInt ∧ xRt.toInt ≤ 20) (i_xTz : 0 ≤ xTz.toInt ∧ xTz.toInt ≤ 200) (i_gB : inB 0 255 200 gB) (hbe : xPl.toInt ≤ xBe.toInt ∧ xBe.toInt ≤ xTz.toInt) (htk : tokOK gB xPl xBe xTz) (hdp : 0 ≤ dp.toInt ∧ dp.toInt ≤ 8) (hop : 8 - dp.toInt ≤ (rl : Int)) (ih : 0 < rl → XSumC l dC dI cA (rl - 1) FR LO) : Met l yX2_readSum wsX2_readSum ({ frames := FR + 10, cells := (200 - xSz.toInt).toNat, slots := (4 * (200 - xSz.toInt).toNat), locals := LO + 220 }) (va_Pc [.ref (ax 13), .int dp] (fun U => U.heap.size = sz ∧ va_P (dC, dI) vwCl [((ax 13), .inr (2, [.ref (ax 11), .ref (ax 14), .int xSz, .int xPl, .int xBe, .int xRt, .int xRf, .int xRd, .int xLk])), ((ax 11), .inr (5, [.ref (ax 12), .int xTz])), ((ax 12), .inl (cA 0, 200, .inl gB)), ((ax 14), .inl (cA 4, 200, .inr (.inr (.inr (.inr gSt)))))] U.heap ∧ va_K (dC, dI) vwCl (tyL cA) U ∧ va_D (fun _ => True) [((ax 13), .inr (2, [.ref (ax 11), .ref (ax 14), .int xSz, .int xPl, .int xBe, .int xRt, .int xRf, .int xRd, .int xLk])), ((ax 11), .inr (5, [.ref (ax 12), .int xTz])), ((ax 12), .inl (cA 0, 200, .inl gB)), ((ax 14), .inl (cA 4, 200, .inr (.inr (.inr (.inr gSt)))))] ∧ st_ok adK adV (va_A [((ax 13), .inr (2, [.ref (ax 11), .ref (ax 14), .int xSz, .int xPl, .int xBe, .int xRt, .int xRf, .int xRd, .int xLk])), ((ax 11), .inr (5, [.ref (ax 12), .int xTz])), ((ax 12), .inl (cA 0, 200, .inl gB)), ((ax 14), .inl (cA 4, 200, .inr (.inr (.inr (.inr gSt)))))] sz) U)) (va_Qi (fun (r : Int32) (u : Int32 × Int32 × Int32 × Int32 × Int32 × Int32 × (Nat → Option Nat) × (List Nat) × (Nat → va_E)) => (0 ≤ u.1.toInt ∧ u.1.toInt ≤ 200) ∧ (0 ≤ u.2.1.toInt ∧ u.2.1.toInt ≤ 200) ∧ (0 ≤ u.2.2.1.toInt ∧ u.2.2.1.toInt ≤ 200) ∧ (u.2.1.toInt ≤ u.2.2.1.toInt ∧ u.2.2.1.toInt ≤ xTz.toInt ∧ (r.toInt = 0 ∨ r.toInt = 1)) ∧ (tokOK gB u.2.1 u.2.2.1 xTz) ∧ (stq xSz.toInt u.1.toInt gSt u.2.2.2.2.2.2.1 u.2.2.2.2.2.2.2.1 u.2.2.2.2.2.2.2.2)) (fun (u : Int32 × Int32 × Int32 × Int32 × Int32 × Int32 × (Nat → Option Nat) × (List Nat) × (Nat → va_E)) (t : State) => va_P (dC, dI) vwCl ([((ax 13), .inr (2, [.ref (ax 11), .ref (ax 14), .int u.1, .int u.2.1, .int u.2.2.1, .int xRt, .int u.2.2.2.1, .int u.2.2.2.2.1, .int u.2.2.2.2.2.1])), ((ax 11), .inr (5, [.ref (ax 12), .int xTz])), ((ax 12), .inl (cA 0, 200, .inl gB)), ((ax 14), .inl (cA 4, 200, .inr (.inr (.inr (.inr u.2.2.2.2.2.2.1)))))] ++ va_pl u.2.2.2.2.2.2.2.1 u.2.2.2.2.2.2.2.2) t.heap ∧ va_D (va_A [((ax 13), .inr (2, [.ref (ax 11), .ref (ax 14), .int xSz, .int xPl, .int xBe, .int xRt, .int xRf, .int xRd, .int xLk])), ((ax 11), .inr (5, [.ref (ax 12), .int xTz])), ((ax 12), .inl (cA 0, 200, .inl gB)), ((ax 14), .inl (cA 4, 200, .inr (.inr (.inr (.inr gSt)))))] sz) ([((ax 13), .inr (2, [.ref (ax 11), .ref (ax 14), .int u.1, .int u.2.1, .int u.2.2.1, .int xRt, .int u.2.2.2.1, .int u.2.2.2.2.1, .int u.2.2.2.2.2.1])), ((ax 11), .inr (5, [.ref (ax 12), .int xTz])), ((ax 12), .inl (cA 0, 200, .inl gB)), ((ax 14), .inl (cA 4, 200, .inr (.inr (.inr (.inr u.2.2.2.2.2.2.1)))))] ++ va_pl u.2.2.2.2.2.2.2.1 u.2.2.2.2.2.2.2.2) ∧ (t.heap.size ≤ sz + (u.1.toInt - xSz.toInt).toNat ∧ ssum sz t.heap ≤ 4 * (u.1.toInt - xSz.toInt).toNat)) (va_A [((ax 13), .inr (2, [.ref (ax 11), .ref (ax 14), .int xSz, .int xPl, .int xBe, .int xRt, .int xRf, .int xRd, .int xLk])), ((ax 11), .inr (5, [.ref (ax 12), .int xTz])), ((ax 12), .inl (cA 0, 200, .inl gB)), ((ax 14), .inl (cA 4, 200, .inr (.inr (.inr (.inr gSt)))))] sz)) ((200 - xSz.toInt).toNat) (4 * (200 - xSz.toInt).toNat) (va_A [((ax 13), .inr (2, [.ref (ax 11), .ref (ax 14), .int xSz, .int xPl, .int xBe, .int xRt, .int xRf, .int xRd, .int xLk])), ((ax 11), .inr (5, [.ref (ax 12), .int xTz])), ((ax 12), .inl (cA 0, 200, .inl gB)), ((ax 14), .inl (cA 4, 200, .inr (.inr (.inr (.inr gSt)))))] sz) := by
  refine Met.ofW (cc := cX2_readSum) (maxL := 5) (ret := (some .boolean)) (by decide) rfl ?_
  intro p e s m args below meth c s₁ B hml hv
  obtain ⟨rfl, hsz, hP, hK, hD0, hN⟩ := hv
  have hx := B.exec
  have hb := B.bytes
  have hr := B.returns
  have hts := atoms_spec (ws := wsX2_readSum) B.pre
  have hown : s.vm.findClass RX2 = some m.cls := findClass_of_methodNamed B.named
  have hlocks := B.notSynchronized
  subst hsz
  have hD := hD0.self (sz := s.heap.size)
  generalize hAe : va_A [((ax 13), .inr (2, [.ref (ax 11), .ref (ax 14), .int xSz, .int xPl, .int xBe, .int xRt, .int xRf, .int xRd, .int xLk])), ((ax 11), .inr (5, [.ref (ax 12), .int xTz])), ((ax 12), .inl (cA 0, 200, .inl gB)), ((ax 14), .inl (cA 4, 200, .inr (.inr (.inr (.inr gSt)))))] s.heap.size = A at hD hN ⊢
  have hSt := hN
  have hN := hSt.1
  have hA : ∀ q : Nat, s.heap.size ≤ q → A q := fun q h => by rw [← hAe]; exact Or.inr h
  have hS : va_S A s.heap s.heap [] := va_S.rf
  have hlt0 : (ax 13) < s.heap.size := (hP 0 _ rfl).lt
  have hlt1 : (ax 11) < s.heap.size := (hP 1 _ rfl).lt
  have hlt2 : (ax 12) < s.heap.size := (hP 2 _ rfl).lt
  have hlt3 : (ax 14) < s.heap.size := (hP 3 _ rfl).lt
  obtain ⟨pfz, hpfz⟩ : ∃ f : Nat → va_E, f = fun _ => .inr (0, []) := ⟨_, rfl⟩
  replace hP : va_P (dC, dI) vwCl ([((ax 13), .inr (2, [.ref (ax 11), .ref (ax 14), .int xSz, .int xPl, .int xBe, .int xRt, .int xRf, .int xRd, .int xLk])), ((ax 11), .inr (5, [.ref (ax 12), .int xTz])), ((ax 12), .inl (cA 0, 200, .inl gB)), ((ax 14), .inl (cA 4, 200, .inr (.inr (.inr (.inr gSt)))))] ++ va_pl ([]) pfz) s.heap := hP
  replace hD : va_D A ([((ax 13), .inr (2, [.ref (ax 11), .ref (ax 14), .int xSz, .int xPl, .int xBe, .int xRt, .int xRf, .int xRd, .int xLk])), ((ax 11), .inr (5, [.ref (ax 12), .int xTz])), ((ax 12), .inl (cA 0, 200, .inl gB)), ((ax 14), .inl (cA 4, 200, .inr (.inr (.inr (.inr gSt)))))] ++ va_pl ([]) pfz) := hD
  have hl := lv_entry ([.ref (ax 13), .int dp]) (n := 5) (Nat.le_of_ble_eq_true rfl)
  rw [lg_entry_eq]
  generalize (lg_sl ([.ref (ax 13), .int dp]) ++ List.replicate (5 - (lg_sl ([.ref (ax 13), .int dp])).length) Slot.unset).toArray = ls at hl ⊢
  have hl : lv_has ls 5 [(0, .ref (ax 13)), (1, .int dp)] := hl
  generalize hQe : MQ below _ _ _ _ _ _ = QQ
  refine lv_aload_n hx hb dX2_readSum_0 rfl (lv_at hl 0 rfl) ?_
  refine lv_iload_n hx hb dX2_readSum_1 rfl (lv_at hl 1 rfl) ?_
  have hPc := hP.sub (ws' := [((ax 13), .inr (2, [.ref (ax 11), .ref (ax 14), .int xSz, .int xPl, .int xBe, .int xRt, .int xRf, .int xRd, .int xLk])), ((ax 11), .inr (5, [.ref (ax 12), .int xTz])), ((ax 12), .inl (cA 0, 200, .inl gB)), ((ax 14), .inl (cA 4, 200, .inr (.inr (.inr (.inr gSt)))))]) [0, 1, 2, 3] rfl
  have hDc := hD.sub (ws' := [((ax 13), .inr (2, [.ref (ax 11), .ref (ax 14), .int xSz, .int xPl, .int xBe, .int xRt, .int xRf, .int xRd, .int xLk])), ((ax 11), .inr (5, [.ref (ax 12), .int xTz])), ((ax 12), .inl (cA 0, 200, .inl gB)), ((ax 14), .inl (cA 4, 200, .inr (.inr (.inr (.inr gSt)))))]) [0, 1, 2, 3] (by decide) rfl
  have hFc := va_free (wc := [((ax 13), .inr (2, [.ref (ax 11), .ref (ax 14), .int xSz, .int xPl, .int xBe, .int xRt, .int xRf, .int xRd, .int xLk])), ((ax 11), .inr (5, [.ref (ax 12), .int xTz])), ((ax 12), .inl (cA 0, 200, .inl gB)), ((ax 14), .inl (cA 4, 200, .inr (.inr (.inr (.inr gSt)))))]) hD hS hA [0, 1, 2, 3] rfl
  refine W.know (fun hkn1 hkn2 => ?_)
  have hS0 := hS.1
  refine va_calli (va_runV (As := [.int dp]) (rest := []) ⟨hx, hb, hml, hown, hts⟩ (k_X2_readTerm l dC dI cA s.heap.size ax xSz xPl xBe xRt xRf xRd xLk xTz gB gSt dp adK adV rl FR LO (by omega) (by omega) (by omega) (by omega) (by omega) i_gB hbe htk hdp hop ih) (cwV 1 hts gX2_readSum_X2_readTerm rfl rfl rfl (by decide +kernel) ⟨(show (FR + 9) + 1 ≤ FR + 10 by omega), (show 8 + (5 + 11) + (LO + 196) ≤ LO + 220 by omega)⟩) ⟨fun a U g mk q => by obtain ⟨q0, q1, qP, qK, qD, qN⟩ := q; exact ⟨q0, q1, qP, va_K.moved (u := U) (U := U.calling g mk a) (Vm.Alike.refl U.vm) qK, qD, qN.same rfl rfl⟩, va_recv hK hPc (ci := 2) (q0 := 0) rfl rfl, fun U hU hW => ⟨rfl, by rw [hU], by rw [hU]; exact hPc, va_K.moved hW.alike hK, hDc.weaken (fun _ _ _ _ => trivial), hSt.call hS hU hW hFc⟩⟩ rfl rfl hl.1 rfl (lv_room (Nat.le_of_ble_eq_true rfl)) dX2_readSum_2 ⟨(show 0 + ((200 - xSz.toInt).toNat) ≤ (200 - xSz.toInt).toNat by omega), (show 0 + (4 * (200 - xSz.toInt).toNat) ≤ (4 * (200 - xSz.toInt).toNat) by omega)⟩) hS (fun q _ h => hFc q h) hFc (fun r_1 u_2 t H1 locs ht hvm hw_3 hB hz1 hk1 hS => ?_)
  obtain ⟨w_4, w_5, w_6, w_7, w_8, w_9, w_10, w_11, w_12⟩ := u_2
  try dsimp only at hw_3 hB
  obtain ⟨iv_13, iv_14, iv_15, po_16, tk_17, st_18⟩ := hw_3
  obtain ⟨hP1, hD1, hX1⟩ := hB
  rw [ht] at hP1 hX1
  obtain ⟨hP, hD⟩ := va_joinQ (wr := []) (w1 := [((ax 13), .inr (2, [.ref (ax 11), .ref (ax 14), .int w_4, .int w_5, .int w_6, .int xRt, .int w_7, .int w_8, .int w_9])), ((ax 11), .inr (5, [.ref (ax 12), .int xTz])), ((ax 12), .inl (cA 0, 200, .inl gB)), ((ax 14), .inl (cA 4, 200, .inr (.inr (.inr (.inr w_10)))))] ++ va_pl w_11 w_12) hP hD [0, 1, 2, 3] [] rfl rfl (by decide) (by decide) hk1 hFc hP1 hD1
  obtain ⟨fm_19, hma_fm_19, hmb_fm_19, hP, hD⟩ := pl_merge hP hD
  have sq_fm_19 := stq_tr stq_0 st_18 hma_fm_19 hmb_fm_19
  have hle_fm_19 := sq_fm_19.1
  have hlf_fm_19 := st_18.1
  refine W.tight (cells' := (w_4.toInt - xSz.toInt).toNat) (slots' := 4 * (w_4.toInt - xSz.toInt).toNat) (by omega) (by have hch := ssum_chain hS0 hz1 (fun q h1 h2 => hk1 q h2 (na_of (fun k e hk => by rcases mem4 hk with h | h | h | h <;> omega) h1 h2)); omega) ?_
  clear hz1
  generalize H1 = H at hP hS ⊢
  replace hP : va_P (dC, dI) vwCl ([((ax 13), .inr (2, [.ref (ax 11), .ref (ax 14), .int w_4, .int w_5, .int w_6, .int xRt, .int w_7, .int w_8, .int w_9])), ((ax 11), .inr (5, [.ref (ax 12), .int xTz])), ((ax 12), .inl (cA 0, 200, .inl gB)), ((ax 14), .inl (cA 4, 200, .inr (.inr (.inr (.inr w_10)))))] ++ va_pl ([] ++ w_11) fm_19) H := hP
  replace hD : va_D A ([((ax 13), .inr (2, [.ref (ax 11), .ref (ax 14), .int w_4, .int w_5, .int w_6, .int xRt, .int w_7, .int w_8, .int w_9])), ((ax 11), .inr (5, [.ref (ax 12), .int xTz])), ((ax 12), .inl (cA 0, 200, .inl gB)), ((ax 14), .inl (cA 4, 200, .inr (.inr (.inr (.inr w_10)))))] ++ va_pl ([] ++ w_11) fm_19) := hD
  refine lv_istore_n (lv' := [(2, .int r_1), (0, .ref (ax 13)), (1, .int dp)]) hx hb dX2_readSum_5 rfl hl (by decide) rfl (fun ls hl => ?_)
  refine lv_iconst (v := 0) hx hb dX2_readSum_6 (by decide) ?_
  refine lv_istore_n (lv' := [(3, .int 0), (2, .int r_1), (0, .ref (ax 13)), (1, .int dp)]) hx hb dX2_readSum_7 rfl hl (by decide) rfl (fun ls hl => ?_)
  have loop8_20 : ∀ (n : Nat) (i3 : Int32) (so2 : Int32) (w_xSz_8 : Int32) (w_xPl_8 : Int32) (w_xBe_8 : Int32) (w_xRf_8 : Int32) (w_xRd_8 : Int32) (w_xLk_8 : Int32) (w_gSt_8 : Nat → Option Nat) (w_L_8 : List Nat) (w_pf_8 : Nat → va_E) (H : Heap) (locs : List Loc) (ls : Array Slot), 200 - i3.toInt < (n : Int) → (0 ≤ i3.toInt ∧ i3.toInt ≤ 200) → (0 ≤ so2.toInt ∧ so2.toInt ≤ 1) → (0 ≤ w_xSz_8.toInt ∧ w_xSz_8.toInt ≤ 200) → (0 ≤ w_xPl_8.toInt ∧ w_xPl_8.toInt ≤ 200) → (0 ≤ w_xBe_8.toInt ∧ w_xBe_8.toInt ≤ 200) → (w_xPl_8.toInt ≤ w_xBe_8.toInt ∧ w_xBe_8.toInt ≤ xTz.toInt) → (tokOK gB w_xPl_8 w_xBe_8 xTz) → (stq xSz.toInt w_xSz_8.toInt gSt w_gSt_8 w_L_8 w_pf_8) → va_P (dC, dI) vwCl ([((ax 13), .inr (2, [.ref (ax 11), .ref (ax 14), .int w_xSz_8, .int w_xPl_8, .int w_xBe_8, .int xRt, .int w_xRf_8, .int w_xRd_8, .int w_xLk_8])), ((ax 11), .inr (5, [.ref (ax 12), .int xTz])), ((ax 12), .inl (cA 0, 200, .inl gB)), ((ax 14), .inl (cA 4, 200, .inr (.inr (.inr (.inr w_gSt_8)))))] ++ va_pl w_L_8 w_pf_8) H → va_D A ([((ax 13), .inr (2, [.ref (ax 11), .ref (ax 14), .int w_xSz_8, .int w_xPl_8, .int w_xBe_8, .int xRt, .int w_xRf_8, .int w_xRd_8, .int w_xLk_8])), ((ax 11), .inr (5, [.ref (ax 12), .int xTz])), ((ax 12), .inl (cA 0, 200, .inl gB)), ((ax 14), .inl (cA 4, 200, .inr (.inr (.inr (.inr w_gSt_8)))))] ++ va_pl w_L_8 w_pf_8) → va_S A s.heap H locs → lv_has ls 5 [(3, .int i3), (2, .int so2), (0, .ref (ax 13)), (1, .int dp)] → W p l e ({ frames := FR + 10, cells := (200 - xSz.toInt).toNat, slots := (4 * (200 - xSz.toInt).toNat), locals := LO + 220 }) s m ([.ref (ax 13), .int dp] : List Value).toArray below meth c H locs (w_xSz_8.toInt - xSz.toInt).toNat (4 * (w_xSz_8.toInt - xSz.toInt).toNat) QQ (F0 m 8 ls []) := by
    intro n
    induction n with
    | zero => intro i3 so2 w_xSz_8 w_xPl_8 w_xBe_8 w_xRf_8 w_xRd_8 w_xLk_8 w_gSt_8 w_L_8 w_pf_8 H locs ls hme hv0_8 hv1_8 hv2_8 hv3_8 hv4_8 hv5_8 hv6_8 hv7_8; exfalso; omega
    | succ n ih_8 =>
      intro i3 so2 w_xSz_8 w_xPl_8 w_xBe_8 w_xRf_8 w_xRd_8 w_xLk_8 w_gSt_8 w_L_8 w_pf_8 H locs ls hme_8 hv0_8 hv1_8 hv2_8 hv3_8 hv4_8 hv5_8 hv6_8 hv7_8 hP hD hS hl
      have hle8 := hv7_8.1
      refine lv_iload_n hx hb dX2_readSum_8 rfl (lv_at hl 0 rfl) ?_
      refine lv_sipush (v := 200) hx hb dX2_readSum_9 (by decide) ?_
      refine lv_icmp_ge (tgt := 80) hx hb dX2_readSum_12 (by decide) (fun c_21 => ?_) (fun c_21 => ?_)
      · have dc_21 : 200 ≤ i3.toInt := jI_le c_21 (by decide) rfl
        refine lv_iload_n hx hb dX2_readSum_80 rfl (lv_at hl 1 rfl) ?_
        have hP9 := hP.part (cx := [((ax 13), .inr (2, [.ref (ax 11), .ref (ax 14), .int w_xSz_8, .int w_xPl_8, .int w_xBe_8, .int xRt, .int w_xRf_8, .int w_xRd_8, .int w_xLk_8])), ((ax 11), .inr (5, [.ref (ax 12), .int xTz])), ((ax 12), .inl (cA 0, 200, .inl gB)), ((ax 14), .inl (cA 4, 200, .inr (.inr (.inr (.inr w_gSt_8)))))]) [0, 1, 2, 3] rfl
        have hD9 := hD.part (cx := [((ax 13), .inr (2, [.ref (ax 11), .ref (ax 14), .int w_xSz_8, .int w_xPl_8, .int w_xBe_8, .int xRt, .int w_xRf_8, .int w_xRd_8, .int w_xLk_8])), ((ax 11), .inr (5, [.ref (ax 12), .int xTz])), ((ax 12), .inl (cA 0, 200, .inl gB)), ((ax 14), .inl (cA 4, 200, .inr (.inr (.inr (.inr w_gSt_8)))))]) [0, 1, 2, 3] (by decide) rfl
        refine W.know (fun hkn1 hkn2 => ?_)
        have hBx : H.size ≤ s.heap.size + (w_xSz_8.toInt - xSz.toInt).toNat ∧ ssum s.heap.size H ≤ 4 * (w_xSz_8.toInt - xSz.toInt).toNat := ⟨by omega, by omega⟩
        subst hQe
        refine W.widen (k := (200 - xSz.toInt).toNat) (n := (4 * (200 - xSz.toInt).toNat)) (by omega) (by omega) ?_
        have hans : (so2 : Int32).toInt = so2.toInt := rfl
        have hpost : (0 ≤ w_xSz_8.toInt ∧ w_xSz_8.toInt ≤ 200) ∧ (0 ≤ w_xPl_8.toInt ∧ w_xPl_8.toInt ≤ 200) ∧ (0 ≤ w_xBe_8.toInt ∧ w_xBe_8.toInt ≤ 200) ∧ (w_xPl_8.toInt ≤ w_xBe_8.toInt ∧ w_xBe_8.toInt ≤ xTz.toInt ∧ ((so2 : Int32).toInt = 0 ∨ (so2 : Int32).toInt = 1)) ∧ (tokOK gB w_xPl_8 w_xBe_8 xTz) ∧ (stq xSz.toInt w_xSz_8.toInt gSt w_gSt_8 w_L_8 w_pf_8) := ⟨by omega, by omega, by omega, by omega, hv6_8, hv7_8⟩
        exact W.zret (v := so2) hx hb hr (jnarZ (by omega)) (fun t ht hW => ⟨⟨so2, (w_xSz_8, w_xPl_8, w_xBe_8, w_xRf_8, w_xRd_8, w_xLk_8, w_gSt_8, w_L_8, w_pf_8), rfl, hpost, by rw [ht]; exact hP9, hD9, by rw [ht]; exact hBx⟩, hS.F ht⟩) hS.2.2 dX2_readSum_81
      · have dc_21 : i3.toInt < 200 := jI_nle c_21 (by decide) rfl
        refine lv_iload_n hx hb dX2_readSum_15 rfl (lv_at hl 1 rfl) ?_
        refine lv_if_eq (tgt := 80) hx hb dX2_readSum_16 (by decide) (fun c_22 => ?_) (fun c_22 => ?_)
        · have dc_22 : so2.toInt = 0 := jI_eq c_22 rfl (by decide)
          refine lv_iload_n hx hb dX2_readSum_80 rfl (lv_at hl 1 rfl) ?_
          have hP9 := hP.part (cx := [((ax 13), .inr (2, [.ref (ax 11), .ref (ax 14), .int w_xSz_8, .int w_xPl_8, .int w_xBe_8, .int xRt, .int w_xRf_8, .int w_xRd_8, .int w_xLk_8])), ((ax 11), .inr (5, [.ref (ax 12), .int xTz])), ((ax 12), .inl (cA 0, 200, .inl gB)), ((ax 14), .inl (cA 4, 200, .inr (.inr (.inr (.inr w_gSt_8)))))]) [0, 1, 2, 3] rfl
          have hD9 := hD.part (cx := [((ax 13), .inr (2, [.ref (ax 11), .ref (ax 14), .int w_xSz_8, .int w_xPl_8, .int w_xBe_8, .int xRt, .int w_xRf_8, .int w_xRd_8, .int w_xLk_8])), ((ax 11), .inr (5, [.ref (ax 12), .int xTz])), ((ax 12), .inl (cA 0, 200, .inl gB)), ((ax 14), .inl (cA 4, 200, .inr (.inr (.inr (.inr w_gSt_8)))))]) [0, 1, 2, 3] (by decide) rfl
          refine W.know (fun hkn1 hkn2 => ?_)
          have hBx : H.size ≤ s.heap.size + (w_xSz_8.toInt - xSz.toInt).toNat ∧ ssum s.heap.size H ≤ 4 * (w_xSz_8.toInt - xSz.toInt).toNat := ⟨by omega, by omega⟩
          subst hQe
          refine W.widen (k := (200 - xSz.toInt).toNat) (n := (4 * (200 - xSz.toInt).toNat)) (by omega) (by omega) ?_
          have hans : (so2 : Int32).toInt = so2.toInt := rfl
          have hpost : (0 ≤ w_xSz_8.toInt ∧ w_xSz_8.toInt ≤ 200) ∧ (0 ≤ w_xPl_8.toInt ∧ w_xPl_8.toInt ≤ 200) ∧ (0 ≤ w_xBe_8.toInt ∧ w_xBe_8.toInt ≤ 200) ∧ (w_xPl_8.toInt ≤ w_xBe_8.toInt ∧ w_xBe_8.toInt ≤ xTz.toInt ∧ ((so2 : Int32).toInt = 0 ∨ (so2 : Int32).toInt = 1)) ∧ (tokOK gB w_xPl_8 w_xBe_8 xTz) ∧ (stq xSz.toInt w_xSz_8.toInt gSt w_gSt_8 w_L_8 w_pf_8) := ⟨by omega, by omega, by omega, by omega, hv6_8, hv7_8⟩
          exact W.zret (v := so2) hx hb hr (jnarZ (by omega)) (fun t ht hW => ⟨⟨so2, (w_xSz_8, w_xPl_8, w_xBe_8, w_xRf_8, w_xRd_8, w_xLk_8, w_gSt_8, w_L_8, w_pf_8), rfl, hpost, by rw [ht]; exact hP9, hD9, by rw [ht]; exact hBx⟩, hS.F ht⟩) hS.2.2 dX2_readSum_81
        · have dc_22 : ¬ so2.toInt = 0 := jI_ne c_22 rfl (by decide)
          refine lv_aload_n hx hb dX2_readSum_19 rfl (lv_at hl 2 rfl) ?_
          refine va_ldcS hx hb hown (show vk_R RX2 61 "+" (adK 0) s from hSt.2.1 0 (by decide)) dX2_readSum_20 ?_
          have hPc := hP.sub (ws' := [((ax 13), .inr (2, [.ref (ax 11), .ref (ax 14), .int w_xSz_8, .int w_xPl_8, .int w_xBe_8, .int xRt, .int w_xRf_8, .int w_xRd_8, .int w_xLk_8])), ((ax 11), .inr (5, [.ref (ax 12), .int xTz])), ((ax 12), .inl (cA 0, 200, .inl gB))]) [0, 1, 2] rfl
          have hDc := hD.sub (ws' := [((ax 13), .inr (2, [.ref (ax 11), .ref (ax 14), .int w_xSz_8, .int w_xPl_8, .int w_xBe_8, .int xRt, .int w_xRf_8, .int w_xRd_8, .int w_xLk_8])), ((ax 11), .inr (5, [.ref (ax 12), .int xTz])), ((ax 12), .inl (cA 0, 200, .inl gB))]) [0, 1, 2] (by decide) rfl
          have hFc := va_free (wc := [((ax 13), .inr (2, [.ref (ax 11), .ref (ax 14), .int w_xSz_8, .int w_xPl_8, .int w_xBe_8, .int xRt, .int w_xRf_8, .int w_xRd_8, .int w_xLk_8])), ((ax 11), .inr (5, [.ref (ax 12), .int xTz])), ((ax 12), .inl (cA 0, 200, .inl gB))]) hD hS hA [0, 1, 2] rfl
          refine va_calli (va_runV (As := [.ref (adK 0)]) (rest := []) ⟨hx, hb, hml, hown, hts⟩ (k_X2_isAt l dC dI cA H.size ax w_xSz_8 w_xPl_8 w_xBe_8 xRt w_xRf_8 w_xRd_8 w_xLk_8 xTz gB adK adV 0 (by omega) (by omega) (by omega) (by omega) (by omega) i_gB (by omega) hv5_8) (cwV 1 hts gX2_readSum_X2_isAt rfl rfl rfl (by decide +kernel) ⟨(show 4 + 1 ≤ FR + 10 by omega), (show 8 + (4 + 11) + 85 ≤ LO + 220 by omega)⟩) ⟨fun a U g mk q => by obtain ⟨q0, q1, qP, qK, qD, qN⟩ := q; exact ⟨q0, q1, qP, va_K.moved (u := U) (U := U.calling g mk a) (Vm.Alike.refl U.vm) qK, qD, qN.same rfl rfl⟩, va_recv hK hPc (ci := 2) (q0 := 0) rfl rfl, fun U hU hW => ⟨rfl, by rw [hU], by rw [hU]; exact hPc, va_K.moved hW.alike hK, hDc.weaken (fun _ _ _ _ => trivial), hSt.call hS hU hW hFc⟩⟩ rfl rfl hl.1 rfl (lv_room (Nat.le_of_ble_eq_true rfl)) dX2_readSum_22 ⟨(show (w_xSz_8.toInt - xSz.toInt).toNat + 0 ≤ (200 - xSz.toInt).toNat by omega), (show (4 * (w_xSz_8.toInt - xSz.toInt).toNat) + 0 ≤ (4 * (200 - xSz.toInt).toNat) by omega)⟩) hS (fun q _ h => hFc q h) hFc (fun r_23 u_24 t H1 locs ht hvm hw_25 hB hz1 hk1 hS => ?_)
          try dsimp only at hw_25 hB
          have po_26 := hw_25
          obtain ⟨hP1, hD1⟩ := hB
          rw [ht] at hP1
          obtain ⟨hP, hD⟩ := va_joinQ (wr := [((ax 14), .inl (cA 4, 200, .inr (.inr (.inr (.inr w_gSt_8)))))]) (w1 := [((ax 13), .inr (2, [.ref (ax 11), .ref (ax 14), .int w_xSz_8, .int w_xPl_8, .int w_xBe_8, .int xRt, .int w_xRf_8, .int w_xRd_8, .int w_xLk_8])), ((ax 11), .inr (5, [.ref (ax 12), .int xTz])), ((ax 12), .inl (cA 0, 200, .inl gB))]) hP hD [0, 1, 2] [3] rfl rfl (by decide) (by decide) hk1 hFc hP1 hD1
          clear hz1
          generalize H1 = H at hP hS ⊢
          replace hP : va_P (dC, dI) vwCl ([((ax 14), .inl (cA 4, 200, .inr (.inr (.inr (.inr w_gSt_8))))), ((ax 13), .inr (2, [.ref (ax 11), .ref (ax 14), .int w_xSz_8, .int w_xPl_8, .int w_xBe_8, .int xRt, .int w_xRf_8, .int w_xRd_8, .int w_xLk_8])), ((ax 11), .inr (5, [.ref (ax 12), .int xTz])), ((ax 12), .inl (cA 0, 200, .inl gB))] ++ va_pl w_L_8 w_pf_8) H := hP
          replace hD : va_D A ([((ax 14), .inl (cA 4, 200, .inr (.inr (.inr (.inr w_gSt_8))))), ((ax 13), .inr (2, [.ref (ax 11), .ref (ax 14), .int w_xSz_8, .int w_xPl_8, .int w_xBe_8, .int xRt, .int w_xRf_8, .int w_xRd_8, .int w_xLk_8])), ((ax 11), .inr (5, [.ref (ax 12), .int xTz])), ((ax 12), .inl (cA 0, 200, .inl gB))] ++ va_pl w_L_8 w_pf_8) := hD
          refine lv_if_ne (tgt := 37) hx hb dX2_readSum_25 (by decide) (fun c_27 => ?_) (fun c_27 => ?_)
          · have dc_27 : ¬ r_23.toInt = 0 := jI_ne c_27 rfl (by decide)
            refine lv_aload_n hx hb dX2_readSum_37 rfl (lv_at hl 2 rfl) ?_
            refine va_ldcS hx hb hown (show vk_R RX2 61 "+" (adK 0) s from hSt.2.1 0 (by decide)) dX2_readSum_38 ?_
            have hPc := hP.sub (ws' := [((ax 13), .inr (2, [.ref (ax 11), .ref (ax 14), .int w_xSz_8, .int w_xPl_8, .int w_xBe_8, .int xRt, .int w_xRf_8, .int w_xRd_8, .int w_xLk_8])), ((ax 11), .inr (5, [.ref (ax 12), .int xTz])), ((ax 12), .inl (cA 0, 200, .inl gB))]) [1, 2, 3] rfl
            have hDc := hD.sub (ws' := [((ax 13), .inr (2, [.ref (ax 11), .ref (ax 14), .int w_xSz_8, .int w_xPl_8, .int w_xBe_8, .int xRt, .int w_xRf_8, .int w_xRd_8, .int w_xLk_8])), ((ax 11), .inr (5, [.ref (ax 12), .int xTz])), ((ax 12), .inl (cA 0, 200, .inl gB))]) [1, 2, 3] (by decide) rfl
            have hFc := va_free (wc := [((ax 13), .inr (2, [.ref (ax 11), .ref (ax 14), .int w_xSz_8, .int w_xPl_8, .int w_xBe_8, .int xRt, .int w_xRf_8, .int w_xRd_8, .int w_xLk_8])), ((ax 11), .inr (5, [.ref (ax 12), .int xTz])), ((ax 12), .inl (cA 0, 200, .inl gB))]) hD hS hA [1, 2, 3] rfl
            refine va_calli (va_runV (As := [.ref (adK 0)]) (rest := []) ⟨hx, hb, hml, hown, hts⟩ (k_X2_isAt l dC dI cA H.size ax w_xSz_8 w_xPl_8 w_xBe_8 xRt w_xRf_8 w_xRd_8 w_xLk_8 xTz gB adK adV 0 (by omega) (by omega) (by omega) (by omega) (by omega) i_gB (by omega) hv5_8) (cwV 1 hts gX2_readSum_X2_isAt rfl rfl rfl (by decide +kernel) ⟨(show 4 + 1 ≤ FR + 10 by omega), (show 8 + (4 + 11) + 85 ≤ LO + 220 by omega)⟩) ⟨fun a U g mk q => by obtain ⟨q0, q1, qP, qK, qD, qN⟩ := q; exact ⟨q0, q1, qP, va_K.moved (u := U) (U := U.calling g mk a) (Vm.Alike.refl U.vm) qK, qD, qN.same rfl rfl⟩, va_recv hK hPc (ci := 2) (q0 := 0) rfl rfl, fun U hU hW => ⟨rfl, by rw [hU], by rw [hU]; exact hPc, va_K.moved hW.alike hK, hDc.weaken (fun _ _ _ _ => trivial), hSt.call hS hU hW hFc⟩⟩ rfl rfl hl.1 rfl (lv_room (Nat.le_of_ble_eq_true rfl)) dX2_readSum_40 ⟨(show (w_xSz_8.toInt - xSz.toInt).toNat + 0 ≤ (200 - xSz.toInt).toNat by omega), (show (4 * (w_xSz_8.toInt - xSz.toInt).toNat) + 0 ≤ (4 * (200 - xSz.toInt).toNat) by omega)⟩) hS (fun q _ h => hFc q h) hFc (fun r_28 u_29 t H1 locs ht hvm hw_30 hB hz1 hk1 hS => ?_)
            try dsimp only at hw_30 hB
            have po_31 := hw_30
            obtain ⟨hP1, hD1⟩ := hB
            rw [ht] at hP1
            obtain ⟨hP, hD⟩ := va_joinQ (wr := [((ax 14), .inl (cA 4, 200, .inr (.inr (.inr (.inr w_gSt_8)))))]) (w1 := [((ax 13), .inr (2, [.ref (ax 11), .ref (ax 14), .int w_xSz_8, .int w_xPl_8, .int w_xBe_8, .int xRt, .int w_xRf_8, .int w_xRd_8, .int w_xLk_8])), ((ax 11), .inr (5, [.ref (ax 12), .int xTz])), ((ax 12), .inl (cA 0, 200, .inl gB))]) hP hD [1, 2, 3] [0] rfl rfl (by decide) (by decide) hk1 hFc hP1 hD1
            clear hz1
            generalize H1 = H at hP hS ⊢
            replace hP : va_P (dC, dI) vwCl ([((ax 14), .inl (cA 4, 200, .inr (.inr (.inr (.inr w_gSt_8))))), ((ax 13), .inr (2, [.ref (ax 11), .ref (ax 14), .int w_xSz_8, .int w_xPl_8, .int w_xBe_8, .int xRt, .int w_xRf_8, .int w_xRd_8, .int w_xLk_8])), ((ax 11), .inr (5, [.ref (ax 12), .int xTz])), ((ax 12), .inl (cA 0, 200, .inl gB))] ++ va_pl w_L_8 w_pf_8) H := hP
            replace hD : va_D A ([((ax 14), .inl (cA 4, 200, .inr (.inr (.inr (.inr w_gSt_8))))), ((ax 13), .inr (2, [.ref (ax 11), .ref (ax 14), .int w_xSz_8, .int w_xPl_8, .int w_xBe_8, .int xRt, .int w_xRf_8, .int w_xRd_8, .int w_xLk_8])), ((ax 11), .inr (5, [.ref (ax 12), .int xTz])), ((ax 12), .inl (cA 0, 200, .inl gB))] ++ va_pl w_L_8 w_pf_8) := hD
            refine lv_if_eq (tgt := 51) hx hb dX2_readSum_43 (by decide) (fun c_32 => ?_) (fun c_32 => ?_)
            · have dc_32 : r_28.toInt = 0 := jI_eq c_32 rfl (by decide)
              refine lv_bipush (v := 10) hx hb dX2_readSum_51 (by decide) ?_
              refine lv_istore (lv' := [(4, .int 10), (3, .int i3), (2, .int so2), (0, .ref (ax 13)), (1, .int dp)]) hx hb dX2_readSum_53 hl (by decide) rfl (fun ls hl => ?_)
              refine lv_aload_n hx hb dX2_readSum_55 rfl (lv_at hl 3 rfl) ?_
              have hPc := hP.sub (ws' := [((ax 13), .inr (2, [.ref (ax 11), .ref (ax 14), .int w_xSz_8, .int w_xPl_8, .int w_xBe_8, .int xRt, .int w_xRf_8, .int w_xRd_8, .int w_xLk_8])), ((ax 11), .inr (5, [.ref (ax 12), .int xTz])), ((ax 12), .inl (cA 0, 200, .inl gB))]) [1, 2, 3] rfl
              have hDc := hD.sub (ws' := [((ax 13), .inr (2, [.ref (ax 11), .ref (ax 14), .int w_xSz_8, .int w_xPl_8, .int w_xBe_8, .int xRt, .int w_xRf_8, .int w_xRd_8, .int w_xLk_8])), ((ax 11), .inr (5, [.ref (ax 12), .int xTz])), ((ax 12), .inl (cA 0, 200, .inl gB))]) [1, 2, 3] (by decide) rfl
              have hFc := va_free (wc := [((ax 13), .inr (2, [.ref (ax 11), .ref (ax 14), .int w_xSz_8, .int w_xPl_8, .int w_xBe_8, .int xRt, .int w_xRf_8, .int w_xRd_8, .int w_xLk_8])), ((ax 11), .inr (5, [.ref (ax 12), .int xTz])), ((ax 12), .inl (cA 0, 200, .inl gB))]) hD hS hA [1, 2, 3] rfl
              refine va_callv (va_runV (As := []) (rest := []) ⟨hx, hb, hml, hown, hts⟩ (k_X2_advance l dC dI cA H.size ax w_xSz_8 w_xPl_8 w_xBe_8 xRt w_xRf_8 w_xRd_8 w_xLk_8 xTz gB (by omega) (by omega) (by omega) (by omega) (by omega) i_gB (by omega)) (cwV 0 hts gX2_readSum_X2_advance rfl rfl rfl (by decide +kernel) ⟨(show 1 + 1 ≤ FR + 10 by omega), (show 8 + (3 + 11) + 23 ≤ LO + 220 by omega)⟩) ⟨fun a U g mk q => by obtain ⟨q0, q1, qP, qK, qD, qN⟩ := q; exact ⟨q0, q1, qP, va_K.moved (u := U) (U := U.calling g mk a) (Vm.Alike.refl U.vm) qK, qD, qN.same rfl⟩, va_recv hK hPc (ci := 2) (q0 := 0) rfl rfl, fun U hU hW => ⟨rfl, by rw [hU], by rw [hU]; exact hPc, va_K.moved hW.alike hK, hDc.weaken (fun _ _ _ _ => trivial), hN.warm hW⟩⟩ rfl rfl hl.1 rfl (lv_room (Nat.le_of_ble_eq_true rfl)) dX2_readSum_56 ⟨(show (w_xSz_8.toInt - xSz.toInt).toNat + 0 ≤ (200 - xSz.toInt).toNat by omega), (show (4 * (w_xSz_8.toInt - xSz.toInt).toNat) + 0 ≤ (4 * (200 - xSz.toInt).toNat) by omega)⟩) hS (fun q _ h => hFc q h) hFc (fun u_33 t H1 locs ht hvm hw_34 hB hz1 hk1 hS => ?_)
              obtain ⟨w_35, w_36⟩ := u_33
              try dsimp only at hw_34 hB
              obtain ⟨iv_37, iv_38, po_39, tk_40⟩ := hw_34
              obtain ⟨hP1, hD1⟩ := hB
              rw [ht] at hP1
              obtain ⟨hP, hD⟩ := va_joinQ (wr := [((ax 14), .inl (cA 4, 200, .inr (.inr (.inr (.inr w_gSt_8)))))]) (w1 := [((ax 13), .inr (2, [.ref (ax 11), .ref (ax 14), .int w_xSz_8, .int w_35, .int w_36, .int xRt, .int w_xRf_8, .int w_xRd_8, .int w_xLk_8])), ((ax 11), .inr (5, [.ref (ax 12), .int xTz])), ((ax 12), .inl (cA 0, 200, .inl gB))]) hP hD [1, 2, 3] [0] rfl rfl (by decide) (by decide) hk1 hFc hP1 hD1
              clear hz1
              generalize H1 = H at hP hS ⊢
              replace hP : va_P (dC, dI) vwCl ([((ax 14), .inl (cA 4, 200, .inr (.inr (.inr (.inr w_gSt_8))))), ((ax 13), .inr (2, [.ref (ax 11), .ref (ax 14), .int w_xSz_8, .int w_35, .int w_36, .int xRt, .int w_xRf_8, .int w_xRd_8, .int w_xLk_8])), ((ax 11), .inr (5, [.ref (ax 12), .int xTz])), ((ax 12), .inl (cA 0, 200, .inl gB))] ++ va_pl w_L_8 w_pf_8) H := hP
              replace hD : va_D A ([((ax 14), .inl (cA 4, 200, .inr (.inr (.inr (.inr w_gSt_8))))), ((ax 13), .inr (2, [.ref (ax 11), .ref (ax 14), .int w_xSz_8, .int w_35, .int w_36, .int xRt, .int w_xRf_8, .int w_xRd_8, .int w_xLk_8])), ((ax 11), .inr (5, [.ref (ax 12), .int xTz])), ((ax 12), .inl (cA 0, 200, .inl gB))] ++ va_pl w_L_8 w_pf_8) := hD
              refine lv_aload_n hx hb dX2_readSum_59 rfl (lv_at hl 3 rfl) ?_
              refine lv_iload_n hx hb dX2_readSum_60 rfl (lv_at hl 4 rfl) ?_
              have hPc := hP.sub (ws' := [((ax 13), .inr (2, [.ref (ax 11), .ref (ax 14), .int w_xSz_8, .int w_35, .int w_36, .int xRt, .int w_xRf_8, .int w_xRd_8, .int w_xLk_8])), ((ax 11), .inr (5, [.ref (ax 12), .int xTz])), ((ax 12), .inl (cA 0, 200, .inl gB)), ((ax 14), .inl (cA 4, 200, .inr (.inr (.inr (.inr w_gSt_8)))))]) [1, 2, 3, 0] rfl
              have hDc := hD.sub (ws' := [((ax 13), .inr (2, [.ref (ax 11), .ref (ax 14), .int w_xSz_8, .int w_35, .int w_36, .int xRt, .int w_xRf_8, .int w_xRd_8, .int w_xLk_8])), ((ax 11), .inr (5, [.ref (ax 12), .int xTz])), ((ax 12), .inl (cA 0, 200, .inl gB)), ((ax 14), .inl (cA 4, 200, .inr (.inr (.inr (.inr w_gSt_8)))))]) [1, 2, 3, 0] (by decide) rfl
              have hFc := va_free (wc := [((ax 13), .inr (2, [.ref (ax 11), .ref (ax 14), .int w_xSz_8, .int w_35, .int w_36, .int xRt, .int w_xRf_8, .int w_xRd_8, .int w_xLk_8])), ((ax 11), .inr (5, [.ref (ax 12), .int xTz])), ((ax 12), .inl (cA 0, 200, .inl gB)), ((ax 14), .inl (cA 4, 200, .inr (.inr (.inr (.inr w_gSt_8)))))]) hD hS hA [1, 2, 3, 0] rfl
              refine W.know (fun hkn1 hkn2 => ?_)
              have hS0 := hS.1
              refine va_calli (va_runV (As := [.int dp]) (rest := []) ⟨hx, hb, hml, hown, hts⟩ (k_X2_readTerm l dC dI cA H.size ax w_xSz_8 w_35 w_36 xRt w_xRf_8 w_xRd_8 w_xLk_8 xTz gB w_gSt_8 dp adK adV rl FR LO (by omega) (by omega) (by omega) (by omega) (by omega) i_gB (by omega) tk_40 hdp hop ih) (cwV 1 hts gX2_readSum_X2_readTerm rfl rfl rfl (by decide +kernel) ⟨(show (FR + 9) + 1 ≤ FR + 10 by omega), (show 8 + (5 + 11) + (LO + 196) ≤ LO + 220 by omega)⟩) ⟨fun a U g mk q => by obtain ⟨q0, q1, qP, qK, qD, qN⟩ := q; exact ⟨q0, q1, qP, va_K.moved (u := U) (U := U.calling g mk a) (Vm.Alike.refl U.vm) qK, qD, qN.same rfl rfl⟩, va_recv hK hPc (ci := 2) (q0 := 0) rfl rfl, fun U hU hW => ⟨rfl, by rw [hU], by rw [hU]; exact hPc, va_K.moved hW.alike hK, hDc.weaken (fun _ _ _ _ => trivial), hSt.call hS hU hW hFc⟩⟩ rfl rfl hl.1 rfl (lv_room (Nat.le_of_ble_eq_true rfl)) dX2_readSum_61 ⟨(show (w_xSz_8.toInt - xSz.toInt).toNat + ((200 - w_xSz_8.toInt).toNat) ≤ (200 - xSz.toInt).toNat by omega), (show (4 * (w_xSz_8.toInt - xSz.toInt).toNat) + (4 * (200 - w_xSz_8.toInt).toNat) ≤ (4 * (200 - xSz.toInt).toNat) by omega)⟩) hS (fun q _ h => hFc q h) hFc (fun r_41 u_42 t H1 locs ht hvm hw_43 hB hz1 hk1 hS => ?_)
              obtain ⟨w_44, w_45, w_46, w_47, w_48, w_49, w_50, w_51, w_52⟩ := u_42
              try dsimp only at hw_43 hB
              obtain ⟨iv_53, iv_54, iv_55, po_56, tk_57, st_58⟩ := hw_43
              obtain ⟨hP1, hD1, hX1⟩ := hB
              rw [ht] at hP1 hX1
              obtain ⟨hP, hD⟩ := va_joinQ (wr := []) (w1 := [((ax 13), .inr (2, [.ref (ax 11), .ref (ax 14), .int w_44, .int w_45, .int w_46, .int xRt, .int w_47, .int w_48, .int w_49])), ((ax 11), .inr (5, [.ref (ax 12), .int xTz])), ((ax 12), .inl (cA 0, 200, .inl gB)), ((ax 14), .inl (cA 4, 200, .inr (.inr (.inr (.inr w_50)))))] ++ va_pl w_51 w_52) hP hD [1, 2, 3, 0] [] rfl rfl (by decide) (by decide) hk1 hFc hP1 hD1
              obtain ⟨fm_59, hma_fm_59, hmb_fm_59, hP, hD⟩ := pl_merge hP hD
              have sq_fm_59 := stq_tr hv7_8 st_58 hma_fm_59 hmb_fm_59
              have hle_fm_59 := sq_fm_59.1
              have hlf_fm_59 := st_58.1
              refine W.tight (cells' := (w_44.toInt - xSz.toInt).toNat) (slots' := 4 * (w_44.toInt - xSz.toInt).toNat) (by omega) (by have hch := ssum_chain hS0 hz1 (fun q h1 h2 => hk1 q h2 (na_of (fun k e hk => by rcases mem4 hk with h | h | h | h <;> omega) h1 h2)); omega) ?_
              clear hz1
              generalize H1 = H at hP hS ⊢
              replace hP : va_P (dC, dI) vwCl ([((ax 13), .inr (2, [.ref (ax 11), .ref (ax 14), .int w_44, .int w_45, .int w_46, .int xRt, .int w_47, .int w_48, .int w_49])), ((ax 11), .inr (5, [.ref (ax 12), .int xTz])), ((ax 12), .inl (cA 0, 200, .inl gB)), ((ax 14), .inl (cA 4, 200, .inr (.inr (.inr (.inr w_50)))))] ++ va_pl (w_L_8 ++ w_51) fm_59) H := hP
              replace hD : va_D A ([((ax 13), .inr (2, [.ref (ax 11), .ref (ax 14), .int w_44, .int w_45, .int w_46, .int xRt, .int w_47, .int w_48, .int w_49])), ((ax 11), .inr (5, [.ref (ax 12), .int xTz])), ((ax 12), .inl (cA 0, 200, .inl gB)), ((ax 14), .inl (cA 4, 200, .inr (.inr (.inr (.inr w_50)))))] ++ va_pl (w_L_8 ++ w_51) fm_59) := hD
              refine lv_istore_n (lv' := [(2, .int r_41), (4, .int 10), (3, .int i3), (0, .ref (ax 13)), (1, .int dp)]) hx hb dX2_readSum_64 rfl hl (by decide) rfl (fun ls hl => ?_)
              refine lv_aload_n hx hb dX2_readSum_65 rfl (lv_at hl 3 rfl) ?_
              refine lv_iload hx hb dX2_readSum_66 (lv_at hl 1 rfl) ?_
              refine lv_iconst (v := (-1)) hx hb dX2_readSum_68 (by decide) ?_
              refine lv_iconst (v := (-1)) hx hb dX2_readSum_69 (by decide) ?_
              refine lv_iconst (v := (-1)) hx hb dX2_readSum_70 (by decide) ?_
              have hk_60 : (10 : Int32).toInt = 10 := by decide
              have hk_61 : ((-1) : Int32).toInt = (-1) := by decide
              have hPc := hP.sub (ws' := [((ax 13), .inr (2, [.ref (ax 11), .ref (ax 14), .int w_44, .int w_45, .int w_46, .int xRt, .int w_47, .int w_48, .int w_49])), ((ax 11), .inr (5, [.ref (ax 12), .int xTz])), ((ax 12), .inl (cA 0, 200, .inl gB)), ((ax 14), .inl (cA 4, 200, .inr (.inr (.inr (.inr w_50)))))]) [0, 1, 2, 3] rfl
              have hDc := hD.sub (ws' := [((ax 13), .inr (2, [.ref (ax 11), .ref (ax 14), .int w_44, .int w_45, .int w_46, .int xRt, .int w_47, .int w_48, .int w_49])), ((ax 11), .inr (5, [.ref (ax 12), .int xTz])), ((ax 12), .inl (cA 0, 200, .inl gB)), ((ax 14), .inl (cA 4, 200, .inr (.inr (.inr (.inr w_50)))))]) [0, 1, 2, 3] (by decide) rfl
              have hFc := va_free (wc := [((ax 13), .inr (2, [.ref (ax 11), .ref (ax 14), .int w_44, .int w_45, .int w_46, .int xRt, .int w_47, .int w_48, .int w_49])), ((ax 11), .inr (5, [.ref (ax 12), .int xTz])), ((ax 12), .inl (cA 0, 200, .inl gB)), ((ax 14), .inl (cA 4, 200, .inr (.inr (.inr (.inr w_50)))))]) hD hS hA [0, 1, 2, 3] rfl
              refine W.know (fun hkn1 hkn2 => ?_)
              have hS0 := hS.1
              refine va_callv (va_runV (As := [.int 10, .int (-1), .int (-1), .int (-1)]) (rest := []) ⟨hx, hb, hml, hown, hts⟩ (k_X2_emit l dC dI cA H.size ax w_44 w_45 w_46 xRt w_47 w_48 w_49 xTz gB w_50 10 (-1) (-1) (-1) (by omega) (by omega) (by omega) (by omega) (by omega) i_gB (by omega)) (cwV 4 hts gX2_readSum_X2_emit rfl rfl rfl (by decide +kernel) ⟨(show 2 + 1 ≤ FR + 10 by omega), (show 8 + (5 + 11) + 44 ≤ LO + 220 by omega)⟩) ⟨fun a U g mk q => by obtain ⟨q0, q1, qP, qK, qD, qN⟩ := q; exact ⟨q0, q1, qP, va_K.moved (u := U) (U := U.calling g mk a) (Vm.Alike.refl U.vm) qK, qD, qN.same rfl⟩, va_recv hK hPc (ci := 2) (q0 := 0) rfl rfl, fun U hU hW => ⟨rfl, by rw [hU], by rw [hU]; exact hPc, va_K.moved hW.alike hK, hDc.weaken (fun _ _ _ _ => trivial), hN.warm hW⟩⟩ rfl rfl hl.1 rfl (lv_room (Nat.le_of_ble_eq_true rfl)) dX2_readSum_71 ⟨(show (w_44.toInt - xSz.toInt).toNat + ((200 - w_44.toInt).toNat) ≤ (200 - xSz.toInt).toNat by omega), (show (4 * (w_44.toInt - xSz.toInt).toNat) + (4 * (200 - w_44.toInt).toNat) ≤ (4 * (200 - xSz.toInt).toNat) by omega)⟩) hS (fun q _ h => hFc q h) hFc (fun u_62 t H1 locs ht hvm hw_63 hB hz1 hk1 hS => ?_)
              obtain ⟨w_64, w_65, w_66, w_67⟩ := u_62
              try dsimp only at hw_63 hB
              obtain ⟨iv_68, st_69⟩ := hw_63
              try simp only [hk_60, hk_61] at st_69
              obtain ⟨hP1, hD1, hX1⟩ := hB
              rw [ht] at hP1 hX1
              obtain ⟨hP, hD⟩ := va_joinQ (wr := []) (w1 := [((ax 13), .inr (2, [.ref (ax 11), .ref (ax 14), .int w_64, .int w_45, .int w_46, .int xRt, .int w_47, .int w_48, .int w_49])), ((ax 11), .inr (5, [.ref (ax 12), .int xTz])), ((ax 12), .inl (cA 0, 200, .inl gB)), ((ax 14), .inl (cA 4, 200, .inr (.inr (.inr (.inr w_65)))))] ++ va_pl w_66 w_67) hP hD [0, 1, 2, 3] [] rfl rfl (by decide) (by decide) hk1 hFc hP1 hD1
              obtain ⟨fm_70, hma_fm_70, hmb_fm_70, hP, hD⟩ := pl_merge hP hD
              have sq_fm_70 := stq_tr sq_fm_59 st_69 hma_fm_70 hmb_fm_70
              have hle_fm_70 := sq_fm_70.1
              have hlf_fm_70 := st_69.1
              refine W.tight (cells' := (w_64.toInt - xSz.toInt).toNat) (slots' := 4 * (w_64.toInt - xSz.toInt).toNat) (by omega) (by have hch := ssum_chain hS0 hz1 (fun q h1 h2 => hk1 q h2 (na_of (fun k e hk => by rcases mem4 hk with h | h | h | h <;> omega) h1 h2)); omega) ?_
              clear hz1
              generalize H1 = H at hP hS ⊢
              replace hP : va_P (dC, dI) vwCl ([((ax 13), .inr (2, [.ref (ax 11), .ref (ax 14), .int w_64, .int w_45, .int w_46, .int xRt, .int w_47, .int w_48, .int w_49])), ((ax 11), .inr (5, [.ref (ax 12), .int xTz])), ((ax 12), .inl (cA 0, 200, .inl gB)), ((ax 14), .inl (cA 4, 200, .inr (.inr (.inr (.inr w_65)))))] ++ va_pl ((w_L_8 ++ w_51) ++ w_66) fm_70) H := hP
              replace hD : va_D A ([((ax 13), .inr (2, [.ref (ax 11), .ref (ax 14), .int w_64, .int w_45, .int w_46, .int xRt, .int w_47, .int w_48, .int w_49])), ((ax 11), .inr (5, [.ref (ax 12), .int xTz])), ((ax 12), .inl (cA 0, 200, .inl gB)), ((ax 14), .inl (cA 4, 200, .inr (.inr (.inr (.inr w_65)))))] ++ va_pl ((w_L_8 ++ w_51) ++ w_66) fm_70) := hD
              obtain ⟨x_71, ex_71⟩ : ∃ y : Int32, y = i3 + 1 := ⟨_, rfl⟩
              have dx_71 : x_71.toInt = i3.toInt + 1 := by rw [ex_71]; exact jI_add rfl (by decide) (by omega) (by omega)
              refine lv_iinc (v := x_71) (lv' := [(3, .int x_71), (2, .int r_41), (4, .int 10), (0, .ref (ax 13)), (1, .int dp)]) hx hb dX2_readSum_74 hl (k := 2) rfl (by rw [ex_71]; rfl) (by decide) rfl (fun ls hl => ?_)
              refine lv_goto (tgt := 8) hx hb dX2_readSum_77 (by decide) ?_
              exact ih_8 x_71 r_41 w_64 w_45 w_46 w_47 w_48 w_49 w_65 ((w_L_8 ++ w_51) ++ w_66) fm_70 _ _ ls (by omega) (by omega) (by omega) (by omega) (by omega) (by omega) (by omega) (tk_57) (sq_fm_70) (hP.part (cx := [((ax 13), .inr (2, [.ref (ax 11), .ref (ax 14), .int w_64, .int w_45, .int w_46, .int xRt, .int w_47, .int w_48, .int w_49])), ((ax 11), .inr (5, [.ref (ax 12), .int xTz])), ((ax 12), .inl (cA 0, 200, .inl gB)), ((ax 14), .inl (cA 4, 200, .inr (.inr (.inr (.inr w_65)))))]) [0, 1, 2, 3] rfl) (hD.part (cx := [((ax 13), .inr (2, [.ref (ax 11), .ref (ax 14), .int w_64, .int w_45, .int w_46, .int xRt, .int w_47, .int w_48, .int w_49])), ((ax 11), .inr (5, [.ref (ax 12), .int xTz])), ((ax 12), .inl (cA 0, 200, .inl gB)), ((ax 14), .inl (cA 4, 200, .inr (.inr (.inr (.inr w_65)))))]) [0, 1, 2, 3] (by decide) rfl) hS (lv_sub hl [0, 1, 3, 4] rfl)
            · have dc_32 : ¬ r_28.toInt = 0 := jI_ne c_32 rfl (by decide)
              refine lv_bipush (v := 9) hx hb dX2_readSum_46 (by decide) ?_
              refine lv_goto (tgt := 53) hx hb dX2_readSum_48 (by decide) ?_
              refine lv_istore (lv' := [(4, .int 9), (3, .int i3), (2, .int so2), (0, .ref (ax 13)), (1, .int dp)]) hx hb dX2_readSum_53 hl (by decide) rfl (fun ls hl => ?_)
              refine lv_aload_n hx hb dX2_readSum_55 rfl (lv_at hl 3 rfl) ?_
              have hPc := hP.sub (ws' := [((ax 13), .inr (2, [.ref (ax 11), .ref (ax 14), .int w_xSz_8, .int w_xPl_8, .int w_xBe_8, .int xRt, .int w_xRf_8, .int w_xRd_8, .int w_xLk_8])), ((ax 11), .inr (5, [.ref (ax 12), .int xTz])), ((ax 12), .inl (cA 0, 200, .inl gB))]) [1, 2, 3] rfl
              have hDc := hD.sub (ws' := [((ax 13), .inr (2, [.ref (ax 11), .ref (ax 14), .int w_xSz_8, .int w_xPl_8, .int w_xBe_8, .int xRt, .int w_xRf_8, .int w_xRd_8, .int w_xLk_8])), ((ax 11), .inr (5, [.ref (ax 12), .int xTz])), ((ax 12), .inl (cA 0, 200, .inl gB))]) [1, 2, 3] (by decide) rfl
              have hFc := va_free (wc := [((ax 13), .inr (2, [.ref (ax 11), .ref (ax 14), .int w_xSz_8, .int w_xPl_8, .int w_xBe_8, .int xRt, .int w_xRf_8, .int w_xRd_8, .int w_xLk_8])), ((ax 11), .inr (5, [.ref (ax 12), .int xTz])), ((ax 12), .inl (cA 0, 200, .inl gB))]) hD hS hA [1, 2, 3] rfl
              refine va_callv (va_runV (As := []) (rest := []) ⟨hx, hb, hml, hown, hts⟩ (k_X2_advance l dC dI cA H.size ax w_xSz_8 w_xPl_8 w_xBe_8 xRt w_xRf_8 w_xRd_8 w_xLk_8 xTz gB (by omega) (by omega) (by omega) (by omega) (by omega) i_gB (by omega)) (cwV 0 hts gX2_readSum_X2_advance rfl rfl rfl (by decide +kernel) ⟨(show 1 + 1 ≤ FR + 10 by omega), (show 8 + (3 + 11) + 23 ≤ LO + 220 by omega)⟩) ⟨fun a U g mk q => by obtain ⟨q0, q1, qP, qK, qD, qN⟩ := q; exact ⟨q0, q1, qP, va_K.moved (u := U) (U := U.calling g mk a) (Vm.Alike.refl U.vm) qK, qD, qN.same rfl⟩, va_recv hK hPc (ci := 2) (q0 := 0) rfl rfl, fun U hU hW => ⟨rfl, by rw [hU], by rw [hU]; exact hPc, va_K.moved hW.alike hK, hDc.weaken (fun _ _ _ _ => trivial), hN.warm hW⟩⟩ rfl rfl hl.1 rfl (lv_room (Nat.le_of_ble_eq_true rfl)) dX2_readSum_56 ⟨(show (w_xSz_8.toInt - xSz.toInt).toNat + 0 ≤ (200 - xSz.toInt).toNat by omega), (show (4 * (w_xSz_8.toInt - xSz.toInt).toNat) + 0 ≤ (4 * (200 - xSz.toInt).toNat) by omega)⟩) hS (fun q _ h => hFc q h) hFc (fun u_72 t H1 locs ht hvm hw_73 hB hz1 hk1 hS => ?_)
              obtain ⟨w_74, w_75⟩ := u_72
              try dsimp only at hw_73 hB
              obtain ⟨iv_76, iv_77, po_78, tk_79⟩ := hw_73
              obtain ⟨hP1, hD1⟩ := hB
              rw [ht] at hP1
              obtain ⟨hP, hD⟩ := va_joinQ (wr := [((ax 14), .inl (cA 4, 200, .inr (.inr (.inr (.inr w_gSt_8)))))]) (w1 := [((ax 13), .inr (2, [.ref (ax 11), .ref (ax 14), .int w_xSz_8, .int w_74, .int w_75, .int xRt, .int w_xRf_8, .int w_xRd_8, .int w_xLk_8])), ((ax 11), .inr (5, [.ref (ax 12), .int xTz])), ((ax 12), .inl (cA 0, 200, .inl gB))]) hP hD [1, 2, 3] [0] rfl rfl (by decide) (by decide) hk1 hFc hP1 hD1
              clear hz1
              generalize H1 = H at hP hS ⊢
              replace hP : va_P (dC, dI) vwCl ([((ax 14), .inl (cA 4, 200, .inr (.inr (.inr (.inr w_gSt_8))))), ((ax 13), .inr (2, [.ref (ax 11), .ref (ax 14), .int w_xSz_8, .int w_74, .int w_75, .int xRt, .int w_xRf_8, .int w_xRd_8, .int w_xLk_8])), ((ax 11), .inr (5, [.ref (ax 12), .int xTz])), ((ax 12), .inl (cA 0, 200, .inl gB))] ++ va_pl w_L_8 w_pf_8) H := hP
              replace hD : va_D A ([((ax 14), .inl (cA 4, 200, .inr (.inr (.inr (.inr w_gSt_8))))), ((ax 13), .inr (2, [.ref (ax 11), .ref (ax 14), .int w_xSz_8, .int w_74, .int w_75, .int xRt, .int w_xRf_8, .int w_xRd_8, .int w_xLk_8])), ((ax 11), .inr (5, [.ref (ax 12), .int xTz])), ((ax 12), .inl (cA 0, 200, .inl gB))] ++ va_pl w_L_8 w_pf_8) := hD
              refine lv_aload_n hx hb dX2_readSum_59 rfl (lv_at hl 3 rfl) ?_
              refine lv_iload_n hx hb dX2_readSum_60 rfl (lv_at hl 4 rfl) ?_
              have hPc := hP.sub (ws' := [((ax 13), .inr (2, [.ref (ax 11), .ref (ax 14), .int w_xSz_8, .int w_74, .int w_75, .int xRt, .int w_xRf_8, .int w_xRd_8, .int w_xLk_8])), ((ax 11), .inr (5, [.ref (ax 12), .int xTz])), ((ax 12), .inl (cA 0, 200, .inl gB)), ((ax 14), .inl (cA 4, 200, .inr (.inr (.inr (.inr w_gSt_8)))))]) [1, 2, 3, 0] rfl
              have hDc := hD.sub (ws' := [((ax 13), .inr (2, [.ref (ax 11), .ref (ax 14), .int w_xSz_8, .int w_74, .int w_75, .int xRt, .int w_xRf_8, .int w_xRd_8, .int w_xLk_8])), ((ax 11), .inr (5, [.ref (ax 12), .int xTz])), ((ax 12), .inl (cA 0, 200, .inl gB)), ((ax 14), .inl (cA 4, 200, .inr (.inr (.inr (.inr w_gSt_8)))))]) [1, 2, 3, 0] (by decide) rfl
              have hFc := va_free (wc := [((ax 13), .inr (2, [.ref (ax 11), .ref (ax 14), .int w_xSz_8, .int w_74, .int w_75, .int xRt, .int w_xRf_8, .int w_xRd_8, .int w_xLk_8])), ((ax 11), .inr (5, [.ref (ax 12), .int xTz])), ((ax 12), .inl (cA 0, 200, .inl gB)), ((ax 14), .inl (cA 4, 200, .inr (.inr (.inr (.inr w_gSt_8)))))]) hD hS hA [1, 2, 3, 0] rfl
              refine W.know (fun hkn1 hkn2 => ?_)
              have hS0 := hS.1
              refine va_calli (va_runV (As := [.int dp]) (rest := []) ⟨hx, hb, hml, hown, hts⟩ (k_X2_readTerm l dC dI cA H.size ax w_xSz_8 w_74 w_75 xRt w_xRf_8 w_xRd_8 w_xLk_8 xTz gB w_gSt_8 dp adK adV rl FR LO (by omega) (by omega) (by omega) (by omega) (by omega) i_gB (by omega) tk_79 hdp hop ih) (cwV 1 hts gX2_readSum_X2_readTerm rfl rfl rfl (by decide +kernel) ⟨(show (FR + 9) + 1 ≤ FR + 10 by omega), (show 8 + (5 + 11) + (LO + 196) ≤ LO + 220 by omega)⟩) ⟨fun a U g mk q => by obtain ⟨q0, q1, qP, qK, qD, qN⟩ := q; exact ⟨q0, q1, qP, va_K.moved (u := U) (U := U.calling g mk a) (Vm.Alike.refl U.vm) qK, qD, qN.same rfl rfl⟩, va_recv hK hPc (ci := 2) (q0 := 0) rfl rfl, fun U hU hW => ⟨rfl, by rw [hU], by rw [hU]; exact hPc, va_K.moved hW.alike hK, hDc.weaken (fun _ _ _ _ => trivial), hSt.call hS hU hW hFc⟩⟩ rfl rfl hl.1 rfl (lv_room (Nat.le_of_ble_eq_true rfl)) dX2_readSum_61 ⟨(show (w_xSz_8.toInt - xSz.toInt).toNat + ((200 - w_xSz_8.toInt).toNat) ≤ (200 - xSz.toInt).toNat by omega), (show (4 * (w_xSz_8.toInt - xSz.toInt).toNat) + (4 * (200 - w_xSz_8.toInt).toNat) ≤ (4 * (200 - xSz.toInt).toNat) by omega)⟩) hS (fun q _ h => hFc q h) hFc (fun r_80 u_81 t H1 locs ht hvm hw_82 hB hz1 hk1 hS => ?_)
              obtain ⟨w_83, w_84, w_85, w_86, w_87, w_88, w_89, w_90, w_91⟩ := u_81
              try dsimp only at hw_82 hB
              obtain ⟨iv_92, iv_93, iv_94, po_95, tk_96, st_97⟩ := hw_82
              obtain ⟨hP1, hD1, hX1⟩ := hB
              rw [ht] at hP1 hX1
              obtain ⟨hP, hD⟩ := va_joinQ (wr := []) (w1 := [((ax 13), .inr (2, [.ref (ax 11), .ref (ax 14), .int w_83, .int w_84, .int w_85, .int xRt, .int w_86, .int w_87, .int w_88])), ((ax 11), .inr (5, [.ref (ax 12), .int xTz])), ((ax 12), .inl (cA 0, 200, .inl gB)), ((ax 14), .inl (cA 4, 200, .inr (.inr (.inr (.inr w_89)))))] ++ va_pl w_90 w_91) hP hD [1, 2, 3, 0] [] rfl rfl (by decide) (by decide) hk1 hFc hP1 hD1
              obtain ⟨fm_98, hma_fm_98, hmb_fm_98, hP, hD⟩ := pl_merge hP hD
              have sq_fm_98 := stq_tr hv7_8 st_97 hma_fm_98 hmb_fm_98
              have hle_fm_98 := sq_fm_98.1
              have hlf_fm_98 := st_97.1
              refine W.tight (cells' := (w_83.toInt - xSz.toInt).toNat) (slots' := 4 * (w_83.toInt - xSz.toInt).toNat) (by omega) (by have hch := ssum_chain hS0 hz1 (fun q h1 h2 => hk1 q h2 (na_of (fun k e hk => by rcases mem4 hk with h | h | h | h <;> omega) h1 h2)); omega) ?_
              clear hz1
              generalize H1 = H at hP hS ⊢
              replace hP : va_P (dC, dI) vwCl ([((ax 13), .inr (2, [.ref (ax 11), .ref (ax 14), .int w_83, .int w_84, .int w_85, .int xRt, .int w_86, .int w_87, .int w_88])), ((ax 11), .inr (5, [.ref (ax 12), .int xTz])), ((ax 12), .inl (cA 0, 200, .inl gB)), ((ax 14), .inl (cA 4, 200, .inr (.inr (.inr (.inr w_89)))))] ++ va_pl (w_L_8 ++ w_90) fm_98) H := hP
              replace hD : va_D A ([((ax 13), .inr (2, [.ref (ax 11), .ref (ax 14), .int w_83, .int w_84, .int w_85, .int xRt, .int w_86, .int w_87, .int w_88])), ((ax 11), .inr (5, [.ref (ax 12), .int xTz])), ((ax 12), .inl (cA 0, 200, .inl gB)), ((ax 14), .inl (cA 4, 200, .inr (.inr (.inr (.inr w_89)))))] ++ va_pl (w_L_8 ++ w_90) fm_98) := hD
              refine lv_istore_n (lv' := [(2, .int r_80), (4, .int 9), (3, .int i3), (0, .ref (ax 13)), (1, .int dp)]) hx hb dX2_readSum_64 rfl hl (by decide) rfl (fun ls hl => ?_)
              refine lv_aload_n hx hb dX2_readSum_65 rfl (lv_at hl 3 rfl) ?_
              refine lv_iload hx hb dX2_readSum_66 (lv_at hl 1 rfl) ?_
              refine lv_iconst (v := (-1)) hx hb dX2_readSum_68 (by decide) ?_
              refine lv_iconst (v := (-1)) hx hb dX2_readSum_69 (by decide) ?_
              refine lv_iconst (v := (-1)) hx hb dX2_readSum_70 (by decide) ?_
              have hk_99 : (9 : Int32).toInt = 9 := by decide
              have hk_100 : ((-1) : Int32).toInt = (-1) := by decide
              have hPc := hP.sub (ws' := [((ax 13), .inr (2, [.ref (ax 11), .ref (ax 14), .int w_83, .int w_84, .int w_85, .int xRt, .int w_86, .int w_87, .int w_88])), ((ax 11), .inr (5, [.ref (ax 12), .int xTz])), ((ax 12), .inl (cA 0, 200, .inl gB)), ((ax 14), .inl (cA 4, 200, .inr (.inr (.inr (.inr w_89)))))]) [0, 1, 2, 3] rfl
              have hDc := hD.sub (ws' := [((ax 13), .inr (2, [.ref (ax 11), .ref (ax 14), .int w_83, .int w_84, .int w_85, .int xRt, .int w_86, .int w_87, .int w_88])), ((ax 11), .inr (5, [.ref (ax 12), .int xTz])), ((ax 12), .inl (cA 0, 200, .inl gB)), ((ax 14), .inl (cA 4, 200, .inr (.inr (.inr (.inr w_89)))))]) [0, 1, 2, 3] (by decide) rfl
              have hFc := va_free (wc := [((ax 13), .inr (2, [.ref (ax 11), .ref (ax 14), .int w_83, .int w_84, .int w_85, .int xRt, .int w_86, .int w_87, .int w_88])), ((ax 11), .inr (5, [.ref (ax 12), .int xTz])), ((ax 12), .inl (cA 0, 200, .inl gB)), ((ax 14), .inl (cA 4, 200, .inr (.inr (.inr (.inr w_89)))))]) hD hS hA [0, 1, 2, 3] rfl
              refine W.know (fun hkn1 hkn2 => ?_)
              have hS0 := hS.1
              refine va_callv (va_runV (As := [.int 9, .int (-1), .int (-1), .int (-1)]) (rest := []) ⟨hx, hb, hml, hown, hts⟩ (k_X2_emit l dC dI cA H.size ax w_83 w_84 w_85 xRt w_86 w_87 w_88 xTz gB w_89 9 (-1) (-1) (-1) (by omega) (by omega) (by omega) (by omega) (by omega) i_gB (by omega)) (cwV 4 hts gX2_readSum_X2_emit rfl rfl rfl (by decide +kernel) ⟨(show 2 + 1 ≤ FR + 10 by omega), (show 8 + (5 + 11) + 44 ≤ LO + 220 by omega)⟩) ⟨fun a U g mk q => by obtain ⟨q0, q1, qP, qK, qD, qN⟩ := q; exact ⟨q0, q1, qP, va_K.moved (u := U) (U := U.calling g mk a) (Vm.Alike.refl U.vm) qK, qD, qN.same rfl⟩, va_recv hK hPc (ci := 2) (q0 := 0) rfl rfl, fun U hU hW => ⟨rfl, by rw [hU], by rw [hU]; exact hPc, va_K.moved hW.alike hK, hDc.weaken (fun _ _ _ _ => trivial), hN.warm hW⟩⟩ rfl rfl hl.1 rfl (lv_room (Nat.le_of_ble_eq_true rfl)) dX2_readSum_71 ⟨(show (w_83.toInt - xSz.toInt).toNat + ((200 - w_83.toInt).toNat) ≤ (200 - xSz.toInt).toNat by omega), (show (4 * (w_83.toInt - xSz.toInt).toNat) + (4 * (200 - w_83.toInt).toNat) ≤ (4 * (200 - xSz.toInt).toNat) by omega)⟩) hS (fun q _ h => hFc q h) hFc (fun u_101 t H1 locs ht hvm hw_102 hB hz1 hk1 hS => ?_)
              obtain ⟨w_103, w_104, w_105, w_106⟩ := u_101
              try dsimp only at hw_102 hB
              obtain ⟨iv_107, st_108⟩ := hw_102
              try simp only [hk_99, hk_100] at st_108
              obtain ⟨hP1, hD1, hX1⟩ := hB
              rw [ht] at hP1 hX1
              obtain ⟨hP, hD⟩ := va_joinQ (wr := []) (w1 := [((ax 13), .inr (2, [.ref (ax 11), .ref (ax 14), .int w_103, .int w_84, .int w_85, .int xRt, .int w_86, .int w_87, .int w_88])), ((ax 11), .inr (5, [.ref (ax 12), .int xTz])), ((ax 12), .inl (cA 0, 200, .inl gB)), ((ax 14), .inl (cA 4, 200, .inr (.inr (.inr (.inr w_104)))))] ++ va_pl w_105 w_106) hP hD [0, 1, 2, 3] [] rfl rfl (by decide) (by decide) hk1 hFc hP1 hD1
              obtain ⟨fm_109, hma_fm_109, hmb_fm_109, hP, hD⟩ := pl_merge hP hD
              have sq_fm_109 := stq_tr sq_fm_98 st_108 hma_fm_109 hmb_fm_109
              have hle_fm_109 := sq_fm_109.1
              have hlf_fm_109 := st_108.1
              refine W.tight (cells' := (w_103.toInt - xSz.toInt).toNat) (slots' := 4 * (w_103.toInt - xSz.toInt).toNat) (by omega) (by have hch := ssum_chain hS0 hz1 (fun q h1 h2 => hk1 q h2 (na_of (fun k e hk => by rcases mem4 hk with h | h | h | h <;> omega) h1 h2)); omega) ?_
              clear hz1
              generalize H1 = H at hP hS ⊢
              replace hP : va_P (dC, dI) vwCl ([((ax 13), .inr (2, [.ref (ax 11), .ref (ax 14), .int w_103, .int w_84, .int w_85, .int xRt, .int w_86, .int w_87, .int w_88])), ((ax 11), .inr (5, [.ref (ax 12), .int xTz])), ((ax 12), .inl (cA 0, 200, .inl gB)), ((ax 14), .inl (cA 4, 200, .inr (.inr (.inr (.inr w_104)))))] ++ va_pl ((w_L_8 ++ w_90) ++ w_105) fm_109) H := hP
              replace hD : va_D A ([((ax 13), .inr (2, [.ref (ax 11), .ref (ax 14), .int w_103, .int w_84, .int w_85, .int xRt, .int w_86, .int w_87, .int w_88])), ((ax 11), .inr (5, [.ref (ax 12), .int xTz])), ((ax 12), .inl (cA 0, 200, .inl gB)), ((ax 14), .inl (cA 4, 200, .inr (.inr (.inr (.inr w_104)))))] ++ va_pl ((w_L_8 ++ w_90) ++ w_105) fm_109) := hD
              obtain ⟨x_110, ex_110⟩ : ∃ y : Int32, y = i3 + 1 := ⟨_, rfl⟩
              have dx_110 : x_110.toInt = i3.toInt + 1 := by rw [ex_110]; exact jI_add rfl (by decide) (by omega) (by omega)
              refine lv_iinc (v := x_110) (lv' := [(3, .int x_110), (2, .int r_80), (4, .int 9), (0, .ref (ax 13)), (1, .int dp)]) hx hb dX2_readSum_74 hl (k := 2) rfl (by rw [ex_110]; rfl) (by decide) rfl (fun ls hl => ?_)
              refine lv_goto (tgt := 8) hx hb dX2_readSum_77 (by decide) ?_
              exact ih_8 x_110 r_80 w_103 w_84 w_85 w_86 w_87 w_88 w_104 ((w_L_8 ++ w_90) ++ w_105) fm_109 _ _ ls (by omega) (by omega) (by omega) (by omega) (by omega) (by omega) (by omega) (tk_96) (sq_fm_109) (hP.part (cx := [((ax 13), .inr (2, [.ref (ax 11), .ref (ax 14), .int w_103, .int w_84, .int w_85, .int xRt, .int w_86, .int w_87, .int w_88])), ((ax 11), .inr (5, [.ref (ax 12), .int xTz])), ((ax 12), .inl (cA 0, 200, .inl gB)), ((ax 14), .inl (cA 4, 200, .inr (.inr (.inr (.inr w_104)))))]) [0, 1, 2, 3] rfl) (hD.part (cx := [((ax 13), .inr (2, [.ref (ax 11), .ref (ax 14), .int w_103, .int w_84, .int w_85, .int xRt, .int w_86, .int w_87, .int w_88])), ((ax 11), .inr (5, [.ref (ax 12), .int xTz])), ((ax 12), .inl (cA 0, 200, .inl gB)), ((ax 14), .inl (cA 4, 200, .inr (.inr (.inr (.inr w_104)))))]) [0, 1, 2, 3] (by decide) rfl) hS (lv_sub hl [0, 1, 3, 4] rfl)
          · have dc_27 : r_23.toInt = 0 := jI_eq c_27 rfl (by decide)
            refine lv_aload_n hx hb dX2_readSum_28 rfl (lv_at hl 2 rfl) ?_
            refine va_ldcS hx hb hown (show vk_R RX2 67 "-" (adK 1) s from hSt.2.1 1 (by decide)) dX2_readSum_29 ?_
            have hPc := hP.sub (ws' := [((ax 13), .inr (2, [.ref (ax 11), .ref (ax 14), .int w_xSz_8, .int w_xPl_8, .int w_xBe_8, .int xRt, .int w_xRf_8, .int w_xRd_8, .int w_xLk_8])), ((ax 11), .inr (5, [.ref (ax 12), .int xTz])), ((ax 12), .inl (cA 0, 200, .inl gB))]) [1, 2, 3] rfl
            have hDc := hD.sub (ws' := [((ax 13), .inr (2, [.ref (ax 11), .ref (ax 14), .int w_xSz_8, .int w_xPl_8, .int w_xBe_8, .int xRt, .int w_xRf_8, .int w_xRd_8, .int w_xLk_8])), ((ax 11), .inr (5, [.ref (ax 12), .int xTz])), ((ax 12), .inl (cA 0, 200, .inl gB))]) [1, 2, 3] (by decide) rfl
            have hFc := va_free (wc := [((ax 13), .inr (2, [.ref (ax 11), .ref (ax 14), .int w_xSz_8, .int w_xPl_8, .int w_xBe_8, .int xRt, .int w_xRf_8, .int w_xRd_8, .int w_xLk_8])), ((ax 11), .inr (5, [.ref (ax 12), .int xTz])), ((ax 12), .inl (cA 0, 200, .inl gB))]) hD hS hA [1, 2, 3] rfl
            refine va_calli (va_runV (As := [.ref (adK 1)]) (rest := []) ⟨hx, hb, hml, hown, hts⟩ (k_X2_isAt l dC dI cA H.size ax w_xSz_8 w_xPl_8 w_xBe_8 xRt w_xRf_8 w_xRd_8 w_xLk_8 xTz gB adK adV 1 (by omega) (by omega) (by omega) (by omega) (by omega) i_gB (by omega) hv5_8) (cwV 1 hts gX2_readSum_X2_isAt rfl rfl rfl (by decide +kernel) ⟨(show 4 + 1 ≤ FR + 10 by omega), (show 8 + (4 + 11) + 85 ≤ LO + 220 by omega)⟩) ⟨fun a U g mk q => by obtain ⟨q0, q1, qP, qK, qD, qN⟩ := q; exact ⟨q0, q1, qP, va_K.moved (u := U) (U := U.calling g mk a) (Vm.Alike.refl U.vm) qK, qD, qN.same rfl rfl⟩, va_recv hK hPc (ci := 2) (q0 := 0) rfl rfl, fun U hU hW => ⟨rfl, by rw [hU], by rw [hU]; exact hPc, va_K.moved hW.alike hK, hDc.weaken (fun _ _ _ _ => trivial), hSt.call hS hU hW hFc⟩⟩ rfl rfl hl.1 rfl (lv_room (Nat.le_of_ble_eq_true rfl)) dX2_readSum_31 ⟨(show (w_xSz_8.toInt - xSz.toInt).toNat + 0 ≤ (200 - xSz.toInt).toNat by omega), (show (4 * (w_xSz_8.toInt - xSz.toInt).toNat) + 0 ≤ (4 * (200 - xSz.toInt).toNat) by omega)⟩) hS (fun q _ h => hFc q h) hFc (fun r_111 u_112 t H1 locs ht hvm hw_113 hB hz1 hk1 hS => ?_)
            try dsimp only at hw_113 hB
            have po_114 := hw_113
            obtain ⟨hP1, hD1⟩ := hB
            rw [ht] at hP1
            obtain ⟨hP, hD⟩ := va_joinQ (wr := [((ax 14), .inl (cA 4, 200, .inr (.inr (.inr (.inr w_gSt_8)))))]) (w1 := [((ax 13), .inr (2, [.ref (ax 11), .ref (ax 14), .int w_xSz_8, .int w_xPl_8, .int w_xBe_8, .int xRt, .int w_xRf_8, .int w_xRd_8, .int w_xLk_8])), ((ax 11), .inr (5, [.ref (ax 12), .int xTz])), ((ax 12), .inl (cA 0, 200, .inl gB))]) hP hD [1, 2, 3] [0] rfl rfl (by decide) (by decide) hk1 hFc hP1 hD1
            clear hz1
            generalize H1 = H at hP hS ⊢
            replace hP : va_P (dC, dI) vwCl ([((ax 14), .inl (cA 4, 200, .inr (.inr (.inr (.inr w_gSt_8))))), ((ax 13), .inr (2, [.ref (ax 11), .ref (ax 14), .int w_xSz_8, .int w_xPl_8, .int w_xBe_8, .int xRt, .int w_xRf_8, .int w_xRd_8, .int w_xLk_8])), ((ax 11), .inr (5, [.ref (ax 12), .int xTz])), ((ax 12), .inl (cA 0, 200, .inl gB))] ++ va_pl w_L_8 w_pf_8) H := hP
            replace hD : va_D A ([((ax 14), .inl (cA 4, 200, .inr (.inr (.inr (.inr w_gSt_8))))), ((ax 13), .inr (2, [.ref (ax 11), .ref (ax 14), .int w_xSz_8, .int w_xPl_8, .int w_xBe_8, .int xRt, .int w_xRf_8, .int w_xRd_8, .int w_xLk_8])), ((ax 11), .inr (5, [.ref (ax 12), .int xTz])), ((ax 12), .inl (cA 0, 200, .inl gB))] ++ va_pl w_L_8 w_pf_8) := hD
            refine lv_if_eq (tgt := 80) hx hb dX2_readSum_34 (by decide) (fun c_115 => ?_) (fun c_115 => ?_)
            · have dc_115 : r_111.toInt = 0 := jI_eq c_115 rfl (by decide)
              refine lv_iload_n hx hb dX2_readSum_80 rfl (lv_at hl 1 rfl) ?_
              have hP9 := hP.part (cx := [((ax 13), .inr (2, [.ref (ax 11), .ref (ax 14), .int w_xSz_8, .int w_xPl_8, .int w_xBe_8, .int xRt, .int w_xRf_8, .int w_xRd_8, .int w_xLk_8])), ((ax 11), .inr (5, [.ref (ax 12), .int xTz])), ((ax 12), .inl (cA 0, 200, .inl gB)), ((ax 14), .inl (cA 4, 200, .inr (.inr (.inr (.inr w_gSt_8)))))]) [1, 2, 3, 0] rfl
              have hD9 := hD.part (cx := [((ax 13), .inr (2, [.ref (ax 11), .ref (ax 14), .int w_xSz_8, .int w_xPl_8, .int w_xBe_8, .int xRt, .int w_xRf_8, .int w_xRd_8, .int w_xLk_8])), ((ax 11), .inr (5, [.ref (ax 12), .int xTz])), ((ax 12), .inl (cA 0, 200, .inl gB)), ((ax 14), .inl (cA 4, 200, .inr (.inr (.inr (.inr w_gSt_8)))))]) [1, 2, 3, 0] (by decide) rfl
              refine W.know (fun hkn1 hkn2 => ?_)
              have hBx : H.size ≤ s.heap.size + (w_xSz_8.toInt - xSz.toInt).toNat ∧ ssum s.heap.size H ≤ 4 * (w_xSz_8.toInt - xSz.toInt).toNat := ⟨by omega, by omega⟩
              subst hQe
              refine W.widen (k := (200 - xSz.toInt).toNat) (n := (4 * (200 - xSz.toInt).toNat)) (by omega) (by omega) ?_
              have hans : (so2 : Int32).toInt = so2.toInt := rfl
              have hpost : (0 ≤ w_xSz_8.toInt ∧ w_xSz_8.toInt ≤ 200) ∧ (0 ≤ w_xPl_8.toInt ∧ w_xPl_8.toInt ≤ 200) ∧ (0 ≤ w_xBe_8.toInt ∧ w_xBe_8.toInt ≤ 200) ∧ (w_xPl_8.toInt ≤ w_xBe_8.toInt ∧ w_xBe_8.toInt ≤ xTz.toInt ∧ ((so2 : Int32).toInt = 0 ∨ (so2 : Int32).toInt = 1)) ∧ (tokOK gB w_xPl_8 w_xBe_8 xTz) ∧ (stq xSz.toInt w_xSz_8.toInt gSt w_gSt_8 w_L_8 w_pf_8) := ⟨by omega, by omega, by omega, by omega, hv6_8, hv7_8⟩
              exact W.zret (v := so2) hx hb hr (jnarZ (by omega)) (fun t ht hW => ⟨⟨so2, (w_xSz_8, w_xPl_8, w_xBe_8, w_xRf_8, w_xRd_8, w_xLk_8, w_gSt_8, w_L_8, w_pf_8), rfl, hpost, by rw [ht]; exact hP9, hD9, by rw [ht]; exact hBx⟩, hS.F ht⟩) hS.2.2 dX2_readSum_81
            · have dc_115 : ¬ r_111.toInt = 0 := jI_ne c_115 rfl (by decide)
              refine lv_aload_n hx hb dX2_readSum_37 rfl (lv_at hl 2 rfl) ?_
              refine va_ldcS hx hb hown (show vk_R RX2 61 "+" (adK 0) s from hSt.2.1 0 (by decide)) dX2_readSum_38 ?_
              have hPc := hP.sub (ws' := [((ax 13), .inr (2, [.ref (ax 11), .ref (ax 14), .int w_xSz_8, .int w_xPl_8, .int w_xBe_8, .int xRt, .int w_xRf_8, .int w_xRd_8, .int w_xLk_8])), ((ax 11), .inr (5, [.ref (ax 12), .int xTz])), ((ax 12), .inl (cA 0, 200, .inl gB))]) [1, 2, 3] rfl
              have hDc := hD.sub (ws' := [((ax 13), .inr (2, [.ref (ax 11), .ref (ax 14), .int w_xSz_8, .int w_xPl_8, .int w_xBe_8, .int xRt, .int w_xRf_8, .int w_xRd_8, .int w_xLk_8])), ((ax 11), .inr (5, [.ref (ax 12), .int xTz])), ((ax 12), .inl (cA 0, 200, .inl gB))]) [1, 2, 3] (by decide) rfl
              have hFc := va_free (wc := [((ax 13), .inr (2, [.ref (ax 11), .ref (ax 14), .int w_xSz_8, .int w_xPl_8, .int w_xBe_8, .int xRt, .int w_xRf_8, .int w_xRd_8, .int w_xLk_8])), ((ax 11), .inr (5, [.ref (ax 12), .int xTz])), ((ax 12), .inl (cA 0, 200, .inl gB))]) hD hS hA [1, 2, 3] rfl
              refine va_calli (va_runV (As := [.ref (adK 0)]) (rest := []) ⟨hx, hb, hml, hown, hts⟩ (k_X2_isAt l dC dI cA H.size ax w_xSz_8 w_xPl_8 w_xBe_8 xRt w_xRf_8 w_xRd_8 w_xLk_8 xTz gB adK adV 0 (by omega) (by omega) (by omega) (by omega) (by omega) i_gB (by omega) hv5_8) (cwV 1 hts gX2_readSum_X2_isAt rfl rfl rfl (by decide +kernel) ⟨(show 4 + 1 ≤ FR + 10 by omega), (show 8 + (4 + 11) + 85 ≤ LO + 220 by omega)⟩) ⟨fun a U g mk q => by obtain ⟨q0, q1, qP, qK, qD, qN⟩ := q; exact ⟨q0, q1, qP, va_K.moved (u := U) (U := U.calling g mk a) (Vm.Alike.refl U.vm) qK, qD, qN.same rfl rfl⟩, va_recv hK hPc (ci := 2) (q0 := 0) rfl rfl, fun U hU hW => ⟨rfl, by rw [hU], by rw [hU]; exact hPc, va_K.moved hW.alike hK, hDc.weaken (fun _ _ _ _ => trivial), hSt.call hS hU hW hFc⟩⟩ rfl rfl hl.1 rfl (lv_room (Nat.le_of_ble_eq_true rfl)) dX2_readSum_40 ⟨(show (w_xSz_8.toInt - xSz.toInt).toNat + 0 ≤ (200 - xSz.toInt).toNat by omega), (show (4 * (w_xSz_8.toInt - xSz.toInt).toNat) + 0 ≤ (4 * (200 - xSz.toInt).toNat) by omega)⟩) hS (fun q _ h => hFc q h) hFc (fun r_116 u_117 t H1 locs ht hvm hw_118 hB hz1 hk1 hS => ?_)
              try dsimp only at hw_118 hB
              have po_119 := hw_118
              obtain ⟨hP1, hD1⟩ := hB
              rw [ht] at hP1
              obtain ⟨hP, hD⟩ := va_joinQ (wr := [((ax 14), .inl (cA 4, 200, .inr (.inr (.inr (.inr w_gSt_8)))))]) (w1 := [((ax 13), .inr (2, [.ref (ax 11), .ref (ax 14), .int w_xSz_8, .int w_xPl_8, .int w_xBe_8, .int xRt, .int w_xRf_8, .int w_xRd_8, .int w_xLk_8])), ((ax 11), .inr (5, [.ref (ax 12), .int xTz])), ((ax 12), .inl (cA 0, 200, .inl gB))]) hP hD [1, 2, 3] [0] rfl rfl (by decide) (by decide) hk1 hFc hP1 hD1
              clear hz1
              generalize H1 = H at hP hS ⊢
              replace hP : va_P (dC, dI) vwCl ([((ax 14), .inl (cA 4, 200, .inr (.inr (.inr (.inr w_gSt_8))))), ((ax 13), .inr (2, [.ref (ax 11), .ref (ax 14), .int w_xSz_8, .int w_xPl_8, .int w_xBe_8, .int xRt, .int w_xRf_8, .int w_xRd_8, .int w_xLk_8])), ((ax 11), .inr (5, [.ref (ax 12), .int xTz])), ((ax 12), .inl (cA 0, 200, .inl gB))] ++ va_pl w_L_8 w_pf_8) H := hP
              replace hD : va_D A ([((ax 14), .inl (cA 4, 200, .inr (.inr (.inr (.inr w_gSt_8))))), ((ax 13), .inr (2, [.ref (ax 11), .ref (ax 14), .int w_xSz_8, .int w_xPl_8, .int w_xBe_8, .int xRt, .int w_xRf_8, .int w_xRd_8, .int w_xLk_8])), ((ax 11), .inr (5, [.ref (ax 12), .int xTz])), ((ax 12), .inl (cA 0, 200, .inl gB))] ++ va_pl w_L_8 w_pf_8) := hD
              refine lv_if_eq (tgt := 51) hx hb dX2_readSum_43 (by decide) (fun c_120 => ?_) (fun c_120 => ?_)
              · have dc_120 : r_116.toInt = 0 := jI_eq c_120 rfl (by decide)
                refine lv_bipush (v := 10) hx hb dX2_readSum_51 (by decide) ?_
                refine lv_istore (lv' := [(4, .int 10), (3, .int i3), (2, .int so2), (0, .ref (ax 13)), (1, .int dp)]) hx hb dX2_readSum_53 hl (by decide) rfl (fun ls hl => ?_)
                refine lv_aload_n hx hb dX2_readSum_55 rfl (lv_at hl 3 rfl) ?_
                have hPc := hP.sub (ws' := [((ax 13), .inr (2, [.ref (ax 11), .ref (ax 14), .int w_xSz_8, .int w_xPl_8, .int w_xBe_8, .int xRt, .int w_xRf_8, .int w_xRd_8, .int w_xLk_8])), ((ax 11), .inr (5, [.ref (ax 12), .int xTz])), ((ax 12), .inl (cA 0, 200, .inl gB))]) [1, 2, 3] rfl
                have hDc := hD.sub (ws' := [((ax 13), .inr (2, [.ref (ax 11), .ref (ax 14), .int w_xSz_8, .int w_xPl_8, .int w_xBe_8, .int xRt, .int w_xRf_8, .int w_xRd_8, .int w_xLk_8])), ((ax 11), .inr (5, [.ref (ax 12), .int xTz])), ((ax 12), .inl (cA 0, 200, .inl gB))]) [1, 2, 3] (by decide) rfl
                have hFc := va_free (wc := [((ax 13), .inr (2, [.ref (ax 11), .ref (ax 14), .int w_xSz_8, .int w_xPl_8, .int w_xBe_8, .int xRt, .int w_xRf_8, .int w_xRd_8, .int w_xLk_8])), ((ax 11), .inr (5, [.ref (ax 12), .int xTz])), ((ax 12), .inl (cA 0, 200, .inl gB))]) hD hS hA [1, 2, 3] rfl
                refine va_callv (va_runV (As := []) (rest := []) ⟨hx, hb, hml, hown, hts⟩ (k_X2_advance l dC dI cA H.size ax w_xSz_8 w_xPl_8 w_xBe_8 xRt w_xRf_8 w_xRd_8 w_xLk_8 xTz gB (by omega) (by omega) (by omega) (by omega) (by omega) i_gB (by omega)) (cwV 0 hts gX2_readSum_X2_advance rfl rfl rfl (by decide +kernel) ⟨(show 1 + 1 ≤ FR + 10 by omega), (show 8 + (3 + 11) + 23 ≤ LO + 220 by omega)⟩) ⟨fun a U g mk q => by obtain ⟨q0, q1, qP, qK, qD, qN⟩ := q; exact ⟨q0, q1, qP, va_K.moved (u := U) (U := U.calling g mk a) (Vm.Alike.refl U.vm) qK, qD, qN.same rfl⟩, va_recv hK hPc (ci := 2) (q0 := 0) rfl rfl, fun U hU hW => ⟨rfl, by rw [hU], by rw [hU]; exact hPc, va_K.moved hW.alike hK, hDc.weaken (fun _ _ _ _ => trivial), hN.warm hW⟩⟩ rfl rfl hl.1 rfl (lv_room (Nat.le_of_ble_eq_true rfl)) dX2_readSum_56 ⟨(show (w_xSz_8.toInt - xSz.toInt).toNat + 0 ≤ (200 - xSz.toInt).toNat by omega), (show (4 * (w_xSz_8.toInt - xSz.toInt).toNat) + 0 ≤ (4 * (200 - xSz.toInt).toNat) by omega)⟩) hS (fun q _ h => hFc q h) hFc (fun u_121 t H1 locs ht hvm hw_122 hB hz1 hk1 hS => ?_)
                obtain ⟨w_123, w_124⟩ := u_121
                try dsimp only at hw_122 hB
                obtain ⟨iv_125, iv_126, po_127, tk_128⟩ := hw_122
                obtain ⟨hP1, hD1⟩ := hB
                rw [ht] at hP1
                obtain ⟨hP, hD⟩ := va_joinQ (wr := [((ax 14), .inl (cA 4, 200, .inr (.inr (.inr (.inr w_gSt_8)))))]) (w1 := [((ax 13), .inr (2, [.ref (ax 11), .ref (ax 14), .int w_xSz_8, .int w_123, .int w_124, .int xRt, .int w_xRf_8, .int w_xRd_8, .int w_xLk_8])), ((ax 11), .inr (5, [.ref (ax 12), .int xTz])), ((ax 12), .inl (cA 0, 200, .inl gB))]) hP hD [1, 2, 3] [0] rfl rfl (by decide) (by decide) hk1 hFc hP1 hD1
                clear hz1
                generalize H1 = H at hP hS ⊢
                replace hP : va_P (dC, dI) vwCl ([((ax 14), .inl (cA 4, 200, .inr (.inr (.inr (.inr w_gSt_8))))), ((ax 13), .inr (2, [.ref (ax 11), .ref (ax 14), .int w_xSz_8, .int w_123, .int w_124, .int xRt, .int w_xRf_8, .int w_xRd_8, .int w_xLk_8])), ((ax 11), .inr (5, [.ref (ax 12), .int xTz])), ((ax 12), .inl (cA 0, 200, .inl gB))] ++ va_pl w_L_8 w_pf_8) H := hP
                replace hD : va_D A ([((ax 14), .inl (cA 4, 200, .inr (.inr (.inr (.inr w_gSt_8))))), ((ax 13), .inr (2, [.ref (ax 11), .ref (ax 14), .int w_xSz_8, .int w_123, .int w_124, .int xRt, .int w_xRf_8, .int w_xRd_8, .int w_xLk_8])), ((ax 11), .inr (5, [.ref (ax 12), .int xTz])), ((ax 12), .inl (cA 0, 200, .inl gB))] ++ va_pl w_L_8 w_pf_8) := hD
                refine lv_aload_n hx hb dX2_readSum_59 rfl (lv_at hl 3 rfl) ?_
                refine lv_iload_n hx hb dX2_readSum_60 rfl (lv_at hl 4 rfl) ?_
                have hPc := hP.sub (ws' := [((ax 13), .inr (2, [.ref (ax 11), .ref (ax 14), .int w_xSz_8, .int w_123, .int w_124, .int xRt, .int w_xRf_8, .int w_xRd_8, .int w_xLk_8])), ((ax 11), .inr (5, [.ref (ax 12), .int xTz])), ((ax 12), .inl (cA 0, 200, .inl gB)), ((ax 14), .inl (cA 4, 200, .inr (.inr (.inr (.inr w_gSt_8)))))]) [1, 2, 3, 0] rfl
                have hDc := hD.sub (ws' := [((ax 13), .inr (2, [.ref (ax 11), .ref (ax 14), .int w_xSz_8, .int w_123, .int w_124, .int xRt, .int w_xRf_8, .int w_xRd_8, .int w_xLk_8])), ((ax 11), .inr (5, [.ref (ax 12), .int xTz])), ((ax 12), .inl (cA 0, 200, .inl gB)), ((ax 14), .inl (cA 4, 200, .inr (.inr (.inr (.inr w_gSt_8)))))]) [1, 2, 3, 0] (by decide) rfl
                have hFc := va_free (wc := [((ax 13), .inr (2, [.ref (ax 11), .ref (ax 14), .int w_xSz_8, .int w_123, .int w_124, .int xRt, .int w_xRf_8, .int w_xRd_8, .int w_xLk_8])), ((ax 11), .inr (5, [.ref (ax 12), .int xTz])), ((ax 12), .inl (cA 0, 200, .inl gB)), ((ax 14), .inl (cA 4, 200, .inr (.inr (.inr (.inr w_gSt_8)))))]) hD hS hA [1, 2, 3, 0] rfl
                refine W.know (fun hkn1 hkn2 => ?_)
                have hS0 := hS.1
                refine va_calli (va_runV (As := [.int dp]) (rest := []) ⟨hx, hb, hml, hown, hts⟩ (k_X2_readTerm l dC dI cA H.size ax w_xSz_8 w_123 w_124 xRt w_xRf_8 w_xRd_8 w_xLk_8 xTz gB w_gSt_8 dp adK adV rl FR LO (by omega) (by omega) (by omega) (by omega) (by omega) i_gB (by omega) tk_128 hdp hop ih) (cwV 1 hts gX2_readSum_X2_readTerm rfl rfl rfl (by decide +kernel) ⟨(show (FR + 9) + 1 ≤ FR + 10 by omega), (show 8 + (5 + 11) + (LO + 196) ≤ LO + 220 by omega)⟩) ⟨fun a U g mk q => by obtain ⟨q0, q1, qP, qK, qD, qN⟩ := q; exact ⟨q0, q1, qP, va_K.moved (u := U) (U := U.calling g mk a) (Vm.Alike.refl U.vm) qK, qD, qN.same rfl rfl⟩, va_recv hK hPc (ci := 2) (q0 := 0) rfl rfl, fun U hU hW => ⟨rfl, by rw [hU], by rw [hU]; exact hPc, va_K.moved hW.alike hK, hDc.weaken (fun _ _ _ _ => trivial), hSt.call hS hU hW hFc⟩⟩ rfl rfl hl.1 rfl (lv_room (Nat.le_of_ble_eq_true rfl)) dX2_readSum_61 ⟨(show (w_xSz_8.toInt - xSz.toInt).toNat + ((200 - w_xSz_8.toInt).toNat) ≤ (200 - xSz.toInt).toNat by omega), (show (4 * (w_xSz_8.toInt - xSz.toInt).toNat) + (4 * (200 - w_xSz_8.toInt).toNat) ≤ (4 * (200 - xSz.toInt).toNat) by omega)⟩) hS (fun q _ h => hFc q h) hFc (fun r_129 u_130 t H1 locs ht hvm hw_131 hB hz1 hk1 hS => ?_)
                obtain ⟨w_132, w_133, w_134, w_135, w_136, w_137, w_138, w_139, w_140⟩ := u_130
                try dsimp only at hw_131 hB
                obtain ⟨iv_141, iv_142, iv_143, po_144, tk_145, st_146⟩ := hw_131
                obtain ⟨hP1, hD1, hX1⟩ := hB
                rw [ht] at hP1 hX1
                obtain ⟨hP, hD⟩ := va_joinQ (wr := []) (w1 := [((ax 13), .inr (2, [.ref (ax 11), .ref (ax 14), .int w_132, .int w_133, .int w_134, .int xRt, .int w_135, .int w_136, .int w_137])), ((ax 11), .inr (5, [.ref (ax 12), .int xTz])), ((ax 12), .inl (cA 0, 200, .inl gB)), ((ax 14), .inl (cA 4, 200, .inr (.inr (.inr (.inr w_138)))))] ++ va_pl w_139 w_140) hP hD [1, 2, 3, 0] [] rfl rfl (by decide) (by decide) hk1 hFc hP1 hD1
                obtain ⟨fm_147, hma_fm_147, hmb_fm_147, hP, hD⟩ := pl_merge hP hD
                have sq_fm_147 := stq_tr hv7_8 st_146 hma_fm_147 hmb_fm_147
                have hle_fm_147 := sq_fm_147.1
                have hlf_fm_147 := st_146.1
                refine W.tight (cells' := (w_132.toInt - xSz.toInt).toNat) (slots' := 4 * (w_132.toInt - xSz.toInt).toNat) (by omega) (by have hch := ssum_chain hS0 hz1 (fun q h1 h2 => hk1 q h2 (na_of (fun k e hk => by rcases mem4 hk with h | h | h | h <;> omega) h1 h2)); omega) ?_
                clear hz1
                generalize H1 = H at hP hS ⊢
                replace hP : va_P (dC, dI) vwCl ([((ax 13), .inr (2, [.ref (ax 11), .ref (ax 14), .int w_132, .int w_133, .int w_134, .int xRt, .int w_135, .int w_136, .int w_137])), ((ax 11), .inr (5, [.ref (ax 12), .int xTz])), ((ax 12), .inl (cA 0, 200, .inl gB)), ((ax 14), .inl (cA 4, 200, .inr (.inr (.inr (.inr w_138)))))] ++ va_pl (w_L_8 ++ w_139) fm_147) H := hP
                replace hD : va_D A ([((ax 13), .inr (2, [.ref (ax 11), .ref (ax 14), .int w_132, .int w_133, .int w_134, .int xRt, .int w_135, .int w_136, .int w_137])), ((ax 11), .inr (5, [.ref (ax 12), .int xTz])), ((ax 12), .inl (cA 0, 200, .inl gB)), ((ax 14), .inl (cA 4, 200, .inr (.inr (.inr (.inr w_138)))))] ++ va_pl (w_L_8 ++ w_139) fm_147) := hD
                refine lv_istore_n (lv' := [(2, .int r_129), (4, .int 10), (3, .int i3), (0, .ref (ax 13)), (1, .int dp)]) hx hb dX2_readSum_64 rfl hl (by decide) rfl (fun ls hl => ?_)
                refine lv_aload_n hx hb dX2_readSum_65 rfl (lv_at hl 3 rfl) ?_
                refine lv_iload hx hb dX2_readSum_66 (lv_at hl 1 rfl) ?_
                refine lv_iconst (v := (-1)) hx hb dX2_readSum_68 (by decide) ?_
                refine lv_iconst (v := (-1)) hx hb dX2_readSum_69 (by decide) ?_
                refine lv_iconst (v := (-1)) hx hb dX2_readSum_70 (by decide) ?_
                have hk_148 : (10 : Int32).toInt = 10 := by decide
                have hk_149 : ((-1) : Int32).toInt = (-1) := by decide
                have hPc := hP.sub (ws' := [((ax 13), .inr (2, [.ref (ax 11), .ref (ax 14), .int w_132, .int w_133, .int w_134, .int xRt, .int w_135, .int w_136, .int w_137])), ((ax 11), .inr (5, [.ref (ax 12), .int xTz])), ((ax 12), .inl (cA 0, 200, .inl gB)), ((ax 14), .inl (cA 4, 200, .inr (.inr (.inr (.inr w_138)))))]) [0, 1, 2, 3] rfl
                have hDc := hD.sub (ws' := [((ax 13), .inr (2, [.ref (ax 11), .ref (ax 14), .int w_132, .int w_133, .int w_134, .int xRt, .int w_135, .int w_136, .int w_137])), ((ax 11), .inr (5, [.ref (ax 12), .int xTz])), ((ax 12), .inl (cA 0, 200, .inl gB)), ((ax 14), .inl (cA 4, 200, .inr (.inr (.inr (.inr w_138)))))]) [0, 1, 2, 3] (by decide) rfl
                have hFc := va_free (wc := [((ax 13), .inr (2, [.ref (ax 11), .ref (ax 14), .int w_132, .int w_133, .int w_134, .int xRt, .int w_135, .int w_136, .int w_137])), ((ax 11), .inr (5, [.ref (ax 12), .int xTz])), ((ax 12), .inl (cA 0, 200, .inl gB)), ((ax 14), .inl (cA 4, 200, .inr (.inr (.inr (.inr w_138)))))]) hD hS hA [0, 1, 2, 3] rfl
                refine W.know (fun hkn1 hkn2 => ?_)
                have hS0 := hS.1
                refine va_callv (va_runV (As := [.int 10, .int (-1), .int (-1), .int (-1)]) (rest := []) ⟨hx, hb, hml, hown, hts⟩ (k_X2_emit l dC dI cA H.size ax w_132 w_133 w_134 xRt w_135 w_136 w_137 xTz gB w_138 10 (-1) (-1) (-1) (by omega) (by omega) (by omega) (by omega) (by omega) i_gB (by omega)) (cwV 4 hts gX2_readSum_X2_emit rfl rfl rfl (by decide +kernel) ⟨(show 2 + 1 ≤ FR + 10 by omega), (show 8 + (5 + 11) + 44 ≤ LO + 220 by omega)⟩) ⟨fun a U g mk q => by obtain ⟨q0, q1, qP, qK, qD, qN⟩ := q; exact ⟨q0, q1, qP, va_K.moved (u := U) (U := U.calling g mk a) (Vm.Alike.refl U.vm) qK, qD, qN.same rfl⟩, va_recv hK hPc (ci := 2) (q0 := 0) rfl rfl, fun U hU hW => ⟨rfl, by rw [hU], by rw [hU]; exact hPc, va_K.moved hW.alike hK, hDc.weaken (fun _ _ _ _ => trivial), hN.warm hW⟩⟩ rfl rfl hl.1 rfl (lv_room (Nat.le_of_ble_eq_true rfl)) dX2_readSum_71 ⟨(show (w_132.toInt - xSz.toInt).toNat + ((200 - w_132.toInt).toNat) ≤ (200 - xSz.toInt).toNat by omega), (show (4 * (w_132.toInt - xSz.toInt).toNat) + (4 * (200 - w_132.toInt).toNat) ≤ (4 * (200 - xSz.toInt).toNat) by omega)⟩) hS (fun q _ h => hFc q h) hFc (fun u_150 t H1 locs ht hvm hw_151 hB hz1 hk1 hS => ?_)
                obtain ⟨w_152, w_153, w_154, w_155⟩ := u_150
                try dsimp only at hw_151 hB
                obtain ⟨iv_156, st_157⟩ := hw_151
                try simp only [hk_148, hk_149] at st_157
                obtain ⟨hP1, hD1, hX1⟩ := hB
                rw [ht] at hP1 hX1
                obtain ⟨hP, hD⟩ := va_joinQ (wr := []) (w1 := [((ax 13), .inr (2, [.ref (ax 11), .ref (ax 14), .int w_152, .int w_133, .int w_134, .int xRt, .int w_135, .int w_136, .int w_137])), ((ax 11), .inr (5, [.ref (ax 12), .int xTz])), ((ax 12), .inl (cA 0, 200, .inl gB)), ((ax 14), .inl (cA 4, 200, .inr (.inr (.inr (.inr w_153)))))] ++ va_pl w_154 w_155) hP hD [0, 1, 2, 3] [] rfl rfl (by decide) (by decide) hk1 hFc hP1 hD1
                obtain ⟨fm_158, hma_fm_158, hmb_fm_158, hP, hD⟩ := pl_merge hP hD
                have sq_fm_158 := stq_tr sq_fm_147 st_157 hma_fm_158 hmb_fm_158
                have hle_fm_158 := sq_fm_158.1
                have hlf_fm_158 := st_157.1
                refine W.tight (cells' := (w_152.toInt - xSz.toInt).toNat) (slots' := 4 * (w_152.toInt - xSz.toInt).toNat) (by omega) (by have hch := ssum_chain hS0 hz1 (fun q h1 h2 => hk1 q h2 (na_of (fun k e hk => by rcases mem4 hk with h | h | h | h <;> omega) h1 h2)); omega) ?_
                clear hz1
                generalize H1 = H at hP hS ⊢
                replace hP : va_P (dC, dI) vwCl ([((ax 13), .inr (2, [.ref (ax 11), .ref (ax 14), .int w_152, .int w_133, .int w_134, .int xRt, .int w_135, .int w_136, .int w_137])), ((ax 11), .inr (5, [.ref (ax 12), .int xTz])), ((ax 12), .inl (cA 0, 200, .inl gB)), ((ax 14), .inl (cA 4, 200, .inr (.inr (.inr (.inr w_153)))))] ++ va_pl ((w_L_8 ++ w_139) ++ w_154) fm_158) H := hP
                replace hD : va_D A ([((ax 13), .inr (2, [.ref (ax 11), .ref (ax 14), .int w_152, .int w_133, .int w_134, .int xRt, .int w_135, .int w_136, .int w_137])), ((ax 11), .inr (5, [.ref (ax 12), .int xTz])), ((ax 12), .inl (cA 0, 200, .inl gB)), ((ax 14), .inl (cA 4, 200, .inr (.inr (.inr (.inr w_153)))))] ++ va_pl ((w_L_8 ++ w_139) ++ w_154) fm_158) := hD
                obtain ⟨x_159, ex_159⟩ : ∃ y : Int32, y = i3 + 1 := ⟨_, rfl⟩
                have dx_159 : x_159.toInt = i3.toInt + 1 := by rw [ex_159]; exact jI_add rfl (by decide) (by omega) (by omega)
                refine lv_iinc (v := x_159) (lv' := [(3, .int x_159), (2, .int r_129), (4, .int 10), (0, .ref (ax 13)), (1, .int dp)]) hx hb dX2_readSum_74 hl (k := 2) rfl (by rw [ex_159]; rfl) (by decide) rfl (fun ls hl => ?_)
                refine lv_goto (tgt := 8) hx hb dX2_readSum_77 (by decide) ?_
                exact ih_8 x_159 r_129 w_152 w_133 w_134 w_135 w_136 w_137 w_153 ((w_L_8 ++ w_139) ++ w_154) fm_158 _ _ ls (by omega) (by omega) (by omega) (by omega) (by omega) (by omega) (by omega) (tk_145) (sq_fm_158) (hP.part (cx := [((ax 13), .inr (2, [.ref (ax 11), .ref (ax 14), .int w_152, .int w_133, .int w_134, .int xRt, .int w_135, .int w_136, .int w_137])), ((ax 11), .inr (5, [.ref (ax 12), .int xTz])), ((ax 12), .inl (cA 0, 200, .inl gB)), ((ax 14), .inl (cA 4, 200, .inr (.inr (.inr (.inr w_153)))))]) [0, 1, 2, 3] rfl) (hD.part (cx := [((ax 13), .inr (2, [.ref (ax 11), .ref (ax 14), .int w_152, .int w_133, .int w_134, .int xRt, .int w_135, .int w_136, .int w_137])), ((ax 11), .inr (5, [.ref (ax 12), .int xTz])), ((ax 12), .inl (cA 0, 200, .inl gB)), ((ax 14), .inl (cA 4, 200, .inr (.inr (.inr (.inr w_153)))))]) [0, 1, 2, 3] (by decide) rfl) hS (lv_sub hl [0, 1, 3, 4] rfl)
              · have dc_120 : ¬ r_116.toInt = 0 := jI_ne c_120 rfl (by decide)
                refine lv_bipush (v := 9) hx hb dX2_readSum_46 (by decide) ?_
                refine lv_goto (tgt := 53) hx hb dX2_readSum_48 (by decide) ?_
                refine lv_istore (lv' := [(4, .int 9), (3, .int i3), (2, .int so2), (0, .ref (ax 13)), (1, .int dp)]) hx hb dX2_readSum_53 hl (by decide) rfl (fun ls hl => ?_)
                refine lv_aload_n hx hb dX2_readSum_55 rfl (lv_at hl 3 rfl) ?_
                have hPc := hP.sub (ws' := [((ax 13), .inr (2, [.ref (ax 11), .ref (ax 14), .int w_xSz_8, .int w_xPl_8, .int w_xBe_8, .int xRt, .int w_xRf_8, .int w_xRd_8, .int w_xLk_8])), ((ax 11), .inr (5, [.ref (ax 12), .int xTz])), ((ax 12), .inl (cA 0, 200, .inl gB))]) [1, 2, 3] rfl
                have hDc := hD.sub (ws' := [((ax 13), .inr (2, [.ref (ax 11), .ref (ax 14), .int w_xSz_8, .int w_xPl_8, .int w_xBe_8, .int xRt, .int w_xRf_8, .int w_xRd_8, .int w_xLk_8])), ((ax 11), .inr (5, [.ref (ax 12), .int xTz])), ((ax 12), .inl (cA 0, 200, .inl gB))]) [1, 2, 3] (by decide) rfl
                have hFc := va_free (wc := [((ax 13), .inr (2, [.ref (ax 11), .ref (ax 14), .int w_xSz_8, .int w_xPl_8, .int w_xBe_8, .int xRt, .int w_xRf_8, .int w_xRd_8, .int w_xLk_8])), ((ax 11), .inr (5, [.ref (ax 12), .int xTz])), ((ax 12), .inl (cA 0, 200, .inl gB))]) hD hS hA [1, 2, 3] rfl
                refine va_callv (va_runV (As := []) (rest := []) ⟨hx, hb, hml, hown, hts⟩ (k_X2_advance l dC dI cA H.size ax w_xSz_8 w_xPl_8 w_xBe_8 xRt w_xRf_8 w_xRd_8 w_xLk_8 xTz gB (by omega) (by omega) (by omega) (by omega) (by omega) i_gB (by omega)) (cwV 0 hts gX2_readSum_X2_advance rfl rfl rfl (by decide +kernel) ⟨(show 1 + 1 ≤ FR + 10 by omega), (show 8 + (3 + 11) + 23 ≤ LO + 220 by omega)⟩) ⟨fun a U g mk q => by obtain ⟨q0, q1, qP, qK, qD, qN⟩ := q; exact ⟨q0, q1, qP, va_K.moved (u := U) (U := U.calling g mk a) (Vm.Alike.refl U.vm) qK, qD, qN.same rfl⟩, va_recv hK hPc (ci := 2) (q0 := 0) rfl rfl, fun U hU hW => ⟨rfl, by rw [hU], by rw [hU]; exact hPc, va_K.moved hW.alike hK, hDc.weaken (fun _ _ _ _ => trivial), hN.warm hW⟩⟩ rfl rfl hl.1 rfl (lv_room (Nat.le_of_ble_eq_true rfl)) dX2_readSum_56 ⟨(show (w_xSz_8.toInt - xSz.toInt).toNat + 0 ≤ (200 - xSz.toInt).toNat by omega), (show (4 * (w_xSz_8.toInt - xSz.toInt).toNat) + 0 ≤ (4 * (200 - xSz.toInt).toNat) by omega)⟩) hS (fun q _ h => hFc q h) hFc (fun u_160 t H1 locs ht hvm hw_161 hB hz1 hk1 hS => ?_)
                obtain ⟨w_162, w_163⟩ := u_160
                try dsimp only at hw_161 hB
                obtain ⟨iv_164, iv_165, po_166, tk_167⟩ := hw_161
                obtain ⟨hP1, hD1⟩ := hB
                rw [ht] at hP1
                obtain ⟨hP, hD⟩ := va_joinQ (wr := [((ax 14), .inl (cA 4, 200, .inr (.inr (.inr (.inr w_gSt_8)))))]) (w1 := [((ax 13), .inr (2, [.ref (ax 11), .ref (ax 14), .int w_xSz_8, .int w_162, .int w_163, .int xRt, .int w_xRf_8, .int w_xRd_8, .int w_xLk_8])), ((ax 11), .inr (5, [.ref (ax 12), .int xTz])), ((ax 12), .inl (cA 0, 200, .inl gB))]) hP hD [1, 2, 3] [0] rfl rfl (by decide) (by decide) hk1 hFc hP1 hD1
                clear hz1
                generalize H1 = H at hP hS ⊢
                replace hP : va_P (dC, dI) vwCl ([((ax 14), .inl (cA 4, 200, .inr (.inr (.inr (.inr w_gSt_8))))), ((ax 13), .inr (2, [.ref (ax 11), .ref (ax 14), .int w_xSz_8, .int w_162, .int w_163, .int xRt, .int w_xRf_8, .int w_xRd_8, .int w_xLk_8])), ((ax 11), .inr (5, [.ref (ax 12), .int xTz])), ((ax 12), .inl (cA 0, 200, .inl gB))] ++ va_pl w_L_8 w_pf_8) H := hP
                replace hD : va_D A ([((ax 14), .inl (cA 4, 200, .inr (.inr (.inr (.inr w_gSt_8))))), ((ax 13), .inr (2, [.ref (ax 11), .ref (ax 14), .int w_xSz_8, .int w_162, .int w_163, .int xRt, .int w_xRf_8, .int w_xRd_8, .int w_xLk_8])), ((ax 11), .inr (5, [.ref (ax 12), .int xTz])), ((ax 12), .inl (cA 0, 200, .inl gB))] ++ va_pl w_L_8 w_pf_8) := hD
                refine lv_aload_n hx hb dX2_readSum_59 rfl (lv_at hl 3 rfl) ?_
                refine lv_iload_n hx hb dX2_readSum_60 rfl (lv_at hl 4 rfl) ?_
                have hPc := hP.sub (ws' := [((ax 13), .inr (2, [.ref (ax 11), .ref (ax 14), .int w_xSz_8, .int w_162, .int w_163, .int xRt, .int w_xRf_8, .int w_xRd_8, .int w_xLk_8])), ((ax 11), .inr (5, [.ref (ax 12), .int xTz])), ((ax 12), .inl (cA 0, 200, .inl gB)), ((ax 14), .inl (cA 4, 200, .inr (.inr (.inr (.inr w_gSt_8)))))]) [1, 2, 3, 0] rfl
                have hDc := hD.sub (ws' := [((ax 13), .inr (2, [.ref (ax 11), .ref (ax 14), .int w_xSz_8, .int w_162, .int w_163, .int xRt, .int w_xRf_8, .int w_xRd_8, .int w_xLk_8])), ((ax 11), .inr (5, [.ref (ax 12), .int xTz])), ((ax 12), .inl (cA 0, 200, .inl gB)), ((ax 14), .inl (cA 4, 200, .inr (.inr (.inr (.inr w_gSt_8)))))]) [1, 2, 3, 0] (by decide) rfl
                have hFc := va_free (wc := [((ax 13), .inr (2, [.ref (ax 11), .ref (ax 14), .int w_xSz_8, .int w_162, .int w_163, .int xRt, .int w_xRf_8, .int w_xRd_8, .int w_xLk_8])), ((ax 11), .inr (5, [.ref (ax 12), .int xTz])), ((ax 12), .inl (cA 0, 200, .inl gB)), ((ax 14), .inl (cA 4, 200, .inr (.inr (.inr (.inr w_gSt_8)))))]) hD hS hA [1, 2, 3, 0] rfl
                refine W.know (fun hkn1 hkn2 => ?_)
                have hS0 := hS.1
                refine va_calli (va_runV (As := [.int dp]) (rest := []) ⟨hx, hb, hml, hown, hts⟩ (k_X2_readTerm l dC dI cA H.size ax w_xSz_8 w_162 w_163 xRt w_xRf_8 w_xRd_8 w_xLk_8 xTz gB w_gSt_8 dp adK adV rl FR LO (by omega) (by omega) (by omega) (by omega) (by omega) i_gB (by omega) tk_167 hdp hop ih) (cwV 1 hts gX2_readSum_X2_readTerm rfl rfl rfl (by decide +kernel) ⟨(show (FR + 9) + 1 ≤ FR + 10 by omega), (show 8 + (5 + 11) + (LO + 196) ≤ LO + 220 by omega)⟩) ⟨fun a U g mk q => by obtain ⟨q0, q1, qP, qK, qD, qN⟩ := q; exact ⟨q0, q1, qP, va_K.moved (u := U) (U := U.calling g mk a) (Vm.Alike.refl U.vm) qK, qD, qN.same rfl rfl⟩, va_recv hK hPc (ci := 2) (q0 := 0) rfl rfl, fun U hU hW => ⟨rfl, by rw [hU], by rw [hU]; exact hPc, va_K.moved hW.alike hK, hDc.weaken (fun _ _ _ _ => trivial), hSt.call hS hU hW hFc⟩⟩ rfl rfl hl.1 rfl (lv_room (Nat.le_of_ble_eq_true rfl)) dX2_readSum_61 ⟨(show (w_xSz_8.toInt - xSz.toInt).toNat + ((200 - w_xSz_8.toInt).toNat) ≤ (200 - xSz.toInt).toNat by omega), (show (4 * (w_xSz_8.toInt - xSz.toInt).toNat) + (4 * (200 - w_xSz_8.toInt).toNat) ≤ (4 * (200 - xSz.toInt).toNat) by omega)⟩) hS (fun q _ h => hFc q h) hFc (fun r_168 u_169 t H1 locs ht hvm hw_170 hB hz1 hk1 hS => ?_)
                obtain ⟨w_171, w_172, w_173, w_174, w_175, w_176, w_177, w_178, w_179⟩ := u_169
                try dsimp only at hw_170 hB
                obtain ⟨iv_180, iv_181, iv_182, po_183, tk_184, st_185⟩ := hw_170
                obtain ⟨hP1, hD1, hX1⟩ := hB
                rw [ht] at hP1 hX1
                obtain ⟨hP, hD⟩ := va_joinQ (wr := []) (w1 := [((ax 13), .inr (2, [.ref (ax 11), .ref (ax 14), .int w_171, .int w_172, .int w_173, .int xRt, .int w_174, .int w_175, .int w_176])), ((ax 11), .inr (5, [.ref (ax 12), .int xTz])), ((ax 12), .inl (cA 0, 200, .inl gB)), ((ax 14), .inl (cA 4, 200, .inr (.inr (.inr (.inr w_177)))))] ++ va_pl w_178 w_179) hP hD [1, 2, 3, 0] [] rfl rfl (by decide) (by decide) hk1 hFc hP1 hD1
                obtain ⟨fm_186, hma_fm_186, hmb_fm_186, hP, hD⟩ := pl_merge hP hD
                have sq_fm_186 := stq_tr hv7_8 st_185 hma_fm_186 hmb_fm_186
                have hle_fm_186 := sq_fm_186.1
                have hlf_fm_186 := st_185.1
                refine W.tight (cells' := (w_171.toInt - xSz.toInt).toNat) (slots' := 4 * (w_171.toInt - xSz.toInt).toNat) (by omega) (by have hch := ssum_chain hS0 hz1 (fun q h1 h2 => hk1 q h2 (na_of (fun k e hk => by rcases mem4 hk with h | h | h | h <;> omega) h1 h2)); omega) ?_
                clear hz1
                generalize H1 = H at hP hS ⊢
                replace hP : va_P (dC, dI) vwCl ([((ax 13), .inr (2, [.ref (ax 11), .ref (ax 14), .int w_171, .int w_172, .int w_173, .int xRt, .int w_174, .int w_175, .int w_176])), ((ax 11), .inr (5, [.ref (ax 12), .int xTz])), ((ax 12), .inl (cA 0, 200, .inl gB)), ((ax 14), .inl (cA 4, 200, .inr (.inr (.inr (.inr w_177)))))] ++ va_pl (w_L_8 ++ w_178) fm_186) H := hP
                replace hD : va_D A ([((ax 13), .inr (2, [.ref (ax 11), .ref (ax 14), .int w_171, .int w_172, .int w_173, .int xRt, .int w_174, .int w_175, .int w_176])), ((ax 11), .inr (5, [.ref (ax 12), .int xTz])), ((ax 12), .inl (cA 0, 200, .inl gB)), ((ax 14), .inl (cA 4, 200, .inr (.inr (.inr (.inr w_177)))))] ++ va_pl (w_L_8 ++ w_178) fm_186) := hD
                refine lv_istore_n (lv' := [(2, .int r_168), (4, .int 9), (3, .int i3), (0, .ref (ax 13)), (1, .int dp)]) hx hb dX2_readSum_64 rfl hl (by decide) rfl (fun ls hl => ?_)
                refine lv_aload_n hx hb dX2_readSum_65 rfl (lv_at hl 3 rfl) ?_
                refine lv_iload hx hb dX2_readSum_66 (lv_at hl 1 rfl) ?_
                refine lv_iconst (v := (-1)) hx hb dX2_readSum_68 (by decide) ?_
                refine lv_iconst (v := (-1)) hx hb dX2_readSum_69 (by decide) ?_
                refine lv_iconst (v := (-1)) hx hb dX2_readSum_70 (by decide) ?_
                have hk_187 : (9 : Int32).toInt = 9 := by decide
                have hk_188 : ((-1) : Int32).toInt = (-1) := by decide
                have hPc := hP.sub (ws' := [((ax 13), .inr (2, [.ref (ax 11), .ref (ax 14), .int w_171, .int w_172, .int w_173, .int xRt, .int w_174, .int w_175, .int w_176])), ((ax 11), .inr (5, [.ref (ax 12), .int xTz])), ((ax 12), .inl (cA 0, 200, .inl gB)), ((ax 14), .inl (cA 4, 200, .inr (.inr (.inr (.inr w_177)))))]) [0, 1, 2, 3] rfl
                have hDc := hD.sub (ws' := [((ax 13), .inr (2, [.ref (ax 11), .ref (ax 14), .int w_171, .int w_172, .int w_173, .int xRt, .int w_174, .int w_175, .int w_176])), ((ax 11), .inr (5, [.ref (ax 12), .int xTz])), ((ax 12), .inl (cA 0, 200, .inl gB)), ((ax 14), .inl (cA 4, 200, .inr (.inr (.inr (.inr w_177)))))]) [0, 1, 2, 3] (by decide) rfl
                have hFc := va_free (wc := [((ax 13), .inr (2, [.ref (ax 11), .ref (ax 14), .int w_171, .int w_172, .int w_173, .int xRt, .int w_174, .int w_175, .int w_176])), ((ax 11), .inr (5, [.ref (ax 12), .int xTz])), ((ax 12), .inl (cA 0, 200, .inl gB)), ((ax 14), .inl (cA 4, 200, .inr (.inr (.inr (.inr w_177)))))]) hD hS hA [0, 1, 2, 3] rfl
                refine W.know (fun hkn1 hkn2 => ?_)
                have hS0 := hS.1
                refine va_callv (va_runV (As := [.int 9, .int (-1), .int (-1), .int (-1)]) (rest := []) ⟨hx, hb, hml, hown, hts⟩ (k_X2_emit l dC dI cA H.size ax w_171 w_172 w_173 xRt w_174 w_175 w_176 xTz gB w_177 9 (-1) (-1) (-1) (by omega) (by omega) (by omega) (by omega) (by omega) i_gB (by omega)) (cwV 4 hts gX2_readSum_X2_emit rfl rfl rfl (by decide +kernel) ⟨(show 2 + 1 ≤ FR + 10 by omega), (show 8 + (5 + 11) + 44 ≤ LO + 220 by omega)⟩) ⟨fun a U g mk q => by obtain ⟨q0, q1, qP, qK, qD, qN⟩ := q; exact ⟨q0, q1, qP, va_K.moved (u := U) (U := U.calling g mk a) (Vm.Alike.refl U.vm) qK, qD, qN.same rfl⟩, va_recv hK hPc (ci := 2) (q0 := 0) rfl rfl, fun U hU hW => ⟨rfl, by rw [hU], by rw [hU]; exact hPc, va_K.moved hW.alike hK, hDc.weaken (fun _ _ _ _ => trivial), hN.warm hW⟩⟩ rfl rfl hl.1 rfl (lv_room (Nat.le_of_ble_eq_true rfl)) dX2_readSum_71 ⟨(show (w_171.toInt - xSz.toInt).toNat + ((200 - w_171.toInt).toNat) ≤ (200 - xSz.toInt).toNat by omega), (show (4 * (w_171.toInt - xSz.toInt).toNat) + (4 * (200 - w_171.toInt).toNat) ≤ (4 * (200 - xSz.toInt).toNat) by omega)⟩) hS (fun q _ h => hFc q h) hFc (fun u_189 t H1 locs ht hvm hw_190 hB hz1 hk1 hS => ?_)
                obtain ⟨w_191, w_192, w_193, w_194⟩ := u_189
                try dsimp only at hw_190 hB
                obtain ⟨iv_195, st_196⟩ := hw_190
                try simp only [hk_187, hk_188] at st_196
                obtain ⟨hP1, hD1, hX1⟩ := hB
                rw [ht] at hP1 hX1
                obtain ⟨hP, hD⟩ := va_joinQ (wr := []) (w1 := [((ax 13), .inr (2, [.ref (ax 11), .ref (ax 14), .int w_191, .int w_172, .int w_173, .int xRt, .int w_174, .int w_175, .int w_176])), ((ax 11), .inr (5, [.ref (ax 12), .int xTz])), ((ax 12), .inl (cA 0, 200, .inl gB)), ((ax 14), .inl (cA 4, 200, .inr (.inr (.inr (.inr w_192)))))] ++ va_pl w_193 w_194) hP hD [0, 1, 2, 3] [] rfl rfl (by decide) (by decide) hk1 hFc hP1 hD1
                obtain ⟨fm_197, hma_fm_197, hmb_fm_197, hP, hD⟩ := pl_merge hP hD
                have sq_fm_197 := stq_tr sq_fm_186 st_196 hma_fm_197 hmb_fm_197
                have hle_fm_197 := sq_fm_197.1
                have hlf_fm_197 := st_196.1
                refine W.tight (cells' := (w_191.toInt - xSz.toInt).toNat) (slots' := 4 * (w_191.toInt - xSz.toInt).toNat) (by omega) (by have hch := ssum_chain hS0 hz1 (fun q h1 h2 => hk1 q h2 (na_of (fun k e hk => by rcases mem4 hk with h | h | h | h <;> omega) h1 h2)); omega) ?_
                clear hz1
                generalize H1 = H at hP hS ⊢
                replace hP : va_P (dC, dI) vwCl ([((ax 13), .inr (2, [.ref (ax 11), .ref (ax 14), .int w_191, .int w_172, .int w_173, .int xRt, .int w_174, .int w_175, .int w_176])), ((ax 11), .inr (5, [.ref (ax 12), .int xTz])), ((ax 12), .inl (cA 0, 200, .inl gB)), ((ax 14), .inl (cA 4, 200, .inr (.inr (.inr (.inr w_192)))))] ++ va_pl ((w_L_8 ++ w_178) ++ w_193) fm_197) H := hP
                replace hD : va_D A ([((ax 13), .inr (2, [.ref (ax 11), .ref (ax 14), .int w_191, .int w_172, .int w_173, .int xRt, .int w_174, .int w_175, .int w_176])), ((ax 11), .inr (5, [.ref (ax 12), .int xTz])), ((ax 12), .inl (cA 0, 200, .inl gB)), ((ax 14), .inl (cA 4, 200, .inr (.inr (.inr (.inr w_192)))))] ++ va_pl ((w_L_8 ++ w_178) ++ w_193) fm_197) := hD
                obtain ⟨x_198, ex_198⟩ : ∃ y : Int32, y = i3 + 1 := ⟨_, rfl⟩
                have dx_198 : x_198.toInt = i3.toInt + 1 := by rw [ex_198]; exact jI_add rfl (by decide) (by omega) (by omega)
                refine lv_iinc (v := x_198) (lv' := [(3, .int x_198), (2, .int r_168), (4, .int 9), (0, .ref (ax 13)), (1, .int dp)]) hx hb dX2_readSum_74 hl (k := 2) rfl (by rw [ex_198]; rfl) (by decide) rfl (fun ls hl => ?_)
                refine lv_goto (tgt := 8) hx hb dX2_readSum_77 (by decide) ?_
                exact ih_8 x_198 r_168 w_191 w_172 w_173 w_174 w_175 w_176 w_192 ((w_L_8 ++ w_178) ++ w_193) fm_197 _ _ ls (by omega) (by omega) (by omega) (by omega) (by omega) (by omega) (by omega) (tk_184) (sq_fm_197) (hP.part (cx := [((ax 13), .inr (2, [.ref (ax 11), .ref (ax 14), .int w_191, .int w_172, .int w_173, .int xRt, .int w_174, .int w_175, .int w_176])), ((ax 11), .inr (5, [.ref (ax 12), .int xTz])), ((ax 12), .inl (cA 0, 200, .inl gB)), ((ax 14), .inl (cA 4, 200, .inr (.inr (.inr (.inr w_192)))))]) [0, 1, 2, 3] rfl) (hD.part (cx := [((ax 13), .inr (2, [.ref (ax 11), .ref (ax 14), .int w_191, .int w_172, .int w_173, .int xRt, .int w_174, .int w_175, .int w_176])), ((ax 11), .inr (5, [.ref (ax 12), .int xTz])), ((ax 12), .inl (cA 0, 200, .inl gB)), ((ax 14), .inl (cA 4, 200, .inr (.inr (.inr (.inr w_192)))))]) [0, 1, 2, 3] (by decide) rfl) hS (lv_sub hl [0, 1, 3, 4] rfl)
  have hk_199 : (0 : Int32).toInt = 0 := by decide
  exact loop8_20 (Int.toNat (200 - (0 : Int32).toInt) + 1) 0 r_1 w_4 w_5 w_6 w_7 w_8 w_9 w_10 ([] ++ w_11) fm_19 _ _ ls (by omega) (by omega) (by omega) (by omega) (by omega) (by omega) (by omega) (tk_17) (sq_fm_19) hP hD hS (lv_sub hl [0, 1, 2, 3] rfl)

theorem xsum_all (l : Launch) (dC : Nat → ClassId) (dI : Nat → Nat → Nat) (cA : Nat → ClassId) : ∀ r : Nat, XSumC l dC dI cA r (10 * r + 10) (220 * r + 220) := by
  intro r
  induction r with
  | zero =>
    intro sz ax xSz xPl xBe xRt xRf xRd xLk xTz gB gSt adK adV dp i_xSz i_xPl i_xBe i_xRt i_xTz i_gB hbe htk hdp hop
    have := k_X2_readSum l dC dI cA sz ax xSz xPl xBe xRt xRf xRd xLk xTz gB gSt dp adK adV 0 0 0 i_xSz i_xPl i_xBe i_xRt i_xTz i_gB hbe htk hdp hop (fun h => absurd h (Nat.lt_irrefl 0))
    simpa only [Nat.mul_zero, Nat.zero_add] using this
  | succ r ih0 =>
    intro sz ax xSz xPl xBe xRt xRf xRd xLk xTz gB gSt adK adV dp i_xSz i_xPl i_xBe i_xRt i_xTz i_gB hbe htk hdp hop
    have := k_X2_readSum l dC dI cA sz ax xSz xPl xBe xRt xRf xRd xLk xTz gB gSt dp adK adV (r + 1) (10 * r + 10) (220 * r + 220) i_xSz i_xPl i_xBe i_xRt i_xTz i_gB hbe htk hdp hop (fun _ => ih0)
    simpa only [Nat.mul_succ, Nat.add_assoc, Nat.add_comm, Nat.add_left_comm] using this
