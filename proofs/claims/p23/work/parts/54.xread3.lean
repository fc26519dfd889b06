theorem dX2_readTerm_0 : decode cX2_readTerm 0 = .ok (.aload_n 0, 1) := by decide +kernel
theorem dX2_readTerm_1 : decode cX2_readTerm 1 = .ok (.iload_n 1, 1) := by decide +kernel
set_option maxRecDepth 20000 in
theorem ggX2_readTerm_X2_readPart : GoodIn wsX2_readTerm wsX2_readPart := goodIn_r _ [133, 96, 134, 135, 136, 4, 5, 6, 7, 8, 9, 10, 11, 12, 13, 14, 15, 16, 17, 18, 19, 20, 21, 22, 23, 24, 25, 26, 27, 28, 29, 30, 31, 32, 33, 34, 35, 36, 37, 38, 39, 40, 41, 42, 43, 44, 45, 46, 47, 48, 49, 50, 51, 52, 53, 54, 55, 56, 57, 58, 59, 60, 61, 62, 63, 64, 65, 66, 67, 68, 69, 70, 71, 72, 73, 74, 75, 76, 98, 99, 100, 101, 102, 103, 104, 105, 106, 107, 108, 109, 110, 111, 112, 77, 78, 79, 80, 81, 82, 83, 84, 85, 86, 87, 88, 89, 90, 91, 92, 93, 94, 95, 97, 113, 114, 115, 116, 117, 118, 119, 120, 121, 122, 123, 124, 125, 126, 127, 128, 129, 130, 131, 132, 137, 138, 139, 140, 0, 1, 2, 3, 141, 142, 143, 144, 145, 146, 147, 148, 149, 150, 151, 152, 153, 154, 155] (by decide +kernel) (by decide +kernel)
set_option maxRecDepth 20000 in
theorem gX2_readTerm_X2_readPart : GoodIn wsX2_readTerm (wsV RX2 73 RX2 yX2_readPart wsX2_readPart) := goodIn_app (goodIn_of _ (by decide +kernel)) ggX2_readTerm_X2_readPart
theorem dX2_readTerm_2 : decode cX2_readTerm 2 = .ok (.invokevirtual 73, 3) := by decide +kernel
theorem dX2_readTerm_5 : decode cX2_readTerm 5 = .ok (.istore_n 2, 1) := by decide +kernel
theorem dX2_readTerm_6 : decode cX2_readTerm 6 = .ok (.iconst 0, 1) := by decide +kernel
theorem dX2_readTerm_7 : decode cX2_readTerm 7 = .ok (.istore_n 3, 1) := by decide +kernel
theorem dX2_readTerm_8 : decode cX2_readTerm 8 = .ok (.iload_n 3, 1) := by decide +kernel
theorem dX2_readTerm_9 : decode cX2_readTerm 9 = .ok (.sipush 200, 3) := by decide +kernel
theorem dX2_readTerm_12 : decode cX2_readTerm 12 = .ok (.if_icmp .ge 68, 3) := by decide +kernel
theorem dX2_readTerm_80 : decode cX2_readTerm 80 = .ok (.iload_n 2, 1) := by decide +kernel
theorem dX2_readTerm_81 : decode cX2_readTerm 81 = .ok (.ireturn, 1) := by decide +kernel
theorem dX2_readTerm_15 : decode cX2_readTerm 15 = .ok (.iload_n 2, 1) := by decide +kernel
theorem dX2_readTerm_16 : decode cX2_readTerm 16 = .ok (.ifCond .eq 64, 3) := by decide +kernel
theorem dX2_readTerm_19 : decode cX2_readTerm 19 = .ok (.aload_n 0, 1) := by decide +kernel
theorem dX2_readTerm_20 : decode cX2_readTerm 20 = .ok (.ldc 76, 2) := by decide +kernel
set_option maxRecDepth 20000 in
theorem ggX2_readTerm_X2_isAt : GoodIn wsX2_readTerm wsX2_isAt := goodIn_r _ [8, 9, 10, 11, 12, 13, 14, 15, 16, 17, 18, 19, 20, 21, 22, 23, 24, 25, 26, 27, 28, 29, 30, 31, 32, 33, 34, 35, 36, 37, 38, 39, 40, 41, 42, 43, 44, 45, 46, 47, 48, 49, 50, 51, 52, 53, 54, 55, 56, 57, 58, 59, 60, 141, 142, 143, 144, 145, 146, 147, 148, 149, 150, 151] (by decide +kernel) (by decide +kernel)
set_option maxRecDepth 20000 in
theorem gX2_readTerm_X2_isAt : GoodIn wsX2_readTerm (wsV RX2 63 RX2 yX2_isAt wsX2_isAt) := goodIn_app (goodIn_of _ (by decide +kernel)) ggX2_readTerm_X2_isAt
theorem dX2_readTerm_22 : decode cX2_readTerm 22 = .ok (.invokevirtual 63, 3) := by decide +kernel
theorem dX2_readTerm_25 : decode cX2_readTerm 25 = .ok (.ifCond .ne 12, 3) := by decide +kernel
theorem dX2_readTerm_37 : decode cX2_readTerm 37 = .ok (.aload_n 0, 1) := by decide +kernel
theorem dX2_readTerm_38 : decode cX2_readTerm 38 = .ok (.ldc 76, 2) := by decide +kernel
theorem dX2_readTerm_40 : decode cX2_readTerm 40 = .ok (.invokevirtual 63, 3) := by decide +kernel
theorem dX2_readTerm_43 : decode cX2_readTerm 43 = .ok (.ifCond .eq 8, 3) := by decide +kernel
theorem dX2_readTerm_51 : decode cX2_readTerm 51 = .ok (.bipush 12, 2) := by decide +kernel
theorem dX2_readTerm_53 : decode cX2_readTerm 53 = .ok (.istore 4, 2) := by decide +kernel
theorem dX2_readTerm_55 : decode cX2_readTerm 55 = .ok (.aload_n 0, 1) := by decide +kernel
set_option maxRecDepth 20000 in
theorem ggX2_readTerm_X2_advance : GoodIn wsX2_readTerm wsX2_advance := goodIn_r _ [64, 9, 10, 11, 65, 66, 67, 68, 69, 70, 71, 4, 72, 73, 74, 75, 76, 141, 142, 143, 144, 145, 146, 147, 148, 149, 150, 151] (by decide +kernel) (by decide +kernel)
set_option maxRecDepth 20000 in
theorem gX2_readTerm_X2_advance : GoodIn wsX2_readTerm (wsV RX2 41 RX2 yX2_advance wsX2_advance) := goodIn_app (goodIn_of _ (by decide +kernel)) ggX2_readTerm_X2_advance
theorem dX2_readTerm_56 : decode cX2_readTerm 56 = .ok (.invokevirtual 41, 3) := by decide +kernel
theorem dX2_readTerm_59 : decode cX2_readTerm 59 = .ok (.aload_n 0, 1) := by decide +kernel
theorem dX2_readTerm_60 : decode cX2_readTerm 60 = .ok (.iload_n 1, 1) := by decide +kernel
theorem dX2_readTerm_61 : decode cX2_readTerm 61 = .ok (.invokevirtual 73, 3) := by decide +kernel
theorem dX2_readTerm_64 : decode cX2_readTerm 64 = .ok (.istore_n 2, 1) := by decide +kernel
theorem dX2_readTerm_65 : decode cX2_readTerm 65 = .ok (.aload_n 0, 1) := by decide +kernel
theorem dX2_readTerm_66 : decode cX2_readTerm 66 = .ok (.iload 4, 2) := by decide +kernel
theorem dX2_readTerm_68 : decode cX2_readTerm 68 = .ok (.iconst (-1), 1) := by decide +kernel
theorem dX2_readTerm_69 : decode cX2_readTerm 69 = .ok (.iconst (-1), 1) := by decide +kernel
theorem dX2_readTerm_70 : decode cX2_readTerm 70 = .ok (.iconst (-1), 1) := by decide +kernel
set_option maxRecDepth 20000 in
theorem ggX2_readTerm_X2_emit : GoodIn wsX2_readTerm wsX2_emit := goodIn_r _ [80, 81, 82, 83, 84, 85, 86, 87, 88, 89, 90, 91, 92, 93, 94, 141, 142, 143, 144, 145, 146, 147, 148, 149, 152, 153, 154, 155] (by decide +kernel) (by decide +kernel)
set_option maxRecDepth 20000 in
theorem gX2_readTerm_X2_emit : GoodIn wsX2_readTerm (wsV RX2 69 RX2 yX2_emit wsX2_emit) := goodIn_app (goodIn_of _ (by decide +kernel)) ggX2_readTerm_X2_emit
theorem dX2_readTerm_71 : decode cX2_readTerm 71 = .ok (.invokevirtual 69, 3) := by decide +kernel
theorem dX2_readTerm_74 : decode cX2_readTerm 74 = .ok (.iinc 3 1, 3) := by decide +kernel
theorem dX2_readTerm_77 : decode cX2_readTerm 77 = .ok (.goto (-69), 3) := by decide +kernel
theorem dX2_readTerm_46 : decode cX2_readTerm 46 = .ok (.bipush 11, 2) := by decide +kernel
theorem dX2_readTerm_48 : decode cX2_readTerm 48 = .ok (.goto 5, 3) := by decide +kernel
theorem dX2_readTerm_28 : decode cX2_readTerm 28 = .ok (.aload_n 0, 1) := by decide +kernel
theorem dX2_readTerm_29 : decode cX2_readTerm 29 = .ok (.ldc 78, 2) := by decide +kernel
theorem dX2_readTerm_31 : decode cX2_readTerm 31 = .ok (.invokevirtual 63, 3) := by decide +kernel
theorem dX2_readTerm_34 : decode cX2_readTerm 34 = .ok (.ifCond .eq 46, 3) := by decide +kernel
theorem dX2_readSum_0 : decode cX2_readSum 0 = .ok (.aload_n 0, 1) := by decide +kernel
theorem dX2_readSum_1 : decode cX2_readSum 1 = .ok (.iload_n 1, 1) := by decide +kernel
set_option maxRecDepth 20000 in
theorem ggX2_readSum_X2_readTerm : GoodIn wsX2_readSum wsX2_readTerm := goodIn_r _ [137, 138, 139, 140, 4, 5, 6, 7, 8, 9, 10, 11, 12, 13, 14, 15, 16, 17, 18, 19, 20, 21, 22, 23, 24, 25, 26, 27, 28, 29, 30, 31, 32, 33, 34, 35, 36, 37, 38, 39, 40, 41, 42, 43, 44, 45, 46, 47, 48, 49, 50, 51, 52, 53, 54, 55, 56, 57, 58, 59, 60, 61, 62, 63, 64, 65, 66, 67, 68, 69, 70, 71, 72, 73, 74, 75, 76, 77, 78, 79, 80, 81, 82, 83, 84, 85, 86, 87, 88, 89, 90, 91, 92, 93, 94, 95, 96, 97, 98, 99, 100, 101, 102, 103, 104, 105, 106, 107, 108, 109, 110, 111, 112, 113, 114, 115, 116, 117, 118, 119, 120, 121, 122, 123, 124, 125, 126, 127, 128, 129, 130, 131, 132, 133, 134, 135, 136, 0, 1, 2, 3, 141, 142, 143, 144, 145, 146, 147, 148, 149, 150, 151, 152, 153, 154, 155] (by decide +kernel) (by decide +kernel)
set_option maxRecDepth 20000 in
theorem gX2_readSum_X2_readTerm : GoodIn wsX2_readSum (wsV RX2 58 RX2 yX2_readTerm wsX2_readTerm) := goodIn_app (goodIn_of _ (by decide +kernel)) ggX2_readSum_X2_readTerm
theorem dX2_readSum_2 : decode cX2_readSum 2 = .ok (.invokevirtual 58, 3) := by decide +kernel
theorem dX2_readSum_5 : decode cX2_readSum 5 = .ok (.istore_n 2, 1) := by decide +kernel
theorem dX2_readSum_6 : decode cX2_readSum 6 = .ok (.iconst 0, 1) := by decide +kernel
theorem dX2_readSum_7 : decode cX2_readSum 7 = .ok (.istore_n 3, 1) := by decide +kernel
theorem dX2_readSum_8 : decode cX2_readSum 8 = .ok (.iload_n 3, 1) := by decide +kernel
theorem dX2_readSum_9 : decode cX2_readSum 9 = .ok (.sipush 200, 3) := by decide +kernel
theorem dX2_readSum_12 : decode cX2_readSum 12 = .ok (.if_icmp .ge 68, 3) := by decide +kernel
theorem dX2_readSum_80 : decode cX2_readSum 80 = .ok (.iload_n 2, 1) := by decide +kernel
theorem dX2_readSum_81 : decode cX2_readSum 81 = .ok (.ireturn, 1) := by decide +kernel
theorem dX2_readSum_15 : decode cX2_readSum 15 = .ok (.iload_n 2, 1) := by decide +kernel
theorem dX2_readSum_16 : decode cX2_readSum 16 = .ok (.ifCond .eq 64, 3) := by decide +kernel
theorem dX2_readSum_19 : decode cX2_readSum 19 = .ok (.aload_n 0, 1) := by decide +kernel
theorem dX2_readSum_20 : decode cX2_readSum 20 = .ok (.ldc 61, 2) := by decide +kernel
set_option maxRecDepth 20000 in
theorem ggX2_readSum_X2_isAt : GoodIn wsX2_readSum wsX2_isAt := goodIn_r _ [8, 9, 10, 11, 12, 13, 14, 15, 16, 17, 18, 19, 20, 21, 22, 23, 24, 25, 26, 27, 28, 29, 30, 31, 32, 33, 34, 35, 36, 37, 38, 39, 40, 41, 42, 43, 44, 45, 46, 47, 48, 49, 50, 51, 52, 53, 54, 55, 56, 57, 58, 59, 60, 141, 142, 143, 144, 145, 146, 147, 148, 149, 150, 151] (by decide +kernel) (by decide +kernel)
set_option maxRecDepth 20000 in
theorem gX2_readSum_X2_isAt : GoodIn wsX2_readSum (wsV RX2 63 RX2 yX2_isAt wsX2_isAt) := goodIn_app (goodIn_of _ (by decide +kernel)) ggX2_readSum_X2_isAt
theorem dX2_readSum_22 : decode cX2_readSum 22 = .ok (.invokevirtual 63, 3) := by decide +kernel
theorem dX2_readSum_25 : decode cX2_readSum 25 = .ok (.ifCond .ne 12, 3) := by decide +kernel
theorem dX2_readSum_37 : decode cX2_readSum 37 = .ok (.aload_n 0, 1) := by decide +kernel
theorem dX2_readSum_38 : decode cX2_readSum 38 = .ok (.ldc 61, 2) := by decide +kernel
theorem dX2_readSum_40 : decode cX2_readSum 40 = .ok (.invokevirtual 63, 3) := by decide +kernel
theorem dX2_readSum_43 : decode cX2_readSum 43 = .ok (.ifCond .eq 8, 3) := by decide +kernel
theorem dX2_readSum_51 : decode cX2_readSum 51 = .ok (.bipush 10, 2) := by decide +kernel
theorem dX2_readSum_53 : decode cX2_readSum 53 = .ok (.istore 4, 2) := by decide +kernel
theorem dX2_readSum_55 : decode cX2_readSum 55 = .ok (.aload_n 0, 1) := by decide +kernel
set_option maxRecDepth 20000 in
theorem ggX2_readSum_X2_advance : GoodIn wsX2_readSum wsX2_advance := goodIn_r _ [64, 9, 10, 11, 65, 66, 67, 68, 69, 70, 71, 4, 72, 73, 74, 75, 76, 141, 142, 143, 144, 145, 146, 147, 148, 149, 150, 151] (by decide +kernel) (by decide +kernel)
set_option maxRecDepth 20000 in
theorem gX2_readSum_X2_advance : GoodIn wsX2_readSum (wsV RX2 41 RX2 yX2_advance wsX2_advance) := goodIn_app (goodIn_of _ (by decide +kernel)) ggX2_readSum_X2_advance
theorem dX2_readSum_56 : decode cX2_readSum 56 = .ok (.invokevirtual 41, 3) := by decide +kernel
theorem dX2_readSum_59 : decode cX2_readSum 59 = .ok (.aload_n 0, 1) := by decide +kernel
theorem dX2_readSum_60 : decode cX2_readSum 60 = .ok (.iload_n 1, 1) := by decide +kernel
theorem dX2_readSum_61 : decode cX2_readSum 61 = .ok (.invokevirtual 58, 3) := by decide +kernel
theorem dX2_readSum_64 : decode cX2_readSum 64 = .ok (.istore_n 2, 1) := by decide +kernel
theorem dX2_readSum_65 : decode cX2_readSum 65 = .ok (.aload_n 0, 1) := by decide +kernel
theorem dX2_readSum_66 : decode cX2_readSum 66 = .ok (.iload 4, 2) := by decide +kernel
theorem dX2_readSum_68 : decode cX2_readSum 68 = .ok (.iconst (-1), 1) := by decide +kernel
theorem dX2_readSum_69 : decode cX2_readSum 69 = .ok (.iconst (-1), 1) := by decide +kernel
theorem dX2_readSum_70 : decode cX2_readSum 70 = .ok (.iconst (-1), 1) := by decide +kernel
set_option maxRecDepth 20000 in
theorem ggX2_readSum_X2_emit : GoodIn wsX2_readSum wsX2_emit := goodIn_r _ [80, 81, 82, 83, 84, 85, 86, 87, 88, 89, 90, 91, 92, 93, 94, 141, 142, 143, 144, 145, 146, 147, 148, 149, 152, 153, 154, 155] (by decide +kernel) (by decide +kernel)
set_option maxRecDepth 20000 in
theorem gX2_readSum_X2_emit : GoodIn wsX2_readSum (wsV RX2 69 RX2 yX2_emit wsX2_emit) := goodIn_app (goodIn_of _ (by decide +kernel)) ggX2_readSum_X2_emit
theorem dX2_readSum_71 : decode cX2_readSum 71 = .ok (.invokevirtual 69, 3) := by decide +kernel
theorem dX2_readSum_74 : decode cX2_readSum 74 = .ok (.iinc 3 1, 3) := by decide +kernel
theorem dX2_readSum_77 : decode cX2_readSum 77 = .ok (.goto (-69), 3) := by decide +kernel
theorem dX2_readSum_46 : decode cX2_readSum 46 = .ok (.bipush 9, 2) := by decide +kernel
theorem dX2_readSum_48 : decode cX2_readSum 48 = .ok (.goto 5, 3) := by decide +kernel
theorem dX2_readSum_28 : decode cX2_readSum 28 = .ok (.aload_n 0, 1) := by decide +kernel
theorem dX2_readSum_29 : decode cX2_readSum 29 = .ok (.ldc 67, 2) := by decide +kernel
theorem dX2_readSum_31 : decode cX2_readSum 31 = .ok (.invokevirtual 63, 3) := by decide +kernel
theorem dX2_readSum_34 : decode cX2_readSum 34 = .ok (.ifCond .eq 46, 3) := by decide +kernel
set_option maxHeartbeats 8000000 in
set_option maxRecDepth 100000 in
theorem k_X2_readTerm (l : Launch) (dC : Nat → ClassId) (dI : Nat → Nat → Nat) (cA : Nat → ClassId) (sz : Nat) (ax : Nat → Nat) (xSz : Int32) (xPl : Int32) (xBe : Int32) (xRt : Int32) (xRf : Int32) (xRd : Int32) (xLk : Int32) (xTz : Int32) (gB : Nat → Int32) (gSt : Nat → Option Nat) (dp : Int32) (adK : Nat → Nat) (adV : Nat → Nat) (rl : Nat) (FR : Nat) (LO : Nat) (i_xSz : 0 ≤ xSz.toInt ∧ xSz.toInt ≤ 200) (i_xPl : 0 ≤ xPl.toInt ∧ xPl.toInt ≤ 200) (i_xBe : 0 ≤ xBe.toInt ∧ xBe.toInt ≤ 200) (i_xRt : 0 ≤ xRt.toInt ∧ xRt.toInt ≤ 20) (i_xTz : 0 ≤ xTz.toInt ∧ xTz.toInt ≤ 200) (i_gB : inB 0 255 200 gB) (hbe : xPl.toInt ≤ xBe.toInt ∧ xBe.toInt ≤ xTz.toInt) (htk : tokOK gB xPl xBe xTz) (hgx : xRf.toInt = (-1)) (hdp : 0 ≤ dp.toInt ∧ dp.toInt ≤ 8) (hop : 8 - dp.toInt ≤ (rl : Int)) (ih : 0 < rl → XSumC l dC dI cA (rl - 1) FR LO) : Met l yX2_readTerm wsX2_readTerm ({ frames := FR + 9, cells := (200 - xSz.toInt).toNat, slots := (4 * (200 - xSz.toInt).toNat), locals := LO + 196 }) (va_Pc [.ref (ax 13), .int dp] (fun U => U.heap.size = sz ∧ va_P (dC, dI) vwCl [((ax 13), .inr (2, [.ref (ax 11), .ref (ax 14), .int xSz, .int xPl, .int xBe, .int xRt, .int xRf, .int xRd, .int xLk])), ((ax 11), .inr (5, [.ref (ax 12), .int xTz])), ((ax 12), .inl (cA 0, 200, .inl gB)), ((ax 14), .inl (cA 4, 200, .inr (.inr (.inr (.inr gSt)))))] U.heap ∧ va_K (dC, dI) vwCl (tyL cA) U ∧ va_D (fun _ => True) [((ax 13), .inr (2, [.ref (ax 11), .ref (ax 14), .int xSz, .int xPl, .int xBe, .int xRt, .int xRf, .int xRd, .int xLk])), ((ax 11), .inr (5, [.ref (ax 12), .int xTz])), ((ax 12), .inl (cA 0, 200, .inl gB)), ((ax 14), .inl (cA 4, 200, .inr (.inr (.inr (.inr gSt)))))] ∧ st_ok adK adV (va_A [((ax 13), .inr (2, [.ref (ax 11), .ref (ax 14), .int xSz, .int xPl, .int xBe, .int xRt, .int xRf, .int xRd, .int xLk])), ((ax 11), .inr (5, [.ref (ax 12), .int xTz])), ((ax 12), .inl (cA 0, 200, .inl gB)), ((ax 14), .inl (cA 4, 200, .inr (.inr (.inr (.inr gSt)))))] sz) U)) (va_Qi (fun (r : Int32) (u : Int32 × Int32 × Int32 × Int32 × Int32 × Int32 × (Nat → Option Nat) × (List Nat) × (Nat → va_E)) => (0 ≤ u.1.toInt ∧ u.1.toInt ≤ 200) ∧ (0 ≤ u.2.1.toInt ∧ u.2.1.toInt ≤ 200) ∧ (0 ≤ u.2.2.1.toInt ∧ u.2.2.1.toInt ≤ 200) ∧ (u.2.1.toInt ≤ u.2.2.1.toInt ∧ u.2.2.1.toInt ≤ xTz.toInt ∧ (0 ≤ r.toInt ∧ r.toInt ≤ 1)) ∧ (tokOK gB u.2.1 u.2.2.1 xTz) ∧ (stq xSz.toInt u.1.toInt gSt u.2.2.2.2.2.2.1 u.2.2.2.2.2.2.2.1 u.2.2.2.2.2.2.2.2) ∧ (rs u.2.2.2.1 u.2.1 u.2.2.1 u.2.2.2.2.2.1 u.2.2.2.2.1 = pterm (tpe gB xTz) xTz.toInt xRt.toInt (pB (tpe gB xTz) xTz.toInt xRt.toInt (8 - dp.toInt).toNat) xPl.toInt xBe.toInt xLk.toInt xRd) ∧ ((¬ r.toInt = 0 → u.2.2.2.1.toInt = (-1)) ∧ (r.toInt = 0 → 0 ≤ u.2.2.2.1.toInt))) (fun (u : Int32 × Int32 × Int32 × Int32 × Int32 × Int32 × (Nat → Option Nat) × (List Nat) × (Nat → va_E)) (t : State) => va_P (dC, dI) vwCl (([((ax 13), .inr (2, [.ref (ax 11), .ref (ax 14), .int u.1, .int u.2.1, .int u.2.2.1, .int xRt, .int u.2.2.2.1, .int u.2.2.2.2.1, .int u.2.2.2.2.2.1])), ((ax 11), .inr (5, [.ref (ax 12), .int xTz])), ((ax 12), .inl (cA 0, 200, .inl gB)), ((ax 14), .inl (cA 4, 200, .inr (.inr (.inr (.inr u.2.2.2.2.2.2.1)))))] : va_W) ++ va_pl u.2.2.2.2.2.2.2.1 u.2.2.2.2.2.2.2.2) t.heap ∧ va_D (va_A [((ax 13), .inr (2, [.ref (ax 11), .ref (ax 14), .int xSz, .int xPl, .int xBe, .int xRt, .int xRf, .int xRd, .int xLk])), ((ax 11), .inr (5, [.ref (ax 12), .int xTz])), ((ax 12), .inl (cA 0, 200, .inl gB)), ((ax 14), .inl (cA 4, 200, .inr (.inr (.inr (.inr gSt)))))] sz) (([((ax 13), .inr (2, [.ref (ax 11), .ref (ax 14), .int u.1, .int u.2.1, .int u.2.2.1, .int xRt, .int u.2.2.2.1, .int u.2.2.2.2.1, .int u.2.2.2.2.2.1])), ((ax 11), .inr (5, [.ref (ax 12), .int xTz])), ((ax 12), .inl (cA 0, 200, .inl gB)), ((ax 14), .inl (cA 4, 200, .inr (.inr (.inr (.inr u.2.2.2.2.2.2.1)))))] : va_W) ++ va_pl u.2.2.2.2.2.2.2.1 u.2.2.2.2.2.2.2.2) ∧ (t.heap.size ≤ sz + (u.1.toInt - xSz.toInt).toNat ∧ ssum sz t.heap ≤ 4 * (u.1.toInt - xSz.toInt).toNat)) (va_A [((ax 13), .inr (2, [.ref (ax 11), .ref (ax 14), .int xSz, .int xPl, .int xBe, .int xRt, .int xRf, .int xRd, .int xLk])), ((ax 11), .inr (5, [.ref (ax 12), .int xTz])), ((ax 12), .inl (cA 0, 200, .inl gB)), ((ax 14), .inl (cA 4, 200, .inr (.inr (.inr (.inr gSt)))))] sz)) ((200 - xSz.toInt).toNat) (4 * (200 - xSz.toInt).toNat) (va_A [((ax 13), .inr (2, [.ref (ax 11), .ref (ax 14), .int xSz, .int xPl, .int xBe, .int xRt, .int xRf, .int xRd, .int xLk])), ((ax 11), .inr (5, [.ref (ax 12), .int xTz])), ((ax 12), .inl (cA 0, 200, .inl gB)), ((ax 14), .inl (cA 4, 200, .inr (.inr (.inr (.inr gSt)))))] sz) := by
  refine Met.ofW (cc := cX2_readTerm) (maxL := 5) (ret := (some .boolean)) (by decide) rfl ?_
  intro p e s m args below meth c s₁ B hml hv
  obtain ⟨rfl, hsz, hP, hK, hD0, hN⟩ := hv
  have hx := B.exec
  have hb := B.bytes
  have hr := B.returns
  have hts := atoms_spec (ws := wsX2_readTerm) B.pre
  have hown : s.vm.findClass RX2 = some m.cls := findClass_of_methodNamed B.named
  have hlocks := B.notSynchronized
  subst hsz
  have hD := hD0.self (sz := s.heap.size)
  generalize hAe : va_A [((ax 13), .inr (2, [.ref (ax 11), .ref (ax 14), .int xSz, .int xPl, .int xBe, .int xRt, .int xRf, .int xRd, .int xLk])), ((ax 11), .inr (5, [.ref (ax 12), .int xTz])), ((ax 12), .inl (cA 0, 200, .inl gB)), ((ax 14), .inl (cA 4, 200, .inr (.inr (.inr (.inr gSt)))))] s.heap.size = A at hD hN ⊢
  have hSt := hN
  have hN := hSt.1
  have hA : ∀ q : Nat, s.heap.size ≤ q → A q := fun q h => by rw [← hAe]; exact Or.inr h
  have hS : va_S A s.heap s.heap [] := va_S.rf
  have hlt0 : (ax 13) < s.heap.size := (hP 0 _ rfl).lt
  have hlt1 : (ax 11) < s.heap.size := (hP 1 _ rfl).lt
  have hlt2 : (ax 12) < s.heap.size := (hP 2 _ rfl).lt
  have hlt3 : (ax 14) < s.heap.size := (hP 3 _ rfl).lt
  obtain ⟨pfz, hpfz⟩ : ∃ f : Nat → va_E, f = fun _ => .inr (0, []) := ⟨_, rfl⟩
  replace hP : va_P (dC, dI) vwCl (([((ax 13), .inr (2, [.ref (ax 11), .ref (ax 14), .int xSz, .int xPl, .int xBe, .int xRt, .int xRf, .int xRd, .int xLk])), ((ax 11), .inr (5, [.ref (ax 12), .int xTz])), ((ax 12), .inl (cA 0, 200, .inl gB)), ((ax 14), .inl (cA 4, 200, .inr (.inr (.inr (.inr gSt)))))] : va_W) ++ va_pl ([]) pfz) s.heap := hP
  replace hD : va_D A (([((ax 13), .inr (2, [.ref (ax 11), .ref (ax 14), .int xSz, .int xPl, .int xBe, .int xRt, .int xRf, .int xRd, .int xLk])), ((ax 11), .inr (5, [.ref (ax 12), .int xTz])), ((ax 12), .inl (cA 0, 200, .inl gB)), ((ax 14), .inl (cA 4, 200, .inr (.inr (.inr (.inr gSt)))))] : va_W) ++ va_pl ([]) pfz) := hD
  have hl := lv_entry ([.ref (ax 13), .int dp]) (n := 5) (Nat.le_of_ble_eq_true rfl)
  rw [lg_entry_eq]
  generalize (lg_sl ([.ref (ax 13), .int dp]) ++ List.replicate (5 - (lg_sl ([.ref (ax 13), .int dp])).length) Slot.unset).toArray = ls at hl ⊢
  have hl : lv_has ls 5 [(0, .ref (ax 13)), (1, .int dp)] := hl
  generalize hQe : MQ below _ _ _ _ _ _ = QQ
  refine lv_aload_n hx hb dX2_readTerm_0 rfl (lv_at hl 0 rfl) ?_
  refine lv_iload_n hx hb dX2_readTerm_1 rfl (lv_at hl 1 rfl) ?_
  obtain ⟨hPc, hDc, hFc, hCc⟩ := va_pre (ws' := [((ax 13), .inr (2, [.ref (ax 11), .ref (ax 14), .int xSz, .int xPl, .int xBe, .int xRt, .int xRf, .int xRd, .int xLk])), ((ax 11), .inr (5, [.ref (ax 12), .int xTz])), ((ax 12), .inl (cA 0, 200, .inl gB)), ((ax 14), .inl (cA 4, 200, .inr (.inr (.inr (.inr gSt)))))]) hP hD hS hA [0, 1, 2, 3] (by decide) rfl
  refine W.know (fun hkn1 hkn2 => ?_)
  have hS0 := hS.1
  refine va_calli (va_runV (As := [.int dp]) (rest := []) ⟨hx, hb, hml, hown, hts⟩ (k_X2_readPart l dC dI cA s.heap.size ax xSz xPl xBe xRt xRf xRd xLk xTz gB gSt dp adK adV rl FR LO i_xSz i_xPl i_xBe i_xRt i_xTz i_gB hbe htk hgx hdp hop ih) (cwV 1 hts gX2_readTerm_X2_readPart rfl rfl rfl (by decide +kernel) ⟨(show (FR + 8) + 1 ≤ FR + 9 from fl_a (F := FR) (a := 8) (b := 1) (c := 9) (by decide)), (show 8 + (2 + 11) + (LO + 175) ≤ LO + 196 from fl_c (F := LO) (a := 8 + (2 + 11)) (b := 175) (c := 196) (by decide))⟩) ⟨fun a U g mk q => by obtain ⟨q0, q1, qP, qK, qD, qN⟩ := q; exact ⟨q0, q1, qP, va_K.moved (u := U) (U := U.calling g mk a) (Vm.Alike.refl U.vm) qK, qD, qN.same rfl rfl⟩, va_recv hK hPc (ci := 2) (q0 := 0) rfl rfl, fun U hU hW => ⟨rfl, by rw [hU], by rw [hU]; exact hPc, va_K.moved hW.alike hK, hDc.weaken (fun _ _ _ _ => trivial), hSt.call hS hU hW hFc⟩⟩ rfl rfl hl.1 rfl (lv_room (Nat.le_of_ble_eq_true rfl)) dX2_readTerm_2 ⟨(show 0 + ((200 - xSz.toInt).toNat) ≤ (200 - xSz.toInt).toNat by omega), (show 0 + (4 * (200 - xSz.toInt).toNat) ≤ (4 * (200 - xSz.toInt).toNat) by omega)⟩) hS (fun q _ h => hFc q h) hFc (fun r_1 u_2 t H1 locs ht hvm hw_3 hB hz1 hk1 hS => ?_)
  obtain ⟨w_4, w_5, w_6, w_7, w_8, w_9, w_10, w_11, w_12⟩ := u_2
  try dsimp only at hw_3 hB
  obtain ⟨iv_13, iv_14, iv_15, po_16, tk_17, st_18, rs_19, rf_20⟩ := hw_3
  obtain ⟨hP1, hD1, hX1⟩ := hB
  rw [ht] at hP1 hX1
  obtain ⟨hP, hD⟩ := va_joinQ (wr := []) (w1 := ([((ax 13), .inr (2, [.ref (ax 11), .ref (ax 14), .int w_4, .int w_5, .int w_6, .int xRt, .int w_7, .int w_8, .int w_9])), ((ax 11), .inr (5, [.ref (ax 12), .int xTz])), ((ax 12), .inl (cA 0, 200, .inl gB)), ((ax 14), .inl (cA 4, 200, .inr (.inr (.inr (.inr w_10)))))] : va_W) ++ va_pl w_11 w_12) hP hD [0, 1, 2, 3] [] rfl rfl (by decide) (by decide) hk1 hFc hP1 hD1
  obtain ⟨fm_21, hma_fm_21, hmb_fm_21, hP, hD⟩ := pl_merge hP hD
  have sq_fm_21 := stq_tr stq_0 st_18 hma_fm_21 hmb_fm_21
  have hle_fm_21 := sq_fm_21.1
  have hlf_fm_21 := st_18.1
  refine W.tight (cells' := (w_4.toInt - xSz.toInt).toNat) (slots' := 4 * (w_4.toInt - xSz.toInt).toNat) (by omega) (by have hch := ssum_chain hS0 hz1 (fun q h1 h2 => hk1 q h2 (na_of (fun k e hk => by rcases mem4 hk with h | h | h | h <;> omega) h1 h2)); omega) ?_
  clear hz1
  generalize H1 = H at hP hS ⊢
  replace hP : va_P (dC, dI) vwCl (([((ax 13), .inr (2, [.ref (ax 11), .ref (ax 14), .int w_4, .int w_5, .int w_6, .int xRt, .int w_7, .int w_8, .int w_9])), ((ax 11), .inr (5, [.ref (ax 12), .int xTz])), ((ax 12), .inl (cA 0, 200, .inl gB)), ((ax 14), .inl (cA 4, 200, .inr (.inr (.inr (.inr w_10)))))] : va_W) ++ va_pl ([] ++ w_11) fm_21) H := hP
  replace hD : va_D A (([((ax 13), .inr (2, [.ref (ax 11), .ref (ax 14), .int w_4, .int w_5, .int w_6, .int xRt, .int w_7, .int w_8, .int w_9])), ((ax 11), .inr (5, [.ref (ax 12), .int xTz])), ((ax 12), .inl (cA 0, 200, .inl gB)), ((ax 14), .inl (cA 4, 200, .inr (.inr (.inr (.inr w_10)))))] : va_W) ++ va_pl ([] ++ w_11) fm_21) := hD
  refine lv_istore_n (lv' := [(2, .int r_1), (0, .ref (ax 13)), (1, .int dp)]) hx hb dX2_readTerm_5 rfl hl (by decide) rfl (fun ls hl => ?_)
  refine lv_iconst (v := 0) hx hb dX2_readTerm_6 (by decide) ?_
  refine lv_istore_n (lv' := [(3, .int 0), (2, .int r_1), (0, .ref (ax 13)), (1, .int dp)]) hx hb dX2_readTerm_7 rfl hl (by decide) rfl (fun ls hl => ?_)
  have loop8_22 : ∀ (n : Nat) (i3 : Int32) (so2 : Int32) (w_xSz_8 : Int32) (w_xPl_8 : Int32) (w_xBe_8 : Int32) (w_xRf_8 : Int32) (w_xRd_8 : Int32) (w_xLk_8 : Int32) (w_gSt_8 : Nat → Option Nat) (w_L_8 : List Nat) (w_pf_8 : Nat → va_E) (H : Heap) (locs : List Loc) (ls : Array Slot), 200 - i3.toInt < (n : Int) → (0 ≤ i3.toInt ∧ i3.toInt ≤ 200) → (0 ≤ so2.toInt ∧ so2.toInt ≤ 1) → (0 ≤ w_xSz_8.toInt ∧ w_xSz_8.toInt ≤ 200) → (0 ≤ w_xPl_8.toInt ∧ w_xPl_8.toInt ≤ 200) → (0 ≤ w_xBe_8.toInt ∧ w_xBe_8.toInt ≤ 200) → (w_xPl_8.toInt ≤ w_xBe_8.toInt ∧ w_xBe_8.toInt ≤ xTz.toInt) → (tokOK gB w_xPl_8 w_xBe_8 xTz) → (stq xSz.toInt w_xSz_8.toInt gSt w_gSt_8 w_L_8 w_pf_8) → ((¬ so2.toInt = 0 → w_xRf_8.toInt = (-1)) ∧ (so2.toInt = 0 → 0 ≤ w_xRf_8.toInt)) → (bnd (rs w_xRf_8 w_xPl_8 w_xBe_8 w_xLk_8 w_xRd_8) (ploop (tpe gB xTz) xTz.toInt 42 47 (ppart (tpe gB xTz) xTz.toInt xRt.toInt (pB (tpe gB xTz) xTz.toInt xRt.toInt (8 - dp.toInt).toNat)) (200 - i3.toInt).toNat) = pterm (tpe gB xTz) xTz.toInt xRt.toInt (pB (tpe gB xTz) xTz.toInt xRt.toInt (8 - dp.toInt).toNat) xPl.toInt xBe.toInt xLk.toInt xRd) → va_P (dC, dI) vwCl (([((ax 13), .inr (2, [.ref (ax 11), .ref (ax 14), .int w_xSz_8, .int w_xPl_8, .int w_xBe_8, .int xRt, .int w_xRf_8, .int w_xRd_8, .int w_xLk_8])), ((ax 11), .inr (5, [.ref (ax 12), .int xTz])), ((ax 12), .inl (cA 0, 200, .inl gB)), ((ax 14), .inl (cA 4, 200, .inr (.inr (.inr (.inr w_gSt_8)))))] : va_W) ++ va_pl w_L_8 w_pf_8) H → va_D A (([((ax 13), .inr (2, [.ref (ax 11), .ref (ax 14), .int w_xSz_8, .int w_xPl_8, .int w_xBe_8, .int xRt, .int w_xRf_8, .int w_xRd_8, .int w_xLk_8])), ((ax 11), .inr (5, [.ref (ax 12), .int xTz])), ((ax 12), .inl (cA 0, 200, .inl gB)), ((ax 14), .inl (cA 4, 200, .inr (.inr (.inr (.inr w_gSt_8)))))] : va_W) ++ va_pl w_L_8 w_pf_8) → va_S A s.heap H locs → lv_has ls 5 [(3, .int i3), (2, .int so2), (0, .ref (ax 13)), (1, .int dp)] → W p l e ({ frames := FR + 9, cells := (200 - xSz.toInt).toNat, slots := (4 * (200 - xSz.toInt).toNat), locals := LO + 196 }) s m ([.ref (ax 13), .int dp] : List Value).toArray below meth c H locs (w_xSz_8.toInt - xSz.toInt).toNat (4 * (w_xSz_8.toInt - xSz.toInt).toNat) QQ (F0 m 8 ls []) := by
    intro n
    induction n with
    | zero => intro i3 so2 w_xSz_8 w_xPl_8 w_xBe_8 w_xRf_8 w_xRd_8 w_xLk_8 w_gSt_8 w_L_8 w_pf_8 H locs ls hme hv0_8 hv1_8 hv2_8 hv3_8 hv4_8 hv5_8 hv6_8 hv7_8 hv8_8 hv9_8; exfalso; omega
    | succ n ih_8 =>
      intro i3 so2 w_xSz_8 w_xPl_8 w_xBe_8 w_xRf_8 w_xRd_8 w_xLk_8 w_gSt_8 w_L_8 w_pf_8 H locs ls hme_8 hv0_8 hv1_8 hv2_8 hv3_8 hv4_8 hv5_8 hv6_8 hv7_8 hv8_8 hv9_8 hP hD hS hl
      clear po_16 tk_17 rs_19 rf_20
      have hle8 := hv7_8.1
      refine lv_iload_n hx hb dX2_readTerm_8 rfl (lv_at hl 0 rfl) ?_
      refine lv_sipush (v := 200) hx hb dX2_readTerm_9 (by decide) ?_
      refine lv_icmp_ge (tgt := 80) hx hb dX2_readTerm_12 (by decide) (fun c_23 => ?_) (fun c_23 => ?_)
      · have dc_23 : 200 ≤ i3.toInt := jI_le c_23 (by decide) rfl
        refine lv_iload_n hx hb dX2_readTerm_80 rfl (lv_at hl 1 rfl) ?_
        have hP9 := hP.part (cx := [((ax 13), .inr (2, [.ref (ax 11), .ref (ax 14), .int w_xSz_8, .int w_xPl_8, .int w_xBe_8, .int xRt, .int w_xRf_8, .int w_xRd_8, .int w_xLk_8])), ((ax 11), .inr (5, [.ref (ax 12), .int xTz])), ((ax 12), .inl (cA 0, 200, .inl gB)), ((ax 14), .inl (cA 4, 200, .inr (.inr (.inr (.inr w_gSt_8)))))]) [0, 1, 2, 3] rfl
        have hD9 := hD.part (cx := [((ax 13), .inr (2, [.ref (ax 11), .ref (ax 14), .int w_xSz_8, .int w_xPl_8, .int w_xBe_8, .int xRt, .int w_xRf_8, .int w_xRd_8, .int w_xLk_8])), ((ax 11), .inr (5, [.ref (ax 12), .int xTz])), ((ax 12), .inl (cA 0, 200, .inl gB)), ((ax 14), .inl (cA 4, 200, .inr (.inr (.inr (.inr w_gSt_8)))))]) [0, 1, 2, 3] (by decide) rfl
        refine W.know (fun hkn1 hkn2 => ?_)
        have hBx : H.size ≤ s.heap.size + (w_xSz_8.toInt - xSz.toInt).toNat ∧ ssum s.heap.size H ≤ 4 * (w_xSz_8.toInt - xSz.toInt).toNat := ⟨by omega, by omega⟩
        subst hQe
        refine W.widen (k := (200 - xSz.toInt).toNat) (n := (4 * (200 - xSz.toInt).toNat)) (by omega) (by omega) ?_
        have hans : (so2 : Int32).toInt = so2.toInt := rfl
        have hpost : (0 ≤ w_xSz_8.toInt ∧ w_xSz_8.toInt ≤ 200) ∧ (0 ≤ w_xPl_8.toInt ∧ w_xPl_8.toInt ≤ 200) ∧ (0 ≤ w_xBe_8.toInt ∧ w_xBe_8.toInt ≤ 200) ∧ (w_xPl_8.toInt ≤ w_xBe_8.toInt ∧ w_xBe_8.toInt ≤ xTz.toInt ∧ (0 ≤ (so2 : Int32).toInt ∧ (so2 : Int32).toInt ≤ 1)) ∧ (tokOK gB w_xPl_8 w_xBe_8 xTz) ∧ (stq xSz.toInt w_xSz_8.toInt gSt w_gSt_8 w_L_8 w_pf_8) ∧ (rs w_xRf_8 w_xPl_8 w_xBe_8 w_xLk_8 w_xRd_8 = pterm (tpe gB xTz) xTz.toInt xRt.toInt (pB (tpe gB xTz) xTz.toInt xRt.toInt (8 - dp.toInt).toNat) xPl.toInt xBe.toInt xLk.toInt xRd) ∧ ((¬ (so2 : Int32).toInt = 0 → w_xRf_8.toInt = (-1)) ∧ ((so2 : Int32).toInt = 0 → 0 ≤ w_xRf_8.toInt)) := ⟨hv2_8, hv3_8, hv4_8, by omega, hv6_8, hv7_8, lp_end hv9_8 (Or.inr (Or.inr (by omega))), by omega⟩
        exact W.zret (v := so2) hx hb hr (jnarZ (by omega)) (fun t ht hW => ⟨⟨so2, (w_xSz_8, w_xPl_8, w_xBe_8, w_xRf_8, w_xRd_8, w_xLk_8, w_gSt_8, w_L_8, w_pf_8), rfl, hpost, by rw [ht]; exact hP9, hD9, by rw [ht]; exact hBx⟩, hS.F ht⟩) hS.2.2 dX2_readTerm_81
      · have dc_23 : i3.toInt < 200 := jI_nle c_23 (by decide) rfl
        refine lv_iload_n hx hb dX2_readTerm_15 rfl (lv_at hl 1 rfl) ?_
        refine lv_if_eq (tgt := 80) hx hb dX2_readTerm_16 (by decide) (fun c_24 => ?_) (fun c_24 => ?_)
        · have dc_24 : so2.toInt = 0 := jI_eq c_24 rfl (by decide)
          replace hv8_8 := rf_n hv8_8 dc_24
          refine lv_iload_n hx hb dX2_readTerm_80 rfl (lv_at hl 1 rfl) ?_
          have hP9 := hP.part (cx := [((ax 13), .inr (2, [.ref (ax 11), .ref (ax 14), .int w_xSz_8, .int w_xPl_8, .int w_xBe_8, .int xRt, .int w_xRf_8, .int w_xRd_8, .int w_xLk_8])), ((ax 11), .inr (5, [.ref (ax 12), .int xTz])), ((ax 12), .inl (cA 0, 200, .inl gB)), ((ax 14), .inl (cA 4, 200, .inr (.inr (.inr (.inr w_gSt_8)))))]) [0, 1, 2, 3] rfl
          have hD9 := hD.part (cx := [((ax 13), .inr (2, [.ref (ax 11), .ref (ax 14), .int w_xSz_8, .int w_xPl_8, .int w_xBe_8, .int xRt, .int w_xRf_8, .int w_xRd_8, .int w_xLk_8])), ((ax 11), .inr (5, [.ref (ax 12), .int xTz])), ((ax 12), .inl (cA 0, 200, .inl gB)), ((ax 14), .inl (cA 4, 200, .inr (.inr (.inr (.inr w_gSt_8)))))]) [0, 1, 2, 3] (by decide) rfl
          refine W.know (fun hkn1 hkn2 => ?_)
          have hBx : H.size ≤ s.heap.size + (w_xSz_8.toInt - xSz.toInt).toNat ∧ ssum s.heap.size H ≤ 4 * (w_xSz_8.toInt - xSz.toInt).toNat := ⟨by omega, by omega⟩
          subst hQe
          refine W.widen (k := (200 - xSz.toInt).toNat) (n := (4 * (200 - xSz.toInt).toNat)) (by omega) (by omega) ?_
          have hans : (so2 : Int32).toInt = so2.toInt := rfl
          have hpost : (0 ≤ w_xSz_8.toInt ∧ w_xSz_8.toInt ≤ 200) ∧ (0 ≤ w_xPl_8.toInt ∧ w_xPl_8.toInt ≤ 200) ∧ (0 ≤ w_xBe_8.toInt ∧ w_xBe_8.toInt ≤ 200) ∧ (w_xPl_8.toInt ≤ w_xBe_8.toInt ∧ w_xBe_8.toInt ≤ xTz.toInt ∧ (0 ≤ (so2 : Int32).toInt ∧ (so2 : Int32).toInt ≤ 1)) ∧ (tokOK gB w_xPl_8 w_xBe_8 xTz) ∧ (stq xSz.toInt w_xSz_8.toInt gSt w_gSt_8 w_L_8 w_pf_8) ∧ (rs w_xRf_8 w_xPl_8 w_xBe_8 w_xLk_8 w_xRd_8 = pterm (tpe gB xTz) xTz.toInt xRt.toInt (pB (tpe gB xTz) xTz.toInt xRt.toInt (8 - dp.toInt).toNat) xPl.toInt xBe.toInt xLk.toInt xRd) ∧ ((¬ (so2 : Int32).toInt = 0 → w_xRf_8.toInt = (-1)) ∧ ((so2 : Int32).toInt = 0 → 0 ≤ w_xRf_8.toInt)) := ⟨hv2_8, hv3_8, hv4_8, by omega, hv6_8, hv7_8, lp_end hv9_8 (Or.inl (by omega)), by omega⟩
          exact W.zret (v := so2) hx hb hr (jnarZ (by omega)) (fun t ht hW => ⟨⟨so2, (w_xSz_8, w_xPl_8, w_xBe_8, w_xRf_8, w_xRd_8, w_xLk_8, w_gSt_8, w_L_8, w_pf_8), rfl, hpost, by rw [ht]; exact hP9, hD9, by rw [ht]; exact hBx⟩, hS.F ht⟩) hS.2.2 dX2_readTerm_81
        · have dc_24 : ¬ so2.toInt = 0 := jI_ne c_24 rfl (by decide)
          replace hv8_8 := rf_y hv8_8 dc_24
          refine lv_aload_n hx hb dX2_readTerm_19 rfl (lv_at hl 2 rfl) ?_
          refine va_ldcS hx hb hown (show vk_R RX2 76 "*" (adK 2) s from hSt.2.1 2 (by decide)) dX2_readTerm_20 ?_
          obtain ⟨hPc, hDc, hFc, hCc⟩ := va_pre (ws' := [((ax 13), .inr (2, [.ref (ax 11), .ref (ax 14), .int w_xSz_8, .int w_xPl_8, .int w_xBe_8, .int xRt, .int w_xRf_8, .int w_xRd_8, .int w_xLk_8])), ((ax 11), .inr (5, [.ref (ax 12), .int xTz])), ((ax 12), .inl (cA 0, 200, .inl gB))]) hP hD hS hA [0, 1, 2] (by decide) rfl
          refine va_calli (va_runV (As := [.ref (adK 2)]) (rest := []) ⟨hx, hb, hml, hown, hts⟩ (k_X2_isAt l dC dI cA H.size ax w_xSz_8 w_xPl_8 w_xBe_8 xRt w_xRf_8 w_xRd_8 w_xLk_8 xTz gB adK adV 2 hv2_8 hv3_8 hv4_8 i_xRt i_xTz i_gB (by omega) hv5_8) (cwV 1 hts gX2_readTerm_X2_isAt rfl rfl rfl (by decide +kernel) ⟨(show 4 + 1 ≤ FR + 9 from fl_b (F := FR) (a := 4 + 1) (c := 9) (by decide)), (show 8 + (4 + 11) + 85 ≤ LO + 196 from fl_b (F := LO) (a := 8 + (4 + 11) + 85) (c := 196) (by decide))⟩) ⟨fun a U g mk q => by obtain ⟨q0, q1, qP, qK, qD, qN⟩ := q; exact ⟨q0, q1, qP, va_K.moved (u := U) (U := U.calling g mk a) (Vm.Alike.refl U.vm) qK, qD, qN.same rfl rfl⟩, va_recv hK hPc (ci := 2) (q0 := 0) rfl rfl, fun U hU hW => ⟨rfl, by rw [hU], by rw [hU]; exact hPc, va_K.moved hW.alike hK, hDc.weaken (fun _ _ _ _ => trivial), hSt.call hS hU hW hFc⟩⟩ rfl rfl hl.1 rfl (lv_room (Nat.le_of_ble_eq_true rfl)) dX2_readTerm_22 ⟨(show (w_xSz_8.toInt - xSz.toInt).toNat + 0 ≤ (200 - xSz.toInt).toNat by omega), (show (4 * (w_xSz_8.toInt - xSz.toInt).toNat) + 0 ≤ (4 * (200 - xSz.toInt).toNat) by omega)⟩) hS (fun q _ h => hFc q h) hFc (fun r_25 u_26 t H1 locs ht hvm hw_27 hB hz1 hk1 hS => ?_)
          try dsimp only at hw_27 hB
          obtain ⟨po_28, tw_29⟩ := hw_27
          obtain ⟨hP1, hD1⟩ := hB
          rw [ht] at hP1
          obtain ⟨hP, hD⟩ := va_joinQ (wr := [((ax 14), .inl (cA 4, 200, .inr (.inr (.inr (.inr w_gSt_8)))))]) (w1 := [((ax 13), .inr (2, [.ref (ax 11), .ref (ax 14), .int w_xSz_8, .int w_xPl_8, .int w_xBe_8, .int xRt, .int w_xRf_8, .int w_xRd_8, .int w_xLk_8])), ((ax 11), .inr (5, [.ref (ax 12), .int xTz])), ((ax 12), .inl (cA 0, 200, .inl gB))]) hP hD [0, 1, 2] [3] rfl rfl (by decide) (by decide) hk1 hFc hP1 hD1
          clear hz1
          rw [scs_2] at tw_29
          generalize H1 = H at hP hS ⊢
          replace hP : va_P (dC, dI) vwCl (([((ax 14), .inl (cA 4, 200, .inr (.inr (.inr (.inr w_gSt_8))))), ((ax 13), .inr (2, [.ref (ax 11), .ref (ax 14), .int w_xSz_8, .int w_xPl_8, .int w_xBe_8, .int xRt, .int w_xRf_8, .int w_xRd_8, .int w_xLk_8])), ((ax 11), .inr (5, [.ref (ax 12), .int xTz])), ((ax 12), .inl (cA 0, 200, .inl gB))] : va_W) ++ va_pl w_L_8 w_pf_8) H := hP
          replace hD : va_D A (([((ax 14), .inl (cA 4, 200, .inr (.inr (.inr (.inr w_gSt_8))))), ((ax 13), .inr (2, [.ref (ax 11), .ref (ax 14), .int w_xSz_8, .int w_xPl_8, .int w_xBe_8, .int xRt, .int w_xRf_8, .int w_xRd_8, .int w_xLk_8])), ((ax 11), .inr (5, [.ref (ax 12), .int xTz])), ((ax 12), .inl (cA 0, 200, .inl gB))] : va_W) ++ va_pl w_L_8 w_pf_8) := hD
          refine lv_if_ne (tgt := 37) hx hb dX2_readTerm_25 (by decide) (fun c_30 => ?_) (fun c_30 => ?_)
          · have dc_30 : ¬ r_25.toInt = 0 := jI_ne c_30 rfl (by decide)
            refine lv_aload_n hx hb dX2_readTerm_37 rfl (lv_at hl 2 rfl) ?_
            refine va_ldcS hx hb hown (show vk_R RX2 76 "*" (adK 2) s from hSt.2.1 2 (by decide)) dX2_readTerm_38 ?_
            obtain ⟨hPc, hDc, hFc, hCc⟩ := va_pre (ws' := [((ax 13), .inr (2, [.ref (ax 11), .ref (ax 14), .int w_xSz_8, .int w_xPl_8, .int w_xBe_8, .int xRt, .int w_xRf_8, .int w_xRd_8, .int w_xLk_8])), ((ax 11), .inr (5, [.ref (ax 12), .int xTz])), ((ax 12), .inl (cA 0, 200, .inl gB))]) hP hD hS hA [1, 2, 3] (by decide) rfl
            refine va_calli (va_runV (As := [.ref (adK 2)]) (rest := []) ⟨hx, hb, hml, hown, hts⟩ (k_X2_isAt l dC dI cA H.size ax w_xSz_8 w_xPl_8 w_xBe_8 xRt w_xRf_8 w_xRd_8 w_xLk_8 xTz gB adK adV 2 hv2_8 hv3_8 hv4_8 i_xRt i_xTz i_gB (by omega) hv5_8) (cwV 1 hts gX2_readTerm_X2_isAt rfl rfl rfl (by decide +kernel) ⟨(show 4 + 1 ≤ FR + 9 from fl_b (F := FR) (a := 4 + 1) (c := 9) (by decide)), (show 8 + (4 + 11) + 85 ≤ LO + 196 from fl_b (F := LO) (a := 8 + (4 + 11) + 85) (c := 196) (by decide))⟩) ⟨fun a U g mk q => by obtain ⟨q0, q1, qP, qK, qD, qN⟩ := q; exact ⟨q0, q1, qP, va_K.moved (u := U) (U := U.calling g mk a) (Vm.Alike.refl U.vm) qK, qD, qN.same rfl rfl⟩, va_recv hK hPc (ci := 2) (q0 := 0) rfl rfl, fun U hU hW => ⟨rfl, by rw [hU], by rw [hU]; exact hPc, va_K.moved hW.alike hK, hDc.weaken (fun _ _ _ _ => trivial), hSt.call hS hU hW hFc⟩⟩ rfl rfl hl.1 rfl (lv_room (Nat.le_of_ble_eq_true rfl)) dX2_readTerm_40 ⟨(show (w_xSz_8.toInt - xSz.toInt).toNat + 0 ≤ (200 - xSz.toInt).toNat by omega), (show (4 * (w_xSz_8.toInt - xSz.toInt).toNat) + 0 ≤ (4 * (200 - xSz.toInt).toNat) by omega)⟩) hS (fun q _ h => hFc q h) hFc (fun r_31 u_32 t H1 locs ht hvm hw_33 hB hz1 hk1 hS => ?_)
            try dsimp only at hw_33 hB
            obtain ⟨po_34, tw_35⟩ := hw_33
            obtain ⟨hP1, hD1⟩ := hB
            rw [ht] at hP1
            obtain ⟨hP, hD⟩ := va_joinQ (wr := [((ax 14), .inl (cA 4, 200, .inr (.inr (.inr (.inr w_gSt_8)))))]) (w1 := [((ax 13), .inr (2, [.ref (ax 11), .ref (ax 14), .int w_xSz_8, .int w_xPl_8, .int w_xBe_8, .int xRt, .int w_xRf_8, .int w_xRd_8, .int w_xLk_8])), ((ax 11), .inr (5, [.ref (ax 12), .int xTz])), ((ax 12), .inl (cA 0, 200, .inl gB))]) hP hD [1, 2, 3] [0] rfl rfl (by decide) (by decide) hk1 hFc hP1 hD1
            clear hz1
            rw [scs_2] at tw_35
            generalize H1 = H at hP hS ⊢
            replace hP : va_P (dC, dI) vwCl (([((ax 14), .inl (cA 4, 200, .inr (.inr (.inr (.inr w_gSt_8))))), ((ax 13), .inr (2, [.ref (ax 11), .ref (ax 14), .int w_xSz_8, .int w_xPl_8, .int w_xBe_8, .int xRt, .int w_xRf_8, .int w_xRd_8, .int w_xLk_8])), ((ax 11), .inr (5, [.ref (ax 12), .int xTz])), ((ax 12), .inl (cA 0, 200, .inl gB))] : va_W) ++ va_pl w_L_8 w_pf_8) H := hP
            replace hD : va_D A (([((ax 14), .inl (cA 4, 200, .inr (.inr (.inr (.inr w_gSt_8))))), ((ax 13), .inr (2, [.ref (ax 11), .ref (ax 14), .int w_xSz_8, .int w_xPl_8, .int w_xBe_8, .int xRt, .int w_xRf_8, .int w_xRd_8, .int w_xLk_8])), ((ax 11), .inr (5, [.ref (ax 12), .int xTz])), ((ax 12), .inl (cA 0, 200, .inl gB))] : va_W) ++ va_pl w_L_8 w_pf_8) := hD
            refine lv_if_eq (tgt := 51) hx hb dX2_readTerm_43 (by decide) (fun c_36 => ?_) (fun c_36 => ?_)
            · have dc_36 : r_31.toInt = 0 := jI_eq c_36 rfl (by decide)
              refine lv_bipush (v := 12) hx hb dX2_readTerm_51 (by decide) ?_
              refine lv_istore (lv' := [(4, .int 12), (3, .int i3), (2, .int so2), (0, .ref (ax 13)), (1, .int dp)]) hx hb dX2_readTerm_53 hl (by decide) rfl (fun ls hl => ?_)
              refine lv_aload_n hx hb dX2_readTerm_55 rfl (lv_at hl 3 rfl) ?_
              obtain ⟨hPc, hDc, hFc, hCc⟩ := va_pre (ws' := [((ax 13), .inr (2, [.ref (ax 11), .ref (ax 14), .int w_xSz_8, .int w_xPl_8, .int w_xBe_8, .int xRt, .int w_xRf_8, .int w_xRd_8, .int w_xLk_8])), ((ax 11), .inr (5, [.ref (ax 12), .int xTz])), ((ax 12), .inl (cA 0, 200, .inl gB))]) hP hD hS hA [1, 2, 3] (by decide) rfl
              refine va_callv (va_runV (As := []) (rest := []) ⟨hx, hb, hml, hown, hts⟩ (k_X2_advance l dC dI cA H.size ax w_xSz_8 w_xPl_8 w_xBe_8 xRt w_xRf_8 w_xRd_8 w_xLk_8 xTz gB hv2_8 hv3_8 hv4_8 i_xRt i_xTz i_gB (by omega)) (cwV 0 hts gX2_readTerm_X2_advance rfl rfl rfl (by decide +kernel) ⟨(show 1 + 1 ≤ FR + 9 from fl_b (F := FR) (a := 1 + 1) (c := 9) (by decide)), (show 8 + (3 + 11) + 23 ≤ LO + 196 from fl_b (F := LO) (a := 8 + (3 + 11) + 23) (c := 196) (by decide))⟩) ⟨fun a U g mk q => by obtain ⟨q0, q1, qP, qK, qD, qN⟩ := q; exact ⟨q0, q1, qP, va_K.moved (u := U) (U := U.calling g mk a) (Vm.Alike.refl U.vm) qK, qD, qN.same rfl⟩, va_recv hK hPc (ci := 2) (q0 := 0) rfl rfl, fun U hU hW => ⟨rfl, by rw [hU], by rw [hU]; exact hPc, va_K.moved hW.alike hK, hDc.weaken (fun _ _ _ _ => trivial), hN.warm hW⟩⟩ rfl rfl hl.1 rfl (lv_room (Nat.le_of_ble_eq_true rfl)) dX2_readTerm_56 ⟨(show (w_xSz_8.toInt - xSz.toInt).toNat + 0 ≤ (200 - xSz.toInt).toNat by omega), (show (4 * (w_xSz_8.toInt - xSz.toInt).toNat) + 0 ≤ (4 * (200 - xSz.toInt).toNat) by omega)⟩) hS (fun q _ h => hFc q h) hFc (fun u_37 t H1 locs ht hvm hw_38 hB hz1 hk1 hS => ?_)
              obtain ⟨w_39, w_40⟩ := u_37
              try dsimp only at hw_38 hB
              obtain ⟨iv_41, iv_42, po_43, tk_44, ad_45⟩ := hw_38
              obtain ⟨hP1, hD1⟩ := hB
              rw [ht] at hP1
              obtain ⟨hP, hD⟩ := va_joinQ (wr := [((ax 14), .inl (cA 4, 200, .inr (.inr (.inr (.inr w_gSt_8)))))]) (w1 := [((ax 13), .inr (2, [.ref (ax 11), .ref (ax 14), .int w_xSz_8, .int w_39, .int w_40, .int xRt, .int w_xRf_8, .int w_xRd_8, .int w_xLk_8])), ((ax 11), .inr (5, [.ref (ax 12), .int xTz])), ((ax 12), .inl (cA 0, 200, .inl gB))]) hP hD [1, 2, 3] [0] rfl rfl (by decide) (by decide) hk1 hFc hP1 hD1
              clear hz1
              generalize H1 = H at hP hS ⊢
              replace hP : va_P (dC, dI) vwCl (([((ax 14), .inl (cA 4, 200, .inr (.inr (.inr (.inr w_gSt_8))))), ((ax 13), .inr (2, [.ref (ax 11), .ref (ax 14), .int w_xSz_8, .int w_39, .int w_40, .int xRt, .int w_xRf_8, .int w_xRd_8, .int w_xLk_8])), ((ax 11), .inr (5, [.ref (ax 12), .int xTz])), ((ax 12), .inl (cA 0, 200, .inl gB))] : va_W) ++ va_pl w_L_8 w_pf_8) H := hP
              replace hD : va_D A (([((ax 14), .inl (cA 4, 200, .inr (.inr (.inr (.inr w_gSt_8))))), ((ax 13), .inr (2, [.ref (ax 11), .ref (ax 14), .int w_xSz_8, .int w_39, .int w_40, .int xRt, .int w_xRf_8, .int w_xRd_8, .int w_xLk_8])), ((ax 11), .inr (5, [.ref (ax 12), .int xTz])), ((ax 12), .inl (cA 0, 200, .inl gB))] : va_W) ++ va_pl w_L_8 w_pf_8) := hD
              refine lv_aload_n hx hb dX2_readTerm_59 rfl (lv_at hl 3 rfl) ?_
              refine lv_iload_n hx hb dX2_readTerm_60 rfl (lv_at hl 4 rfl) ?_
              obtain ⟨hPc, hDc, hFc, hCc⟩ := va_pre (ws' := [((ax 13), .inr (2, [.ref (ax 11), .ref (ax 14), .int w_xSz_8, .int w_39, .int w_40, .int xRt, .int w_xRf_8, .int w_xRd_8, .int w_xLk_8])), ((ax 11), .inr (5, [.ref (ax 12), .int xTz])), ((ax 12), .inl (cA 0, 200, .inl gB)), ((ax 14), .inl (cA 4, 200, .inr (.inr (.inr (.inr w_gSt_8)))))]) hP hD hS hA [1, 2, 3, 0] (by decide) rfl
              refine W.know (fun hkn1 hkn2 => ?_)
              have hS0 := hS.1
              refine va_calli (va_runV (As := [.int dp]) (rest := []) ⟨hx, hb, hml, hown, hts⟩ (k_X2_readPart l dC dI cA H.size ax w_xSz_8 w_39 w_40 xRt w_xRf_8 w_xRd_8 w_xLk_8 xTz gB w_gSt_8 dp adK adV rl FR LO hv2_8 iv_41 iv_42 i_xRt i_xTz i_gB (by omega) tk_44 (by omega) hdp hop ih) (cwV 1 hts gX2_readTerm_X2_readPart rfl rfl rfl (by decide +kernel) ⟨(show (FR + 8) + 1 ≤ FR + 9 from fl_a (F := FR) (a := 8) (b := 1) (c := 9) (by decide)), (show 8 + (2 + 11) + (LO + 175) ≤ LO + 196 from fl_c (F := LO) (a := 8 + (2 + 11)) (b := 175) (c := 196) (by decide))⟩) ⟨fun a U g mk q => by obtain ⟨q0, q1, qP, qK, qD, qN⟩ := q; exact ⟨q0, q1, qP, va_K.moved (u := U) (U := U.calling g mk a) (Vm.Alike.refl U.vm) qK, qD, qN.same rfl rfl⟩, va_recv hK hPc (ci := 2) (q0 := 0) rfl rfl, fun U hU hW => ⟨rfl, by rw [hU], by rw [hU]; exact hPc, va_K.moved hW.alike hK, hDc.weaken (fun _ _ _ _ => trivial), hSt.call hS hU hW hFc⟩⟩ rfl rfl hl.1 rfl (lv_room (Nat.le_of_ble_eq_true rfl)) dX2_readTerm_61 ⟨(show (w_xSz_8.toInt - xSz.toInt).toNat + ((200 - w_xSz_8.toInt).toNat) ≤ (200 - xSz.toInt).toNat by omega), (show (4 * (w_xSz_8.toInt - xSz.toInt).toNat) + (4 * (200 - w_xSz_8.toInt).toNat) ≤ (4 * (200 - xSz.toInt).toNat) by omega)⟩) hS (fun q _ h => hFc q h) hFc (fun r_46 u_47 t H1 locs ht hvm hw_48 hB hz1 hk1 hS => ?_)
              obtain ⟨w_49, w_50, w_51, w_52, w_53, w_54, w_55, w_56, w_57⟩ := u_47
              try dsimp only at hw_48 hB
              obtain ⟨iv_58, iv_59, iv_60, po_61, tk_62, st_63, rs_64, rf_65⟩ := hw_48
              obtain ⟨hP1, hD1, hX1⟩ := hB
              rw [ht] at hP1 hX1
              obtain ⟨hP, hD⟩ := va_joinQ (wr := []) (w1 := ([((ax 13), .inr (2, [.ref (ax 11), .ref (ax 14), .int w_49, .int w_50, .int w_51, .int xRt, .int w_52, .int w_53, .int w_54])), ((ax 11), .inr (5, [.ref (ax 12), .int xTz])), ((ax 12), .inl (cA 0, 200, .inl gB)), ((ax 14), .inl (cA 4, 200, .inr (.inr (.inr (.inr w_55)))))] : va_W) ++ va_pl w_56 w_57) hP hD [1, 2, 3, 0] [] rfl rfl (by decide) (by decide) hk1 hFc hP1 hD1
              obtain ⟨fm_66, hma_fm_66, hmb_fm_66, hP, hD⟩ := pl_merge hP hD
              have sq_fm_66 := stq_tr hv7_8 st_63 hma_fm_66 hmb_fm_66
              have hle_fm_66 := sq_fm_66.1
              have hlf_fm_66 := st_63.1
              refine W.tight (cells' := (w_49.toInt - xSz.toInt).toNat) (slots' := 4 * (w_49.toInt - xSz.toInt).toNat) (by omega) (by have hch := ssum_chain hS0 hz1 (fun q h1 h2 => hk1 q h2 (na_of (fun k e hk => by rcases mem4 hk with h | h | h | h <;> omega) h1 h2)); omega) ?_
              clear hz1
              generalize H1 = H at hP hS ⊢
              replace hP : va_P (dC, dI) vwCl (([((ax 13), .inr (2, [.ref (ax 11), .ref (ax 14), .int w_49, .int w_50, .int w_51, .int xRt, .int w_52, .int w_53, .int w_54])), ((ax 11), .inr (5, [.ref (ax 12), .int xTz])), ((ax 12), .inl (cA 0, 200, .inl gB)), ((ax 14), .inl (cA 4, 200, .inr (.inr (.inr (.inr w_55)))))] : va_W) ++ va_pl (w_L_8 ++ w_56) fm_66) H := hP
              replace hD : va_D A (([((ax 13), .inr (2, [.ref (ax 11), .ref (ax 14), .int w_49, .int w_50, .int w_51, .int xRt, .int w_52, .int w_53, .int w_54])), ((ax 11), .inr (5, [.ref (ax 12), .int xTz])), ((ax 12), .inl (cA 0, 200, .inl gB)), ((ax 14), .inl (cA 4, 200, .inr (.inr (.inr (.inr w_55)))))] : va_W) ++ va_pl (w_L_8 ++ w_56) fm_66) := hD
              refine lv_istore_n (lv' := [(2, .int r_46), (4, .int 12), (3, .int i3), (0, .ref (ax 13)), (1, .int dp)]) hx hb dX2_readTerm_64 rfl hl (by decide) rfl (fun ls hl => ?_)
              refine lv_aload_n hx hb dX2_readTerm_65 rfl (lv_at hl 3 rfl) ?_
              refine lv_iload hx hb dX2_readTerm_66 (lv_at hl 1 rfl) ?_
              refine lv_iconst (v := (-1)) hx hb dX2_readTerm_68 (by decide) ?_
              refine lv_iconst (v := (-1)) hx hb dX2_readTerm_69 (by decide) ?_
              refine lv_iconst (v := (-1)) hx hb dX2_readTerm_70 (by decide) ?_
              have hk_67 : (12 : Int32).toInt = 12 := by decide
              have hk_68 : ((-1) : Int32).toInt = (-1) := by decide
              obtain ⟨hPc, hDc, hFc, hCc⟩ := va_pre (ws' := [((ax 13), .inr (2, [.ref (ax 11), .ref (ax 14), .int w_49, .int w_50, .int w_51, .int xRt, .int w_52, .int w_53, .int w_54])), ((ax 11), .inr (5, [.ref (ax 12), .int xTz])), ((ax 12), .inl (cA 0, 200, .inl gB)), ((ax 14), .inl (cA 4, 200, .inr (.inr (.inr (.inr w_55)))))]) hP hD hS hA [0, 1, 2, 3] (by decide) rfl
              refine W.know (fun hkn1 hkn2 => ?_)
              have hS0 := hS.1
              refine va_callv (va_runV (As := [.int 12, .int (-1), .int (-1), .int (-1)]) (rest := []) ⟨hx, hb, hml, hown, hts⟩ (k_X2_emit l dC dI cA H.size ax w_49 w_50 w_51 xRt w_52 w_53 w_54 xTz gB w_55 12 (-1) (-1) (-1) iv_58 iv_59 iv_60 i_xRt i_xTz i_gB (by omega)) (cwV 4 hts gX2_readTerm_X2_emit rfl rfl rfl (by decide +kernel) ⟨(show 2 + 1 ≤ FR + 9 from fl_b (F := FR) (a := 2 + 1) (c := 9) (by decide)), (show 8 + (5 + 11) + 44 ≤ LO + 196 from fl_b (F := LO) (a := 8 + (5 + 11) + 44) (c := 196) (by decide))⟩) ⟨fun a U g mk q => by obtain ⟨q0, q1, qP, qK, qD, qN⟩ := q; exact ⟨q0, q1, qP, va_K.moved (u := U) (U := U.calling g mk a) (Vm.Alike.refl U.vm) qK, qD, qN.same rfl⟩, va_recv hK hPc (ci := 2) (q0 := 0) rfl rfl, fun U hU hW => ⟨rfl, by rw [hU], by rw [hU]; exact hPc, va_K.moved hW.alike hK, hDc.weaken (fun _ _ _ _ => trivial), hN.warm hW⟩⟩ rfl rfl hl.1 rfl (lv_room (Nat.le_of_ble_eq_true rfl)) dX2_readTerm_71 ⟨(show (w_49.toInt - xSz.toInt).toNat + ((200 - w_49.toInt).toNat) ≤ (200 - xSz.toInt).toNat by omega), (show (4 * (w_49.toInt - xSz.toInt).toNat) + (4 * (200 - w_49.toInt).toNat) ≤ (4 * (200 - xSz.toInt).toNat) by omega)⟩) hS (fun q _ h => hFc q h) hFc (fun u_69 t H1 locs ht hvm hw_70 hB hz1 hk1 hS => ?_)
              obtain ⟨w_71, w_72, w_73, w_74⟩ := u_69
              try dsimp only at hw_70 hB
              obtain ⟨iv_75, st_76⟩ := hw_70
              try simp only [hk_67, hk_68] at st_76
              obtain ⟨hP1, hD1, hX1⟩ := hB
              rw [ht] at hP1 hX1
              obtain ⟨hP, hD⟩ := va_joinQ (wr := []) (w1 := ([((ax 13), .inr (2, [.ref (ax 11), .ref (ax 14), .int w_71, .int w_50, .int w_51, .int xRt, .int w_52, .int w_53, .int w_54])), ((ax 11), .inr (5, [.ref (ax 12), .int xTz])), ((ax 12), .inl (cA 0, 200, .inl gB)), ((ax 14), .inl (cA 4, 200, .inr (.inr (.inr (.inr w_72)))))] : va_W) ++ va_pl w_73 w_74) hP hD [0, 1, 2, 3] [] rfl rfl (by decide) (by decide) hk1 hFc hP1 hD1
              obtain ⟨fm_77, hma_fm_77, hmb_fm_77, hP, hD⟩ := pl_merge hP hD
              have sq_fm_77 := stq_tr sq_fm_66 st_76 hma_fm_77 hmb_fm_77
              have hle_fm_77 := sq_fm_77.1
              have hlf_fm_77 := st_76.1
              refine W.tight (cells' := (w_71.toInt - xSz.toInt).toNat) (slots' := 4 * (w_71.toInt - xSz.toInt).toNat) (by omega) (by have hch := ssum_chain hS0 hz1 (fun q h1 h2 => hk1 q h2 (na_of (fun k e hk => by rcases mem4 hk with h | h | h | h <;> omega) h1 h2)); omega) ?_
              clear hz1
              generalize H1 = H at hP hS ⊢
              replace hP : va_P (dC, dI) vwCl (([((ax 13), .inr (2, [.ref (ax 11), .ref (ax 14), .int w_71, .int w_50, .int w_51, .int xRt, .int w_52, .int w_53, .int w_54])), ((ax 11), .inr (5, [.ref (ax 12), .int xTz])), ((ax 12), .inl (cA 0, 200, .inl gB)), ((ax 14), .inl (cA 4, 200, .inr (.inr (.inr (.inr w_72)))))] : va_W) ++ va_pl ((w_L_8 ++ w_56) ++ w_73) fm_77) H := hP
              replace hD : va_D A (([((ax 13), .inr (2, [.ref (ax 11), .ref (ax 14), .int w_71, .int w_50, .int w_51, .int xRt, .int w_52, .int w_53, .int w_54])), ((ax 11), .inr (5, [.ref (ax 12), .int xTz])), ((ax 12), .inl (cA 0, 200, .inl gB)), ((ax 14), .inl (cA 4, 200, .inr (.inr (.inr (.inr w_72)))))] : va_W) ++ va_pl ((w_L_8 ++ w_56) ++ w_73) fm_77) := hD
              obtain ⟨x_78, ex_78⟩ : ∃ y : Int32, y = i3 + 1 := ⟨_, rfl⟩
              have dx_78 : x_78.toInt = i3.toInt + 1 := by rw [ex_78]; exact jI_add rfl (by decide) (by omega) (by omega)
              refine lv_iinc (v := x_78) (lv' := [(3, .int x_78), (2, .int r_46), (4, .int 12), (0, .ref (ax 13)), (1, .int dp)]) hx hb dX2_readTerm_74 hl (k := 2) rfl (by rw [ex_78]; rfl) (by decide) rfl (fun ls hl => ?_)
              refine lv_goto (tgt := 8) hx hb dX2_readTerm_77 (by decide) ?_
              exact ih_8 x_78 r_46 w_71 w_50 w_51 w_52 w_53 w_54 w_72 ((w_L_8 ++ w_56) ++ w_73) fm_77 _ _ ls (by omega) (by omega) (by omega) iv_75 iv_59 iv_60 (by omega) (tk_62) (sq_fm_77) (by omega) (lp_back hv9_8 (by omega) (Or.inl (tw_29.mp dc_30)) (by omega) ad_45.1 ad_45.2 rs_64) (hP.part (cx := [((ax 13), .inr (2, [.ref (ax 11), .ref (ax 14), .int w_71, .int w_50, .int w_51, .int xRt, .int w_52, .int w_53, .int w_54])), ((ax 11), .inr (5, [.ref (ax 12), .int xTz])), ((ax 12), .inl (cA 0, 200, .inl gB)), ((ax 14), .inl (cA 4, 200, .inr (.inr (.inr (.inr w_72)))))]) [0, 1, 2, 3] rfl) (hD.part (cx := [((ax 13), .inr (2, [.ref (ax 11), .ref (ax 14), .int w_71, .int w_50, .int w_51, .int xRt, .int w_52, .int w_53, .int w_54])), ((ax 11), .inr (5, [.ref (ax 12), .int xTz])), ((ax 12), .inl (cA 0, 200, .inl gB)), ((ax 14), .inl (cA 4, 200, .inr (.inr (.inr (.inr w_72)))))]) [0, 1, 2, 3] (by decide) rfl) hS (lv_sub hl [0, 1, 3, 4] rfl)
            · have dc_36 : ¬ r_31.toInt = 0 := jI_ne c_36 rfl (by decide)
              refine lv_bipush (v := 11) hx hb dX2_readTerm_46 (by decide) ?_
              refine lv_goto (tgt := 53) hx hb dX2_readTerm_48 (by decide) ?_
              refine lv_istore (lv' := [(4, .int 11), (3, .int i3), (2, .int so2), (0, .ref (ax 13)), (1, .int dp)]) hx hb dX2_readTerm_53 hl (by decide) rfl (fun ls hl => ?_)
              refine lv_aload_n hx hb dX2_readTerm_55 rfl (lv_at hl 3 rfl) ?_
              obtain ⟨hPc, hDc, hFc, hCc⟩ := va_pre (ws' := [((ax 13), .inr (2, [.ref (ax 11), .ref (ax 14), .int w_xSz_8, .int w_xPl_8, .int w_xBe_8, .int xRt, .int w_xRf_8, .int w_xRd_8, .int w_xLk_8])), ((ax 11), .inr (5, [.ref (ax 12), .int xTz])), ((ax 12), .inl (cA 0, 200, .inl gB))]) hP hD hS hA [1, 2, 3] (by decide) rfl
              refine va_callv (va_runV (As := []) (rest := []) ⟨hx, hb, hml, hown, hts⟩ (k_X2_advance l dC dI cA H.size ax w_xSz_8 w_xPl_8 w_xBe_8 xRt w_xRf_8 w_xRd_8 w_xLk_8 xTz gB hv2_8 hv3_8 hv4_8 i_xRt i_xTz i_gB (by omega)) (cwV 0 hts gX2_readTerm_X2_advance rfl rfl rfl (by decide +kernel) ⟨(show 1 + 1 ≤ FR + 9 from fl_b (F := FR) (a := 1 + 1) (c := 9) (by decide)), (show 8 + (3 + 11) + 23 ≤ LO + 196 from fl_b (F := LO) (a := 8 + (3 + 11) + 23) (c := 196) (by decide))⟩) ⟨fun a U g mk q => by obtain ⟨q0, q1, qP, qK, qD, qN⟩ := q; exact ⟨q0, q1, qP, va_K.moved (u := U) (U := U.calling g mk a) (Vm.Alike.refl U.vm) qK, qD, qN.same rfl⟩, va_recv hK hPc (ci := 2) (q0 := 0) rfl rfl, fun U hU hW => ⟨rfl, by rw [hU], by rw [hU]; exact hPc, va_K.moved hW.alike hK, hDc.weaken (fun _ _ _ _ => trivial), hN.warm hW⟩⟩ rfl rfl hl.1 rfl (lv_room (Nat.le_of_ble_eq_true rfl)) dX2_readTerm_56 ⟨(show (w_xSz_8.toInt - xSz.toInt).toNat + 0 ≤ (200 - xSz.toInt).toNat by omega), (show (4 * (w_xSz_8.toInt - xSz.toInt).toNat) + 0 ≤ (4 * (200 - xSz.toInt).toNat) by omega)⟩) hS (fun q _ h => hFc q h) hFc (fun u_79 t H1 locs ht hvm hw_80 hB hz1 hk1 hS => ?_)
              obtain ⟨w_81, w_82⟩ := u_79
              try dsimp only at hw_80 hB
              obtain ⟨iv_83, iv_84, po_85, tk_86, ad_87⟩ := hw_80
              obtain ⟨hP1, hD1⟩ := hB
              rw [ht] at hP1
              obtain ⟨hP, hD⟩ := va_joinQ (wr := [((ax 14), .inl (cA 4, 200, .inr (.inr (.inr (.inr w_gSt_8)))))]) (w1 := [((ax 13), .inr (2, [.ref (ax 11), .ref (ax 14), .int w_xSz_8, .int w_81, .int w_82, .int xRt, .int w_xRf_8, .int w_xRd_8, .int w_xLk_8])), ((ax 11), .inr (5, [.ref (ax 12), .int xTz])), ((ax 12), .inl (cA 0, 200, .inl gB))]) hP hD [1, 2, 3] [0] rfl rfl (by decide) (by decide) hk1 hFc hP1 hD1
              clear hz1
              generalize H1 = H at hP hS ⊢
              replace hP : va_P (dC, dI) vwCl (([((ax 14), .inl (cA 4, 200, .inr (.inr (.inr (.inr w_gSt_8))))), ((ax 13), .inr (2, [.ref (ax 11), .ref (ax 14), .int w_xSz_8, .int w_81, .int w_82, .int xRt, .int w_xRf_8, .int w_xRd_8, .int w_xLk_8])), ((ax 11), .inr (5, [.ref (ax 12), .int xTz])), ((ax 12), .inl (cA 0, 200, .inl gB))] : va_W) ++ va_pl w_L_8 w_pf_8) H := hP
              replace hD : va_D A (([((ax 14), .inl (cA 4, 200, .inr (.inr (.inr (.inr w_gSt_8))))), ((ax 13), .inr (2, [.ref (ax 11), .ref (ax 14), .int w_xSz_8, .int w_81, .int w_82, .int xRt, .int w_xRf_8, .int w_xRd_8, .int w_xLk_8])), ((ax 11), .inr (5, [.ref (ax 12), .int xTz])), ((ax 12), .inl (cA 0, 200, .inl gB))] : va_W) ++ va_pl w_L_8 w_pf_8) := hD
              refine lv_aload_n hx hb dX2_readTerm_59 rfl (lv_at hl 3 rfl) ?_
              refine lv_iload_n hx hb dX2_readTerm_60 rfl (lv_at hl 4 rfl) ?_
              obtain ⟨hPc, hDc, hFc, hCc⟩ := va_pre (ws' := [((ax 13), .inr (2, [.ref (ax 11), .ref (ax 14), .int w_xSz_8, .int w_81, .int w_82, .int xRt, .int w_xRf_8, .int w_xRd_8, .int w_xLk_8])), ((ax 11), .inr (5, [.ref (ax 12), .int xTz])), ((ax 12), .inl (cA 0, 200, .inl gB)), ((ax 14), .inl (cA 4, 200, .inr (.inr (.inr (.inr w_gSt_8)))))]) hP hD hS hA [1, 2, 3, 0] (by decide) rfl
              refine W.know (fun hkn1 hkn2 => ?_)
              have hS0 := hS.1
              refine va_calli (va_runV (As := [.int dp]) (rest := []) ⟨hx, hb, hml, hown, hts⟩ (k_X2_readPart l dC dI cA H.size ax w_xSz_8 w_81 w_82 xRt w_xRf_8 w_xRd_8 w_xLk_8 xTz gB w_gSt_8 dp adK adV rl FR LO hv2_8 iv_83 iv_84 i_xRt i_xTz i_gB (by omega) tk_86 (by omega) hdp hop ih) (cwV 1 hts gX2_readTerm_X2_readPart rfl rfl rfl (by decide +kernel) ⟨(show (FR + 8) + 1 ≤ FR + 9 from fl_a (F := FR) (a := 8) (b := 1) (c := 9) (by decide)), (show 8 + (2 + 11) + (LO + 175) ≤ LO + 196 from fl_c (F := LO) (a := 8 + (2 + 11)) (b := 175) (c := 196) (by decide))⟩) ⟨fun a U g mk q => by obtain ⟨q0, q1, qP, qK, qD, qN⟩ := q; exact ⟨q0, q1, qP, va_K.moved (u := U) (U := U.calling g mk a) (Vm.Alike.refl U.vm) qK, qD, qN.same rfl rfl⟩, va_recv hK hPc (ci := 2) (q0 := 0) rfl rfl, fun U hU hW => ⟨rfl, by rw [hU], by rw [hU]; exact hPc, va_K.moved hW.alike hK, hDc.weaken (fun _ _ _ _ => trivial), hSt.call hS hU hW hFc⟩⟩ rfl rfl hl.1 rfl (lv_room (Nat.le_of_ble_eq_true rfl)) dX2_readTerm_61 ⟨(show (w_xSz_8.toInt - xSz.toInt).toNat + ((200 - w_xSz_8.toInt).toNat) ≤ (200 - xSz.toInt).toNat by omega), (show (4 * (w_xSz_8.toInt - xSz.toInt).toNat) + (4 * (200 - w_xSz_8.toInt).toNat) ≤ (4 * (200 - xSz.toInt).toNat) by omega)⟩) hS (fun q _ h => hFc q h) hFc (fun r_88 u_89 t H1 locs ht hvm hw_90 hB hz1 hk1 hS => ?_)
              obtain ⟨w_91, w_92, w_93, w_94, w_95, w_96, w_97, w_98, w_99⟩ := u_89
              try dsimp only at hw_90 hB
              obtain ⟨iv_100, iv_101, iv_102, po_103, tk_104, st_105, rs_106, rf_107⟩ := hw_90
              obtain ⟨hP1, hD1, hX1⟩ := hB
              rw [ht] at hP1 hX1
              obtain ⟨hP, hD⟩ := va_joinQ (wr := []) (w1 := ([((ax 13), .inr (2, [.ref (ax 11), .ref (ax 14), .int w_91, .int w_92, .int w_93, .int xRt, .int w_94, .int w_95, .int w_96])), ((ax 11), .inr (5, [.ref (ax 12), .int xTz])), ((ax 12), .inl (cA 0, 200, .inl gB)), ((ax 14), .inl (cA 4, 200, .inr (.inr (.inr (.inr w_97)))))] : va_W) ++ va_pl w_98 w_99) hP hD [1, 2, 3, 0] [] rfl rfl (by decide) (by decide) hk1 hFc hP1 hD1
              obtain ⟨fm_108, hma_fm_108, hmb_fm_108, hP, hD⟩ := pl_merge hP hD
              have sq_fm_108 := stq_tr hv7_8 st_105 hma_fm_108 hmb_fm_108
              have hle_fm_108 := sq_fm_108.1
              have hlf_fm_108 := st_105.1
              refine W.tight (cells' := (w_91.toInt - xSz.toInt).toNat) (slots' := 4 * (w_91.toInt - xSz.toInt).toNat) (by omega) (by have hch := ssum_chain hS0 hz1 (fun q h1 h2 => hk1 q h2 (na_of (fun k e hk => by rcases mem4 hk with h | h | h | h <;> omega) h1 h2)); omega) ?_
              clear hz1
              generalize H1 = H at hP hS ⊢
              replace hP : va_P (dC, dI) vwCl (([((ax 13), .inr (2, [.ref (ax 11), .ref (ax 14), .int w_91, .int w_92, .int w_93, .int xRt, .int w_94, .int w_95, .int w_96])), ((ax 11), .inr (5, [.ref (ax 12), .int xTz])), ((ax 12), .inl (cA 0, 200, .inl gB)), ((ax 14), .inl (cA 4, 200, .inr (.inr (.inr (.inr w_97)))))] : va_W) ++ va_pl (w_L_8 ++ w_98) fm_108) H := hP
              replace hD : va_D A (([((ax 13), .inr (2, [.ref (ax 11), .ref (ax 14), .int w_91, .int w_92, .int w_93, .int xRt, .int w_94, .int w_95, .int w_96])), ((ax 11), .inr (5, [.ref (ax 12), .int xTz])), ((ax 12), .inl (cA 0, 200, .inl gB)), ((ax 14), .inl (cA 4, 200, .inr (.inr (.inr (.inr w_97)))))] : va_W) ++ va_pl (w_L_8 ++ w_98) fm_108) := hD
              refine lv_istore_n (lv' := [(2, .int r_88), (4, .int 11), (3, .int i3), (0, .ref (ax 13)), (1, .int dp)]) hx hb dX2_readTerm_64 rfl hl (by decide) rfl (fun ls hl => ?_)
              refine lv_aload_n hx hb dX2_readTerm_65 rfl (lv_at hl 3 rfl) ?_
              refine lv_iload hx hb dX2_readTerm_66 (lv_at hl 1 rfl) ?_
              refine lv_iconst (v := (-1)) hx hb dX2_readTerm_68 (by decide) ?_
              refine lv_iconst (v := (-1)) hx hb dX2_readTerm_69 (by decide) ?_
              refine lv_iconst (v := (-1)) hx hb dX2_readTerm_70 (by decide) ?_
              have hk_109 : (11 : Int32).toInt = 11 := by decide
              have hk_110 : ((-1) : Int32).toInt = (-1) := by decide
              obtain ⟨hPc, hDc, hFc, hCc⟩ := va_pre (ws' := [((ax 13), .inr (2, [.ref (ax 11), .ref (ax 14), .int w_91, .int w_92, .int w_93, .int xRt, .int w_94, .int w_95, .int w_96])), ((ax 11), .inr (5, [.ref (ax 12), .int xTz])), ((ax 12), .inl (cA 0, 200, .inl gB)), ((ax 14), .inl (cA 4, 200, .inr (.inr (.inr (.inr w_97)))))]) hP hD hS hA [0, 1, 2, 3] (by decide) rfl
              refine W.know (fun hkn1 hkn2 => ?_)
              have hS0 := hS.1
              refine va_callv (va_runV (As := [.int 11, .int (-1), .int (-1), .int (-1)]) (rest := []) ⟨hx, hb, hml, hown, hts⟩ (k_X2_emit l dC dI cA H.size ax w_91 w_92 w_93 xRt w_94 w_95 w_96 xTz gB w_97 11 (-1) (-1) (-1) iv_100 iv_101 iv_102 i_xRt i_xTz i_gB (by omega)) (cwV 4 hts gX2_readTerm_X2_emit rfl rfl rfl (by decide +kernel) ⟨(show 2 + 1 ≤ FR + 9 from fl_b (F := FR) (a := 2 + 1) (c := 9) (by decide)), (show 8 + (5 + 11) + 44 ≤ LO + 196 from fl_b (F := LO) (a := 8 + (5 + 11) + 44) (c := 196) (by decide))⟩) ⟨fun a U g mk q => by obtain ⟨q0, q1, qP, qK, qD, qN⟩ := q; exact ⟨q0, q1, qP, va_K.moved (u := U) (U := U.calling g mk a) (Vm.Alike.refl U.vm) qK, qD, qN.same rfl⟩, va_recv hK hPc (ci := 2) (q0 := 0) rfl rfl, fun U hU hW => ⟨rfl, by rw [hU], by rw [hU]; exact hPc, va_K.moved hW.alike hK, hDc.weaken (fun _ _ _ _ => trivial), hN.warm hW⟩⟩ rfl rfl hl.1 rfl (lv_room (Nat.le_of_ble_eq_true rfl)) dX2_readTerm_71 ⟨(show (w_91.toInt - xSz.toInt).toNat + ((200 - w_91.toInt).toNat) ≤ (200 - xSz.toInt).toNat by omega), (show (4 * (w_91.toInt - xSz.toInt).toNat) + (4 * (200 - w_91.toInt).toNat) ≤ (4 * (200 - xSz.toInt).toNat) by omega)⟩) hS (fun q _ h => hFc q h) hFc (fun u_111 t H1 locs ht hvm hw_112 hB hz1 hk1 hS => ?_)
              obtain ⟨w_113, w_114, w_115, w_116⟩ := u_111
              try dsimp only at hw_112 hB
              obtain ⟨iv_117, st_118⟩ := hw_112
              try simp only [hk_109, hk_110] at st_118
              obtain ⟨hP1, hD1, hX1⟩ := hB
              rw [ht] at hP1 hX1
              obtain ⟨hP, hD⟩ := va_joinQ (wr := []) (w1 := ([((ax 13), .inr (2, [.ref (ax 11), .ref (ax 14), .int w_113, .int w_92, .int w_93, .int xRt, .int w_94, .int w_95, .int w_96])), ((ax 11), .inr (5, [.ref (ax 12), .int xTz])), ((ax 12), .inl (cA 0, 200, .inl gB)), ((ax 14), .inl (cA 4, 200, .inr (.inr (.inr (.inr w_114)))))] : va_W) ++ va_pl w_115 w_116) hP hD [0, 1, 2, 3] [] rfl rfl (by decide) (by decide) hk1 hFc hP1 hD1
              obtain ⟨fm_119, hma_fm_119, hmb_fm_119, hP, hD⟩ := pl_merge hP hD
              have sq_fm_119 := stq_tr sq_fm_108 st_118 hma_fm_119 hmb_fm_119
              have hle_fm_119 := sq_fm_119.1
              have hlf_fm_119 := st_118.1
              refine W.tight (cells' := (w_113.toInt - xSz.toInt).toNat) (slots' := 4 * (w_113.toInt - xSz.toInt).toNat) (by omega) (by have hch := ssum_chain hS0 hz1 (fun q h1 h2 => hk1 q h2 (na_of (fun k e hk => by rcases mem4 hk with h | h | h | h <;> omega) h1 h2)); omega) ?_
              clear hz1
              generalize H1 = H at hP hS ⊢
              replace hP : va_P (dC, dI) vwCl (([((ax 13), .inr (2, [.ref (ax 11), .ref (ax 14), .int w_113, .int w_92, .int w_93, .int xRt, .int w_94, .int w_95, .int w_96])), ((ax 11), .inr (5, [.ref (ax 12), .int xTz])), ((ax 12), .inl (cA 0, 200, .inl gB)), ((ax 14), .inl (cA 4, 200, .inr (.inr (.inr (.inr w_114)))))] : va_W) ++ va_pl ((w_L_8 ++ w_98) ++ w_115) fm_119) H := hP
              replace hD : va_D A (([((ax 13), .inr (2, [.ref (ax 11), .ref (ax 14), .int w_113, .int w_92, .int w_93, .int xRt, .int w_94, .int w_95, .int w_96])), ((ax 11), .inr (5, [.ref (ax 12), .int xTz])), ((ax 12), .inl (cA 0, 200, .inl gB)), ((ax 14), .inl (cA 4, 200, .inr (.inr (.inr (.inr w_114)))))] : va_W) ++ va_pl ((w_L_8 ++ w_98) ++ w_115) fm_119) := hD
              obtain ⟨x_120, ex_120⟩ : ∃ y : Int32, y = i3 + 1 := ⟨_, rfl⟩
              have dx_120 : x_120.toInt = i3.toInt + 1 := by rw [ex_120]; exact jI_add rfl (by decide) (by omega) (by omega)
              refine lv_iinc (v := x_120) (lv' := [(3, .int x_120), (2, .int r_88), (4, .int 11), (0, .ref (ax 13)), (1, .int dp)]) hx hb dX2_readTerm_74 hl (k := 2) rfl (by rw [ex_120]; rfl) (by decide) rfl (fun ls hl => ?_)
              refine lv_goto (tgt := 8) hx hb dX2_readTerm_77 (by decide) ?_
              exact ih_8 x_120 r_88 w_113 w_92 w_93 w_94 w_95 w_96 w_114 ((w_L_8 ++ w_98) ++ w_115) fm_119 _ _ ls (by omega) (by omega) (by omega) iv_117 iv_101 iv_102 (by omega) (tk_104) (sq_fm_119) (by omega) (lp_back hv9_8 (by omega) (Or.inl (tw_29.mp dc_30)) (by omega) ad_87.1 ad_87.2 rs_106) (hP.part (cx := [((ax 13), .inr (2, [.ref (ax 11), .ref (ax 14), .int w_113, .int w_92, .int w_93, .int xRt, .int w_94, .int w_95, .int w_96])), ((ax 11), .inr (5, [.ref (ax 12), .int xTz])), ((ax 12), .inl (cA 0, 200, .inl gB)), ((ax 14), .inl (cA 4, 200, .inr (.inr (.inr (.inr w_114)))))]) [0, 1, 2, 3] rfl) (hD.part (cx := [((ax 13), .inr (2, [.ref (ax 11), .ref (ax 14), .int w_113, .int w_92, .int w_93, .int xRt, .int w_94, .int w_95, .int w_96])), ((ax 11), .inr (5, [.ref (ax 12), .int xTz])), ((ax 12), .inl (cA 0, 200, .inl gB)), ((ax 14), .inl (cA 4, 200, .inr (.inr (.inr (.inr w_114)))))]) [0, 1, 2, 3] (by decide) rfl) hS (lv_sub hl [0, 1, 3, 4] rfl)
          · have dc_30 : r_25.toInt = 0 := jI_eq c_30 rfl (by decide)
            refine lv_aload_n hx hb dX2_readTerm_28 rfl (lv_at hl 2 rfl) ?_
            refine va_ldcS hx hb hown (show vk_R RX2 78 "/" (adK 3) s from hSt.2.1 3 (by decide)) dX2_readTerm_29 ?_
            obtain ⟨hPc, hDc, hFc, hCc⟩ := va_pre (ws' := [((ax 13), .inr (2, [.ref (ax 11), .ref (ax 14), .int w_xSz_8, .int w_xPl_8, .int w_xBe_8, .int xRt, .int w_xRf_8, .int w_xRd_8, .int w_xLk_8])), ((ax 11), .inr (5, [.ref (ax 12), .int xTz])), ((ax 12), .inl (cA 0, 200, .inl gB))]) hP hD hS hA [1, 2, 3] (by decide) rfl
            refine va_calli (va_runV (As := [.ref (adK 3)]) (rest := []) ⟨hx, hb, hml, hown, hts⟩ (k_X2_isAt l dC dI cA H.size ax w_xSz_8 w_xPl_8 w_xBe_8 xRt w_xRf_8 w_xRd_8 w_xLk_8 xTz gB adK adV 3 hv2_8 hv3_8 hv4_8 i_xRt i_xTz i_gB (by omega) hv5_8) (cwV 1 hts gX2_readTerm_X2_isAt rfl rfl rfl (by decide +kernel) ⟨(show 4 + 1 ≤ FR + 9 from fl_b (F := FR) (a := 4 + 1) (c := 9) (by decide)), (show 8 + (4 + 11) + 85 ≤ LO + 196 from fl_b (F := LO) (a := 8 + (4 + 11) + 85) (c := 196) (by decide))⟩) ⟨fun a U g mk q => by obtain ⟨q0, q1, qP, qK, qD, qN⟩ := q; exact ⟨q0, q1, qP, va_K.moved (u := U) (U := U.calling g mk a) (Vm.Alike.refl U.vm) qK, qD, qN.same rfl rfl⟩, va_recv hK hPc (ci := 2) (q0 := 0) rfl rfl, fun U hU hW => ⟨rfl, by rw [hU], by rw [hU]; exact hPc, va_K.moved hW.alike hK, hDc.weaken (fun _ _ _ _ => trivial), hSt.call hS hU hW hFc⟩⟩ rfl rfl hl.1 rfl (lv_room (Nat.le_of_ble_eq_true rfl)) dX2_readTerm_31 ⟨(show (w_xSz_8.toInt - xSz.toInt).toNat + 0 ≤ (200 - xSz.toInt).toNat by omega), (show (4 * (w_xSz_8.toInt - xSz.toInt).toNat) + 0 ≤ (4 * (200 - xSz.toInt).toNat) by omega)⟩) hS (fun q _ h => hFc q h) hFc (fun r_121 u_122 t H1 locs ht hvm hw_123 hB hz1 hk1 hS => ?_)
            try dsimp only at hw_123 hB
            obtain ⟨po_124, tw_125⟩ := hw_123
            obtain ⟨hP1, hD1⟩ := hB
            rw [ht] at hP1
            obtain ⟨hP, hD⟩ := va_joinQ (wr := [((ax 14), .inl (cA 4, 200, .inr (.inr (.inr (.inr w_gSt_8)))))]) (w1 := [((ax 13), .inr (2, [.ref (ax 11), .ref (ax 14), .int w_xSz_8, .int w_xPl_8, .int w_xBe_8, .int xRt, .int w_xRf_8, .int w_xRd_8, .int w_xLk_8])), ((ax 11), .inr (5, [.ref (ax 12), .int xTz])), ((ax 12), .inl (cA 0, 200, .inl gB))]) hP hD [1, 2, 3] [0] rfl rfl (by decide) (by decide) hk1 hFc hP1 hD1
            clear hz1
            rw [scs_3] at tw_125
            generalize H1 = H at hP hS ⊢
            replace hP : va_P (dC, dI) vwCl (([((ax 14), .inl (cA 4, 200, .inr (.inr (.inr (.inr w_gSt_8))))), ((ax 13), .inr (2, [.ref (ax 11), .ref (ax 14), .int w_xSz_8, .int w_xPl_8, .int w_xBe_8, .int xRt, .int w_xRf_8, .int w_xRd_8, .int w_xLk_8])), ((ax 11), .inr (5, [.ref (ax 12), .int xTz])), ((ax 12), .inl (cA 0, 200, .inl gB))] : va_W) ++ va_pl w_L_8 w_pf_8) H := hP
            replace hD : va_D A (([((ax 14), .inl (cA 4, 200, .inr (.inr (.inr (.inr w_gSt_8))))), ((ax 13), .inr (2, [.ref (ax 11), .ref (ax 14), .int w_xSz_8, .int w_xPl_8, .int w_xBe_8, .int xRt, .int w_xRf_8, .int w_xRd_8, .int w_xLk_8])), ((ax 11), .inr (5, [.ref (ax 12), .int xTz])), ((ax 12), .inl (cA 0, 200, .inl gB))] : va_W) ++ va_pl w_L_8 w_pf_8) := hD
            refine lv_if_eq (tgt := 80) hx hb dX2_readTerm_34 (by decide) (fun c_126 => ?_) (fun c_126 => ?_)
            · have dc_126 : r_121.toInt = 0 := jI_eq c_126 rfl (by decide)
              refine lv_iload_n hx hb dX2_readTerm_80 rfl (lv_at hl 1 rfl) ?_
              have hP9 := hP.part (cx := [((ax 13), .inr (2, [.ref (ax 11), .ref (ax 14), .int w_xSz_8, .int w_xPl_8, .int w_xBe_8, .int xRt, .int w_xRf_8, .int w_xRd_8, .int w_xLk_8])), ((ax 11), .inr (5, [.ref (ax 12), .int xTz])), ((ax 12), .inl (cA 0, 200, .inl gB)), ((ax 14), .inl (cA 4, 200, .inr (.inr (.inr (.inr w_gSt_8)))))]) [1, 2, 3, 0] rfl
              have hD9 := hD.part (cx := [((ax 13), .inr (2, [.ref (ax 11), .ref (ax 14), .int w_xSz_8, .int w_xPl_8, .int w_xBe_8, .int xRt, .int w_xRf_8, .int w_xRd_8, .int w_xLk_8])), ((ax 11), .inr (5, [.ref (ax 12), .int xTz])), ((ax 12), .inl (cA 0, 200, .inl gB)), ((ax 14), .inl (cA 4, 200, .inr (.inr (.inr (.inr w_gSt_8)))))]) [1, 2, 3, 0] (by decide) rfl
              refine W.know (fun hkn1 hkn2 => ?_)
              have hBx : H.size ≤ s.heap.size + (w_xSz_8.toInt - xSz.toInt).toNat ∧ ssum s.heap.size H ≤ 4 * (w_xSz_8.toInt - xSz.toInt).toNat := ⟨by omega, by omega⟩
              subst hQe
              refine W.widen (k := (200 - xSz.toInt).toNat) (n := (4 * (200 - xSz.toInt).toNat)) (by omega) (by omega) ?_
              have hans : (so2 : Int32).toInt = so2.toInt := rfl
              have hpost : (0 ≤ w_xSz_8.toInt ∧ w_xSz_8.toInt ≤ 200) ∧ (0 ≤ w_xPl_8.toInt ∧ w_xPl_8.toInt ≤ 200) ∧ (0 ≤ w_xBe_8.toInt ∧ w_xBe_8.toInt ≤ 200) ∧ (w_xPl_8.toInt ≤ w_xBe_8.toInt ∧ w_xBe_8.toInt ≤ xTz.toInt ∧ (0 ≤ (so2 : Int32).toInt ∧ (so2 : Int32).toInt ≤ 1)) ∧ (tokOK gB w_xPl_8 w_xBe_8 xTz) ∧ (stq xSz.toInt w_xSz_8.toInt gSt w_gSt_8 w_L_8 w_pf_8) ∧ (rs w_xRf_8 w_xPl_8 w_xBe_8 w_xLk_8 w_xRd_8 = pterm (tpe gB xTz) xTz.toInt xRt.toInt (pB (tpe gB xTz) xTz.toInt xRt.toInt (8 - dp.toInt).toNat) xPl.toInt xBe.toInt xLk.toInt xRd) ∧ ((¬ (so2 : Int32).toInt = 0 → w_xRf_8.toInt = (-1)) ∧ ((so2 : Int32).toInt = 0 → 0 ≤ w_xRf_8.toInt)) := ⟨hv2_8, hv3_8, hv4_8, by omega, hv6_8, hv7_8, lp_end hv9_8 (Or.inr (Or.inl (fun h => h.elim (fun h => absurd (tw_29.mpr h) (fun q => q dc_30)) (fun h => absurd (tw_125.mpr h) (fun q => q dc_126))))), by omega⟩
              exact W.zret (v := so2) hx hb hr (jnarZ (by omega)) (fun t ht hW => ⟨⟨so2, (w_xSz_8, w_xPl_8, w_xBe_8, w_xRf_8, w_xRd_8, w_xLk_8, w_gSt_8, w_L_8, w_pf_8), rfl, hpost, by rw [ht]; exact hP9, hD9, by rw [ht]; exact hBx⟩, hS.F ht⟩) hS.2.2 dX2_readTerm_81
            · have dc_126 : ¬ r_121.toInt = 0 := jI_ne c_126 rfl (by decide)
              refine lv_aload_n hx hb dX2_readTerm_37 rfl (lv_at hl 2 rfl) ?_
              refine va_ldcS hx hb hown (show vk_R RX2 76 "*" (adK 2) s from hSt.2.1 2 (by decide)) dX2_readTerm_38 ?_
              obtain ⟨hPc, hDc, hFc, hCc⟩ := va_pre (ws' := [((ax 13), .inr (2, [.ref (ax 11), .ref (ax 14), .int w_xSz_8, .int w_xPl_8, .int w_xBe_8, .int xRt, .int w_xRf_8, .int w_xRd_8, .int w_xLk_8])), ((ax 11), .inr (5, [.ref (ax 12), .int xTz])), ((ax 12), .inl (cA 0, 200, .inl gB))]) hP hD hS hA [1, 2, 3] (by decide) rfl
              refine va_calli (va_runV (As := [.ref (adK 2)]) (rest := []) ⟨hx, hb, hml, hown, hts⟩ (k_X2_isAt l dC dI cA H.size ax w_xSz_8 w_xPl_8 w_xBe_8 xRt w_xRf_8 w_xRd_8 w_xLk_8 xTz gB adK adV 2 hv2_8 hv3_8 hv4_8 i_xRt i_xTz i_gB (by omega) hv5_8) (cwV 1 hts gX2_readTerm_X2_isAt rfl rfl rfl (by decide +kernel) ⟨(show 4 + 1 ≤ FR + 9 from fl_b (F := FR) (a := 4 + 1) (c := 9) (by decide)), (show 8 + (4 + 11) + 85 ≤ LO + 196 from fl_b (F := LO) (a := 8 + (4 + 11) + 85) (c := 196) (by decide))⟩) ⟨fun a U g mk q => by obtain ⟨q0, q1, qP, qK, qD, qN⟩ := q; exact ⟨q0, q1, qP, va_K.moved (u := U) (U := U.calling g mk a) (Vm.Alike.refl U.vm) qK, qD, qN.same rfl rfl⟩, va_recv hK hPc (ci := 2) (q0 := 0) rfl rfl, fun U hU hW => ⟨rfl, by rw [hU], by rw [hU]; exact hPc, va_K.moved hW.alike hK, hDc.weaken (fun _ _ _ _ => trivial), hSt.call hS hU hW hFc⟩⟩ rfl rfl hl.1 rfl (lv_room (Nat.le_of_ble_eq_true rfl)) dX2_readTerm_40 ⟨(show (w_xSz_8.toInt - xSz.toInt).toNat + 0 ≤ (200 - xSz.toInt).toNat by omega), (show (4 * (w_xSz_8.toInt - xSz.toInt).toNat) + 0 ≤ (4 * (200 - xSz.toInt).toNat) by omega)⟩) hS (fun q _ h => hFc q h) hFc (fun r_127 u_128 t H1 locs ht hvm hw_129 hB hz1 hk1 hS => ?_)
              try dsimp only at hw_129 hB
              obtain ⟨po_130, tw_131⟩ := hw_129
              obtain ⟨hP1, hD1⟩ := hB
              rw [ht] at hP1
              obtain ⟨hP, hD⟩ := va_joinQ (wr := [((ax 14), .inl (cA 4, 200, .inr (.inr (.inr (.inr w_gSt_8)))))]) (w1 := [((ax 13), .inr (2, [.ref (ax 11), .ref (ax 14), .int w_xSz_8, .int w_xPl_8, .int w_xBe_8, .int xRt, .int w_xRf_8, .int w_xRd_8, .int w_xLk_8])), ((ax 11), .inr (5, [.ref (ax 12), .int xTz])), ((ax 12), .inl (cA 0, 200, .inl gB))]) hP hD [1, 2, 3] [0] rfl rfl (by decide) (by decide) hk1 hFc hP1 hD1
              clear hz1
              rw [scs_2] at tw_131
              generalize H1 = H at hP hS ⊢
              replace hP : va_P (dC, dI) vwCl (([((ax 14), .inl (cA 4, 200, .inr (.inr (.inr (.inr w_gSt_8))))), ((ax 13), .inr (2, [.ref (ax 11), .ref (ax 14), .int w_xSz_8, .int w_xPl_8, .int w_xBe_8, .int xRt, .int w_xRf_8, .int w_xRd_8, .int w_xLk_8])), ((ax 11), .inr (5, [.ref (ax 12), .int xTz])), ((ax 12), .inl (cA 0, 200, .inl gB))] : va_W) ++ va_pl w_L_8 w_pf_8) H := hP
              replace hD : va_D A (([((ax 14), .inl (cA 4, 200, .inr (.inr (.inr (.inr w_gSt_8))))), ((ax 13), .inr (2, [.ref (ax 11), .ref (ax 14), .int w_xSz_8, .int w_xPl_8, .int w_xBe_8, .int xRt, .int w_xRf_8, .int w_xRd_8, .int w_xLk_8])), ((ax 11), .inr (5, [.ref (ax 12), .int xTz])), ((ax 12), .inl (cA 0, 200, .inl gB))] : va_W) ++ va_pl w_L_8 w_pf_8) := hD
              refine lv_if_eq (tgt := 51) hx hb dX2_readTerm_43 (by decide) (fun c_132 => ?_) (fun c_132 => ?_)
              · have dc_132 : r_127.toInt = 0 := jI_eq c_132 rfl (by decide)
                refine lv_bipush (v := 12) hx hb dX2_readTerm_51 (by decide) ?_
                refine lv_istore (lv' := [(4, .int 12), (3, .int i3), (2, .int so2), (0, .ref (ax 13)), (1, .int dp)]) hx hb dX2_readTerm_53 hl (by decide) rfl (fun ls hl => ?_)
                refine lv_aload_n hx hb dX2_readTerm_55 rfl (lv_at hl 3 rfl) ?_
                obtain ⟨hPc, hDc, hFc, hCc⟩ := va_pre (ws' := [((ax 13), .inr (2, [.ref (ax 11), .ref (ax 14), .int w_xSz_8, .int w_xPl_8, .int w_xBe_8, .int xRt, .int w_xRf_8, .int w_xRd_8, .int w_xLk_8])), ((ax 11), .inr (5, [.ref (ax 12), .int xTz])), ((ax 12), .inl (cA 0, 200, .inl gB))]) hP hD hS hA [1, 2, 3] (by decide) rfl
                refine va_callv (va_runV (As := []) (rest := []) ⟨hx, hb, hml, hown, hts⟩ (k_X2_advance l dC dI cA H.size ax w_xSz_8 w_xPl_8 w_xBe_8 xRt w_xRf_8 w_xRd_8 w_xLk_8 xTz gB hv2_8 hv3_8 hv4_8 i_xRt i_xTz i_gB (by omega)) (cwV 0 hts gX2_readTerm_X2_advance rfl rfl rfl (by decide +kernel) ⟨(show 1 + 1 ≤ FR + 9 from fl_b (F := FR) (a := 1 + 1) (c := 9) (by decide)), (show 8 + (3 + 11) + 23 ≤ LO + 196 from fl_b (F := LO) (a := 8 + (3 + 11) + 23) (c := 196) (by decide))⟩) ⟨fun a U g mk q => by obtain ⟨q0, q1, qP, qK, qD, qN⟩ := q; exact ⟨q0, q1, qP, va_K.moved (u := U) (U := U.calling g mk a) (Vm.Alike.refl U.vm) qK, qD, qN.same rfl⟩, va_recv hK hPc (ci := 2) (q0 := 0) rfl rfl, fun U hU hW => ⟨rfl, by rw [hU], by rw [hU]; exact hPc, va_K.moved hW.alike hK, hDc.weaken (fun _ _ _ _ => trivial), hN.warm hW⟩⟩ rfl rfl hl.1 rfl (lv_room (Nat.le_of_ble_eq_true rfl)) dX2_readTerm_56 ⟨(show (w_xSz_8.toInt - xSz.toInt).toNat + 0 ≤ (200 - xSz.toInt).toNat by omega), (show (4 * (w_xSz_8.toInt - xSz.toInt).toNat) + 0 ≤ (4 * (200 - xSz.toInt).toNat) by omega)⟩) hS (fun q _ h => hFc q h) hFc (fun u_133 t H1 locs ht hvm hw_134 hB hz1 hk1 hS => ?_)
                obtain ⟨w_135, w_136⟩ := u_133
                try dsimp only at hw_134 hB
                obtain ⟨iv_137, iv_138, po_139, tk_140, ad_141⟩ := hw_134
                obtain ⟨hP1, hD1⟩ := hB
                rw [ht] at hP1
                obtain ⟨hP, hD⟩ := va_joinQ (wr := [((ax 14), .inl (cA 4, 200, .inr (.inr (.inr (.inr w_gSt_8)))))]) (w1 := [((ax 13), .inr (2, [.ref (ax 11), .ref (ax 14), .int w_xSz_8, .int w_135, .int w_136, .int xRt, .int w_xRf_8, .int w_xRd_8, .int w_xLk_8])), ((ax 11), .inr (5, [.ref (ax 12), .int xTz])), ((ax 12), .inl (cA 0, 200, .inl gB))]) hP hD [1, 2, 3] [0] rfl rfl (by decide) (by decide) hk1 hFc hP1 hD1
                clear hz1
                generalize H1 = H at hP hS ⊢
                replace hP : va_P (dC, dI) vwCl (([((ax 14), .inl (cA 4, 200, .inr (.inr (.inr (.inr w_gSt_8))))), ((ax 13), .inr (2, [.ref (ax 11), .ref (ax 14), .int w_xSz_8, .int w_135, .int w_136, .int xRt, .int w_xRf_8, .int w_xRd_8, .int w_xLk_8])), ((ax 11), .inr (5, [.ref (ax 12), .int xTz])), ((ax 12), .inl (cA 0, 200, .inl gB))] : va_W) ++ va_pl w_L_8 w_pf_8) H := hP
                replace hD : va_D A (([((ax 14), .inl (cA 4, 200, .inr (.inr (.inr (.inr w_gSt_8))))), ((ax 13), .inr (2, [.ref (ax 11), .ref (ax 14), .int w_xSz_8, .int w_135, .int w_136, .int xRt, .int w_xRf_8, .int w_xRd_8, .int w_xLk_8])), ((ax 11), .inr (5, [.ref (ax 12), .int xTz])), ((ax 12), .inl (cA 0, 200, .inl gB))] : va_W) ++ va_pl w_L_8 w_pf_8) := hD
                refine lv_aload_n hx hb dX2_readTerm_59 rfl (lv_at hl 3 rfl) ?_
                refine lv_iload_n hx hb dX2_readTerm_60 rfl (lv_at hl 4 rfl) ?_
                obtain ⟨hPc, hDc, hFc, hCc⟩ := va_pre (ws' := [((ax 13), .inr (2, [.ref (ax 11), .ref (ax 14), .int w_xSz_8, .int w_135, .int w_136, .int xRt, .int w_xRf_8, .int w_xRd_8, .int w_xLk_8])), ((ax 11), .inr (5, [.ref (ax 12), .int xTz])), ((ax 12), .inl (cA 0, 200, .inl gB)), ((ax 14), .inl (cA 4, 200, .inr (.inr (.inr (.inr w_gSt_8)))))]) hP hD hS hA [1, 2, 3, 0] (by decide) rfl
                refine W.know (fun hkn1 hkn2 => ?_)
                have hS0 := hS.1
                refine va_calli (va_runV (As := [.int dp]) (rest := []) ⟨hx, hb, hml, hown, hts⟩ (k_X2_readPart l dC dI cA H.size ax w_xSz_8 w_135 w_136 xRt w_xRf_8 w_xRd_8 w_xLk_8 xTz gB w_gSt_8 dp adK adV rl FR LO hv2_8 iv_137 iv_138 i_xRt i_xTz i_gB (by omega) tk_140 (by omega) hdp hop ih) (cwV 1 hts gX2_readTerm_X2_readPart rfl rfl rfl (by decide +kernel) ⟨(show (FR + 8) + 1 ≤ FR + 9 from fl_a (F := FR) (a := 8) (b := 1) (c := 9) (by decide)), (show 8 + (2 + 11) + (LO + 175) ≤ LO + 196 from fl_c (F := LO) (a := 8 + (2 + 11)) (b := 175) (c := 196) (by decide))⟩) ⟨fun a U g mk q => by obtain ⟨q0, q1, qP, qK, qD, qN⟩ := q; exact ⟨q0, q1, qP, va_K.moved (u := U) (U := U.calling g mk a) (Vm.Alike.refl U.vm) qK, qD, qN.same rfl rfl⟩, va_recv hK hPc (ci := 2) (q0 := 0) rfl rfl, fun U hU hW => ⟨rfl, by rw [hU], by rw [hU]; exact hPc, va_K.moved hW.alike hK, hDc.weaken (fun _ _ _ _ => trivial), hSt.call hS hU hW hFc⟩⟩ rfl rfl hl.1 rfl (lv_room (Nat.le_of_ble_eq_true rfl)) dX2_readTerm_61 ⟨(show (w_xSz_8.toInt - xSz.toInt).toNat + ((200 - w_xSz_8.toInt).toNat) ≤ (200 - xSz.toInt).toNat by omega), (show (4 * (w_xSz_8.toInt - xSz.toInt).toNat) + (4 * (200 - w_xSz_8.toInt).toNat) ≤ (4 * (200 - xSz.toInt).toNat) by omega)⟩) hS (fun q _ h => hFc q h) hFc (fun r_142 u_143 t H1 locs ht hvm hw_144 hB hz1 hk1 hS => ?_)
                obtain ⟨w_145, w_146, w_147, w_148, w_149, w_150, w_151, w_152, w_153⟩ := u_143
                try dsimp only at hw_144 hB
                obtain ⟨iv_154, iv_155, iv_156, po_157, tk_158, st_159, rs_160, rf_161⟩ := hw_144
                obtain ⟨hP1, hD1, hX1⟩ := hB
                rw [ht] at hP1 hX1
                obtain ⟨hP, hD⟩ := va_joinQ (wr := []) (w1 := ([((ax 13), .inr (2, [.ref (ax 11), .ref (ax 14), .int w_145, .int w_146, .int w_147, .int xRt, .int w_148, .int w_149, .int w_150])), ((ax 11), .inr (5, [.ref (ax 12), .int xTz])), ((ax 12), .inl (cA 0, 200, .inl gB)), ((ax 14), .inl (cA 4, 200, .inr (.inr (.inr (.inr w_151)))))] : va_W) ++ va_pl w_152 w_153) hP hD [1, 2, 3, 0] [] rfl rfl (by decide) (by decide) hk1 hFc hP1 hD1
                obtain ⟨fm_162, hma_fm_162, hmb_fm_162, hP, hD⟩ := pl_merge hP hD
                have sq_fm_162 := stq_tr hv7_8 st_159 hma_fm_162 hmb_fm_162
                have hle_fm_162 := sq_fm_162.1
                have hlf_fm_162 := st_159.1
                refine W.tight (cells' := (w_145.toInt - xSz.toInt).toNat) (slots' := 4 * (w_145.toInt - xSz.toInt).toNat) (by omega) (by have hch := ssum_chain hS0 hz1 (fun q h1 h2 => hk1 q h2 (na_of (fun k e hk => by rcases mem4 hk with h | h | h | h <;> omega) h1 h2)); omega) ?_
                clear hz1
                generalize H1 = H at hP hS ⊢
                replace hP : va_P (dC, dI) vwCl (([((ax 13), .inr (2, [.ref (ax 11), .ref (ax 14), .int w_145, .int w_146, .int w_147, .int xRt, .int w_148, .int w_149, .int w_150])), ((ax 11), .inr (5, [.ref (ax 12), .int xTz])), ((ax 12), .inl (cA 0, 200, .inl gB)), ((ax 14), .inl (cA 4, 200, .inr (.inr (.inr (.inr w_151)))))] : va_W) ++ va_pl (w_L_8 ++ w_152) fm_162) H := hP
                replace hD : va_D A (([((ax 13), .inr (2, [.ref (ax 11), .ref (ax 14), .int w_145, .int w_146, .int w_147, .int xRt, .int w_148, .int w_149, .int w_150])), ((ax 11), .inr (5, [.ref (ax 12), .int xTz])), ((ax 12), .inl (cA 0, 200, .inl gB)), ((ax 14), .inl (cA 4, 200, .inr (.inr (.inr (.inr w_151)))))] : va_W) ++ va_pl (w_L_8 ++ w_152) fm_162) := hD
                refine lv_istore_n (lv' := [(2, .int r_142), (4, .int 12), (3, .int i3), (0, .ref (ax 13)), (1, .int dp)]) hx hb dX2_readTerm_64 rfl hl (by decide) rfl (fun ls hl => ?_)
                refine lv_aload_n hx hb dX2_readTerm_65 rfl (lv_at hl 3 rfl) ?_
                refine lv_iload hx hb dX2_readTerm_66 (lv_at hl 1 rfl) ?_
                refine lv_iconst (v := (-1)) hx hb dX2_readTerm_68 (by decide) ?_
                refine lv_iconst (v := (-1)) hx hb dX2_readTerm_69 (by decide) ?_
                refine lv_iconst (v := (-1)) hx hb dX2_readTerm_70 (by decide) ?_
                have hk_163 : (12 : Int32).toInt = 12 := by decide
                have hk_164 : ((-1) : Int32).toInt = (-1) := by decide
                obtain ⟨hPc, hDc, hFc, hCc⟩ := va_pre (ws' := [((ax 13), .inr (2, [.ref (ax 11), .ref (ax 14), .int w_145, .int w_146, .int w_147, .int xRt, .int w_148, .int w_149, .int w_150])), ((ax 11), .inr (5, [.ref (ax 12), .int xTz])), ((ax 12), .inl (cA 0, 200, .inl gB)), ((ax 14), .inl (cA 4, 200, .inr (.inr (.inr (.inr w_151)))))]) hP hD hS hA [0, 1, 2, 3] (by decide) rfl
                refine W.know (fun hkn1 hkn2 => ?_)
                have hS0 := hS.1
                refine va_callv (va_runV (As := [.int 12, .int (-1), .int (-1), .int (-1)]) (rest := []) ⟨hx, hb, hml, hown, hts⟩ (k_X2_emit l dC dI cA H.size ax w_145 w_146 w_147 xRt w_148 w_149 w_150 xTz gB w_151 12 (-1) (-1) (-1) iv_154 iv_155 iv_156 i_xRt i_xTz i_gB (by omega)) (cwV 4 hts gX2_readTerm_X2_emit rfl rfl rfl (by decide +kernel) ⟨(show 2 + 1 ≤ FR + 9 from fl_b (F := FR) (a := 2 + 1) (c := 9) (by decide)), (show 8 + (5 + 11) + 44 ≤ LO + 196 from fl_b (F := LO) (a := 8 + (5 + 11) + 44) (c := 196) (by decide))⟩) ⟨fun a U g mk q => by obtain ⟨q0, q1, qP, qK, qD, qN⟩ := q; exact ⟨q0, q1, qP, va_K.moved (u := U) (U := U.calling g mk a) (Vm.Alike.refl U.vm) qK, qD, qN.same rfl⟩, va_recv hK hPc (ci := 2) (q0 := 0) rfl rfl, fun U hU hW => ⟨rfl, by rw [hU], by rw [hU]; exact hPc, va_K.moved hW.alike hK, hDc.weaken (fun _ _ _ _ => trivial), hN.warm hW⟩⟩ rfl rfl hl.1 rfl (lv_room (Nat.le_of_ble_eq_true rfl)) dX2_readTerm_71 ⟨(show (w_145.toInt - xSz.toInt).toNat + ((200 - w_145.toInt).toNat) ≤ (200 - xSz.toInt).toNat by omega), (show (4 * (w_145.toInt - xSz.toInt).toNat) + (4 * (200 - w_145.toInt).toNat) ≤ (4 * (200 - xSz.toInt).toNat) by omega)⟩) hS (fun q _ h => hFc q h) hFc (fun u_165 t H1 locs ht hvm hw_166 hB hz1 hk1 hS => ?_)
                obtain ⟨w_167, w_168, w_169, w_170⟩ := u_165
                try dsimp only at hw_166 hB
                obtain ⟨iv_171, st_172⟩ := hw_166
                try simp only [hk_163, hk_164] at st_172
                obtain ⟨hP1, hD1, hX1⟩ := hB
                rw [ht] at hP1 hX1
                obtain ⟨hP, hD⟩ := va_joinQ (wr := []) (w1 := ([((ax 13), .inr (2, [.ref (ax 11), .ref (ax 14), .int w_167, .int w_146, .int w_147, .int xRt, .int w_148, .int w_149, .int w_150])), ((ax 11), .inr (5, [.ref (ax 12), .int xTz])), ((ax 12), .inl (cA 0, 200, .inl gB)), ((ax 14), .inl (cA 4, 200, .inr (.inr (.inr (.inr w_168)))))] : va_W) ++ va_pl w_169 w_170) hP hD [0, 1, 2, 3] [] rfl rfl (by decide) (by decide) hk1 hFc hP1 hD1
                obtain ⟨fm_173, hma_fm_173, hmb_fm_173, hP, hD⟩ := pl_merge hP hD
                have sq_fm_173 := stq_tr sq_fm_162 st_172 hma_fm_173 hmb_fm_173
                have hle_fm_173 := sq_fm_173.1
                have hlf_fm_173 := st_172.1
                refine W.tight (cells' := (w_167.toInt - xSz.toInt).toNat) (slots' := 4 * (w_167.toInt - xSz.toInt).toNat) (by omega) (by have hch := ssum_chain hS0 hz1 (fun q h1 h2 => hk1 q h2 (na_of (fun k e hk => by rcases mem4 hk with h | h | h | h <;> omega) h1 h2)); omega) ?_
                clear hz1
                generalize H1 = H at hP hS ⊢
                replace hP : va_P (dC, dI) vwCl (([((ax 13), .inr (2, [.ref (ax 11), .ref (ax 14), .int w_167, .int w_146, .int w_147, .int xRt, .int w_148, .int w_149, .int w_150])), ((ax 11), .inr (5, [.ref (ax 12), .int xTz])), ((ax 12), .inl (cA 0, 200, .inl gB)), ((ax 14), .inl (cA 4, 200, .inr (.inr (.inr (.inr w_168)))))] : va_W) ++ va_pl ((w_L_8 ++ w_152) ++ w_169) fm_173) H := hP
                replace hD : va_D A (([((ax 13), .inr (2, [.ref (ax 11), .ref (ax 14), .int w_167, .int w_146, .int w_147, .int xRt, .int w_148, .int w_149, .int w_150])), ((ax 11), .inr (5, [.ref (ax 12), .int xTz])), ((ax 12), .inl (cA 0, 200, .inl gB)), ((ax 14), .inl (cA 4, 200, .inr (.inr (.inr (.inr w_168)))))] : va_W) ++ va_pl ((w_L_8 ++ w_152) ++ w_169) fm_173) := hD
                obtain ⟨x_174, ex_174⟩ : ∃ y : Int32, y = i3 + 1 := ⟨_, rfl⟩
                have dx_174 : x_174.toInt = i3.toInt + 1 := by rw [ex_174]; exact jI_add rfl (by decide) (by omega) (by omega)
                refine lv_iinc (v := x_174) (lv' := [(3, .int x_174), (2, .int r_142), (4, .int 12), (0, .ref (ax 13)), (1, .int dp)]) hx hb dX2_readTerm_74 hl (k := 2) rfl (by rw [ex_174]; rfl) (by decide) rfl (fun ls hl => ?_)
                refine lv_goto (tgt := 8) hx hb dX2_readTerm_77 (by decide) ?_
                exact ih_8 x_174 r_142 w_167 w_146 w_147 w_148 w_149 w_150 w_168 ((w_L_8 ++ w_152) ++ w_169) fm_173 _ _ ls (by omega) (by omega) (by omega) iv_171 iv_155 iv_156 (by omega) (tk_158) (sq_fm_173) (by omega) (lp_back hv9_8 (by omega) (Or.inr (tw_125.mp dc_126)) (by omega) ad_141.1 ad_141.2 rs_160) (hP.part (cx := [((ax 13), .inr (2, [.ref (ax 11), .ref (ax 14), .int w_167, .int w_146, .int w_147, .int xRt, .int w_148, .int w_149, .int w_150])), ((ax 11), .inr (5, [.ref (ax 12), .int xTz])), ((ax 12), .inl (cA 0, 200, .inl gB)), ((ax 14), .inl (cA 4, 200, .inr (.inr (.inr (.inr w_168)))))]) [0, 1, 2, 3] rfl) (hD.part (cx := [((ax 13), .inr (2, [.ref (ax 11), .ref (ax 14), .int w_167, .int w_146, .int w_147, .int xRt, .int w_148, .int w_149, .int w_150])), ((ax 11), .inr (5, [.ref (ax 12), .int xTz])), ((ax 12), .inl (cA 0, 200, .inl gB)), ((ax 14), .inl (cA 4, 200, .inr (.inr (.inr (.inr w_168)))))]) [0, 1, 2, 3] (by decide) rfl) hS (lv_sub hl [0, 1, 3, 4] rfl)
              · have dc_132 : ¬ r_127.toInt = 0 := jI_ne c_132 rfl (by decide)
                refine lv_bipush (v := 11) hx hb dX2_readTerm_46 (by decide) ?_
                refine lv_goto (tgt := 53) hx hb dX2_readTerm_48 (by decide) ?_
                refine lv_istore (lv' := [(4, .int 11), (3, .int i3), (2, .int so2), (0, .ref (ax 13)), (1, .int dp)]) hx hb dX2_readTerm_53 hl (by decide) rfl (fun ls hl => ?_)
                refine lv_aload_n hx hb dX2_readTerm_55 rfl (lv_at hl 3 rfl) ?_
                obtain ⟨hPc, hDc, hFc, hCc⟩ := va_pre (ws' := [((ax 13), .inr (2, [.ref (ax 11), .ref (ax 14), .int w_xSz_8, .int w_xPl_8, .int w_xBe_8, .int xRt, .int w_xRf_8, .int w_xRd_8, .int w_xLk_8])), ((ax 11), .inr (5, [.ref (ax 12), .int xTz])), ((ax 12), .inl (cA 0, 200, .inl gB))]) hP hD hS hA [1, 2, 3] (by decide) rfl
                refine va_callv (va_runV (As := []) (rest := []) ⟨hx, hb, hml, hown, hts⟩ (k_X2_advance l dC dI cA H.size ax w_xSz_8 w_xPl_8 w_xBe_8 xRt w_xRf_8 w_xRd_8 w_xLk_8 xTz gB hv2_8 hv3_8 hv4_8 i_xRt i_xTz i_gB (by omega)) (cwV 0 hts gX2_readTerm_X2_advance rfl rfl rfl (by decide +kernel) ⟨(show 1 + 1 ≤ FR + 9 from fl_b (F := FR) (a := 1 + 1) (c := 9) (by decide)), (show 8 + (3 + 11) + 23 ≤ LO + 196 from fl_b (F := LO) (a := 8 + (3 + 11) + 23) (c := 196) (by decide))⟩) ⟨fun a U g mk q => by obtain ⟨q0, q1, qP, qK, qD, qN⟩ := q; exact ⟨q0, q1, qP, va_K.moved (u := U) (U := U.calling g mk a) (Vm.Alike.refl U.vm) qK, qD, qN.same rfl⟩, va_recv hK hPc (ci := 2) (q0 := 0) rfl rfl, fun U hU hW => ⟨rfl, by rw [hU], by rw [hU]; exact hPc, va_K.moved hW.alike hK, hDc.weaken (fun _ _ _ _ => trivial), hN.warm hW⟩⟩ rfl rfl hl.1 rfl (lv_room (Nat.le_of_ble_eq_true rfl)) dX2_readTerm_56 ⟨(show (w_xSz_8.toInt - xSz.toInt).toNat + 0 ≤ (200 - xSz.toInt).toNat by omega), (show (4 * (w_xSz_8.toInt - xSz.toInt).toNat) + 0 ≤ (4 * (200 - xSz.toInt).toNat) by omega)⟩) hS (fun q _ h => hFc q h) hFc (fun u_175 t H1 locs ht hvm hw_176 hB hz1 hk1 hS => ?_)
                obtain ⟨w_177, w_178⟩ := u_175
                try dsimp only at hw_176 hB
                obtain ⟨iv_179, iv_180, po_181, tk_182, ad_183⟩ := hw_176
                obtain ⟨hP1, hD1⟩ := hB
                rw [ht] at hP1
                obtain ⟨hP, hD⟩ := va_joinQ (wr := [((ax 14), .inl (cA 4, 200, .inr (.inr (.inr (.inr w_gSt_8)))))]) (w1 := [((ax 13), .inr (2, [.ref (ax 11), .ref (ax 14), .int w_xSz_8, .int w_177, .int w_178, .int xRt, .int w_xRf_8, .int w_xRd_8, .int w_xLk_8])), ((ax 11), .inr (5, [.ref (ax 12), .int xTz])), ((ax 12), .inl (cA 0, 200, .inl gB))]) hP hD [1, 2, 3] [0] rfl rfl (by decide) (by decide) hk1 hFc hP1 hD1
                clear hz1
                generalize H1 = H at hP hS ⊢
                replace hP : va_P (dC, dI) vwCl (([((ax 14), .inl (cA 4, 200, .inr (.inr (.inr (.inr w_gSt_8))))), ((ax 13), .inr (2, [.ref (ax 11), .ref (ax 14), .int w_xSz_8, .int w_177, .int w_178, .int xRt, .int w_xRf_8, .int w_xRd_8, .int w_xLk_8])), ((ax 11), .inr (5, [.ref (ax 12), .int xTz])), ((ax 12), .inl (cA 0, 200, .inl gB))] : va_W) ++ va_pl w_L_8 w_pf_8) H := hP
                replace hD : va_D A (([((ax 14), .inl (cA 4, 200, .inr (.inr (.inr (.inr w_gSt_8))))), ((ax 13), .inr (2, [.ref (ax 11), .ref (ax 14), .int w_xSz_8, .int w_177, .int w_178, .int xRt, .int w_xRf_8, .int w_xRd_8, .int w_xLk_8])), ((ax 11), .inr (5, [.ref (ax 12), .int xTz])), ((ax 12), .inl (cA 0, 200, .inl gB))] : va_W) ++ va_pl w_L_8 w_pf_8) := hD
                refine lv_aload_n hx hb dX2_readTerm_59 rfl (lv_at hl 3 rfl) ?_
                refine lv_iload_n hx hb dX2_readTerm_60 rfl (lv_at hl 4 rfl) ?_
                obtain ⟨hPc, hDc, hFc, hCc⟩ := va_pre (ws' := [((ax 13), .inr (2, [.ref (ax 11), .ref (ax 14), .int w_xSz_8, .int w_177, .int w_178, .int xRt, .int w_xRf_8, .int w_xRd_8, .int w_xLk_8])), ((ax 11), .inr (5, [.ref (ax 12), .int xTz])), ((ax 12), .inl (cA 0, 200, .inl gB)), ((ax 14), .inl (cA 4, 200, .inr (.inr (.inr (.inr w_gSt_8)))))]) hP hD hS hA [1, 2, 3, 0] (by decide) rfl
                refine W.know (fun hkn1 hkn2 => ?_)
                have hS0 := hS.1
                refine va_calli (va_runV (As := [.int dp]) (rest := []) ⟨hx, hb, hml, hown, hts⟩ (k_X2_readPart l dC dI cA H.size ax w_xSz_8 w_177 w_178 xRt w_xRf_8 w_xRd_8 w_xLk_8 xTz gB w_gSt_8 dp adK adV rl FR LO hv2_8 iv_179 iv_180 i_xRt i_xTz i_gB (by omega) tk_182 (by omega) hdp hop ih) (cwV 1 hts gX2_readTerm_X2_readPart rfl rfl rfl (by decide +kernel) ⟨(show (FR + 8) + 1 ≤ FR + 9 from fl_a (F := FR) (a := 8) (b := 1) (c := 9) (by decide)), (show 8 + (2 + 11) + (LO + 175) ≤ LO + 196 from fl_c (F := LO) (a := 8 + (2 + 11)) (b := 175) (c := 196) (by decide))⟩) ⟨fun a U g mk q => by obtain ⟨q0, q1, qP, qK, qD, qN⟩ := q; exact ⟨q0, q1, qP, va_K.moved (u := U) (U := U.calling g mk a) (Vm.Alike.refl U.vm) qK, qD, qN.same rfl rfl⟩, va_recv hK hPc (ci := 2) (q0 := 0) rfl rfl, fun U hU hW => ⟨rfl, by rw [hU], by rw [hU]; exact hPc, va_K.moved hW.alike hK, hDc.weaken (fun _ _ _ _ => trivial), hSt.call hS hU hW hFc⟩⟩ rfl rfl hl.1 rfl (lv_room (Nat.le_of_ble_eq_true rfl)) dX2_readTerm_61 ⟨(show (w_xSz_8.toInt - xSz.toInt).toNat + ((200 - w_xSz_8.toInt).toNat) ≤ (200 - xSz.toInt).toNat by omega), (show (4 * (w_xSz_8.toInt - xSz.toInt).toNat) + (4 * (200 - w_xSz_8.toInt).toNat) ≤ (4 * (200 - xSz.toInt).toNat) by omega)⟩) hS (fun q _ h => hFc q h) hFc (fun r_184 u_185 t H1 locs ht hvm hw_186 hB hz1 hk1 hS => ?_)
                obtain ⟨w_187, w_188, w_189, w_190, w_191, w_192, w_193, w_194, w_195⟩ := u_185
                try dsimp only at hw_186 hB
                obtain ⟨iv_196, iv_197, iv_198, po_199, tk_200, st_201, rs_202, rf_203⟩ := hw_186
                obtain ⟨hP1, hD1, hX1⟩ := hB
                rw [ht] at hP1 hX1
                obtain ⟨hP, hD⟩ := va_joinQ (wr := []) (w1 := ([((ax 13), .inr (2, [.ref (ax 11), .ref (ax 14), .int w_187, .int w_188, .int w_189, .int xRt, .int w_190, .int w_191, .int w_192])), ((ax 11), .inr (5, [.ref (ax 12), .int xTz])), ((ax 12), .inl (cA 0, 200, .inl gB)), ((ax 14), .inl (cA 4, 200, .inr (.inr (.inr (.inr w_193)))))] : va_W) ++ va_pl w_194 w_195) hP hD [1, 2, 3, 0] [] rfl rfl (by decide) (by decide) hk1 hFc hP1 hD1
                obtain ⟨fm_204, hma_fm_204, hmb_fm_204, hP, hD⟩ := pl_merge hP hD
                have sq_fm_204 := stq_tr hv7_8 st_201 hma_fm_204 hmb_fm_204
                have hle_fm_204 := sq_fm_204.1
                have hlf_fm_204 := st_201.1
                refine W.tight (cells' := (w_187.toInt - xSz.toInt).toNat) (slots' := 4 * (w_187.toInt - xSz.toInt).toNat) (by omega) (by have hch := ssum_chain hS0 hz1 (fun q h1 h2 => hk1 q h2 (na_of (fun k e hk => by rcases mem4 hk with h | h | h | h <;> omega) h1 h2)); omega) ?_
                clear hz1
                generalize H1 = H at hP hS ⊢
                replace hP : va_P (dC, dI) vwCl (([((ax 13), .inr (2, [.ref (ax 11), .ref (ax 14), .int w_187, .int w_188, .int w_189, .int xRt, .int w_190, .int w_191, .int w_192])), ((ax 11), .inr (5, [.ref (ax 12), .int xTz])), ((ax 12), .inl (cA 0, 200, .inl gB)), ((ax 14), .inl (cA 4, 200, .inr (.inr (.inr (.inr w_193)))))] : va_W) ++ va_pl (w_L_8 ++ w_194) fm_204) H := hP
                replace hD : va_D A (([((ax 13), .inr (2, [.ref (ax 11), .ref (ax 14), .int w_187, .int w_188, .int w_189, .int xRt, .int w_190, .int w_191, .int w_192])), ((ax 11), .inr (5, [.ref (ax 12), .int xTz])), ((ax 12), .inl (cA 0, 200, .inl gB)), ((ax 14), .inl (cA 4, 200, .inr (.inr (.inr (.inr w_193)))))] : va_W) ++ va_pl (w_L_8 ++ w_194) fm_204) := hD
                refine lv_istore_n (lv' := [(2, .int r_184), (4, .int 11), (3, .int i3), (0, .ref (ax 13)), (1, .int dp)]) hx hb dX2_readTerm_64 rfl hl (by decide) rfl (fun ls hl => ?_)
                refine lv_aload_n hx hb dX2_readTerm_65 rfl (lv_at hl 3 rfl) ?_
                refine lv_iload hx hb dX2_readTerm_66 (lv_at hl 1 rfl) ?_
                refine lv_iconst (v := (-1)) hx hb dX2_readTerm_68 (by decide) ?_
                refine lv_iconst (v := (-1)) hx hb dX2_readTerm_69 (by decide) ?_
                refine lv_iconst (v := (-1)) hx hb dX2_readTerm_70 (by decide) ?_
                have hk_205 : (11 : Int32).toInt = 11 := by decide
                have hk_206 : ((-1) : Int32).toInt = (-1) := by decide
                obtain ⟨hPc, hDc, hFc, hCc⟩ := va_pre (ws' := [((ax 13), .inr (2, [.ref (ax 11), .ref (ax 14), .int w_187, .int w_188, .int w_189, .int xRt, .int w_190, .int w_191, .int w_192])), ((ax 11), .inr (5, [.ref (ax 12), .int xTz])), ((ax 12), .inl (cA 0, 200, .inl gB)), ((ax 14), .inl (cA 4, 200, .inr (.inr (.inr (.inr w_193)))))]) hP hD hS hA [0, 1, 2, 3] (by decide) rfl
                refine W.know (fun hkn1 hkn2 => ?_)
                have hS0 := hS.1
                refine va_callv (va_runV (As := [.int 11, .int (-1), .int (-1), .int (-1)]) (rest := []) ⟨hx, hb, hml, hown, hts⟩ (k_X2_emit l dC dI cA H.size ax w_187 w_188 w_189 xRt w_190 w_191 w_192 xTz gB w_193 11 (-1) (-1) (-1) iv_196 iv_197 iv_198 i_xRt i_xTz i_gB (by omega)) (cwV 4 hts gX2_readTerm_X2_emit rfl rfl rfl (by decide +kernel) ⟨(show 2 + 1 ≤ FR + 9 from fl_b (F := FR) (a := 2 + 1) (c := 9) (by decide)), (show 8 + (5 + 11) + 44 ≤ LO + 196 from fl_b (F := LO) (a := 8 + (5 + 11) + 44) (c := 196) (by decide))⟩) ⟨fun a U g mk q => by obtain ⟨q0, q1, qP, qK, qD, qN⟩ := q; exact ⟨q0, q1, qP, va_K.moved (u := U) (U := U.calling g mk a) (Vm.Alike.refl U.vm) qK, qD, qN.same rfl⟩, va_recv hK hPc (ci := 2) (q0 := 0) rfl rfl, fun U hU hW => ⟨rfl, by rw [hU], by rw [hU]; exact hPc, va_K.moved hW.alike hK, hDc.weaken (fun _ _ _ _ => trivial), hN.warm hW⟩⟩ rfl rfl hl.1 rfl (lv_room (Nat.le_of_ble_eq_true rfl)) dX2_readTerm_71 ⟨(show (w_187.toInt - xSz.toInt).toNat + ((200 - w_187.toInt).toNat) ≤ (200 - xSz.toInt).toNat by omega), (show (4 * (w_187.toInt - xSz.toInt).toNat) + (4 * (200 - w_187.toInt).toNat) ≤ (4 * (200 - xSz.toInt).toNat) by omega)⟩) hS (fun q _ h => hFc q h) hFc (fun u_207 t H1 locs ht hvm hw_208 hB hz1 hk1 hS => ?_)
                obtain ⟨w_209, w_210, w_211, w_212⟩ := u_207
                try dsimp only at hw_208 hB
                obtain ⟨iv_213, st_214⟩ := hw_208
                try simp only [hk_205, hk_206] at st_214
                obtain ⟨hP1, hD1, hX1⟩ := hB
                rw [ht] at hP1 hX1
                obtain ⟨hP, hD⟩ := va_joinQ (wr := []) (w1 := ([((ax 13), .inr (2, [.ref (ax 11), .ref (ax 14), .int w_209, .int w_188, .int w_189, .int xRt, .int w_190, .int w_191, .int w_192])), ((ax 11), .inr (5, [.ref (ax 12), .int xTz])), ((ax 12), .inl (cA 0, 200, .inl gB)), ((ax 14), .inl (cA 4, 200, .inr (.inr (.inr (.inr w_210)))))] : va_W) ++ va_pl w_211 w_212) hP hD [0, 1, 2, 3] [] rfl rfl (by decide) (by decide) hk1 hFc hP1 hD1
                obtain ⟨fm_215, hma_fm_215, hmb_fm_215, hP, hD⟩ := pl_merge hP hD
                have sq_fm_215 := stq_tr sq_fm_204 st_214 hma_fm_215 hmb_fm_215
                have hle_fm_215 := sq_fm_215.1
                have hlf_fm_215 := st_214.1
                refine W.tight (cells' := (w_209.toInt - xSz.toInt).toNat) (slots' := 4 * (w_209.toInt - xSz.toInt).toNat) (by omega) (by have hch := ssum_chain hS0 hz1 (fun q h1 h2 => hk1 q h2 (na_of (fun k e hk => by rcases mem4 hk with h | h | h | h <;> omega) h1 h2)); omega) ?_
                clear hz1
                generalize H1 = H at hP hS ⊢
                replace hP : va_P (dC, dI) vwCl (([((ax 13), .inr (2, [.ref (ax 11), .ref (ax 14), .int w_209, .int w_188, .int w_189, .int xRt, .int w_190, .int w_191, .int w_192])), ((ax 11), .inr (5, [.ref (ax 12), .int xTz])), ((ax 12), .inl (cA 0, 200, .inl gB)), ((ax 14), .inl (cA 4, 200, .inr (.inr (.inr (.inr w_210)))))] : va_W) ++ va_pl ((w_L_8 ++ w_194) ++ w_211) fm_215) H := hP
                replace hD : va_D A (([((ax 13), .inr (2, [.ref (ax 11), .ref (ax 14), .int w_209, .int w_188, .int w_189, .int xRt, .int w_190, .int w_191, .int w_192])), ((ax 11), .inr (5, [.ref (ax 12), .int xTz])), ((ax 12), .inl (cA 0, 200, .inl gB)), ((ax 14), .inl (cA 4, 200, .inr (.inr (.inr (.inr w_210)))))] : va_W) ++ va_pl ((w_L_8 ++ w_194) ++ w_211) fm_215) := hD
                obtain ⟨x_216, ex_216⟩ : ∃ y : Int32, y = i3 + 1 := ⟨_, rfl⟩
                have dx_216 : x_216.toInt = i3.toInt + 1 := by rw [ex_216]; exact jI_add rfl (by decide) (by omega) (by omega)
                refine lv_iinc (v := x_216) (lv' := [(3, .int x_216), (2, .int r_184), (4, .int 11), (0, .ref (ax 13)), (1, .int dp)]) hx hb dX2_readTerm_74 hl (k := 2) rfl (by rw [ex_216]; rfl) (by decide) rfl (fun ls hl => ?_)
                refine lv_goto (tgt := 8) hx hb dX2_readTerm_77 (by decide) ?_
                exact ih_8 x_216 r_184 w_209 w_188 w_189 w_190 w_191 w_192 w_210 ((w_L_8 ++ w_194) ++ w_211) fm_215 _ _ ls (by omega) (by omega) (by omega) iv_213 iv_197 iv_198 (by omega) (tk_200) (sq_fm_215) (by omega) (lp_back hv9_8 (by omega) (Or.inr (tw_125.mp dc_126)) (by omega) ad_183.1 ad_183.2 rs_202) (hP.part (cx := [((ax 13), .inr (2, [.ref (ax 11), .ref (ax 14), .int w_209, .int w_188, .int w_189, .int xRt, .int w_190, .int w_191, .int w_192])), ((ax 11), .inr (5, [.ref (ax 12), .int xTz])), ((ax 12), .inl (cA 0, 200, .inl gB)), ((ax 14), .inl (cA 4, 200, .inr (.inr (.inr (.inr w_210)))))]) [0, 1, 2, 3] rfl) (hD.part (cx := [((ax 13), .inr (2, [.ref (ax 11), .ref (ax 14), .int w_209, .int w_188, .int w_189, .int xRt, .int w_190, .int w_191, .int w_192])), ((ax 11), .inr (5, [.ref (ax 12), .int xTz])), ((ax 12), .inl (cA 0, 200, .inl gB)), ((ax 14), .inl (cA 4, 200, .inr (.inr (.inr (.inr w_210)))))]) [0, 1, 2, 3] (by decide) rfl) hS (lv_sub hl [0, 1, 3, 4] rfl)
  have hk_217 : (0 : Int32).toInt = 0 := by decide
  exact loop8_22 (Int.toNat (200 - (0 : Int32).toInt) + 1) 0 r_1 w_4 w_5 w_6 w_7 w_8 w_9 w_10 ([] ++ w_11) fm_21 _ _ ls (by omega) (by omega) (by omega) iv_13 iv_14 iv_15 (by omega) (tk_17) (sq_fm_21) (by omega) ((by rw [rs_19]; rfl)) hP hD hS (lv_sub hl [0, 1, 2, 3] rfl)

set_option maxHeartbeats 8000000 in
set_option maxRecDepth 100000 in
theorem k_X2_readSum (l : Launch) (dC : Nat → ClassId) (dI : Nat → Nat → Nat) (cA : Nat → ClassId) (sz : Nat) (ax : Nat → Nat) (xSz : Int32) (xPl : Int32) (xBe : Int32) (xRt : Int32) (xRf : Int32) (xRd : Int32) (xLk : Int32) (xTz : Int32) (gB : Nat → Int32) (gSt : Nat → Option Nat) (dp : Int32) (adK : Nat → Nat) (adV : Nat → Nat) (rl : Nat) (FR : Nat) (LO : Nat) (i_xSz : 0 ≤ xSz.toInt ∧ xSz.toInt ≤ 200) (i_xPl : 0 ≤ xPl.toInt ∧ xPl.toInt ≤ 200) (i_xBe : 0 ≤ xBe.toInt ∧ xBe.toInt ≤ 200) (i_xRt : 0 ≤ xRt.toInt ∧ xRt.toInt ≤ 20) (i_xTz : 0 ≤ xTz.toInt ∧ xTz.toInt ≤ 200) (i_gB : inB 0 255 200 gB) (hbe : xPl.toInt ≤ xBe.toInt ∧ xBe.toInt ≤ xTz.toInt) (htk : tokOK gB xPl xBe xTz) (hgx : xRf.toInt = (-1)) (hdp : 0 ≤ dp.toInt ∧ dp.toInt ≤ 8) (hop : 8 - dp.toInt ≤ (rl : Int)) (ih : 0 < rl → XSumC l dC dI cA (rl - 1) FR LO) : Met l yX2_readSum wsX2_readSum ({ frames := FR + 10, cells := (200 - xSz.toInt).toNat, slots := (4 * (200 - xSz.toInt).toNat), locals := LO + 220 }) (va_Pc [.ref (ax 13), .int dp] (fun U => U.heap.size = sz ∧ va_P (dC, dI) vwCl [((ax 13), .inr (2, [.ref (ax 11), .ref (ax 14), .int xSz, .int xPl, .int xBe, .int xRt, .int xRf, .int xRd, .int xLk])), ((ax 11), .inr (5, [.ref (ax 12), .int xTz])), ((ax 12), .inl (cA 0, 200, .inl gB)), ((ax 14), .inl (cA 4, 200, .inr (.inr (.inr (.inr gSt)))))] U.heap ∧ va_K (dC, dI) vwCl (tyL cA) U ∧ va_D (fun _ => True) [((ax 13), .inr (2, [.ref (ax 11), .ref (ax 14), .int xSz, .int xPl, .int xBe, .int xRt, .int xRf, .int xRd, .int xLk])), ((ax 11), .inr (5, [.ref (ax 12), .int xTz])), ((ax 12), .inl (cA 0, 200, .inl gB)), ((ax 14), .inl (cA 4, 200, .inr (.inr (.inr (.inr gSt)))))] ∧ st_ok adK adV (va_A [((ax 13), .inr (2, [.ref (ax 11), .ref (ax 14), .int xSz, .int xPl, .int xBe, .int xRt, .int xRf, .int xRd, .int xLk])), ((ax 11), .inr (5, [.ref (ax 12), .int xTz])), ((ax 12), .inl (cA 0, 200, .inl gB)), ((ax 14), .inl (cA 4, 200, .inr (.inr (.inr (.inr gSt)))))] sz) U)) (va_Qi (fun (r : Int32) (u : Int32 × Int32 × Int32 × Int32 × Int32 × Int32 × (Nat → Option Nat) × (List Nat) × (Nat → va_E)) => (0 ≤ u.1.toInt ∧ u.1.toInt ≤ 200) ∧ (0 ≤ u.2.1.toInt ∧ u.2.1.toInt ≤ 200) ∧ (0 ≤ u.2.2.1.toInt ∧ u.2.2.1.toInt ≤ 200) ∧ (u.2.1.toInt ≤ u.2.2.1.toInt ∧ u.2.2.1.toInt ≤ xTz.toInt ∧ (0 ≤ r.toInt ∧ r.toInt ≤ 1)) ∧ (tokOK gB u.2.1 u.2.2.1 xTz) ∧ (stq xSz.toInt u.1.toInt gSt u.2.2.2.2.2.2.1 u.2.2.2.2.2.2.2.1 u.2.2.2.2.2.2.2.2) ∧ (rs u.2.2.2.1 u.2.1 u.2.2.1 u.2.2.2.2.2.1 u.2.2.2.2.1 = psum (tpe gB xTz) xTz.toInt xRt.toInt (pB (tpe gB xTz) xTz.toInt xRt.toInt (8 - dp.toInt).toNat) xPl.toInt xBe.toInt xLk.toInt xRd) ∧ ((¬ r.toInt = 0 → u.2.2.2.1.toInt = (-1)) ∧ (r.toInt = 0 → 0 ≤ u.2.2.2.1.toInt))) (fun (u : Int32 × Int32 × Int32 × Int32 × Int32 × Int32 × (Nat → Option Nat) × (List Nat) × (Nat → va_E)) (t : State) => va_P (dC, dI) vwCl (([((ax 13), .inr (2, [.ref (ax 11), .ref (ax 14), .int u.1, .int u.2.1, .int u.2.2.1, .int xRt, .int u.2.2.2.1, .int u.2.2.2.2.1, .int u.2.2.2.2.2.1])), ((ax 11), .inr (5, [.ref (ax 12), .int xTz])), ((ax 12), .inl (cA 0, 200, .inl gB)), ((ax 14), .inl (cA 4, 200, .inr (.inr (.inr (.inr u.2.2.2.2.2.2.1)))))] : va_W) ++ va_pl u.2.2.2.2.2.2.2.1 u.2.2.2.2.2.2.2.2) t.heap ∧ va_D (va_A [((ax 13), .inr (2, [.ref (ax 11), .ref (ax 14), .int xSz, .int xPl, .int xBe, .int xRt, .int xRf, .int xRd, .int xLk])), ((ax 11), .inr (5, [.ref (ax 12), .int xTz])), ((ax 12), .inl (cA 0, 200, .inl gB)), ((ax 14), .inl (cA 4, 200, .inr (.inr (.inr (.inr gSt)))))] sz) (([((ax 13), .inr (2, [.ref (ax 11), .ref (ax 14), .int u.1, .int u.2.1, .int u.2.2.1, .int xRt, .int u.2.2.2.1, .int u.2.2.2.2.1, .int u.2.2.2.2.2.1])), ((ax 11), .inr (5, [.ref (ax 12), .int xTz])), ((ax 12), .inl (cA 0, 200, .inl gB)), ((ax 14), .inl (cA 4, 200, .inr (.inr (.inr (.inr u.2.2.2.2.2.2.1)))))] : va_W) ++ va_pl u.2.2.2.2.2.2.2.1 u.2.2.2.2.2.2.2.2) ∧ (t.heap.size ≤ sz + (u.1.toInt - xSz.toInt).toNat ∧ ssum sz t.heap ≤ 4 * (u.1.toInt - xSz.toInt).toNat)) (va_A [((ax 13), .inr (2, [.ref (ax 11), .ref (ax 14), .int xSz, .int xPl, .int xBe, .int xRt, .int xRf, .int xRd, .int xLk])), ((ax 11), .inr (5, [.ref (ax 12), .int xTz])), ((ax 12), .inl (cA 0, 200, .inl gB)), ((ax 14), .inl (cA 4, 200, .inr (.inr (.inr (.inr gSt)))))] sz)) ((200 - xSz.toInt).toNat) (4 * (200 - xSz.toInt).toNat) (va_A [((ax 13), .inr (2, [.ref (ax 11), .ref (ax 14), .int xSz, .int xPl, .int xBe, .int xRt, .int xRf, .int xRd, .int xLk])), ((ax 11), .inr (5, [.ref (ax 12), .int xTz])), ((ax 12), .inl (cA 0, 200, .inl gB)), ((ax 14), .inl (cA 4, 200, .inr (.inr (.inr (.inr gSt)))))] sz) := by
  refine Met.ofW (cc := cX2_readSum) (maxL := 5) (ret := (some .boolean)) (by decide) rfl ?_
  intro p e s m args below meth c s₁ B hml hv
  obtain ⟨rfl, hsz, hP, hK, hD0, hN⟩ := hv
  have hx := B.exec
  have hb := B.bytes
  have hr := B.returns
  have hts := atoms_spec (ws := wsX2_readSum) B.pre
  have hown : s.vm.findClass RX2 = some m.cls := findClass_of_methodNamed B.named
  have hlocks := B.notSynchronized
  subst hsz
  have hD := hD0.self (sz := s.heap.size)
  generalize hAe : va_A [((ax 13), .inr (2, [.ref (ax 11), .ref (ax 14), .int xSz, .int xPl, .int xBe, .int xRt, .int xRf, .int xRd, .int xLk])), ((ax 11), .inr (5, [.ref (ax 12), .int xTz])), ((ax 12), .inl (cA 0, 200, .inl gB)), ((ax 14), .inl (cA 4, 200, .inr (.inr (.inr (.inr gSt)))))] s.heap.size = A at hD hN ⊢
  have hSt := hN
  have hN := hSt.1
  have hA : ∀ q : Nat, s.heap.size ≤ q → A q := fun q h => by rw [← hAe]; exact Or.inr h
  have hS : va_S A s.heap s.heap [] := va_S.rf
  have hlt0 : (ax 13) < s.heap.size := (hP 0 _ rfl).lt
  have hlt1 : (ax 11) < s.heap.size := (hP 1 _ rfl).lt
  have hlt2 : (ax 12) < s.heap.size := (hP 2 _ rfl).lt
  have hlt3 : (ax 14) < s.heap.size := (hP 3 _ rfl).lt
  obtain ⟨pfz, hpfz⟩ : ∃ f : Nat → va_E, f = fun _ => .inr (0, []) := ⟨_, rfl⟩
  replace hP : va_P (dC, dI) vwCl (([((ax 13), .inr (2, [.ref (ax 11), .ref (ax 14), .int xSz, .int xPl, .int xBe, .int xRt, .int xRf, .int xRd, .int xLk])), ((ax 11), .inr (5, [.ref (ax 12), .int xTz])), ((ax 12), .inl (cA 0, 200, .inl gB)), ((ax 14), .inl (cA 4, 200, .inr (.inr (.inr (.inr gSt)))))] : va_W) ++ va_pl ([]) pfz) s.heap := hP
  replace hD : va_D A (([((ax 13), .inr (2, [.ref (ax 11), .ref (ax 14), .int xSz, .int xPl, .int xBe, .int xRt, .int xRf, .int xRd, .int xLk])), ((ax 11), .inr (5, [.ref (ax 12), .int xTz])), ((ax 12), .inl (cA 0, 200, .inl gB)), ((ax 14), .inl (cA 4, 200, .inr (.inr (.inr (.inr gSt)))))] : va_W) ++ va_pl ([]) pfz) := hD
  have hl := lv_entry ([.ref (ax 13), .int dp]) (n := 5) (Nat.le_of_ble_eq_true rfl)
  rw [lg_entry_eq]
  generalize (lg_sl ([.ref (ax 13), .int dp]) ++ List.replicate (5 - (lg_sl ([.ref (ax 13), .int dp])).length) Slot.unset).toArray = ls at hl ⊢
  have hl : lv_has ls 5 [(0, .ref (ax 13)), (1, .int dp)] := hl
  generalize hQe : MQ below _ _ _ _ _ _ = QQ
  refine lv_aload_n hx hb dX2_readSum_0 rfl (lv_at hl 0 rfl) ?_
  refine lv_iload_n hx hb dX2_readSum_1 rfl (lv_at hl 1 rfl) ?_
  obtain ⟨hPc, hDc, hFc, hCc⟩ := va_pre (ws' := [((ax 13), .inr (2, [.ref (ax 11), .ref (ax 14), .int xSz, .int xPl, .int xBe, .int xRt, .int xRf, .int xRd, .int xLk])), ((ax 11), .inr (5, [.ref (ax 12), .int xTz])), ((ax 12), .inl (cA 0, 200, .inl gB)), ((ax 14), .inl (cA 4, 200, .inr (.inr (.inr (.inr gSt)))))]) hP hD hS hA [0, 1, 2, 3] (by decide) rfl
  refine W.know (fun hkn1 hkn2 => ?_)
  have hS0 := hS.1
  refine va_calli (va_runV (As := [.int dp]) (rest := []) ⟨hx, hb, hml, hown, hts⟩ (k_X2_readTerm l dC dI cA s.heap.size ax xSz xPl xBe xRt xRf xRd xLk xTz gB gSt dp adK adV rl FR LO i_xSz i_xPl i_xBe i_xRt i_xTz i_gB hbe htk hgx hdp hop ih) (cwV 1 hts gX2_readSum_X2_readTerm rfl rfl rfl (by decide +kernel) ⟨(show (FR + 9) + 1 ≤ FR + 10 from fl_a (F := FR) (a := 9) (b := 1) (c := 10) (by decide)), (show 8 + (5 + 11) + (LO + 196) ≤ LO + 220 from fl_c (F := LO) (a := 8 + (5 + 11)) (b := 196) (c := 220) (by decide))⟩) ⟨fun a U g mk q => by obtain ⟨q0, q1, qP, qK, qD, qN⟩ := q; exact ⟨q0, q1, qP, va_K.moved (u := U) (U := U.calling g mk a) (Vm.Alike.refl U.vm) qK, qD, qN.same rfl rfl⟩, va_recv hK hPc (ci := 2) (q0 := 0) rfl rfl, fun U hU hW => ⟨rfl, by rw [hU], by rw [hU]; exact hPc, va_K.moved hW.alike hK, hDc.weaken (fun _ _ _ _ => trivial), hSt.call hS hU hW hFc⟩⟩ rfl rfl hl.1 rfl (lv_room (Nat.le_of_ble_eq_true rfl)) dX2_readSum_2 ⟨(show 0 + ((200 - xSz.toInt).toNat) ≤ (200 - xSz.toInt).toNat by omega), (show 0 + (4 * (200 - xSz.toInt).toNat) ≤ (4 * (200 - xSz.toInt).toNat) by omega)⟩) hS (fun q _ h => hFc q h) hFc (fun r_1 u_2 t H1 locs ht hvm hw_3 hB hz1 hk1 hS => ?_)
  obtain ⟨w_4, w_5, w_6, w_7, w_8, w_9, w_10, w_11, w_12⟩ := u_2
  try dsimp only at hw_3 hB
  obtain ⟨iv_13, iv_14, iv_15, po_16, tk_17, st_18, rs_19, rf_20⟩ := hw_3
  obtain ⟨hP1, hD1, hX1⟩ := hB
  rw [ht] at hP1 hX1
  obtain ⟨hP, hD⟩ := va_joinQ (wr := []) (w1 := ([((ax 13), .inr (2, [.ref (ax 11), .ref (ax 14), .int w_4, .int w_5, .int w_6, .int xRt, .int w_7, .int w_8, .int w_9])), ((ax 11), .inr (5, [.ref (ax 12), .int xTz])), ((ax 12), .inl (cA 0, 200, .inl gB)), ((ax 14), .inl (cA 4, 200, .inr (.inr (.inr (.inr w_10)))))] : va_W) ++ va_pl w_11 w_12) hP hD [0, 1, 2, 3] [] rfl rfl (by decide) (by decide) hk1 hFc hP1 hD1
  obtain ⟨fm_21, hma_fm_21, hmb_fm_21, hP, hD⟩ := pl_merge hP hD
  have sq_fm_21 := stq_tr stq_0 st_18 hma_fm_21 hmb_fm_21
  have hle_fm_21 := sq_fm_21.1
  have hlf_fm_21 := st_18.1
  refine W.tight (cells' := (w_4.toInt - xSz.toInt).toNat) (slots' := 4 * (w_4.toInt - xSz.toInt).toNat) (by omega) (by have hch := ssum_chain hS0 hz1 (fun q h1 h2 => hk1 q h2 (na_of (fun k e hk => by rcases mem4 hk with h | h | h | h <;> omega) h1 h2)); omega) ?_
  clear hz1
  generalize H1 = H at hP hS ⊢
  replace hP : va_P (dC, dI) vwCl (([((ax 13), .inr (2, [.ref (ax 11), .ref (ax 14), .int w_4, .int w_5, .int w_6, .int xRt, .int w_7, .int w_8, .int w_9])), ((ax 11), .inr (5, [.ref (ax 12), .int xTz])), ((ax 12), .inl (cA 0, 200, .inl gB)), ((ax 14), .inl (cA 4, 200, .inr (.inr (.inr (.inr w_10)))))] : va_W) ++ va_pl ([] ++ w_11) fm_21) H := hP
  replace hD : va_D A (([((ax 13), .inr (2, [.ref (ax 11), .ref (ax 14), .int w_4, .int w_5, .int w_6, .int xRt, .int w_7, .int w_8, .int w_9])), ((ax 11), .inr (5, [.ref (ax 12), .int xTz])), ((ax 12), .inl (cA 0, 200, .inl gB)), ((ax 14), .inl (cA 4, 200, .inr (.inr (.inr (.inr w_10)))))] : va_W) ++ va_pl ([] ++ w_11) fm_21) := hD
  refine lv_istore_n (lv' := [(2, .int r_1), (0, .ref (ax 13)), (1, .int dp)]) hx hb dX2_readSum_5 rfl hl (by decide) rfl (fun ls hl => ?_)
  refine lv_iconst (v := 0) hx hb dX2_readSum_6 (by decide) ?_
  refine lv_istore_n (lv' := [(3, .int 0), (2, .int r_1), (0, .ref (ax 13)), (1, .int dp)]) hx hb dX2_readSum_7 rfl hl (by decide) rfl (fun ls hl => ?_)
  have loop8_22 : ∀ (n : Nat) (i3 : Int32) (so2 : Int32) (w_xSz_8 : Int32) (w_xPl_8 : Int32) (w_xBe_8 : Int32) (w_xRf_8 : Int32) (w_xRd_8 : Int32) (w_xLk_8 : Int32) (w_gSt_8 : Nat → Option Nat) (w_L_8 : List Nat) (w_pf_8 : Nat → va_E) (H : Heap) (locs : List Loc) (ls : Array Slot), 200 - i3.toInt < (n : Int) → (0 ≤ i3.toInt ∧ i3.toInt ≤ 200) → (0 ≤ so2.toInt ∧ so2.toInt ≤ 1) → (0 ≤ w_xSz_8.toInt ∧ w_xSz_8.toInt ≤ 200) → (0 ≤ w_xPl_8.toInt ∧ w_xPl_8.toInt ≤ 200) → (0 ≤ w_xBe_8.toInt ∧ w_xBe_8.toInt ≤ 200) → (w_xPl_8.toInt ≤ w_xBe_8.toInt ∧ w_xBe_8.toInt ≤ xTz.toInt) → (tokOK gB w_xPl_8 w_xBe_8 xTz) → (stq xSz.toInt w_xSz_8.toInt gSt w_gSt_8 w_L_8 w_pf_8) → ((¬ so2.toInt = 0 → w_xRf_8.toInt = (-1)) ∧ (so2.toInt = 0 → 0 ≤ w_xRf_8.toInt)) → (bnd (rs w_xRf_8 w_xPl_8 w_xBe_8 w_xLk_8 w_xRd_8) (ploop (tpe gB xTz) xTz.toInt 43 45 (pterm (tpe gB xTz) xTz.toInt xRt.toInt (pB (tpe gB xTz) xTz.toInt xRt.toInt (8 - dp.toInt).toNat)) (200 - i3.toInt).toNat) = psum (tpe gB xTz) xTz.toInt xRt.toInt (pB (tpe gB xTz) xTz.toInt xRt.toInt (8 - dp.toInt).toNat) xPl.toInt xBe.toInt xLk.toInt xRd) → va_P (dC, dI) vwCl (([((ax 13), .inr (2, [.ref (ax 11), .ref (ax 14), .int w_xSz_8, .int w_xPl_8, .int w_xBe_8, .int xRt, .int w_xRf_8, .int w_xRd_8, .int w_xLk_8])), ((ax 11), .inr (5, [.ref (ax 12), .int xTz])), ((ax 12), .inl (cA 0, 200, .inl gB)), ((ax 14), .inl (cA 4, 200, .inr (.inr (.inr (.inr w_gSt_8)))))] : va_W) ++ va_pl w_L_8 w_pf_8) H → va_D A (([((ax 13), .inr (2, [.ref (ax 11), .ref (ax 14), .int w_xSz_8, .int w_xPl_8, .int w_xBe_8, .int xRt, .int w_xRf_8, .int w_xRd_8, .int w_xLk_8])), ((ax 11), .inr (5, [.ref (ax 12), .int xTz])), ((ax 12), .inl (cA 0, 200, .inl gB)), ((ax 14), .inl (cA 4, 200, .inr (.inr (.inr (.inr w_gSt_8)))))] : va_W) ++ va_pl w_L_8 w_pf_8) → va_S A s.heap H locs → lv_has ls 5 [(3, .int i3), (2, .int so2), (0, .ref (ax 13)), (1, .int dp)] → W p l e ({ frames := FR + 10, cells := (200 - xSz.toInt).toNat, slots := (4 * (200 - xSz.toInt).toNat), locals := LO + 220 }) s m ([.ref (ax 13), .int dp] : List Value).toArray below meth c H locs (w_xSz_8.toInt - xSz.toInt).toNat (4 * (w_xSz_8.toInt - xSz.toInt).toNat) QQ (F0 m 8 ls []) := by
    intro n
    induction n with
    | zero => intro i3 so2 w_xSz_8 w_xPl_8 w_xBe_8 w_xRf_8 w_xRd_8 w_xLk_8 w_gSt_8 w_L_8 w_pf_8 H locs ls hme hv0_8 hv1_8 hv2_8 hv3_8 hv4_8 hv5_8 hv6_8 hv7_8 hv8_8 hv9_8; exfalso; omega
    | succ n ih_8 =>
      intro i3 so2 w_xSz_8 w_xPl_8 w_xBe_8 w_xRf_8 w_xRd_8 w_xLk_8 w_gSt_8 w_L_8 w_pf_8 H locs ls hme_8 hv0_8 hv1_8 hv2_8 hv3_8 hv4_8 hv5_8 hv6_8 hv7_8 hv8_8 hv9_8 hP hD hS hl
      clear po_16 tk_17 rs_19 rf_20
      have hle8 := hv7_8.1
      refine lv_iload_n hx hb dX2_readSum_8 rfl (lv_at hl 0 rfl) ?_
      refine lv_sipush (v := 200) hx hb dX2_readSum_9 (by decide) ?_
      refine lv_icmp_ge (tgt := 80) hx hb dX2_readSum_12 (by decide) (fun c_23 => ?_) (fun c_23 => ?_)
      · have dc_23 : 200 ≤ i3.toInt := jI_le c_23 (by decide) rfl
        refine lv_iload_n hx hb dX2_readSum_80 rfl (lv_at hl 1 rfl) ?_
        have hP9 := hP.part (cx := [((ax 13), .inr (2, [.ref (ax 11), .ref (ax 14), .int w_xSz_8, .int w_xPl_8, .int w_xBe_8, .int xRt, .int w_xRf_8, .int w_xRd_8, .int w_xLk_8])), ((ax 11), .inr (5, [.ref (ax 12), .int xTz])), ((ax 12), .inl (cA 0, 200, .inl gB)), ((ax 14), .inl (cA 4, 200, .inr (.inr (.inr (.inr w_gSt_8)))))]) [0, 1, 2, 3] rfl
        have hD9 := hD.part (cx := [((ax 13), .inr (2, [.ref (ax 11), .ref (ax 14), .int w_xSz_8, .int w_xPl_8, .int w_xBe_8, .int xRt, .int w_xRf_8, .int w_xRd_8, .int w_xLk_8])), ((ax 11), .inr (5, [.ref (ax 12), .int xTz])), ((ax 12), .inl (cA 0, 200, .inl gB)), ((ax 14), .inl (cA 4, 200, .inr (.inr (.inr (.inr w_gSt_8)))))]) [0, 1, 2, 3] (by decide) rfl
        refine W.know (fun hkn1 hkn2 => ?_)
        have hBx : H.size ≤ s.heap.size + (w_xSz_8.toInt - xSz.toInt).toNat ∧ ssum s.heap.size H ≤ 4 * (w_xSz_8.toInt - xSz.toInt).toNat := ⟨by omega, by omega⟩
        subst hQe
        refine W.widen (k := (200 - xSz.toInt).toNat) (n := (4 * (200 - xSz.toInt).toNat)) (by omega) (by omega) ?_
        have hans : (so2 : Int32).toInt = so2.toInt := rfl
        have hpost : (0 ≤ w_xSz_8.toInt ∧ w_xSz_8.toInt ≤ 200) ∧ (0 ≤ w_xPl_8.toInt ∧ w_xPl_8.toInt ≤ 200) ∧ (0 ≤ w_xBe_8.toInt ∧ w_xBe_8.toInt ≤ 200) ∧ (w_xPl_8.toInt ≤ w_xBe_8.toInt ∧ w_xBe_8.toInt ≤ xTz.toInt ∧ (0 ≤ (so2 : Int32).toInt ∧ (so2 : Int32).toInt ≤ 1)) ∧ (tokOK gB w_xPl_8 w_xBe_8 xTz) ∧ (stq xSz.toInt w_xSz_8.toInt gSt w_gSt_8 w_L_8 w_pf_8) ∧ (rs w_xRf_8 w_xPl_8 w_xBe_8 w_xLk_8 w_xRd_8 = psum (tpe gB xTz) xTz.toInt xRt.toInt (pB (tpe gB xTz) xTz.toInt xRt.toInt (8 - dp.toInt).toNat) xPl.toInt xBe.toInt xLk.toInt xRd) ∧ ((¬ (so2 : Int32).toInt = 0 → w_xRf_8.toInt = (-1)) ∧ ((so2 : Int32).toInt = 0 → 0 ≤ w_xRf_8.toInt)) := ⟨hv2_8, hv3_8, hv4_8, by omega, hv6_8, hv7_8, lp_end hv9_8 (Or.inr (Or.inr (by omega))), by omega⟩
        exact W.zret (v := so2) hx hb hr (jnarZ (by omega)) (fun t ht hW => ⟨⟨so2, (w_xSz_8, w_xPl_8, w_xBe_8, w_xRf_8, w_xRd_8, w_xLk_8, w_gSt_8, w_L_8, w_pf_8), rfl, hpost, by rw [ht]; exact hP9, hD9, by rw [ht]; exact hBx⟩, hS.F ht⟩) hS.2.2 dX2_readSum_81
      · have dc_23 : i3.toInt < 200 := jI_nle c_23 (by decide) rfl
        refine lv_iload_n hx hb dX2_readSum_15 rfl (lv_at hl 1 rfl) ?_
        refine lv_if_eq (tgt := 80) hx hb dX2_readSum_16 (by decide) (fun c_24 => ?_) (fun c_24 => ?_)
        · have dc_24 : so2.toInt = 0 := jI_eq c_24 rfl (by decide)
          replace hv8_8 := rf_n hv8_8 dc_24
          refine lv_iload_n hx hb dX2_readSum_80 rfl (lv_at hl 1 rfl) ?_
          have hP9 := hP.part (cx := [((ax 13), .inr (2, [.ref (ax 11), .ref (ax 14), .int w_xSz_8, .int w_xPl_8, .int w_xBe_8, .int xRt, .int w_xRf_8, .int w_xRd_8, .int w_xLk_8])), ((ax 11), .inr (5, [.ref (ax 12), .int xTz])), ((ax 12), .inl (cA 0, 200, .inl gB)), ((ax 14), .inl (cA 4, 200, .inr (.inr (.inr (.inr w_gSt_8)))))]) [0, 1, 2, 3] rfl
          have hD9 := hD.part (cx := [((ax 13), .inr (2, [.ref (ax 11), .ref (ax 14), .int w_xSz_8, .int w_xPl_8, .int w_xBe_8, .int xRt, .int w_xRf_8, .int w_xRd_8, .int w_xLk_8])), ((ax 11), .inr (5, [.ref (ax 12), .int xTz])), ((ax 12), .inl (cA 0, 200, .inl gB)), ((ax 14), .inl (cA 4, 200, .inr (.inr (.inr (.inr w_gSt_8)))))]) [0, 1, 2, 3] (by decide) rfl
          refine W.know (fun hkn1 hkn2 => ?_)
          have hBx : H.size ≤ s.heap.size + (w_xSz_8.toInt - xSz.toInt).toNat ∧ ssum s.heap.size H ≤ 4 * (w_xSz_8.toInt - xSz.toInt).toNat := ⟨by omega, by omega⟩
          subst hQe
          refine W.widen (k := (200 - xSz.toInt).toNat) (n := (4 * (200 - xSz.toInt).toNat)) (by omega) (by omega) ?_
          have hans : (so2 : Int32).toInt = so2.toInt := rfl
          have hpost : (0 ≤ w_xSz_8.toInt ∧ w_xSz_8.toInt ≤ 200) ∧ (0 ≤ w_xPl_8.toInt ∧ w_xPl_8.toInt ≤ 200) ∧ (0 ≤ w_xBe_8.toInt ∧ w_xBe_8.toInt ≤ 200) ∧ (w_xPl_8.toInt ≤ w_xBe_8.toInt ∧ w_xBe_8.toInt ≤ xTz.toInt ∧ (0 ≤ (so2 : Int32).toInt ∧ (so2 : Int32).toInt ≤ 1)) ∧ (tokOK gB w_xPl_8 w_xBe_8 xTz) ∧ (stq xSz.toInt w_xSz_8.toInt gSt w_gSt_8 w_L_8 w_pf_8) ∧ (rs w_xRf_8 w_xPl_8 w_xBe_8 w_xLk_8 w_xRd_8 = psum (tpe gB xTz) xTz.toInt xRt.toInt (pB (tpe gB xTz) xTz.toInt xRt.toInt (8 - dp.toInt).toNat) xPl.toInt xBe.toInt xLk.toInt xRd) ∧ ((¬ (so2 : Int32).toInt = 0 → w_xRf_8.toInt = (-1)) ∧ ((so2 : Int32).toInt = 0 → 0 ≤ w_xRf_8.toInt)) := ⟨hv2_8, hv3_8, hv4_8, by omega, hv6_8, hv7_8, lp_end hv9_8 (Or.inl (by omega)), by omega⟩
          exact W.zret (v := so2) hx hb hr (jnarZ (by omega)) (fun t ht hW => ⟨⟨so2, (w_xSz_8, w_xPl_8, w_xBe_8, w_xRf_8, w_xRd_8, w_xLk_8, w_gSt_8, w_L_8, w_pf_8), rfl, hpost, by rw [ht]; exact hP9, hD9, by rw [ht]; exact hBx⟩, hS.F ht⟩) hS.2.2 dX2_readSum_81
        · have dc_24 : ¬ so2.toInt = 0 := jI_ne c_24 rfl (by decide)
          replace hv8_8 := rf_y hv8_8 dc_24
          refine lv_aload_n hx hb dX2_readSum_19 rfl (lv_at hl 2 rfl) ?_
          refine va_ldcS hx hb hown (show vk_R RX2 61 "+" (adK 0) s from hSt.2.1 0 (by decide)) dX2_readSum_20 ?_
          obtain ⟨hPc, hDc, hFc, hCc⟩ := va_pre (ws' := [((ax 13), .inr (2, [.ref (ax 11), .ref (ax 14), .int w_xSz_8, .int w_xPl_8, .int w_xBe_8, .int xRt, .int w_xRf_8, .int w_xRd_8, .int w_xLk_8])), ((ax 11), .inr (5, [.ref (ax 12), .int xTz])), ((ax 12), .inl (cA 0, 200, .inl gB))]) hP hD hS hA [0, 1, 2] (by decide) rfl
          refine va_calli (va_runV (As := [.ref (adK 0)]) (rest := []) ⟨hx, hb, hml, hown, hts⟩ (k_X2_isAt l dC dI cA H.size ax w_xSz_8 w_xPl_8 w_xBe_8 xRt w_xRf_8 w_xRd_8 w_xLk_8 xTz gB adK adV 0 hv2_8 hv3_8 hv4_8 i_xRt i_xTz i_gB (by omega) hv5_8) (cwV 1 hts gX2_readSum_X2_isAt rfl rfl rfl (by decide +kernel) ⟨(show 4 + 1 ≤ FR + 10 from fl_b (F := FR) (a := 4 + 1) (c := 10) (by decide)), (show 8 + (4 + 11) + 85 ≤ LO + 220 from fl_b (F := LO) (a := 8 + (4 + 11) + 85) (c := 220) (by decide))⟩) ⟨fun a U g mk q => by obtain ⟨q0, q1, qP, qK, qD, qN⟩ := q; exact ⟨q0, q1, qP, va_K.moved (u := U) (U := U.calling g mk a) (Vm.Alike.refl U.vm) qK, qD, qN.same rfl rfl⟩, va_recv hK hPc (ci := 2) (q0 := 0) rfl rfl, fun U hU hW => ⟨rfl, by rw [hU], by rw [hU]; exact hPc, va_K.moved hW.alike hK, hDc.weaken (fun _ _ _ _ => trivial), hSt.call hS hU hW hFc⟩⟩ rfl rfl hl.1 rfl (lv_room (Nat.le_of_ble_eq_true rfl)) dX2_readSum_22 ⟨(show (w_xSz_8.toInt - xSz.toInt).toNat + 0 ≤ (200 - xSz.toInt).toNat by omega), (show (4 * (w_xSz_8.toInt - xSz.toInt).toNat) + 0 ≤ (4 * (200 - xSz.toInt).toNat) by omega)⟩) hS (fun q _ h => hFc q h) hFc (fun r_25 u_26 t H1 locs ht hvm hw_27 hB hz1 hk1 hS => ?_)
          try dsimp only at hw_27 hB
          obtain ⟨po_28, tw_29⟩ := hw_27
          obtain ⟨hP1, hD1⟩ := hB
          rw [ht] at hP1
          obtain ⟨hP, hD⟩ := va_joinQ (wr := [((ax 14), .inl (cA 4, 200, .inr (.inr (.inr (.inr w_gSt_8)))))]) (w1 := [((ax 13), .inr (2, [.ref (ax 11), .ref (ax 14), .int w_xSz_8, .int w_xPl_8, .int w_xBe_8, .int xRt, .int w_xRf_8, .int w_xRd_8, .int w_xLk_8])), ((ax 11), .inr (5, [.ref (ax 12), .int xTz])), ((ax 12), .inl (cA 0, 200, .inl gB))]) hP hD [0, 1, 2] [3] rfl rfl (by decide) (by decide) hk1 hFc hP1 hD1
          clear hz1
          rw [scs_0] at tw_29
          generalize H1 = H at hP hS ⊢
          replace hP : va_P (dC, dI) vwCl (([((ax 14), .inl (cA 4, 200, .inr (.inr (.inr (.inr w_gSt_8))))), ((ax 13), .inr (2, [.ref (ax 11), .ref (ax 14), .int w_xSz_8, .int w_xPl_8, .int w_xBe_8, .int xRt, .int w_xRf_8, .int w_xRd_8, .int w_xLk_8])), ((ax 11), .inr (5, [.ref (ax 12), .int xTz])), ((ax 12), .inl (cA 0, 200, .inl gB))] : va_W) ++ va_pl w_L_8 w_pf_8) H := hP
          replace hD : va_D A (([((ax 14), .inl (cA 4, 200, .inr (.inr (.inr (.inr w_gSt_8))))), ((ax 13), .inr (2, [.ref (ax 11), .ref (ax 14), .int w_xSz_8, .int w_xPl_8, .int w_xBe_8, .int xRt, .int w_xRf_8, .int w_xRd_8, .int w_xLk_8])), ((ax 11), .inr (5, [.ref (ax 12), .int xTz])), ((ax 12), .inl (cA 0, 200, .inl gB))] : va_W) ++ va_pl w_L_8 w_pf_8) := hD
          refine lv_if_ne (tgt := 37) hx hb dX2_readSum_25 (by decide) (fun c_30 => ?_) (fun c_30 => ?_)
          · have dc_30 : ¬ r_25.toInt = 0 := jI_ne c_30 rfl (by decide)
            refine lv_aload_n hx hb dX2_readSum_37 rfl (lv_at hl 2 rfl) ?_
            refine va_ldcS hx hb hown (show vk_R RX2 61 "+" (adK 0) s from hSt.2.1 0 (by decide)) dX2_readSum_38 ?_
            obtain ⟨hPc, hDc, hFc, hCc⟩ := va_pre (ws' := [((ax 13), .inr (2, [.ref (ax 11), .ref (ax 14), .int w_xSz_8, .int w_xPl_8, .int w_xBe_8, .int xRt, .int w_xRf_8, .int w_xRd_8, .int w_xLk_8])), ((ax 11), .inr (5, [.ref (ax 12), .int xTz])), ((ax 12), .inl (cA 0, 200, .inl gB))]) hP hD hS hA [1, 2, 3] (by decide) rfl
            refine va_calli (va_runV (As := [.ref (adK 0)]) (rest := []) ⟨hx, hb, hml, hown, hts⟩ (k_X2_isAt l dC dI cA H.size ax w_xSz_8 w_xPl_8 w_xBe_8 xRt w_xRf_8 w_xRd_8 w_xLk_8 xTz gB adK adV 0 hv2_8 hv3_8 hv4_8 i_xRt i_xTz i_gB (by omega) hv5_8) (cwV 1 hts gX2_readSum_X2_isAt rfl rfl rfl (by decide +kernel) ⟨(show 4 + 1 ≤ FR + 10 from fl_b (F := FR) (a := 4 + 1) (c := 10) (by decide)), (show 8 + (4 + 11) + 85 ≤ LO + 220 from fl_b (F := LO) (a := 8 + (4 + 11) + 85) (c := 220) (by decide))⟩) ⟨fun a U g mk q => by obtain ⟨q0, q1, qP, qK, qD, qN⟩ := q; exact ⟨q0, q1, qP, va_K.moved (u := U) (U := U.calling g mk a) (Vm.Alike.refl U.vm) qK, qD, qN.same rfl rfl⟩, va_recv hK hPc (ci := 2) (q0 := 0) rfl rfl, fun U hU hW => ⟨rfl, by rw [hU], by rw [hU]; exact hPc, va_K.moved hW.alike hK, hDc.weaken (fun _ _ _ _ => trivial), hSt.call hS hU hW hFc⟩⟩ rfl rfl hl.1 rfl (lv_room (Nat.le_of_ble_eq_true rfl)) dX2_readSum_40 ⟨(show (w_xSz_8.toInt - xSz.toInt).toNat + 0 ≤ (200 - xSz.toInt).toNat by omega), (show (4 * (w_xSz_8.toInt - xSz.toInt).toNat) + 0 ≤ (4 * (200 - xSz.toInt).toNat) by omega)⟩) hS (fun q _ h => hFc q h) hFc (fun r_31 u_32 t H1 locs ht hvm hw_33 hB hz1 hk1 hS => ?_)
            try dsimp only at hw_33 hB
            obtain ⟨po_34, tw_35⟩ := hw_33
            obtain ⟨hP1, hD1⟩ := hB
            rw [ht] at hP1
            obtain ⟨hP, hD⟩ := va_joinQ (wr := [((ax 14), .inl (cA 4, 200, .inr (.inr (.inr (.inr w_gSt_8)))))]) (w1 := [((ax 13), .inr (2, [.ref (ax 11), .ref (ax 14), .int w_xSz_8, .int w_xPl_8, .int w_xBe_8, .int xRt, .int w_xRf_8, .int w_xRd_8, .int w_xLk_8])), ((ax 11), .inr (5, [.ref (ax 12), .int xTz])), ((ax 12), .inl (cA 0, 200, .inl gB))]) hP hD [1, 2, 3] [0] rfl rfl (by decide) (by decide) hk1 hFc hP1 hD1
            clear hz1
            rw [scs_0] at tw_35
            generalize H1 = H at hP hS ⊢
            replace hP : va_P (dC, dI) vwCl (([((ax 14), .inl (cA 4, 200, .inr (.inr (.inr (.inr w_gSt_8))))), ((ax 13), .inr (2, [.ref (ax 11), .ref (ax 14), .int w_xSz_8, .int w_xPl_8, .int w_xBe_8, .int xRt, .int w_xRf_8, .int w_xRd_8, .int w_xLk_8])), ((ax 11), .inr (5, [.ref (ax 12), .int xTz])), ((ax 12), .inl (cA 0, 200, .inl gB))] : va_W) ++ va_pl w_L_8 w_pf_8) H := hP
            replace hD : va_D A (([((ax 14), .inl (cA 4, 200, .inr (.inr (.inr (.inr w_gSt_8))))), ((ax 13), .inr (2, [.ref (ax 11), .ref (ax 14), .int w_xSz_8, .int w_xPl_8, .int w_xBe_8, .int xRt, .int w_xRf_8, .int w_xRd_8, .int w_xLk_8])), ((ax 11), .inr (5, [.ref (ax 12), .int xTz])), ((ax 12), .inl (cA 0, 200, .inl gB))] : va_W) ++ va_pl w_L_8 w_pf_8) := hD
            refine lv_if_eq (tgt := 51) hx hb dX2_readSum_43 (by decide) (fun c_36 => ?_) (fun c_36 => ?_)
            · have dc_36 : r_31.toInt = 0 := jI_eq c_36 rfl (by decide)
              refine lv_bipush (v := 10) hx hb dX2_readSum_51 (by decide) ?_
              refine lv_istore (lv' := [(4, .int 10), (3, .int i3), (2, .int so2), (0, .ref (ax 13)), (1, .int dp)]) hx hb dX2_readSum_53 hl (by decide) rfl (fun ls hl => ?_)
              refine lv_aload_n hx hb dX2_readSum_55 rfl (lv_at hl 3 rfl) ?_
              obtain ⟨hPc, hDc, hFc, hCc⟩ := va_pre (ws' := [((ax 13), .inr (2, [.ref (ax 11), .ref (ax 14), .int w_xSz_8, .int w_xPl_8, .int w_xBe_8, .int xRt, .int w_xRf_8, .int w_xRd_8, .int w_xLk_8])), ((ax 11), .inr (5, [.ref (ax 12), .int xTz])), ((ax 12), .inl (cA 0, 200, .inl gB))]) hP hD hS hA [1, 2, 3] (by decide) rfl
              refine va_callv (va_runV (As := []) (rest := []) ⟨hx, hb, hml, hown, hts⟩ (k_X2_advance l dC dI cA H.size ax w_xSz_8 w_xPl_8 w_xBe_8 xRt w_xRf_8 w_xRd_8 w_xLk_8 xTz gB hv2_8 hv3_8 hv4_8 i_xRt i_xTz i_gB (by omega)) (cwV 0 hts gX2_readSum_X2_advance rfl rfl rfl (by decide +kernel) ⟨(show 1 + 1 ≤ FR + 10 from fl_b (F := FR) (a := 1 + 1) (c := 10) (by decide)), (show 8 + (3 + 11) + 23 ≤ LO + 220 from fl_b (F := LO) (a := 8 + (3 + 11) + 23) (c := 220) (by decide))⟩) ⟨fun a U g mk q => by obtain ⟨q0, q1, qP, qK, qD, qN⟩ := q; exact ⟨q0, q1, qP, va_K.moved (u := U) (U := U.calling g mk a) (Vm.Alike.refl U.vm) qK, qD, qN.same rfl⟩, va_recv hK hPc (ci := 2) (q0 := 0) rfl rfl, fun U hU hW => ⟨rfl, by rw [hU], by rw [hU]; exact hPc, va_K.moved hW.alike hK, hDc.weaken (fun _ _ _ _ => trivial), hN.warm hW⟩⟩ rfl rfl hl.1 rfl (lv_room (Nat.le_of_ble_eq_true rfl)) dX2_readSum_56 ⟨(show (w_xSz_8.toInt - xSz.toInt).toNat + 0 ≤ (200 - xSz.toInt).toNat by omega), (show (4 * (w_xSz_8.toInt - xSz.toInt).toNat) + 0 ≤ (4 * (200 - xSz.toInt).toNat) by omega)⟩) hS (fun q _ h => hFc q h) hFc (fun u_37 t H1 locs ht hvm hw_38 hB hz1 hk1 hS => ?_)
              obtain ⟨w_39, w_40⟩ := u_37
              try dsimp only at hw_38 hB
              obtain ⟨iv_41, iv_42, po_43, tk_44, ad_45⟩ := hw_38
              obtain ⟨hP1, hD1⟩ := hB
              rw [ht] at hP1
              obtain ⟨hP, hD⟩ := va_joinQ (wr := [((ax 14), .inl (cA 4, 200, .inr (.inr (.inr (.inr w_gSt_8)))))]) (w1 := [((ax 13), .inr (2, [.ref (ax 11), .ref (ax 14), .int w_xSz_8, .int w_39, .int w_40, .int xRt, .int w_xRf_8, .int w_xRd_8, .int w_xLk_8])), ((ax 11), .inr (5, [.ref (ax 12), .int xTz])), ((ax 12), .inl (cA 0, 200, .inl gB))]) hP hD [1, 2, 3] [0] rfl rfl (by decide) (by decide) hk1 hFc hP1 hD1
              clear hz1
              generalize H1 = H at hP hS ⊢
              replace hP : va_P (dC, dI) vwCl (([((ax 14), .inl (cA 4, 200, .inr (.inr (.inr (.inr w_gSt_8))))), ((ax 13), .inr (2, [.ref (ax 11), .ref (ax 14), .int w_xSz_8, .int w_39, .int w_40, .int xRt, .int w_xRf_8, .int w_xRd_8, .int w_xLk_8])), ((ax 11), .inr (5, [.ref (ax 12), .int xTz])), ((ax 12), .inl (cA 0, 200, .inl gB))] : va_W) ++ va_pl w_L_8 w_pf_8) H := hP
              replace hD : va_D A (([((ax 14), .inl (cA 4, 200, .inr (.inr (.inr (.inr w_gSt_8))))), ((ax 13), .inr (2, [.ref (ax 11), .ref (ax 14), .int w_xSz_8, .int w_39, .int w_40, .int xRt, .int w_xRf_8, .int w_xRd_8, .int w_xLk_8])), ((ax 11), .inr (5, [.ref (ax 12), .int xTz])), ((ax 12), .inl (cA 0, 200, .inl gB))] : va_W) ++ va_pl w_L_8 w_pf_8) := hD
              refine lv_aload_n hx hb dX2_readSum_59 rfl (lv_at hl 3 rfl) ?_
              refine lv_iload_n hx hb dX2_readSum_60 rfl (lv_at hl 4 rfl) ?_
              obtain ⟨hPc, hDc, hFc, hCc⟩ := va_pre (ws' := [((ax 13), .inr (2, [.ref (ax 11), .ref (ax 14), .int w_xSz_8, .int w_39, .int w_40, .int xRt, .int w_xRf_8, .int w_xRd_8, .int w_xLk_8])), ((ax 11), .inr (5, [.ref (ax 12), .int xTz])), ((ax 12), .inl (cA 0, 200, .inl gB)), ((ax 14), .inl (cA 4, 200, .inr (.inr (.inr (.inr w_gSt_8)))))]) hP hD hS hA [1, 2, 3, 0] (by decide) rfl
              refine W.know (fun hkn1 hkn2 => ?_)
              have hS0 := hS.1
              refine va_calli (va_runV (As := [.int dp]) (rest := []) ⟨hx, hb, hml, hown, hts⟩ (k_X2_readTerm l dC dI cA H.size ax w_xSz_8 w_39 w_40 xRt w_xRf_8 w_xRd_8 w_xLk_8 xTz gB w_gSt_8 dp adK adV rl FR LO hv2_8 iv_41 iv_42 i_xRt i_xTz i_gB (by omega) tk_44 (by omega) hdp hop ih) (cwV 1 hts gX2_readSum_X2_readTerm rfl rfl rfl (by decide +kernel) ⟨(show (FR + 9) + 1 ≤ FR + 10 from fl_a (F := FR) (a := 9) (b := 1) (c := 10) (by decide)), (show 8 + (5 + 11) + (LO + 196) ≤ LO + 220 from fl_c (F := LO) (a := 8 + (5 + 11)) (b := 196) (c := 220) (by decide))⟩) ⟨fun a U g mk q => by obtain ⟨q0, q1, qP, qK, qD, qN⟩ := q; exact ⟨q0, q1, qP, va_K.moved (u := U) (U := U.calling g mk a) (Vm.Alike.refl U.vm) qK, qD, qN.same rfl rfl⟩, va_recv hK hPc (ci := 2) (q0 := 0) rfl rfl, fun U hU hW => ⟨rfl, by rw [hU], by rw [hU]; exact hPc, va_K.moved hW.alike hK, hDc.weaken (fun _ _ _ _ => trivial), hSt.call hS hU hW hFc⟩⟩ rfl rfl hl.1 rfl (lv_room (Nat.le_of_ble_eq_true rfl)) dX2_readSum_61 ⟨(show (w_xSz_8.toInt - xSz.toInt).toNat + ((200 - w_xSz_8.toInt).toNat) ≤ (200 - xSz.toInt).toNat by omega), (show (4 * (w_xSz_8.toInt - xSz.toInt).toNat) + (4 * (200 - w_xSz_8.toInt).toNat) ≤ (4 * (200 - xSz.toInt).toNat) by omega)⟩) hS (fun q _ h => hFc q h) hFc (fun r_46 u_47 t H1 locs ht hvm hw_48 hB hz1 hk1 hS => ?_)
              obtain ⟨w_49, w_50, w_51, w_52, w_53, w_54, w_55, w_56, w_57⟩ := u_47
              try dsimp only at hw_48 hB
              obtain ⟨iv_58, iv_59, iv_60, po_61, tk_62, st_63, rs_64, rf_65⟩ := hw_48
              obtain ⟨hP1, hD1, hX1⟩ := hB
              rw [ht] at hP1 hX1
              obtain ⟨hP, hD⟩ := va_joinQ (wr := []) (w1 := ([((ax 13), .inr (2, [.ref (ax 11), .ref (ax 14), .int w_49, .int w_50, .int w_51, .int xRt, .int w_52, .int w_53, .int w_54])), ((ax 11), .inr (5, [.ref (ax 12), .int xTz])), ((ax 12), .inl (cA 0, 200, .inl gB)), ((ax 14), .inl (cA 4, 200, .inr (.inr (.inr (.inr w_55)))))] : va_W) ++ va_pl w_56 w_57) hP hD [1, 2, 3, 0] [] rfl rfl (by decide) (by decide) hk1 hFc hP1 hD1
              obtain ⟨fm_66, hma_fm_66, hmb_fm_66, hP, hD⟩ := pl_merge hP hD
              have sq_fm_66 := stq_tr hv7_8 st_63 hma_fm_66 hmb_fm_66
              have hle_fm_66 := sq_fm_66.1
              have hlf_fm_66 := st_63.1
              refine W.tight (cells' := (w_49.toInt - xSz.toInt).toNat) (slots' := 4 * (w_49.toInt - xSz.toInt).toNat) (by omega) (by have hch := ssum_chain hS0 hz1 (fun q h1 h2 => hk1 q h2 (na_of (fun k e hk => by rcases mem4 hk with h | h | h | h <;> omega) h1 h2)); omega) ?_
              clear hz1
              generalize H1 = H at hP hS ⊢
              replace hP : va_P (dC, dI) vwCl (([((ax 13), .inr (2, [.ref (ax 11), .ref (ax 14), .int w_49, .int w_50, .int w_51, .int xRt, .int w_52, .int w_53, .int w_54])), ((ax 11), .inr (5, [.ref (ax 12), .int xTz])), ((ax 12), .inl (cA 0, 200, .inl gB)), ((ax 14), .inl (cA 4, 200, .inr (.inr (.inr (.inr w_55)))))] : va_W) ++ va_pl (w_L_8 ++ w_56) fm_66) H := hP
              replace hD : va_D A (([((ax 13), .inr (2, [.ref (ax 11), .ref (ax 14), .int w_49, .int w_50, .int w_51, .int xRt, .int w_52, .int w_53, .int w_54])), ((ax 11), .inr (5, [.ref (ax 12), .int xTz])), ((ax 12), .inl (cA 0, 200, .inl gB)), ((ax 14), .inl (cA 4, 200, .inr (.inr (.inr (.inr w_55)))))] : va_W) ++ va_pl (w_L_8 ++ w_56) fm_66) := hD
              refine lv_istore_n (lv' := [(2, .int r_46), (4, .int 10), (3, .int i3), (0, .ref (ax 13)), (1, .int dp)]) hx hb dX2_readSum_64 rfl hl (by decide) rfl (fun ls hl => ?_)
              refine lv_aload_n hx hb dX2_readSum_65 rfl (lv_at hl 3 rfl) ?_
              refine lv_iload hx hb dX2_readSum_66 (lv_at hl 1 rfl) ?_
              refine lv_iconst (v := (-1)) hx hb dX2_readSum_68 (by decide) ?_
              refine lv_iconst (v := (-1)) hx hb dX2_readSum_69 (by decide) ?_
              refine lv_iconst (v := (-1)) hx hb dX2_readSum_70 (by decide) ?_
              have hk_67 : (10 : Int32).toInt = 10 := by decide
              have hk_68 : ((-1) : Int32).toInt = (-1) := by decide
              obtain ⟨hPc, hDc, hFc, hCc⟩ := va_pre (ws' := [((ax 13), .inr (2, [.ref (ax 11), .ref (ax 14), .int w_49, .int w_50, .int w_51, .int xRt, .int w_52, .int w_53, .int w_54])), ((ax 11), .inr (5, [.ref (ax 12), .int xTz])), ((ax 12), .inl (cA 0, 200, .inl gB)), ((ax 14), .inl (cA 4, 200, .inr (.inr (.inr (.inr w_55)))))]) hP hD hS hA [0, 1, 2, 3] (by decide) rfl
              refine W.know (fun hkn1 hkn2 => ?_)
              have hS0 := hS.1
              refine va_callv (va_runV (As := [.int 10, .int (-1), .int (-1), .int (-1)]) (rest := []) ⟨hx, hb, hml, hown, hts⟩ (k_X2_emit l dC dI cA H.size ax w_49 w_50 w_51 xRt w_52 w_53 w_54 xTz gB w_55 10 (-1) (-1) (-1) iv_58 iv_59 iv_60 i_xRt i_xTz i_gB (by omega)) (cwV 4 hts gX2_readSum_X2_emit rfl rfl rfl (by decide +kernel) ⟨(show 2 + 1 ≤ FR + 10 from fl_b (F := FR) (a := 2 + 1) (c := 10) (by decide)), (show 8 + (5 + 11) + 44 ≤ LO + 220 from fl_b (F := LO) (a := 8 + (5 + 11) + 44) (c := 220) (by decide))⟩) ⟨fun a U g mk q => by obtain ⟨q0, q1, qP, qK, qD, qN⟩ := q; exact ⟨q0, q1, qP, va_K.moved (u := U) (U := U.calling g mk a) (Vm.Alike.refl U.vm) qK, qD, qN.same rfl⟩, va_recv hK hPc (ci := 2) (q0 := 0) rfl rfl, fun U hU hW => ⟨rfl, by rw [hU], by rw [hU]; exact hPc, va_K.moved hW.alike hK, hDc.weaken (fun _ _ _ _ => trivial), hN.warm hW⟩⟩ rfl rfl hl.1 rfl (lv_room (Nat.le_of_ble_eq_true rfl)) dX2_readSum_71 ⟨(show (w_49.toInt - xSz.toInt).toNat + ((200 - w_49.toInt).toNat) ≤ (200 - xSz.toInt).toNat by omega), (show (4 * (w_49.toInt - xSz.toInt).toNat) + (4 * (200 - w_49.toInt).toNat) ≤ (4 * (200 - xSz.toInt).toNat) by omega)⟩) hS (fun q _ h => hFc q h) hFc (fun u_69 t H1 locs ht hvm hw_70 hB hz1 hk1 hS => ?_)
              obtain ⟨w_71, w_72, w_73, w_74⟩ := u_69
              try dsimp only at hw_70 hB
              obtain ⟨iv_75, st_76⟩ := hw_70
              try simp only [hk_67, hk_68] at st_76
              obtain ⟨hP1, hD1, hX1⟩ := hB
              rw [ht] at hP1 hX1
              obtain ⟨hP, hD⟩ := va_joinQ (wr := []) (w1 := ([((ax 13), .inr (2, [.ref (ax 11), .ref (ax 14), .int w_71, .int w_50, .int w_51, .int xRt, .int w_52, .int w_53, .int w_54])), ((ax 11), .inr (5, [.ref (ax 12), .int xTz])), ((ax 12), .inl (cA 0, 200, .inl gB)), ((ax 14), .inl (cA 4, 200, .inr (.inr (.inr (.inr w_72)))))] : va_W) ++ va_pl w_73 w_74) hP hD [0, 1, 2, 3] [] rfl rfl (by decide) (by decide) hk1 hFc hP1 hD1
              obtain ⟨fm_77, hma_fm_77, hmb_fm_77, hP, hD⟩ := pl_merge hP hD
              have sq_fm_77 := stq_tr sq_fm_66 st_76 hma_fm_77 hmb_fm_77
              have hle_fm_77 := sq_fm_77.1
              have hlf_fm_77 := st_76.1
              refine W.tight (cells' := (w_71.toInt - xSz.toInt).toNat) (slots' := 4 * (w_71.toInt - xSz.toInt).toNat) (by omega) (by have hch := ssum_chain hS0 hz1 (fun q h1 h2 => hk1 q h2 (na_of (fun k e hk => by rcases mem4 hk with h | h | h | h <;> omega) h1 h2)); omega) ?_
              clear hz1
              generalize H1 = H at hP hS ⊢
              replace hP : va_P (dC, dI) vwCl (([((ax 13), .inr (2, [.ref (ax 11), .ref (ax 14), .int w_71, .int w_50, .int w_51, .int xRt, .int w_52, .int w_53, .int w_54])), ((ax 11), .inr (5, [.ref (ax 12), .int xTz])), ((ax 12), .inl (cA 0, 200, .inl gB)), ((ax 14), .inl (cA 4, 200, .inr (.inr (.inr (.inr w_72)))))] : va_W) ++ va_pl ((w_L_8 ++ w_56) ++ w_73) fm_77) H := hP
              replace hD : va_D A (([((ax 13), .inr (2, [.ref (ax 11), .ref (ax 14), .int w_71, .int w_50, .int w_51, .int xRt, .int w_52, .int w_53, .int w_54])), ((ax 11), .inr (5, [.ref (ax 12), .int xTz])), ((ax 12), .inl (cA 0, 200, .inl gB)), ((ax 14), .inl (cA 4, 200, .inr (.inr (.inr (.inr w_72)))))] : va_W) ++ va_pl ((w_L_8 ++ w_56) ++ w_73) fm_77) := hD
              obtain ⟨x_78, ex_78⟩ : ∃ y : Int32, y = i3 + 1 := ⟨_, rfl⟩
              have dx_78 : x_78.toInt = i3.toInt + 1 := by rw [ex_78]; exact jI_add rfl (by decide) (by omega) (by omega)
              refine lv_iinc (v := x_78) (lv' := [(3, .int x_78), (2, .int r_46), (4, .int 10), (0, .ref (ax 13)), (1, .int dp)]) hx hb dX2_readSum_74 hl (k := 2) rfl (by rw [ex_78]; rfl) (by decide) rfl (fun ls hl => ?_)
              refine lv_goto (tgt := 8) hx hb dX2_readSum_77 (by decide) ?_
              exact ih_8 x_78 r_46 w_71 w_50 w_51 w_52 w_53 w_54 w_72 ((w_L_8 ++ w_56) ++ w_73) fm_77 _ _ ls (by omega) (by omega) (by omega) iv_75 iv_59 iv_60 (by omega) (tk_62) (sq_fm_77) (by omega) (lp_back hv9_8 (by omega) (Or.inl (tw_29.mp dc_30)) (by omega) ad_45.1 ad_45.2 rs_64) (hP.part (cx := [((ax 13), .inr (2, [.ref (ax 11), .ref (ax 14), .int w_71, .int w_50, .int w_51, .int xRt, .int w_52, .int w_53, .int w_54])), ((ax 11), .inr (5, [.ref (ax 12), .int xTz])), ((ax 12), .inl (cA 0, 200, .inl gB)), ((ax 14), .inl (cA 4, 200, .inr (.inr (.inr (.inr w_72)))))]) [0, 1, 2, 3] rfl) (hD.part (cx := [((ax 13), .inr (2, [.ref (ax 11), .ref (ax 14), .int w_71, .int w_50, .int w_51, .int xRt, .int w_52, .int w_53, .int w_54])), ((ax 11), .inr (5, [.ref (ax 12), .int xTz])), ((ax 12), .inl (cA 0, 200, .inl gB)), ((ax 14), .inl (cA 4, 200, .inr (.inr (.inr (.inr w_72)))))]) [0, 1, 2, 3] (by decide) rfl) hS (lv_sub hl [0, 1, 3, 4] rfl)
            · have dc_36 : ¬ r_31.toInt = 0 := jI_ne c_36 rfl (by decide)
              refine lv_bipush (v := 9) hx hb dX2_readSum_46 (by decide) ?_
              refine lv_goto (tgt := 53) hx hb dX2_readSum_48 (by decide) ?_
              refine lv_istore (lv' := [(4, .int 9), (3, .int i3), (2, .int so2), (0, .ref (ax 13)), (1, .int dp)]) hx hb dX2_readSum_53 hl (by decide) rfl (fun ls hl => ?_)
              refine lv_aload_n hx hb dX2_readSum_55 rfl (lv_at hl 3 rfl) ?_
              obtain ⟨hPc, hDc, hFc, hCc⟩ := va_pre (ws' := [((ax 13), .inr (2, [.ref (ax 11), .ref (ax 14), .int w_xSz_8, .int w_xPl_8, .int w_xBe_8, .int xRt, .int w_xRf_8, .int w_xRd_8, .int w_xLk_8])), ((ax 11), .inr (5, [.ref (ax 12), .int xTz])), ((ax 12), .inl (cA 0, 200, .inl gB))]) hP hD hS hA [1, 2, 3] (by decide) rfl
              refine va_callv (va_runV (As := []) (rest := []) ⟨hx, hb, hml, hown, hts⟩ (k_X2_advance l dC dI cA H.size ax w_xSz_8 w_xPl_8 w_xBe_8 xRt w_xRf_8 w_xRd_8 w_xLk_8 xTz gB hv2_8 hv3_8 hv4_8 i_xRt i_xTz i_gB (by omega)) (cwV 0 hts gX2_readSum_X2_advance rfl rfl rfl (by decide +kernel) ⟨(show 1 + 1 ≤ FR + 10 from fl_b (F := FR) (a := 1 + 1) (c := 10) (by decide)), (show 8 + (3 + 11) + 23 ≤ LO + 220 from fl_b (F := LO) (a := 8 + (3 + 11) + 23) (c := 220) (by decide))⟩) ⟨fun a U g mk q => by obtain ⟨q0, q1, qP, qK, qD, qN⟩ := q; exact ⟨q0, q1, qP, va_K.moved (u := U) (U := U.calling g mk a) (Vm.Alike.refl U.vm) qK, qD, qN.same rfl⟩, va_recv hK hPc (ci := 2) (q0 := 0) rfl rfl, fun U hU hW => ⟨rfl, by rw [hU], by rw [hU]; exact hPc, va_K.moved hW.alike hK, hDc.weaken (fun _ _ _ _ => trivial), hN.warm hW⟩⟩ rfl rfl hl.1 rfl (lv_room (Nat.le_of_ble_eq_true rfl)) dX2_readSum_56 ⟨(show (w_xSz_8.toInt - xSz.toInt).toNat + 0 ≤ (200 - xSz.toInt).toNat by omega), (show (4 * (w_xSz_8.toInt - xSz.toInt).toNat) + 0 ≤ (4 * (200 - xSz.toInt).toNat) by omega)⟩) hS (fun q _ h => hFc q h) hFc (fun u_79 t H1 locs ht hvm hw_80 hB hz1 hk1 hS => ?_)
              obtain ⟨w_81, w_82⟩ := u_79
              try dsimp only at hw_80 hB
              obtain ⟨iv_83, iv_84, po_85, tk_86, ad_87⟩ := hw_80
              obtain ⟨hP1, hD1⟩ := hB
              rw [ht] at hP1
              obtain ⟨hP, hD⟩ := va_joinQ (wr := [((ax 14), .inl (cA 4, 200, .inr (.inr (.inr (.inr w_gSt_8)))))]) (w1 := [((ax 13), .inr (2, [.ref (ax 11), .ref (ax 14), .int w_xSz_8, .int w_81, .int w_82, .int xRt, .int w_xRf_8, .int w_xRd_8, .int w_xLk_8])), ((ax 11), .inr (5, [.ref (ax 12), .int xTz])), ((ax 12), .inl (cA 0, 200, .inl gB))]) hP hD [1, 2, 3] [0] rfl rfl (by decide) (by decide) hk1 hFc hP1 hD1
              clear hz1
              generalize H1 = H at hP hS ⊢
              replace hP : va_P (dC, dI) vwCl (([((ax 14), .inl (cA 4, 200, .inr (.inr (.inr (.inr w_gSt_8))))), ((ax 13), .inr (2, [.ref (ax 11), .ref (ax 14), .int w_xSz_8, .int w_81, .int w_82, .int xRt, .int w_xRf_8, .int w_xRd_8, .int w_xLk_8])), ((ax 11), .inr (5, [.ref (ax 12), .int xTz])), ((ax 12), .inl (cA 0, 200, .inl gB))] : va_W) ++ va_pl w_L_8 w_pf_8) H := hP
              replace hD : va_D A (([((ax 14), .inl (cA 4, 200, .inr (.inr (.inr (.inr w_gSt_8))))), ((ax 13), .inr (2, [.ref (ax 11), .ref (ax 14), .int w_xSz_8, .int w_81, .int w_82, .int xRt, .int w_xRf_8, .int w_xRd_8, .int w_xLk_8])), ((ax 11), .inr (5, [.ref (ax 12), .int xTz])), ((ax 12), .inl (cA 0, 200, .inl gB))] : va_W) ++ va_pl w_L_8 w_pf_8) := hD
              refine lv_aload_n hx hb dX2_readSum_59 rfl (lv_at hl 3 rfl) ?_
              refine lv_iload_n hx hb dX2_readSum_60 rfl (lv_at hl 4 rfl) ?_
              obtain ⟨hPc, hDc, hFc, hCc⟩ := va_pre (ws' := [((ax 13), .inr (2, [.ref (ax 11), .ref (ax 14), .int w_xSz_8, .int w_81, .int w_82, .int xRt, .int w_xRf_8, .int w_xRd_8, .int w_xLk_8])), ((ax 11), .inr (5, [.ref (ax 12), .int xTz])), ((ax 12), .inl (cA 0, 200, .inl gB)), ((ax 14), .inl (cA 4, 200, .inr (.inr (.inr (.inr w_gSt_8)))))]) hP hD hS hA [1, 2, 3, 0] (by decide) rfl
              refine W.know (fun hkn1 hkn2 => ?_)
              have hS0 := hS.1
              refine va_calli (va_runV (As := [.int dp]) (rest := []) ⟨hx, hb, hml, hown, hts⟩ (k_X2_readTerm l dC dI cA H.size ax w_xSz_8 w_81 w_82 xRt w_xRf_8 w_xRd_8 w_xLk_8 xTz gB w_gSt_8 dp adK adV rl FR LO hv2_8 iv_83 iv_84 i_xRt i_xTz i_gB (by omega) tk_86 (by omega) hdp hop ih) (cwV 1 hts gX2_readSum_X2_readTerm rfl rfl rfl (by decide +kernel) ⟨(show (FR + 9) + 1 ≤ FR + 10 from fl_a (F := FR) (a := 9) (b := 1) (c := 10) (by decide)), (show 8 + (5 + 11) + (LO + 196) ≤ LO + 220 from fl_c (F := LO) (a := 8 + (5 + 11)) (b := 196) (c := 220) (by decide))⟩) ⟨fun a U g mk q => by obtain ⟨q0, q1, qP, qK, qD, qN⟩ := q; exact ⟨q0, q1, qP, va_K.moved (u := U) (U := U.calling g mk a) (Vm.Alike.refl U.vm) qK, qD, qN.same rfl rfl⟩, va_recv hK hPc (ci := 2) (q0 := 0) rfl rfl, fun U hU hW => ⟨rfl, by rw [hU], by rw [hU]; exact hPc, va_K.moved hW.alike hK, hDc.weaken (fun _ _ _ _ => trivial), hSt.call hS hU hW hFc⟩⟩ rfl rfl hl.1 rfl (lv_room (Nat.le_of_ble_eq_true rfl)) dX2_readSum_61 ⟨(show (w_xSz_8.toInt - xSz.toInt).toNat + ((200 - w_xSz_8.toInt).toNat) ≤ (200 - xSz.toInt).toNat by omega), (show (4 * (w_xSz_8.toInt - xSz.toInt).toNat) + (4 * (200 - w_xSz_8.toInt).toNat) ≤ (4 * (200 - xSz.toInt).toNat) by omega)⟩) hS (fun q _ h => hFc q h) hFc (fun r_88 u_89 t H1 locs ht hvm hw_90 hB hz1 hk1 hS => ?_)
              obtain ⟨w_91, w_92, w_93, w_94, w_95, w_96, w_97, w_98, w_99⟩ := u_89
              try dsimp only at hw_90 hB
              obtain ⟨iv_100, iv_101, iv_102, po_103, tk_104, st_105, rs_106, rf_107⟩ := hw_90
              obtain ⟨hP1, hD1, hX1⟩ := hB
              rw [ht] at hP1 hX1
              obtain ⟨hP, hD⟩ := va_joinQ (wr := []) (w1 := ([((ax 13), .inr (2, [.ref (ax 11), .ref (ax 14), .int w_91, .int w_92, .int w_93, .int xRt, .int w_94, .int w_95, .int w_96])), ((ax 11), .inr (5, [.ref (ax 12), .int xTz])), ((ax 12), .inl (cA 0, 200, .inl gB)), ((ax 14), .inl (cA 4, 200, .inr (.inr (.inr (.inr w_97)))))] : va_W) ++ va_pl w_98 w_99) hP hD [1, 2, 3, 0] [] rfl rfl (by decide) (by decide) hk1 hFc hP1 hD1
              obtain ⟨fm_108, hma_fm_108, hmb_fm_108, hP, hD⟩ := pl_merge hP hD
              have sq_fm_108 := stq_tr hv7_8 st_105 hma_fm_108 hmb_fm_108
              have hle_fm_108 := sq_fm_108.1
              have hlf_fm_108 := st_105.1
              refine W.tight (cells' := (w_91.toInt - xSz.toInt).toNat) (slots' := 4 * (w_91.toInt - xSz.toInt).toNat) (by omega) (by have hch := ssum_chain hS0 hz1 (fun q h1 h2 => hk1 q h2 (na_of (fun k e hk => by rcases mem4 hk with h | h | h | h <;> omega) h1 h2)); omega) ?_
              clear hz1
              generalize H1 = H at hP hS ⊢
              replace hP : va_P (dC, dI) vwCl (([((ax 13), .inr (2, [.ref (ax 11), .ref (ax 14), .int w_91, .int w_92, .int w_93, .int xRt, .int w_94, .int w_95, .int w_96])), ((ax 11), .inr (5, [.ref (ax 12), .int xTz])), ((ax 12), .inl (cA 0, 200, .inl gB)), ((ax 14), .inl (cA 4, 200, .inr (.inr (.inr (.inr w_97)))))] : va_W) ++ va_pl (w_L_8 ++ w_98) fm_108) H := hP
              replace hD : va_D A (([((ax 13), .inr (2, [.ref (ax 11), .ref (ax 14), .int w_91, .int w_92, .int w_93, .int xRt, .int w_94, .int w_95, .int w_96])), ((ax 11), .inr (5, [.ref (ax 12), .int xTz])), ((ax 12), .inl (cA 0, 200, .inl gB)), ((ax 14), .inl (cA 4, 200, .inr (.inr (.inr (.inr w_97)))))] : va_W) ++ va_pl (w_L_8 ++ w_98) fm_108) := hD
              refine lv_istore_n (lv' := [(2, .int r_88), (4, .int 9), (3, .int i3), (0, .ref (ax 13)), (1, .int dp)]) hx hb dX2_readSum_64 rfl hl (by decide) rfl (fun ls hl => ?_)
              refine lv_aload_n hx hb dX2_readSum_65 rfl (lv_at hl 3 rfl) ?_
              refine lv_iload hx hb dX2_readSum_66 (lv_at hl 1 rfl) ?_
              refine lv_iconst (v := (-1)) hx hb dX2_readSum_68 (by decide) ?_
              refine lv_iconst (v := (-1)) hx hb dX2_readSum_69 (by decide) ?_
              refine lv_iconst (v := (-1)) hx hb dX2_readSum_70 (by decide) ?_
              have hk_109 : (9 : Int32).toInt = 9 := by decide
              have hk_110 : ((-1) : Int32).toInt = (-1) := by decide
              obtain ⟨hPc, hDc, hFc, hCc⟩ := va_pre (ws' := [((ax 13), .inr (2, [.ref (ax 11), .ref (ax 14), .int w_91, .int w_92, .int w_93, .int xRt, .int w_94, .int w_95, .int w_96])), ((ax 11), .inr (5, [.ref (ax 12), .int xTz])), ((ax 12), .inl (cA 0, 200, .inl gB)), ((ax 14), .inl (cA 4, 200, .inr (.inr (.inr (.inr w_97)))))]) hP hD hS hA [0, 1, 2, 3] (by decide) rfl
              refine W.know (fun hkn1 hkn2 => ?_)
              have hS0 := hS.1
              refine va_callv (va_runV (As := [.int 9, .int (-1), .int (-1), .int (-1)]) (rest := []) ⟨hx, hb, hml, hown, hts⟩ (k_X2_emit l dC dI cA H.size ax w_91 w_92 w_93 xRt w_94 w_95 w_96 xTz gB w_97 9 (-1) (-1) (-1) iv_100 iv_101 iv_102 i_xRt i_xTz i_gB (by omega)) (cwV 4 hts gX2_readSum_X2_emit rfl rfl rfl (by decide +kernel) ⟨(show 2 + 1 ≤ FR + 10 from fl_b (F := FR) (a := 2 + 1) (c := 10) (by decide)), (show 8 + (5 + 11) + 44 ≤ LO + 220 from fl_b (F := LO) (a := 8 + (5 + 11) + 44) (c := 220) (by decide))⟩) ⟨fun a U g mk q => by obtain ⟨q0, q1, qP, qK, qD, qN⟩ := q; exact ⟨q0, q1, qP, va_K.moved (u := U) (U := U.calling g mk a) (Vm.Alike.refl U.vm) qK, qD, qN.same rfl⟩, va_recv hK hPc (ci := 2) (q0 := 0) rfl rfl, fun U hU hW => ⟨rfl, by rw [hU], by rw [hU]; exact hPc, va_K.moved hW.alike hK, hDc.weaken (fun _ _ _ _ => trivial), hN.warm hW⟩⟩ rfl rfl hl.1 rfl (lv_room (Nat.le_of_ble_eq_true rfl)) dX2_readSum_71 ⟨(show (w_91.toInt - xSz.toInt).toNat + ((200 - w_91.toInt).toNat) ≤ (200 - xSz.toInt).toNat by omega), (show (4 * (w_91.toInt - xSz.toInt).toNat) + (4 * (200 - w_91.toInt).toNat) ≤ (4 * (200 - xSz.toInt).toNat) by omega)⟩) hS (fun q _ h => hFc q h) hFc (fun u_111 t H1 locs ht hvm hw_112 hB hz1 hk1 hS => ?_)
              obtain ⟨w_113, w_114, w_115, w_116⟩ := u_111
              try dsimp only at hw_112 hB
              obtain ⟨iv_117, st_118⟩ := hw_112
              try simp only [hk_109, hk_110] at st_118
              obtain ⟨hP1, hD1, hX1⟩ := hB
              rw [ht] at hP1 hX1
              obtain ⟨hP, hD⟩ := va_joinQ (wr := []) (w1 := ([((ax 13), .inr (2, [.ref (ax 11), .ref (ax 14), .int w_113, .int w_92, .int w_93, .int xRt, .int w_94, .int w_95, .int w_96])), ((ax 11), .inr (5, [.ref (ax 12), .int xTz])), ((ax 12), .inl (cA 0, 200, .inl gB)), ((ax 14), .inl (cA 4, 200, .inr (.inr (.inr (.inr w_114)))))] : va_W) ++ va_pl w_115 w_116) hP hD [0, 1, 2, 3] [] rfl rfl (by decide) (by decide) hk1 hFc hP1 hD1
              obtain ⟨fm_119, hma_fm_119, hmb_fm_119, hP, hD⟩ := pl_merge hP hD
              have sq_fm_119 := stq_tr sq_fm_108 st_118 hma_fm_119 hmb_fm_119
              have hle_fm_119 := sq_fm_119.1
              have hlf_fm_119 := st_118.1
              refine W.tight (cells' := (w_113.toInt - xSz.toInt).toNat) (slots' := 4 * (w_113.toInt - xSz.toInt).toNat) (by omega) (by have hch := ssum_chain hS0 hz1 (fun q h1 h2 => hk1 q h2 (na_of (fun k e hk => by rcases mem4 hk with h | h | h | h <;> omega) h1 h2)); omega) ?_
              clear hz1
              generalize H1 = H at hP hS ⊢
              replace hP : va_P (dC, dI) vwCl (([((ax 13), .inr (2, [.ref (ax 11), .ref (ax 14), .int w_113, .int w_92, .int w_93, .int xRt, .int w_94, .int w_95, .int w_96])), ((ax 11), .inr (5, [.ref (ax 12), .int xTz])), ((ax 12), .inl (cA 0, 200, .inl gB)), ((ax 14), .inl (cA 4, 200, .inr (.inr (.inr (.inr w_114)))))] : va_W) ++ va_pl ((w_L_8 ++ w_98) ++ w_115) fm_119) H := hP
              replace hD : va_D A (([((ax 13), .inr (2, [.ref (ax 11), .ref (ax 14), .int w_113, .int w_92, .int w_93, .int xRt, .int w_94, .int w_95, .int w_96])), ((ax 11), .inr (5, [.ref (ax 12), .int xTz])), ((ax 12), .inl (cA 0, 200, .inl gB)), ((ax 14), .inl (cA 4, 200, .inr (.inr (.inr (.inr w_114)))))] : va_W) ++ va_pl ((w_L_8 ++ w_98) ++ w_115) fm_119) := hD
              obtain ⟨x_120, ex_120⟩ : ∃ y : Int32, y = i3 + 1 := ⟨_, rfl⟩
              have dx_120 : x_120.toInt = i3.toInt + 1 := by rw [ex_120]; exact jI_add rfl (by decide) (by omega) (by omega)
              refine lv_iinc (v := x_120) (lv' := [(3, .int x_120), (2, .int r_88), (4, .int 9), (0, .ref (ax 13)), (1, .int dp)]) hx hb dX2_readSum_74 hl (k := 2) rfl (by rw [ex_120]; rfl) (by decide) rfl (fun ls hl => ?_)
              refine lv_goto (tgt := 8) hx hb dX2_readSum_77 (by decide) ?_
              exact ih_8 x_120 r_88 w_113 w_92 w_93 w_94 w_95 w_96 w_114 ((w_L_8 ++ w_98) ++ w_115) fm_119 _ _ ls (by omega) (by omega) (by omega) iv_117 iv_101 iv_102 (by omega) (tk_104) (sq_fm_119) (by omega) (lp_back hv9_8 (by omega) (Or.inl (tw_29.mp dc_30)) (by omega) ad_87.1 ad_87.2 rs_106) (hP.part (cx := [((ax 13), .inr (2, [.ref (ax 11), .ref (ax 14), .int w_113, .int w_92, .int w_93, .int xRt, .int w_94, .int w_95, .int w_96])), ((ax 11), .inr (5, [.ref (ax 12), .int xTz])), ((ax 12), .inl (cA 0, 200, .inl gB)), ((ax 14), .inl (cA 4, 200, .inr (.inr (.inr (.inr w_114)))))]) [0, 1, 2, 3] rfl) (hD.part (cx := [((ax 13), .inr (2, [.ref (ax 11), .ref (ax 14), .int w_113, .int w_92, .int w_93, .int xRt, .int w_94, .int w_95, .int w_96])), ((ax 11), .inr (5, [.ref (ax 12), .int xTz])), ((ax 12), .inl (cA 0, 200, .inl gB)), ((ax 14), .inl (cA 4, 200, .inr (.inr (.inr (.inr w_114)))))]) [0, 1, 2, 3] (by decide) rfl) hS (lv_sub hl [0, 1, 3, 4] rfl)
          · have dc_30 : r_25.toInt = 0 := jI_eq c_30 rfl (by decide)
            refine lv_aload_n hx hb dX2_readSum_28 rfl (lv_at hl 2 rfl) ?_
            refine va_ldcS hx hb hown (show vk_R RX2 67 "-" (adK 1) s from hSt.2.1 1 (by decide)) dX2_readSum_29 ?_
            obtain ⟨hPc, hDc, hFc, hCc⟩ := va_pre (ws' := [((ax 13), .inr (2, [.ref (ax 11), .ref (ax 14), .int w_xSz_8, .int w_xPl_8, .int w_xBe_8, .int xRt, .int w_xRf_8, .int w_xRd_8, .int w_xLk_8])), ((ax 11), .inr (5, [.ref (ax 12), .int xTz])), ((ax 12), .inl (cA 0, 200, .inl gB))]) hP hD hS hA [1, 2, 3] (by decide) rfl
            refine va_calli (va_runV (As := [.ref (adK 1)]) (rest := []) ⟨hx, hb, hml, hown, hts⟩ (k_X2_isAt l dC dI cA H.size ax w_xSz_8 w_xPl_8 w_xBe_8 xRt w_xRf_8 w_xRd_8 w_xLk_8 xTz gB adK adV 1 hv2_8 hv3_8 hv4_8 i_xRt i_xTz i_gB (by omega) hv5_8) (cwV 1 hts gX2_readSum_X2_isAt rfl rfl rfl (by decide +kernel) ⟨(show 4 + 1 ≤ FR + 10 from fl_b (F := FR) (a := 4 + 1) (c := 10) (by decide)), (show 8 + (4 + 11) + 85 ≤ LO + 220 from fl_b (F := LO) (a := 8 + (4 + 11) + 85) (c := 220) (by decide))⟩) ⟨fun a U g mk q => by obtain ⟨q0, q1, qP, qK, qD, qN⟩ := q; exact ⟨q0, q1, qP, va_K.moved (u := U) (U := U.calling g mk a) (Vm.Alike.refl U.vm) qK, qD, qN.same rfl rfl⟩, va_recv hK hPc (ci := 2) (q0 := 0) rfl rfl, fun U hU hW => ⟨rfl, by rw [hU], by rw [hU]; exact hPc, va_K.moved hW.alike hK, hDc.weaken (fun _ _ _ _ => trivial), hSt.call hS hU hW hFc⟩⟩ rfl rfl hl.1 rfl (lv_room (Nat.le_of_ble_eq_true rfl)) dX2_readSum_31 ⟨(show (w_xSz_8.toInt - xSz.toInt).toNat + 0 ≤ (200 - xSz.toInt).toNat by omega), (show (4 * (w_xSz_8.toInt - xSz.toInt).toNat) + 0 ≤ (4 * (200 - xSz.toInt).toNat) by omega)⟩) hS (fun q _ h => hFc q h) hFc (fun r_121 u_122 t H1 locs ht hvm hw_123 hB hz1 hk1 hS => ?_)
            try dsimp only at hw_123 hB
            obtain ⟨po_124, tw_125⟩ := hw_123
            obtain ⟨hP1, hD1⟩ := hB
            rw [ht] at hP1
            obtain ⟨hP, hD⟩ := va_joinQ (wr := [((ax 14), .inl (cA 4, 200, .inr (.inr (.inr (.inr w_gSt_8)))))]) (w1 := [((ax 13), .inr (2, [.ref (ax 11), .ref (ax 14), .int w_xSz_8, .int w_xPl_8, .int w_xBe_8, .int xRt, .int w_xRf_8, .int w_xRd_8, .int w_xLk_8])), ((ax 11), .inr (5, [.ref (ax 12), .int xTz])), ((ax 12), .inl (cA 0, 200, .inl gB))]) hP hD [1, 2, 3] [0] rfl rfl (by decide) (by decide) hk1 hFc hP1 hD1
            clear hz1
            rw [scs_1] at tw_125
            generalize H1 = H at hP hS ⊢
            replace hP : va_P (dC, dI) vwCl (([((ax 14), .inl (cA 4, 200, .inr (.inr (.inr (.inr w_gSt_8))))), ((ax 13), .inr (2, [.ref (ax 11), .ref (ax 14), .int w_xSz_8, .int w_xPl_8, .int w_xBe_8, .int xRt, .int w_xRf_8, .int w_xRd_8, .int w_xLk_8])), ((ax 11), .inr (5, [.ref (ax 12), .int xTz])), ((ax 12), .inl (cA 0, 200, .inl gB))] : va_W) ++ va_pl w_L_8 w_pf_8) H := hP
            replace hD : va_D A (([((ax 14), .inl (cA 4, 200, .inr (.inr (.inr (.inr w_gSt_8))))), ((ax 13), .inr (2, [.ref (ax 11), .ref (ax 14), .int w_xSz_8, .int w_xPl_8, .int w_xBe_8, .int xRt, .int w_xRf_8, .int w_xRd_8, .int w_xLk_8])), ((ax 11), .inr (5, [.ref (ax 12), .int xTz])), ((ax 12), .inl (cA 0, 200, .inl gB))] : va_W) ++ va_pl w_L_8 w_pf_8) := hD
            refine lv_if_eq (tgt := 80) hx hb dX2_readSum_34 (by decide) (fun c_126 => ?_) (fun c_126 => ?_)
            · have dc_126 : r_121.toInt = 0 := jI_eq c_126 rfl (by decide)
              refine lv_iload_n hx hb dX2_readSum_80 rfl (lv_at hl 1 rfl) ?_
              have hP9 := hP.part (cx := [((ax 13), .inr (2, [.ref (ax 11), .ref (ax 14), .int w_xSz_8, .int w_xPl_8, .int w_xBe_8, .int xRt, .int w_xRf_8, .int w_xRd_8, .int w_xLk_8])), ((ax 11), .inr (5, [.ref (ax 12), .int xTz])), ((ax 12), .inl (cA 0, 200, .inl gB)), ((ax 14), .inl (cA 4, 200, .inr (.inr (.inr (.inr w_gSt_8)))))]) [1, 2, 3, 0] rfl
              have hD9 := hD.part (cx := [((ax 13), .inr (2, [.ref (ax 11), .ref (ax 14), .int w_xSz_8, .int w_xPl_8, .int w_xBe_8, .int xRt, .int w_xRf_8, .int w_xRd_8, .int w_xLk_8])), ((ax 11), .inr (5, [.ref (ax 12), .int xTz])), ((ax 12), .inl (cA 0, 200, .inl gB)), ((ax 14), .inl (cA 4, 200, .inr (.inr (.inr (.inr w_gSt_8)))))]) [1, 2, 3, 0] (by decide) rfl
              refine W.know (fun hkn1 hkn2 => ?_)
              have hBx : H.size ≤ s.heap.size + (w_xSz_8.toInt - xSz.toInt).toNat ∧ ssum s.heap.size H ≤ 4 * (w_xSz_8.toInt - xSz.toInt).toNat := ⟨by omega, by omega⟩
              subst hQe
              refine W.widen (k := (200 - xSz.toInt).toNat) (n := (4 * (200 - xSz.toInt).toNat)) (by omega) (by omega) ?_
              have hans : (so2 : Int32).toInt = so2.toInt := rfl
              have hpost : (0 ≤ w_xSz_8.toInt ∧ w_xSz_8.toInt ≤ 200) ∧ (0 ≤ w_xPl_8.toInt ∧ w_xPl_8.toInt ≤ 200) ∧ (0 ≤ w_xBe_8.toInt ∧ w_xBe_8.toInt ≤ 200) ∧ (w_xPl_8.toInt ≤ w_xBe_8.toInt ∧ w_xBe_8.toInt ≤ xTz.toInt ∧ (0 ≤ (so2 : Int32).toInt ∧ (so2 : Int32).toInt ≤ 1)) ∧ (tokOK gB w_xPl_8 w_xBe_8 xTz) ∧ (stq xSz.toInt w_xSz_8.toInt gSt w_gSt_8 w_L_8 w_pf_8) ∧ (rs w_xRf_8 w_xPl_8 w_xBe_8 w_xLk_8 w_xRd_8 = psum (tpe gB xTz) xTz.toInt xRt.toInt (pB (tpe gB xTz) xTz.toInt xRt.toInt (8 - dp.toInt).toNat) xPl.toInt xBe.toInt xLk.toInt xRd) ∧ ((¬ (so2 : Int32).toInt = 0 → w_xRf_8.toInt = (-1)) ∧ ((so2 : Int32).toInt = 0 → 0 ≤ w_xRf_8.toInt)) := ⟨hv2_8, hv3_8, hv4_8, by omega, hv6_8, hv7_8, lp_end hv9_8 (Or.inr (Or.inl (fun h => h.elim (fun h => absurd (tw_29.mpr h) (fun q => q dc_30)) (fun h => absurd (tw_125.mpr h) (fun q => q dc_126))))), by omega⟩
              exact W.zret (v := so2) hx hb hr (jnarZ (by omega)) (fun t ht hW => ⟨⟨so2, (w_xSz_8, w_xPl_8, w_xBe_8, w_xRf_8, w_xRd_8, w_xLk_8, w_gSt_8, w_L_8, w_pf_8), rfl, hpost, by rw [ht]; exact hP9, hD9, by rw [ht]; exact hBx⟩, hS.F ht⟩) hS.2.2 dX2_readSum_81
            · have dc_126 : ¬ r_121.toInt = 0 := jI_ne c_126 rfl (by decide)
              refine lv_aload_n hx hb dX2_readSum_37 rfl (lv_at hl 2 rfl) ?_
              refine va_ldcS hx hb hown (show vk_R RX2 61 "+" (adK 0) s from hSt.2.1 0 (by decide)) dX2_readSum_38 ?_
              obtain ⟨hPc, hDc, hFc, hCc⟩ := va_pre (ws' := [((ax 13), .inr (2, [.ref (ax 11), .ref (ax 14), .int w_xSz_8, .int w_xPl_8, .int w_xBe_8, .int xRt, .int w_xRf_8, .int w_xRd_8, .int w_xLk_8])), ((ax 11), .inr (5, [.ref (ax 12), .int xTz])), ((ax 12), .inl (cA 0, 200, .inl gB))]) hP hD hS hA [1, 2, 3] (by decide) rfl
              refine va_calli (va_runV (As := [.ref (adK 0)]) (rest := []) ⟨hx, hb, hml, hown, hts⟩ (k_X2_isAt l dC dI cA H.size ax w_xSz_8 w_xPl_8 w_xBe_8 xRt w_xRf_8 w_xRd_8 w_xLk_8 xTz gB adK adV 0 hv2_8 hv3_8 hv4_8 i_xRt i_xTz i_gB (by omega) hv5_8) (cwV 1 hts gX2_readSum_X2_isAt rfl rfl rfl (by decide +kernel) ⟨(show 4 + 1 ≤ FR + 10 from fl_b (F := FR) (a := 4 + 1) (c := 10) (by decide)), (show 8 + (4 + 11) + 85 ≤ LO + 220 from fl_b (F := LO) (a := 8 + (4 + 11) + 85) (c := 220) (by decide))⟩) ⟨fun a U g mk q => by obtain ⟨q0, q1, qP, qK, qD, qN⟩ := q; exact ⟨q0, q1, qP, va_K.moved (u := U) (U := U.calling g mk a) (Vm.Alike.refl U.vm) qK, qD, qN.same rfl rfl⟩, va_recv hK hPc (ci := 2) (q0 := 0) rfl rfl, fun U hU hW => ⟨rfl, by rw [hU], by rw [hU]; exact hPc, va_K.moved hW.alike hK, hDc.weaken (fun _ _ _ _ => trivial), hSt.call hS hU hW hFc⟩⟩ rfl rfl hl.1 rfl (lv_room (Nat.le_of_ble_eq_true rfl)) dX2_readSum_40 ⟨(show (w_xSz_8.toInt - xSz.toInt).toNat + 0 ≤ (200 - xSz.toInt).toNat by omega), (show (4 * (w_xSz_8.toInt - xSz.toInt).toNat) + 0 ≤ (4 * (200 - xSz.toInt).toNat) by omega)⟩) hS (fun q _ h => hFc q h) hFc (fun r_127 u_128 t H1 locs ht hvm hw_129 hB hz1 hk1 hS => ?_)
              try dsimp only at hw_129 hB
              obtain ⟨po_130, tw_131⟩ := hw_129
              obtain ⟨hP1, hD1⟩ := hB
              rw [ht] at hP1
              obtain ⟨hP, hD⟩ := va_joinQ (wr := [((ax 14), .inl (cA 4, 200, .inr (.inr (.inr (.inr w_gSt_8)))))]) (w1 := [((ax 13), .inr (2, [.ref (ax 11), .ref (ax 14), .int w_xSz_8, .int w_xPl_8, .int w_xBe_8, .int xRt, .int w_xRf_8, .int w_xRd_8, .int w_xLk_8])), ((ax 11), .inr (5, [.ref (ax 12), .int xTz])), ((ax 12), .inl (cA 0, 200, .inl gB))]) hP hD [1, 2, 3] [0] rfl rfl (by decide) (by decide) hk1 hFc hP1 hD1
              clear hz1
              rw [scs_0] at tw_131
              generalize H1 = H at hP hS ⊢
              replace hP : va_P (dC, dI) vwCl (([((ax 14), .inl (cA 4, 200, .inr (.inr (.inr (.inr w_gSt_8))))), ((ax 13), .inr (2, [.ref (ax 11), .ref (ax 14), .int w_xSz_8, .int w_xPl_8, .int w_xBe_8, .int xRt, .int w_xRf_8, .int w_xRd_8, .int w_xLk_8])), ((ax 11), .inr (5, [.ref (ax 12), .int xTz])), ((ax 12), .inl (cA 0, 200, .inl gB))] : va_W) ++ va_pl w_L_8 w_pf_8) H := hP
              replace hD : va_D A (([((ax 14), .inl (cA 4, 200, .inr (.inr (.inr (.inr w_gSt_8))))), ((ax 13), .inr (2, [.ref (ax 11), .ref (ax 14), .int w_xSz_8, .int w_xPl_8, .int w_xBe_8, .int xRt, .int w_xRf_8, .int w_xRd_8, .int w_xLk_8])), ((ax 11), .inr (5, [.ref (ax 12), .int xTz])), ((ax 12), .inl (cA 0, 200, .inl gB))] : va_W) ++ va_pl w_L_8 w_pf_8) := hD
              refine lv_if_eq (tgt := 51) hx hb dX2_readSum_43 (by decide) (fun c_132 => ?_) (fun c_132 => ?_)
              · have dc_132 : r_127.toInt = 0 := jI_eq c_132 rfl (by decide)
                refine lv_bipush (v := 10) hx hb dX2_readSum_51 (by decide) ?_
                refine lv_istore (lv' := [(4, .int 10), (3, .int i3), (2, .int so2), (0, .ref (ax 13)), (1, .int dp)]) hx hb dX2_readSum_53 hl (by decide) rfl (fun ls hl => ?_)
                refine lv_aload_n hx hb dX2_readSum_55 rfl (lv_at hl 3 rfl) ?_
                obtain ⟨hPc, hDc, hFc, hCc⟩ := va_pre (ws' := [((ax 13), .inr (2, [.ref (ax 11), .ref (ax 14), .int w_xSz_8, .int w_xPl_8, .int w_xBe_8, .int xRt, .int w_xRf_8, .int w_xRd_8, .int w_xLk_8])), ((ax 11), .inr (5, [.ref (ax 12), .int xTz])), ((ax 12), .inl (cA 0, 200, .inl gB))]) hP hD hS hA [1, 2, 3] (by decide) rfl
                refine va_callv (va_runV (As := []) (rest := []) ⟨hx, hb, hml, hown, hts⟩ (k_X2_advance l dC dI cA H.size ax w_xSz_8 w_xPl_8 w_xBe_8 xRt w_xRf_8 w_xRd_8 w_xLk_8 xTz gB hv2_8 hv3_8 hv4_8 i_xRt i_xTz i_gB (by omega)) (cwV 0 hts gX2_readSum_X2_advance rfl rfl rfl (by decide +kernel) ⟨(show 1 + 1 ≤ FR + 10 from fl_b (F := FR) (a := 1 + 1) (c := 10) (by decide)), (show 8 + (3 + 11) + 23 ≤ LO + 220 from fl_b (F := LO) (a := 8 + (3 + 11) + 23) (c := 220) (by decide))⟩) ⟨fun a U g mk q => by obtain ⟨q0, q1, qP, qK, qD, qN⟩ := q; exact ⟨q0, q1, qP, va_K.moved (u := U) (U := U.calling g mk a) (Vm.Alike.refl U.vm) qK, qD, qN.same rfl⟩, va_recv hK hPc (ci := 2) (q0 := 0) rfl rfl, fun U hU hW => ⟨rfl, by rw [hU], by rw [hU]; exact hPc, va_K.moved hW.alike hK, hDc.weaken (fun _ _ _ _ => trivial), hN.warm hW⟩⟩ rfl rfl hl.1 rfl (lv_room (Nat.le_of_ble_eq_true rfl)) dX2_readSum_56 ⟨(show (w_xSz_8.toInt - xSz.toInt).toNat + 0 ≤ (200 - xSz.toInt).toNat by omega), (show (4 * (w_xSz_8.toInt - xSz.toInt).toNat) + 0 ≤ (4 * (200 - xSz.toInt).toNat) by omega)⟩) hS (fun q _ h => hFc q h) hFc (fun u_133 t H1 locs ht hvm hw_134 hB hz1 hk1 hS => ?_)
                obtain ⟨w_135, w_136⟩ := u_133
                try dsimp only at hw_134 hB
                obtain ⟨iv_137, iv_138, po_139, tk_140, ad_141⟩ := hw_134
                obtain ⟨hP1, hD1⟩ := hB
                rw [ht] at hP1
                obtain ⟨hP, hD⟩ := va_joinQ (wr := [((ax 14), .inl (cA 4, 200, .inr (.inr (.inr (.inr w_gSt_8)))))]) (w1 := [((ax 13), .inr (2, [.ref (ax 11), .ref (ax 14), .int w_xSz_8, .int w_135, .int w_136, .int xRt, .int w_xRf_8, .int w_xRd_8, .int w_xLk_8])), ((ax 11), .inr (5, [.ref (ax 12), .int xTz])), ((ax 12), .inl (cA 0, 200, .inl gB))]) hP hD [1, 2, 3] [0] rfl rfl (by decide) (by decide) hk1 hFc hP1 hD1
                clear hz1
                generalize H1 = H at hP hS ⊢
                replace hP : va_P (dC, dI) vwCl (([((ax 14), .inl (cA 4, 200, .inr (.inr (.inr (.inr w_gSt_8))))), ((ax 13), .inr (2, [.ref (ax 11), .ref (ax 14), .int w_xSz_8, .int w_135, .int w_136, .int xRt, .int w_xRf_8, .int w_xRd_8, .int w_xLk_8])), ((ax 11), .inr (5, [.ref (ax 12), .int xTz])), ((ax 12), .inl (cA 0, 200, .inl gB))] : va_W) ++ va_pl w_L_8 w_pf_8) H := hP
                replace hD : va_D A (([((ax 14), .inl (cA 4, 200, .inr (.inr (.inr (.inr w_gSt_8))))), ((ax 13), .inr (2, [.ref (ax 11), .ref (ax 14), .int w_xSz_8, .int w_135, .int w_136, .int xRt, .int w_xRf_8, .int w_xRd_8, .int w_xLk_8])), ((ax 11), .inr (5, [.ref (ax 12), .int xTz])), ((ax 12), .inl (cA 0, 200, .inl gB))] : va_W) ++ va_pl w_L_8 w_pf_8) := hD
                refine lv_aload_n hx hb dX2_readSum_59 rfl (lv_at hl 3 rfl) ?_
                refine lv_iload_n hx hb dX2_readSum_60 rfl (lv_at hl 4 rfl) ?_
                obtain ⟨hPc, hDc, hFc, hCc⟩ := va_pre (ws' := [((ax 13), .inr (2, [.ref (ax 11), .ref (ax 14), .int w_xSz_8, .int w_135, .int w_136, .int xRt, .int w_xRf_8, .int w_xRd_8, .int w_xLk_8])), ((ax 11), .inr (5, [.ref (ax 12), .int xTz])), ((ax 12), .inl (cA 0, 200, .inl gB)), ((ax 14), .inl (cA 4, 200, .inr (.inr (.inr (.inr w_gSt_8)))))]) hP hD hS hA [1, 2, 3, 0] (by decide) rfl
                refine W.know (fun hkn1 hkn2 => ?_)
                have hS0 := hS.1
                refine va_calli (va_runV (As := [.int dp]) (rest := []) ⟨hx, hb, hml, hown, hts⟩ (k_X2_readTerm l dC dI cA H.size ax w_xSz_8 w_135 w_136 xRt w_xRf_8 w_xRd_8 w_xLk_8 xTz gB w_gSt_8 dp adK adV rl FR LO hv2_8 iv_137 iv_138 i_xRt i_xTz i_gB (by omega) tk_140 (by omega) hdp hop ih) (cwV 1 hts gX2_readSum_X2_readTerm rfl rfl rfl (by decide +kernel) ⟨(show (FR + 9) + 1 ≤ FR + 10 from fl_a (F := FR) (a := 9) (b := 1) (c := 10) (by decide)), (show 8 + (5 + 11) + (LO + 196) ≤ LO + 220 from fl_c (F := LO) (a := 8 + (5 + 11)) (b := 196) (c := 220) (by decide))⟩) ⟨fun a U g mk q => by obtain ⟨q0, q1, qP, qK, qD, qN⟩ := q; exact ⟨q0, q1, qP, va_K.moved (u := U) (U := U.calling g mk a) (Vm.Alike.refl U.vm) qK, qD, qN.same rfl rfl⟩, va_recv hK hPc (ci := 2) (q0 := 0) rfl rfl, fun U hU hW => ⟨rfl, by rw [hU], by rw [hU]; exact hPc, va_K.moved hW.alike hK, hDc.weaken (fun _ _ _ _ => trivial), hSt.call hS hU hW hFc⟩⟩ rfl rfl hl.1 rfl (lv_room (Nat.le_of_ble_eq_true rfl)) dX2_readSum_61 ⟨(show (w_xSz_8.toInt - xSz.toInt).toNat + ((200 - w_xSz_8.toInt).toNat) ≤ (200 - xSz.toInt).toNat by omega), (show (4 * (w_xSz_8.toInt - xSz.toInt).toNat) + (4 * (200 - w_xSz_8.toInt).toNat) ≤ (4 * (200 - xSz.toInt).toNat) by omega)⟩) hS (fun q _ h => hFc q h) hFc (fun r_142 u_143 t H1 locs ht hvm hw_144 hB hz1 hk1 hS => ?_)
                obtain ⟨w_145, w_146, w_147, w_148, w_149, w_150, w_151, w_152, w_153⟩ := u_143
                try dsimp only at hw_144 hB
                obtain ⟨iv_154, iv_155, iv_156, po_157, tk_158, st_159, rs_160, rf_161⟩ := hw_144
                obtain ⟨hP1, hD1, hX1⟩ := hB
                rw [ht] at hP1 hX1
                obtain ⟨hP, hD⟩ := va_joinQ (wr := []) (w1 := ([((ax 13), .inr (2, [.ref (ax 11), .ref (ax 14), .int w_145, .int w_146, .int w_147, .int xRt, .int w_148, .int w_149, .int w_150])), ((ax 11), .inr (5, [.ref (ax 12), .int xTz])), ((ax 12), .inl (cA 0, 200, .inl gB)), ((ax 14), .inl (cA 4, 200, .inr (.inr (.inr (.inr w_151)))))] : va_W) ++ va_pl w_152 w_153) hP hD [1, 2, 3, 0] [] rfl rfl (by decide) (by decide) hk1 hFc hP1 hD1
                obtain ⟨fm_162, hma_fm_162, hmb_fm_162, hP, hD⟩ := pl_merge hP hD
                have sq_fm_162 := stq_tr hv7_8 st_159 hma_fm_162 hmb_fm_162
                have hle_fm_162 := sq_fm_162.1
                have hlf_fm_162 := st_159.1
                refine W.tight (cells' := (w_145.toInt - xSz.toInt).toNat) (slots' := 4 * (w_145.toInt - xSz.toInt).toNat) (by omega) (by have hch := ssum_chain hS0 hz1 (fun q h1 h2 => hk1 q h2 (na_of (fun k e hk => by rcases mem4 hk with h | h | h | h <;> omega) h1 h2)); omega) ?_
                clear hz1
                generalize H1 = H at hP hS ⊢
                replace hP : va_P (dC, dI) vwCl (([((ax 13), .inr (2, [.ref (ax 11), .ref (ax 14), .int w_145, .int w_146, .int w_147, .int xRt, .int w_148, .int w_149, .int w_150])), ((ax 11), .inr (5, [.ref (ax 12), .int xTz])), ((ax 12), .inl (cA 0, 200, .inl gB)), ((ax 14), .inl (cA 4, 200, .inr (.inr (.inr (.inr w_151)))))] : va_W) ++ va_pl (w_L_8 ++ w_152) fm_162) H := hP
                replace hD : va_D A (([((ax 13), .inr (2, [.ref (ax 11), .ref (ax 14), .int w_145, .int w_146, .int w_147, .int xRt, .int w_148, .int w_149, .int w_150])), ((ax 11), .inr (5, [.ref (ax 12), .int xTz])), ((ax 12), .inl (cA 0, 200, .inl gB)), ((ax 14), .inl (cA 4, 200, .inr (.inr (.inr (.inr w_151)))))] : va_W) ++ va_pl (w_L_8 ++ w_152) fm_162) := hD
                refine lv_istore_n (lv' := [(2, .int r_142), (4, .int 10), (3, .int i3), (0, .ref (ax 13)), (1, .int dp)]) hx hb dX2_readSum_64 rfl hl (by decide) rfl (fun ls hl => ?_)
                refine lv_aload_n hx hb dX2_readSum_65 rfl (lv_at hl 3 rfl) ?_
                refine lv_iload hx hb dX2_readSum_66 (lv_at hl 1 rfl) ?_
                refine lv_iconst (v := (-1)) hx hb dX2_readSum_68 (by decide) ?_
                refine lv_iconst (v := (-1)) hx hb dX2_readSum_69 (by decide) ?_
                refine lv_iconst (v := (-1)) hx hb dX2_readSum_70 (by decide) ?_
                have hk_163 : (10 : Int32).toInt = 10 := by decide
                have hk_164 : ((-1) : Int32).toInt = (-1) := by decide
                obtain ⟨hPc, hDc, hFc, hCc⟩ := va_pre (ws' := [((ax 13), .inr (2, [.ref (ax 11), .ref (ax 14), .int w_145, .int w_146, .int w_147, .int xRt, .int w_148, .int w_149, .int w_150])), ((ax 11), .inr (5, [.ref (ax 12), .int xTz])), ((ax 12), .inl (cA 0, 200, .inl gB)), ((ax 14), .inl (cA 4, 200, .inr (.inr (.inr (.inr w_151)))))]) hP hD hS hA [0, 1, 2, 3] (by decide) rfl
                refine W.know (fun hkn1 hkn2 => ?_)
                have hS0 := hS.1
                refine va_callv (va_runV (As := [.int 10, .int (-1), .int (-1), .int (-1)]) (rest := []) ⟨hx, hb, hml, hown, hts⟩ (k_X2_emit l dC dI cA H.size ax w_145 w_146 w_147 xRt w_148 w_149 w_150 xTz gB w_151 10 (-1) (-1) (-1) iv_154 iv_155 iv_156 i_xRt i_xTz i_gB (by omega)) (cwV 4 hts gX2_readSum_X2_emit rfl rfl rfl (by decide +kernel) ⟨(show 2 + 1 ≤ FR + 10 from fl_b (F := FR) (a := 2 + 1) (c := 10) (by decide)), (show 8 + (5 + 11) + 44 ≤ LO + 220 from fl_b (F := LO) (a := 8 + (5 + 11) + 44) (c := 220) (by decide))⟩) ⟨fun a U g mk q => by obtain ⟨q0, q1, qP, qK, qD, qN⟩ := q; exact ⟨q0, q1, qP, va_K.moved (u := U) (U := U.calling g mk a) (Vm.Alike.refl U.vm) qK, qD, qN.same rfl⟩, va_recv hK hPc (ci := 2) (q0 := 0) rfl rfl, fun U hU hW => ⟨rfl, by rw [hU], by rw [hU]; exact hPc, va_K.moved hW.alike hK, hDc.weaken (fun _ _ _ _ => trivial), hN.warm hW⟩⟩ rfl rfl hl.1 rfl (lv_room (Nat.le_of_ble_eq_true rfl)) dX2_readSum_71 ⟨(show (w_145.toInt - xSz.toInt).toNat + ((200 - w_145.toInt).toNat) ≤ (200 - xSz.toInt).toNat by omega), (show (4 * (w_145.toInt - xSz.toInt).toNat) + (4 * (200 - w_145.toInt).toNat) ≤ (4 * (200 - xSz.toInt).toNat) by omega)⟩) hS (fun q _ h => hFc q h) hFc (fun u_165 t H1 locs ht hvm hw_166 hB hz1 hk1 hS => ?_)
                obtain ⟨w_167, w_168, w_169, w_170⟩ := u_165
                try dsimp only at hw_166 hB
                obtain ⟨iv_171, st_172⟩ := hw_166
                try simp only [hk_163, hk_164] at st_172
                obtain ⟨hP1, hD1, hX1⟩ := hB
                rw [ht] at hP1 hX1
                obtain ⟨hP, hD⟩ := va_joinQ (wr := []) (w1 := ([((ax 13), .inr (2, [.ref (ax 11), .ref (ax 14), .int w_167, .int w_146, .int w_147, .int xRt, .int w_148, .int w_149, .int w_150])), ((ax 11), .inr (5, [.ref (ax 12), .int xTz])), ((ax 12), .inl (cA 0, 200, .inl gB)), ((ax 14), .inl (cA 4, 200, .inr (.inr (.inr (.inr w_168)))))] : va_W) ++ va_pl w_169 w_170) hP hD [0, 1, 2, 3] [] rfl rfl (by decide) (by decide) hk1 hFc hP1 hD1
                obtain ⟨fm_173, hma_fm_173, hmb_fm_173, hP, hD⟩ := pl_merge hP hD
                have sq_fm_173 := stq_tr sq_fm_162 st_172 hma_fm_173 hmb_fm_173
                have hle_fm_173 := sq_fm_173.1
                have hlf_fm_173 := st_172.1
                refine W.tight (cells' := (w_167.toInt - xSz.toInt).toNat) (slots' := 4 * (w_167.toInt - xSz.toInt).toNat) (by omega) (by have hch := ssum_chain hS0 hz1 (fun q h1 h2 => hk1 q h2 (na_of (fun k e hk => by rcases mem4 hk with h | h | h | h <;> omega) h1 h2)); omega) ?_
                clear hz1
                generalize H1 = H at hP hS ⊢
                replace hP : va_P (dC, dI) vwCl (([((ax 13), .inr (2, [.ref (ax 11), .ref (ax 14), .int w_167, .int w_146, .int w_147, .int xRt, .int w_148, .int w_149, .int w_150])), ((ax 11), .inr (5, [.ref (ax 12), .int xTz])), ((ax 12), .inl (cA 0, 200, .inl gB)), ((ax 14), .inl (cA 4, 200, .inr (.inr (.inr (.inr w_168)))))] : va_W) ++ va_pl ((w_L_8 ++ w_152) ++ w_169) fm_173) H := hP
                replace hD : va_D A (([((ax 13), .inr (2, [.ref (ax 11), .ref (ax 14), .int w_167, .int w_146, .int w_147, .int xRt, .int w_148, .int w_149, .int w_150])), ((ax 11), .inr (5, [.ref (ax 12), .int xTz])), ((ax 12), .inl (cA 0, 200, .inl gB)), ((ax 14), .inl (cA 4, 200, .inr (.inr (.inr (.inr w_168)))))] : va_W) ++ va_pl ((w_L_8 ++ w_152) ++ w_169) fm_173) := hD
                obtain ⟨x_174, ex_174⟩ : ∃ y : Int32, y = i3 + 1 := ⟨_, rfl⟩
                have dx_174 : x_174.toInt = i3.toInt + 1 := by rw [ex_174]; exact jI_add rfl (by decide) (by omega) (by omega)
                refine lv_iinc (v := x_174) (lv' := [(3, .int x_174), (2, .int r_142), (4, .int 10), (0, .ref (ax 13)), (1, .int dp)]) hx hb dX2_readSum_74 hl (k := 2) rfl (by rw [ex_174]; rfl) (by decide) rfl (fun ls hl => ?_)
                refine lv_goto (tgt := 8) hx hb dX2_readSum_77 (by decide) ?_
                exact ih_8 x_174 r_142 w_167 w_146 w_147 w_148 w_149 w_150 w_168 ((w_L_8 ++ w_152) ++ w_169) fm_173 _ _ ls (by omega) (by omega) (by omega) iv_171 iv_155 iv_156 (by omega) (tk_158) (sq_fm_173) (by omega) (lp_back hv9_8 (by omega) (Or.inr (tw_125.mp dc_126)) (by omega) ad_141.1 ad_141.2 rs_160) (hP.part (cx := [((ax 13), .inr (2, [.ref (ax 11), .ref (ax 14), .int w_167, .int w_146, .int w_147, .int xRt, .int w_148, .int w_149, .int w_150])), ((ax 11), .inr (5, [.ref (ax 12), .int xTz])), ((ax 12), .inl (cA 0, 200, .inl gB)), ((ax 14), .inl (cA 4, 200, .inr (.inr (.inr (.inr w_168)))))]) [0, 1, 2, 3] rfl) (hD.part (cx := [((ax 13), .inr (2, [.ref (ax 11), .ref (ax 14), .int w_167, .int w_146, .int w_147, .int xRt, .int w_148, .int w_149, .int w_150])), ((ax 11), .inr (5, [.ref (ax 12), .int xTz])), ((ax 12), .inl (cA 0, 200, .inl gB)), ((ax 14), .inl (cA 4, 200, .inr (.inr (.inr (.inr w_168)))))]) [0, 1, 2, 3] (by decide) rfl) hS (lv_sub hl [0, 1, 3, 4] rfl)
              · have dc_132 : ¬ r_127.toInt = 0 := jI_ne c_132 rfl (by decide)
                refine lv_bipush (v := 9) hx hb dX2_readSum_46 (by decide) ?_
                refine lv_goto (tgt := 53) hx hb dX2_readSum_48 (by decide) ?_
                refine lv_istore (lv' := [(4, .int 9), (3, .int i3), (2, .int so2), (0, .ref (ax 13)), (1, .int dp)]) hx hb dX2_readSum_53 hl (by decide) rfl (fun ls hl => ?_)
                refine lv_aload_n hx hb dX2_readSum_55 rfl (lv_at hl 3 rfl) ?_
                obtain ⟨hPc, hDc, hFc, hCc⟩ := va_pre (ws' := [((ax 13), .inr (2, [.ref (ax 11), .ref (ax 14), .int w_xSz_8, .int w_xPl_8, .int w_xBe_8, .int xRt, .int w_xRf_8, .int w_xRd_8, .int w_xLk_8])), ((ax 11), .inr (5, [.ref (ax 12), .int xTz])), ((ax 12), .inl (cA 0, 200, .inl gB))]) hP hD hS hA [1, 2, 3] (by decide) rfl
                refine va_callv (va_runV (As := []) (rest := []) ⟨hx, hb, hml, hown, hts⟩ (k_X2_advance l dC dI cA H.size ax w_xSz_8 w_xPl_8 w_xBe_8 xRt w_xRf_8 w_xRd_8 w_xLk_8 xTz gB hv2_8 hv3_8 hv4_8 i_xRt i_xTz i_gB (by omega)) (cwV 0 hts gX2_readSum_X2_advance rfl rfl rfl (by decide +kernel) ⟨(show 1 + 1 ≤ FR + 10 from fl_b (F := FR) (a := 1 + 1) (c := 10) (by decide)), (show 8 + (3 + 11) + 23 ≤ LO + 220 from fl_b (F := LO) (a := 8 + (3 + 11) + 23) (c := 220) (by decide))⟩) ⟨fun a U g mk q => by obtain ⟨q0, q1, qP, qK, qD, qN⟩ := q; exact ⟨q0, q1, qP, va_K.moved (u := U) (U := U.calling g mk a) (Vm.Alike.refl U.vm) qK, qD, qN.same rfl⟩, va_recv hK hPc (ci := 2) (q0 := 0) rfl rfl, fun U hU hW => ⟨rfl, by rw [hU], by rw [hU]; exact hPc, va_K.moved hW.alike hK, hDc.weaken (fun _ _ _ _ => trivial), hN.warm hW⟩⟩ rfl rfl hl.1 rfl (lv_room (Nat.le_of_ble_eq_true rfl)) dX2_readSum_56 ⟨(show (w_xSz_8.toInt - xSz.toInt).toNat + 0 ≤ (200 - xSz.toInt).toNat by omega), (show (4 * (w_xSz_8.toInt - xSz.toInt).toNat) + 0 ≤ (4 * (200 - xSz.toInt).toNat) by omega)⟩) hS (fun q _ h => hFc q h) hFc (fun u_175 t H1 locs ht hvm hw_176 hB hz1 hk1 hS => ?_)
                obtain ⟨w_177, w_178⟩ := u_175
                try dsimp only at hw_176 hB
                obtain ⟨iv_179, iv_180, po_181, tk_182, ad_183⟩ := hw_176
                obtain ⟨hP1, hD1⟩ := hB
                rw [ht] at hP1
                obtain ⟨hP, hD⟩ := va_joinQ (wr := [((ax 14), .inl (cA 4, 200, .inr (.inr (.inr (.inr w_gSt_8)))))]) (w1 := [((ax 13), .inr (2, [.ref (ax 11), .ref (ax 14), .int w_xSz_8, .int w_177, .int w_178, .int xRt, .int w_xRf_8, .int w_xRd_8, .int w_xLk_8])), ((ax 11), .inr (5, [.ref (ax 12), .int xTz])), ((ax 12), .inl (cA 0, 200, .inl gB))]) hP hD [1, 2, 3] [0] rfl rfl (by decide) (by decide) hk1 hFc hP1 hD1
                clear hz1
                generalize H1 = H at hP hS ⊢
                replace hP : va_P (dC, dI) vwCl (([((ax 14), .inl (cA 4, 200, .inr (.inr (.inr (.inr w_gSt_8))))), ((ax 13), .inr (2, [.ref (ax 11), .ref (ax 14), .int w_xSz_8, .int w_177, .int w_178, .int xRt, .int w_xRf_8, .int w_xRd_8, .int w_xLk_8])), ((ax 11), .inr (5, [.ref (ax 12), .int xTz])), ((ax 12), .inl (cA 0, 200, .inl gB))] : va_W) ++ va_pl w_L_8 w_pf_8) H := hP
                replace hD : va_D A (([((ax 14), .inl (cA 4, 200, .inr (.inr (.inr (.inr w_gSt_8))))), ((ax 13), .inr (2, [.ref (ax 11), .ref (ax 14), .int w_xSz_8, .int w_177, .int w_178, .int xRt, .int w_xRf_8, .int w_xRd_8, .int w_xLk_8])), ((ax 11), .inr (5, [.ref (ax 12), .int xTz])), ((ax 12), .inl (cA 0, 200, .inl gB))] : va_W) ++ va_pl w_L_8 w_pf_8) := hD
                refine lv_aload_n hx hb dX2_readSum_59 rfl (lv_at hl 3 rfl) ?_
                refine lv_iload_n hx hb dX2_readSum_60 rfl (lv_at hl 4 rfl) ?_
                obtain ⟨hPc, hDc, hFc, hCc⟩ := va_pre (ws' := [((ax 13), .inr (2, [.ref (ax 11), .ref (ax 14), .int w_xSz_8, .int w_177, .int w_178, .int xRt, .int w_xRf_8, .int w_xRd_8, .int w_xLk_8])), ((ax 11), .inr (5, [.ref (ax 12), .int xTz])), ((ax 12), .inl (cA 0, 200, .inl gB)), ((ax 14), .inl (cA 4, 200, .inr (.inr (.inr (.inr w_gSt_8)))))]) hP hD hS hA [1, 2, 3, 0] (by decide) rfl
                refine W.know (fun hkn1 hkn2 => ?_)
                have hS0 := hS.1
                refine va_calli (va_runV (As := [.int dp]) (rest := []) ⟨hx, hb, hml, hown, hts⟩ (k_X2_readTerm l dC dI cA H.size ax w_xSz_8 w_177 w_178 xRt w_xRf_8 w_xRd_8 w_xLk_8 xTz gB w_gSt_8 dp adK adV rl FR LO hv2_8 iv_179 iv_180 i_xRt i_xTz i_gB (by omega) tk_182 (by omega) hdp hop ih) (cwV 1 hts gX2_readSum_X2_readTerm rfl rfl rfl (by decide +kernel) ⟨(show (FR + 9) + 1 ≤ FR + 10 from fl_a (F := FR) (a := 9) (b := 1) (c := 10) (by decide)), (show 8 + (5 + 11) + (LO + 196) ≤ LO + 220 from fl_c (F := LO) (a := 8 + (5 + 11)) (b := 196) (c := 220) (by decide))⟩) ⟨fun a U g mk q => by obtain ⟨q0, q1, qP, qK, qD, qN⟩ := q; exact ⟨q0, q1, qP, va_K.moved (u := U) (U := U.calling g mk a) (Vm.Alike.refl U.vm) qK, qD, qN.same rfl rfl⟩, va_recv hK hPc (ci := 2) (q0 := 0) rfl rfl, fun U hU hW => ⟨rfl, by rw [hU], by rw [hU]; exact hPc, va_K.moved hW.alike hK, hDc.weaken (fun _ _ _ _ => trivial), hSt.call hS hU hW hFc⟩⟩ rfl rfl hl.1 rfl (lv_room (Nat.le_of_ble_eq_true rfl)) dX2_readSum_61 ⟨(show (w_xSz_8.toInt - xSz.toInt).toNat + ((200 - w_xSz_8.toInt).toNat) ≤ (200 - xSz.toInt).toNat by omega), (show (4 * (w_xSz_8.toInt - xSz.toInt).toNat) + (4 * (200 - w_xSz_8.toInt).toNat) ≤ (4 * (200 - xSz.toInt).toNat) by omega)⟩) hS (fun q _ h => hFc q h) hFc (fun r_184 u_185 t H1 locs ht hvm hw_186 hB hz1 hk1 hS => ?_)
                obtain ⟨w_187, w_188, w_189, w_190, w_191, w_192, w_193, w_194, w_195⟩ := u_185
                try dsimp only at hw_186 hB
                obtain ⟨iv_196, iv_197, iv_198, po_199, tk_200, st_201, rs_202, rf_203⟩ := hw_186
                obtain ⟨hP1, hD1, hX1⟩ := hB
                rw [ht] at hP1 hX1
                obtain ⟨hP, hD⟩ := va_joinQ (wr := []) (w1 := ([((ax 13), .inr (2, [.ref (ax 11), .ref (ax 14), .int w_187, .int w_188, .int w_189, .int xRt, .int w_190, .int w_191, .int w_192])), ((ax 11), .inr (5, [.ref (ax 12), .int xTz])), ((ax 12), .inl (cA 0, 200, .inl gB)), ((ax 14), .inl (cA 4, 200, .inr (.inr (.inr (.inr w_193)))))] : va_W) ++ va_pl w_194 w_195) hP hD [1, 2, 3, 0] [] rfl rfl (by decide) (by decide) hk1 hFc hP1 hD1
                obtain ⟨fm_204, hma_fm_204, hmb_fm_204, hP, hD⟩ := pl_merge hP hD
                have sq_fm_204 := stq_tr hv7_8 st_201 hma_fm_204 hmb_fm_204
                have hle_fm_204 := sq_fm_204.1
                have hlf_fm_204 := st_201.1
                refine W.tight (cells' := (w_187.toInt - xSz.toInt).toNat) (slots' := 4 * (w_187.toInt - xSz.toInt).toNat) (by omega) (by have hch := ssum_chain hS0 hz1 (fun q h1 h2 => hk1 q h2 (na_of (fun k e hk => by rcases mem4 hk with h | h | h | h <;> omega) h1 h2)); omega) ?_
                clear hz1
                generalize H1 = H at hP hS ⊢
                replace hP : va_P (dC, dI) vwCl (([((ax 13), .inr (2, [.ref (ax 11), .ref (ax 14), .int w_187, .int w_188, .int w_189, .int xRt, .int w_190, .int w_191, .int w_192])), ((ax 11), .inr (5, [.ref (ax 12), .int xTz])), ((ax 12), .inl (cA 0, 200, .inl gB)), ((ax 14), .inl (cA 4, 200, .inr (.inr (.inr (.inr w_193)))))] : va_W) ++ va_pl (w_L_8 ++ w_194) fm_204) H := hP
                replace hD : va_D A (([((ax 13), .inr (2, [.ref (ax 11), .ref (ax 14), .int w_187, .int w_188, .int w_189, .int xRt, .int w_190, .int w_191, .int w_192])), ((ax 11), .inr (5, [.ref (ax 12), .int xTz])), ((ax 12), .inl (cA 0, 200, .inl gB)), ((ax 14), .inl (cA 4, 200, .inr (.inr (.inr (.inr w_193)))))] : va_W) ++ va_pl (w_L_8 ++ w_194) fm_204) := hD
                refine lv_istore_n (lv' := [(2, .int r_184), (4, .int 9), (3, .int i3), (0, .ref (ax 13)), (1, .int dp)]) hx hb dX2_readSum_64 rfl hl (by decide) rfl (fun ls hl => ?_)
                refine lv_aload_n hx hb dX2_readSum_65 rfl (lv_at hl 3 rfl) ?_
                refine lv_iload hx hb dX2_readSum_66 (lv_at hl 1 rfl) ?_
                refine lv_iconst (v := (-1)) hx hb dX2_readSum_68 (by decide) ?_
                refine lv_iconst (v := (-1)) hx hb dX2_readSum_69 (by decide) ?_
                refine lv_iconst (v := (-1)) hx hb dX2_readSum_70 (by decide) ?_
                have hk_205 : (9 : Int32).toInt = 9 := by decide
                have hk_206 : ((-1) : Int32).toInt = (-1) := by decide
                obtain ⟨hPc, hDc, hFc, hCc⟩ := va_pre (ws' := [((ax 13), .inr (2, [.ref (ax 11), .ref (ax 14), .int w_187, .int w_188, .int w_189, .int xRt, .int w_190, .int w_191, .int w_192])), ((ax 11), .inr (5, [.ref (ax 12), .int xTz])), ((ax 12), .inl (cA 0, 200, .inl gB)), ((ax 14), .inl (cA 4, 200, .inr (.inr (.inr (.inr w_193)))))]) hP hD hS hA [0, 1, 2, 3] (by decide) rfl
                refine W.know (fun hkn1 hkn2 => ?_)
                have hS0 := hS.1
                refine va_callv (va_runV (As := [.int 9, .int (-1), .int (-1), .int (-1)]) (rest := []) ⟨hx, hb, hml, hown, hts⟩ (k_X2_emit l dC dI cA H.size ax w_187 w_188 w_189 xRt w_190 w_191 w_192 xTz gB w_193 9 (-1) (-1) (-1) iv_196 iv_197 iv_198 i_xRt i_xTz i_gB (by omega)) (cwV 4 hts gX2_readSum_X2_emit rfl rfl rfl (by decide +kernel) ⟨(show 2 + 1 ≤ FR + 10 from fl_b (F := FR) (a := 2 + 1) (c := 10) (by decide)), (show 8 + (5 + 11) + 44 ≤ LO + 220 from fl_b (F := LO) (a := 8 + (5 + 11) + 44) (c := 220) (by decide))⟩) ⟨fun a U g mk q => by obtain ⟨q0, q1, qP, qK, qD, qN⟩ := q; exact ⟨q0, q1, qP, va_K.moved (u := U) (U := U.calling g mk a) (Vm.Alike.refl U.vm) qK, qD, qN.same rfl⟩, va_recv hK hPc (ci := 2) (q0 := 0) rfl rfl, fun U hU hW => ⟨rfl, by rw [hU], by rw [hU]; exact hPc, va_K.moved hW.alike hK, hDc.weaken (fun _ _ _ _ => trivial), hN.warm hW⟩⟩ rfl rfl hl.1 rfl (lv_room (Nat.le_of_ble_eq_true rfl)) dX2_readSum_71 ⟨(show (w_187.toInt - xSz.toInt).toNat + ((200 - w_187.toInt).toNat) ≤ (200 - xSz.toInt).toNat by omega), (show (4 * (w_187.toInt - xSz.toInt).toNat) + (4 * (200 - w_187.toInt).toNat) ≤ (4 * (200 - xSz.toInt).toNat) by omega)⟩) hS (fun q _ h => hFc q h) hFc (fun u_207 t H1 locs ht hvm hw_208 hB hz1 hk1 hS => ?_)
                obtain ⟨w_209, w_210, w_211, w_212⟩ := u_207
                try dsimp only at hw_208 hB
                obtain ⟨iv_213, st_214⟩ := hw_208
                try simp only [hk_205, hk_206] at st_214
                obtain ⟨hP1, hD1, hX1⟩ := hB
                rw [ht] at hP1 hX1
                obtain ⟨hP, hD⟩ := va_joinQ (wr := []) (w1 := ([((ax 13), .inr (2, [.ref (ax 11), .ref (ax 14), .int w_209, .int w_188, .int w_189, .int xRt, .int w_190, .int w_191, .int w_192])), ((ax 11), .inr (5, [.ref (ax 12), .int xTz])), ((ax 12), .inl (cA 0, 200, .inl gB)), ((ax 14), .inl (cA 4, 200, .inr (.inr (.inr (.inr w_210)))))] : va_W) ++ va_pl w_211 w_212) hP hD [0, 1, 2, 3] [] rfl rfl (by decide) (by decide) hk1 hFc hP1 hD1
                obtain ⟨fm_215, hma_fm_215, hmb_fm_215, hP, hD⟩ := pl_merge hP hD
                have sq_fm_215 := stq_tr sq_fm_204 st_214 hma_fm_215 hmb_fm_215
                have hle_fm_215 := sq_fm_215.1
                have hlf_fm_215 := st_214.1
                refine W.tight (cells' := (w_209.toInt - xSz.toInt).toNat) (slots' := 4 * (w_209.toInt - xSz.toInt).toNat) (by omega) (by have hch := ssum_chain hS0 hz1 (fun q h1 h2 => hk1 q h2 (na_of (fun k e hk => by rcases mem4 hk with h | h | h | h <;> omega) h1 h2)); omega) ?_
                clear hz1
                generalize H1 = H at hP hS ⊢
                replace hP : va_P (dC, dI) vwCl (([((ax 13), .inr (2, [.ref (ax 11), .ref (ax 14), .int w_209, .int w_188, .int w_189, .int xRt, .int w_190, .int w_191, .int w_192])), ((ax 11), .inr (5, [.ref (ax 12), .int xTz])), ((ax 12), .inl (cA 0, 200, .inl gB)), ((ax 14), .inl (cA 4, 200, .inr (.inr (.inr (.inr w_210)))))] : va_W) ++ va_pl ((w_L_8 ++ w_194) ++ w_211) fm_215) H := hP
                replace hD : va_D A (([((ax 13), .inr (2, [.ref (ax 11), .ref (ax 14), .int w_209, .int w_188, .int w_189, .int xRt, .int w_190, .int w_191, .int w_192])), ((ax 11), .inr (5, [.ref (ax 12), .int xTz])), ((ax 12), .inl (cA 0, 200, .inl gB)), ((ax 14), .inl (cA 4, 200, .inr (.inr (.inr (.inr w_210)))))] : va_W) ++ va_pl ((w_L_8 ++ w_194) ++ w_211) fm_215) := hD
                obtain ⟨x_216, ex_216⟩ : ∃ y : Int32, y = i3 + 1 := ⟨_, rfl⟩
                have dx_216 : x_216.toInt = i3.toInt + 1 := by rw [ex_216]; exact jI_add rfl (by decide) (by omega) (by omega)
                refine lv_iinc (v := x_216) (lv' := [(3, .int x_216), (2, .int r_184), (4, .int 9), (0, .ref (ax 13)), (1, .int dp)]) hx hb dX2_readSum_74 hl (k := 2) rfl (by rw [ex_216]; rfl) (by decide) rfl (fun ls hl => ?_)
                refine lv_goto (tgt := 8) hx hb dX2_readSum_77 (by decide) ?_
                exact ih_8 x_216 r_184 w_209 w_188 w_189 w_190 w_191 w_192 w_210 ((w_L_8 ++ w_194) ++ w_211) fm_215 _ _ ls (by omega) (by omega) (by omega) iv_213 iv_197 iv_198 (by omega) (tk_200) (sq_fm_215) (by omega) (lp_back hv9_8 (by omega) (Or.inr (tw_125.mp dc_126)) (by omega) ad_183.1 ad_183.2 rs_202) (hP.part (cx := [((ax 13), .inr (2, [.ref (ax 11), .ref (ax 14), .int w_209, .int w_188, .int w_189, .int xRt, .int w_190, .int w_191, .int w_192])), ((ax 11), .inr (5, [.ref (ax 12), .int xTz])), ((ax 12), .inl (cA 0, 200, .inl gB)), ((ax 14), .inl (cA 4, 200, .inr (.inr (.inr (.inr w_210)))))]) [0, 1, 2, 3] rfl) (hD.part (cx := [((ax 13), .inr (2, [.ref (ax 11), .ref (ax 14), .int w_209, .int w_188, .int w_189, .int xRt, .int w_190, .int w_191, .int w_192])), ((ax 11), .inr (5, [.ref (ax 12), .int xTz])), ((ax 12), .inl (cA 0, 200, .inl gB)), ((ax 14), .inl (cA 4, 200, .inr (.inr (.inr (.inr w_210)))))]) [0, 1, 2, 3] (by decide) rfl) hS (lv_sub hl [0, 1, 3, 4] rfl)
  have hk_217 : (0 : Int32).toInt = 0 := by decide
  exact loop8_22 (Int.toNat (200 - (0 : Int32).toInt) + 1) 0 r_1 w_4 w_5 w_6 w_7 w_8 w_9 w_10 ([] ++ w_11) fm_21 _ _ ls (by omega) (by omega) (by omega) iv_13 iv_14 iv_15 (by omega) (tk_17) (sq_fm_21) (by omega) ((by rw [rs_19]; rfl)) hP hD hS (lv_sub hl [0, 1, 2, 3] rfl)

theorem xsum_all (l : Launch) (dC : Nat → ClassId) (dI : Nat → Nat → Nat) (cA : Nat → ClassId) : ∀ r : Nat, XSumC l dC dI cA r (10 * r + 10) (220 * r + 220) := by
  intro r
  induction r with
  | zero =>
    intro sz ax xSz xPl xBe xRt xRf xRd xLk xTz gB gSt adK adV dp i_xSz i_xPl i_xBe i_xRt i_xTz i_gB hbe htk hgx hdp hop
    have := k_X2_readSum l dC dI cA sz ax xSz xPl xBe xRt xRf xRd xLk xTz gB gSt dp adK adV 0 0 0 i_xSz i_xPl i_xBe i_xRt i_xTz i_gB hbe htk hgx hdp hop (fun h => absurd h (Nat.lt_irrefl 0))
    simpa only [Nat.mul_zero, Nat.zero_add] using this
  | succ r ih0 =>
    intro sz ax xSz xPl xBe xRt xRf xRd xLk xTz gB gSt adK adV dp i_xSz i_xPl i_xBe i_xRt i_xTz i_gB hbe htk hgx hdp hop
    have := k_X2_readSum l dC dI cA sz ax xSz xPl xBe xRt xRf xRd xLk xTz gB gSt dp adK adV (r + 1) (10 * r + 10) (220 * r + 220) i_xSz i_xPl i_xBe i_xRt i_xTz i_gB hbe htk hgx hdp hop (fun _ => ih0)
    simpa only [Nat.mul_succ, Nat.add_assoc, Nat.add_comm, Nat.add_left_comm] using this
