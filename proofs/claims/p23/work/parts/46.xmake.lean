theorem dX7_make_0 : decode cX7_make 0 = .ok (.aload_n 0, 1) := by decide +kernel
theorem dX7_make_1 : decode cX7_make 1 = .ok (.getfield 34, 3) := by decide +kernel
theorem dX7_make_4 : decode cX7_make 4 = .ok (.iload_n 1, 1) := by decide +kernel
theorem dX7_make_5 : decode cX7_make 5 = .ok (.aaload, 1) := by decide +kernel
theorem dX7_make_6 : decode cX7_make 6 = .ok (.ifnonnull 7, 3) := by decide +kernel
theorem dX7_make_13 : decode cX7_make 13 = .ok (.aload_n 0, 1) := by decide +kernel
theorem dX7_make_14 : decode cX7_make 14 = .ok (.getfield 34, 3) := by decide +kernel
theorem dX7_make_17 : decode cX7_make 17 = .ok (.iload_n 1, 1) := by decide +kernel
theorem dX7_make_18 : decode cX7_make 18 = .ok (.aaload, 1) := by decide +kernel
theorem dX7_make_19 : decode cX7_make 19 = .ok (.getfield 40, 3) := by decide +kernel
theorem dX7_make_22 : decode cX7_make 22 = .ok (.istore 5, 2) := by decide +kernel
theorem dX7_make_24 : decode cX7_make 24 = .ok (.aload_n 0, 1) := by decide +kernel
theorem dX7_make_25 : decode cX7_make 25 = .ok (.iload_n 2, 1) := by decide +kernel
theorem dX7_make_26 : decode cX7_make 26 = .ok (.iload_n 3, 1) := by decide +kernel
theorem dX7_make_27 : decode cX7_make 27 = .ok (.iload 4, 2) := by decide +kernel
set_option maxRecDepth 20000 in
theorem ggX7_make_X7_look : GoodIn wsX7_make wsX7_look := goodIn_r _ [8, 9, 10, 11, 12, 13, 14, 15, 16, 17, 18, 19, 20, 21, 22, 23, 24, 77, 78, 79, 80, 81, 82, 83, 84, 85, 86, 95, 96, 97, 98, 99, 100, 101, 102, 103, 104] (by decide +kernel) (by decide +kernel)
set_option maxRecDepth 20000 in
theorem gX7_make_X7_look : GoodIn wsX7_make (wsV RX7 46 RX7 yX7_look wsX7_look) := goodIn_app (goodIn_of _ (by decide +kernel)) ggX7_make_X7_look
theorem dX7_make_29 : decode cX7_make 29 = .ok (.invokevirtual 46, 3) := by decide +kernel
theorem dX7_make_32 : decode cX7_make 32 = .ok (.iconst 0, 1) := by decide +kernel
theorem dX7_make_33 : decode cX7_make 33 = .ok (.istore 6, 2) := by decide +kernel
theorem dX7_make_35 : decode cX7_make 35 = .ok (.iload 6, 2) := by decide +kernel
theorem dX7_make_37 : decode cX7_make 37 = .ok (.iload_n 1, 1) := by decide +kernel
theorem dX7_make_38 : decode cX7_make 38 = .ok (.if_icmp .gt 50, 3) := by decide +kernel
theorem dX7_make_88 : decode cX7_make 88 = .ok (.aload_n 0, 1) := by decide +kernel
theorem dX7_make_89 : decode cX7_make 89 = .ok (.getfield 23, 3) := by decide +kernel
theorem dX7_make_92 : decode cX7_make 92 = .ok (.iload_n 1, 1) := by decide +kernel
theorem dX7_make_93 : decode cX7_make 93 = .ok (.laload, 1) := by decide +kernel
theorem dX7_make_94 : decode cX7_make 94 = .ok (.lreturn, 1) := by decide +kernel
theorem dX7_make_41 : decode cX7_make 41 = .ok (.iload 5, 2) := by decide +kernel
theorem dX7_make_43 : decode cX7_make 43 = .ok (.iload 6, 2) := by decide +kernel
set_option maxRecDepth 20000 in
theorem ggX7_make_X8_hasBit : GoodIn wsX7_make wsX8_hasBit := goodIn_r _ [27] (by decide +kernel) (by decide +kernel)
set_option maxRecDepth 20000 in
theorem gX7_make_X8_hasBit_n50 : GoodIn wsX7_make (wsX8_hasBit) := ggX7_make_X8_hasBit
theorem dX7_make_45 : decode cX7_make 45 = .ok (.invokestatic 50, 3) := by decide +kernel
theorem dX7_make_48 : decode cX7_make 48 = .ok (.ifCond .eq 34, 3) := by decide +kernel
theorem dX7_make_82 : decode cX7_make 82 = .ok (.iinc 6 1, 3) := by decide +kernel
theorem dX7_make_85 : decode cX7_make 85 = .ok (.goto (-50), 3) := by decide +kernel
theorem dX7_make_51 : decode cX7_make 51 = .ok (.aload_n 0, 1) := by decide +kernel
theorem dX7_make_52 : decode cX7_make 52 = .ok (.getfield 34, 3) := by decide +kernel
theorem dX7_make_55 : decode cX7_make 55 = .ok (.iload 6, 2) := by decide +kernel
theorem dX7_make_57 : decode cX7_make 57 = .ok (.aaload, 1) := by decide +kernel
theorem dX7_make_58 : decode cX7_make 58 = .ok (.ifnull 24, 3) := by decide +kernel
theorem dX7_make_61 : decode cX7_make 61 = .ok (.aload_n 0, 1) := by decide +kernel
theorem dX7_make_62 : decode cX7_make 62 = .ok (.getfield 23, 3) := by decide +kernel
theorem dX7_make_65 : decode cX7_make 65 = .ok (.iload 6, 2) := by decide +kernel
theorem dX7_make_67 : decode cX7_make 67 = .ok (.aload_n 0, 1) := by decide +kernel
theorem dX7_make_68 : decode cX7_make 68 = .ok (.aload_n 0, 1) := by decide +kernel
theorem dX7_make_69 : decode cX7_make 69 = .ok (.getfield 34, 3) := by decide +kernel
theorem dX7_make_72 : decode cX7_make 72 = .ok (.iload 6, 2) := by decide +kernel
theorem dX7_make_74 : decode cX7_make 74 = .ok (.aaload, 1) := by decide +kernel
theorem dX7_make_75 : decode cX7_make 75 = .ok (.getfield 54, 3) := by decide +kernel
set_option maxRecDepth 20000 in
theorem ggX7_make_X7_workOut : GoodIn wsX7_make wsX7_workOut := goodIn_r _ [31, 32, 33, 34, 35, 7, 36, 3, 2, 37, 38, 39, 40, 41, 42, 43, 44, 45, 46, 47, 48, 49, 50, 12, 14, 13, 11, 51, 52, 53, 54, 55, 56, 57, 58, 59, 60, 61, 62, 63, 64, 65, 66, 67, 68, 69, 70, 71, 72, 73, 74, 75, 76, 77, 78, 79, 80, 81, 82, 83, 84, 85, 86, 105, 106, 107, 108, 95, 96, 97, 98, 99, 100, 101] (by decide +kernel) (by decide +kernel)
set_option maxRecDepth 20000 in
theorem gX7_make_X7_workOut : GoodIn wsX7_make (wsV RX7 58 RX7 yX7_workOut wsX7_workOut) := goodIn_app (goodIn_of _ (by decide +kernel)) ggX7_make_X7_workOut
theorem dX7_make_78 : decode cX7_make 78 = .ok (.invokevirtual 58, 3) := by decide +kernel
theorem dX7_make_81 : decode cX7_make 81 = .ok (.lastore, 1) := by decide +kernel
theorem dX6_isOutside_0 : decode cX6_isOutside 0 = .ok (.lload_n 1, 1) := by decide +kernel
theorem dX6_isOutside_1 : decode cX6_isOutside 1 = .ok (.ldc2_w 42, 3) := by decide +kernel
theorem dX6_isOutside_4 : decode cX6_isOutside 4 = .ok (.lcmp, 1) := by decide +kernel
theorem dX6_isOutside_5 : decode cX6_isOutside 5 = .ok (.ifCond .eq 25, 3) := by decide +kernel
theorem dX6_isOutside_30 : decode cX6_isOutside 30 = .ok (.iconst 0, 1) := by decide +kernel
theorem dX6_isOutside_31 : decode cX6_isOutside 31 = .ok (.ireturn, 1) := by decide +kernel
theorem dX6_isOutside_8 : decode cX6_isOutside 8 = .ok (.lload_n 1, 1) := by decide +kernel
theorem dX6_isOutside_9 : decode cX6_isOutside 9 = .ok (.aload_n 0, 1) := by decide +kernel
theorem dX6_isOutside_10 : decode cX6_isOutside 10 = .ok (.getfield 21, 3) := by decide +kernel
theorem dX6_isOutside_13 : decode cX6_isOutside 13 = .ok (.lcmp, 1) := by decide +kernel
theorem dX6_isOutside_14 : decode cX6_isOutside 14 = .ok (.ifCond .lt 12, 3) := by decide +kernel
theorem dX6_isOutside_26 : decode cX6_isOutside 26 = .ok (.iconst 1, 1) := by decide +kernel
theorem dX6_isOutside_27 : decode cX6_isOutside 27 = .ok (.goto 4, 3) := by decide +kernel
theorem dX6_isOutside_17 : decode cX6_isOutside 17 = .ok (.lload_n 1, 1) := by decide +kernel
theorem dX6_isOutside_18 : decode cX6_isOutside 18 = .ok (.aload_n 0, 1) := by decide +kernel
theorem dX6_isOutside_19 : decode cX6_isOutside 19 = .ok (.getfield 27, 3) := by decide +kernel
theorem dX6_isOutside_22 : decode cX6_isOutside 22 = .ok (.lcmp, 1) := by decide +kernel
theorem dX6_isOutside_23 : decode cX6_isOutside 23 = .ok (.ifCond .le 7, 3) := by decide +kernel
theorem dX6_keep_0 : decode cX6_keep 0 = .ok (.aload_n 0, 1) := by decide +kernel
theorem dX6_keep_1 : decode cX6_keep 1 = .ok (.getfield 9, 3) := by decide +kernel
theorem dX6_keep_4 : decode cX6_keep 4 = .ok (.iload_n 1, 1) := by decide +kernel
theorem dX6_keep_5 : decode cX6_keep 5 = .ok (.lload_n 2, 1) := by decide +kernel
theorem dX6_keep_6 : decode cX6_keep 6 = .ok (.lastore, 1) := by decide +kernel
theorem dX6_keep_7 : decode cX6_keep 7 = .ok (.aload_n 0, 1) := by decide +kernel
theorem dX6_keep_8 : decode cX6_keep 8 = .ok (.getfield 15, 3) := by decide +kernel
theorem dX6_keep_11 : decode cX6_keep 11 = .ok (.iload_n 1, 1) := by decide +kernel
theorem dX6_keep_12 : decode cX6_keep 12 = .ok (.iload 4, 2) := by decide +kernel
theorem dX6_keep_14 : decode cX6_keep 14 = .ok (.iastore, 1) := by decide +kernel
theorem dX6_keep_15 : decode cX6_keep 15 = .ok (.return_, 1) := by decide +kernel
theorem dX6_forget_0 : decode cX6_forget 0 = .ok (.aload_n 0, 1) := by decide +kernel
theorem dX6_forget_1 : decode cX6_forget 1 = .ok (.iload_n 1, 1) := by decide +kernel
theorem dX6_forget_2 : decode cX6_forget 2 = .ok (.ldc2_w 42, 3) := by decide +kernel
theorem dX6_forget_5 : decode cX6_forget 5 = .ok (.iconst (-1), 1) := by decide +kernel
set_option maxRecDepth 20000 in
theorem ggX6_forget_X6_keep : GoodIn wsX6_forget wsX6_keep := goodIn_r _ [6, 7, 8, 9, 10, 11, 12, 13, 14, 15, 16] (by decide +kernel) (by decide +kernel)
set_option maxRecDepth 20000 in
theorem gX6_forget_X6_keep : GoodIn wsX6_forget (wsV RX6 53 RX6 yX6_keep wsX6_keep) := goodIn_app (goodIn_of _ (by decide +kernel)) ggX6_forget_X6_keep
theorem dX6_forget_6 : decode cX6_forget 6 = .ok (.invokevirtual 53, 3) := by decide +kernel
theorem dX6_forget_9 : decode cX6_forget 9 = .ok (.return_, 1) := by decide +kernel
theorem dX6_isKept_0 : decode cX6_isKept 0 = .ok (.aload_n 0, 1) := by decide +kernel
theorem dX6_isKept_1 : decode cX6_isKept 1 = .ok (.getfield 15, 3) := by decide +kernel
theorem dX6_isKept_4 : decode cX6_isKept 4 = .ok (.iload_n 1, 1) := by decide +kernel
theorem dX6_isKept_5 : decode cX6_isKept 5 = .ok (.iaload, 1) := by decide +kernel
theorem dX6_isKept_6 : decode cX6_isKept 6 = .ok (.iconst (-1), 1) := by decide +kernel
theorem dX6_isKept_7 : decode cX6_isKept 7 = .ok (.if_icmp .eq 7, 3) := by decide +kernel
theorem dX6_isKept_14 : decode cX6_isKept 14 = .ok (.iconst 0, 1) := by decide +kernel
theorem dX6_isKept_15 : decode cX6_isKept 15 = .ok (.ireturn, 1) := by decide +kernel
theorem dX6_isKept_10 : decode cX6_isKept 10 = .ok (.iconst 1, 1) := by decide +kernel
theorem dX6_isKept_11 : decode cX6_isKept 11 = .ok (.goto 4, 3) := by decide +kernel
theorem dX6_isStale_0 : decode cX6_isStale 0 = .ok (.iload_n 2, 1) := by decide +kernel
theorem dX6_isStale_1 : decode cX6_isStale 1 = .ok (.aload_n 0, 1) := by decide +kernel
theorem dX6_isStale_2 : decode cX6_isStale 2 = .ok (.getfield 15, 3) := by decide +kernel
theorem dX6_isStale_5 : decode cX6_isStale 5 = .ok (.iload_n 1, 1) := by decide +kernel
theorem dX6_isStale_6 : decode cX6_isStale 6 = .ok (.iaload, 1) := by decide +kernel
theorem dX6_isStale_7 : decode cX6_isStale 7 = .ok (.isub, 1) := by decide +kernel
theorem dX6_isStale_8 : decode cX6_isStale 8 = .ok (.aload_n 0, 1) := by decide +kernel
theorem dX6_isStale_9 : decode cX6_isStale 9 = .ok (.getfield 31, 3) := by decide +kernel
theorem dX6_isStale_12 : decode cX6_isStale 12 = .ok (.if_icmp .le 7, 3) := by decide +kernel
theorem dX6_isStale_19 : decode cX6_isStale 19 = .ok (.iconst 0, 1) := by decide +kernel
theorem dX6_isStale_20 : decode cX6_isStale 20 = .ok (.ireturn, 1) := by decide +kernel
theorem dX6_isStale_15 : decode cX6_isStale 15 = .ok (.iconst 1, 1) := by decide +kernel
theorem dX6_isStale_16 : decode cX6_isStale 16 = .ok (.goto 4, 3) := by decide +kernel
theorem dX6_isMissing_0 : decode cX6_isMissing 0 = .ok (.aload_n 0, 1) := by decide +kernel
theorem dX6_isMissing_1 : decode cX6_isMissing 1 = .ok (.iload_n 1, 1) := by decide +kernel
set_option maxRecDepth 20000 in
theorem ggX6_isMissing_X6_isKept : GoodIn wsX6_isMissing wsX6_isKept := goodIn_r _ [7, 8, 14, 15, 16, 17, 18, 19, 20, 21] (by decide +kernel) (by decide +kernel)
set_option maxRecDepth 20000 in
theorem gX6_isMissing_X6_isKept : GoodIn wsX6_isMissing (wsV RX6 57 RX6 yX6_isKept wsX6_isKept) := goodIn_app (goodIn_of _ (by decide +kernel)) ggX6_isMissing_X6_isKept
theorem dX6_isMissing_2 : decode cX6_isMissing 2 = .ok (.invokevirtual 57, 3) := by decide +kernel
theorem dX6_isMissing_5 : decode cX6_isMissing 5 = .ok (.ifCond .eq 25, 3) := by decide +kernel
theorem dX6_isMissing_30 : decode cX6_isMissing 30 = .ok (.iconst 1, 1) := by decide +kernel
theorem dX6_isMissing_31 : decode cX6_isMissing 31 = .ok (.goto 4, 3) := by decide +kernel
theorem dX6_isMissing_35 : decode cX6_isMissing 35 = .ok (.ireturn, 1) := by decide +kernel
theorem dX6_isMissing_8 : decode cX6_isMissing 8 = .ok (.aload_n 0, 1) := by decide +kernel
theorem dX6_isMissing_9 : decode cX6_isMissing 9 = .ok (.getfield 9, 3) := by decide +kernel
theorem dX6_isMissing_12 : decode cX6_isMissing 12 = .ok (.iload_n 1, 1) := by decide +kernel
theorem dX6_isMissing_13 : decode cX6_isMissing 13 = .ok (.laload, 1) := by decide +kernel
theorem dX6_isMissing_14 : decode cX6_isMissing 14 = .ok (.ldc2_w 42, 3) := by decide +kernel
theorem dX6_isMissing_17 : decode cX6_isMissing 17 = .ok (.lcmp, 1) := by decide +kernel
theorem dX6_isMissing_18 : decode cX6_isMissing 18 = .ok (.ifCond .eq 12, 3) := by decide +kernel
theorem dX6_isMissing_21 : decode cX6_isMissing 21 = .ok (.aload_n 0, 1) := by decide +kernel
theorem dX6_isMissing_22 : decode cX6_isMissing 22 = .ok (.iload_n 1, 1) := by decide +kernel
theorem dX6_isMissing_23 : decode cX6_isMissing 23 = .ok (.iload_n 2, 1) := by decide +kernel
set_option maxRecDepth 20000 in
theorem ggX6_isMissing_X6_isStale : GoodIn wsX6_isMissing wsX6_isStale := goodIn_r _ [12, 8, 13, 14, 15, 16, 17, 18, 19, 20, 21] (by decide +kernel) (by decide +kernel)
set_option maxRecDepth 20000 in
theorem gX6_isMissing_X6_isStale : GoodIn wsX6_isMissing (wsV RX6 61 RX6 yX6_isStale wsX6_isStale) := goodIn_app (goodIn_of _ (by decide +kernel)) ggX6_isMissing_X6_isStale
theorem dX6_isMissing_24 : decode cX6_isMissing 24 = .ok (.invokevirtual 61, 3) := by decide +kernel
theorem dX6_isMissing_27 : decode cX6_isMissing 27 = .ok (.ifCond .eq 7, 3) := by decide +kernel
theorem dX6_isMissing_34 : decode cX6_isMissing 34 = .ok (.iconst 0, 1) := by decide +kernel
set_option maxHeartbeats 8000000 in
set_option maxRecDepth 100000 in
theorem k_X7_make (l : Launch) (dC : Nat → ClassId) (dI : Nat → Nat → Nat) (cA : Nat → ClassId) (sz : Nat) (ax : Nat → Nat) (xSr : Int32) (xWm : Int32) (xTp : Int32) (xRz : Int32) (xRn : Int32) (xMz : Int32) (gTr : Nat → Option Nat) (gT : Nat → Int32) (gN : Nat → Int32) (gP : Nat → Int32) (gS : Nat → Int32) (gM : Nat → Int32) (gK : Nat → Int32) (gV : Nat → Int32) (gO : Nat → Int32) (gW : Nat → Int32) (gKk : Nat → Int64) (gVs : Nat → Int64) (L : List Nat) (pf : Nat → va_E) (tt : Int32) (pp : Int32) (mo : Int32) (kn : Int32) (nT : Int32) (nd : Nat → Int32) (sl : Nat → Int32) (i_xSr : 0 ≤ xSr.toInt ∧ xSr.toInt ≤ 400) (i_xTp : 0 ≤ xTp.toInt ∧ xTp.toInt ≤ 200) (i_xRz : 0 ≤ xRz.toInt ∧ xRz.toInt ≤ 400) (i_gT : inB (-1) 19 20 gT) (i_gN : inB 0 100000 20 gN) (i_gP : inB 0 19 400 gP) (i_gW : inB 0 399 400 gW) (hTP : TP cA nT gTr L pf nd sl) (htt : 0 ≤ tt.toInt ∧ tt.toInt < nT.toInt) (hnT : nT.toInt ≤ 20) (hpp : 0 ≤ pp.toInt ∧ pp.toInt ≤ 19) : Met l yX7_make wsX7_make ({ frames := 5, cells := 0, slots := 0, locals := 117 }) (va_Pc [.ref (ax 16), .int tt, .int pp, .int mo, .int kn] (fun U => U.heap.size = sz ∧ va_P (dC, dI) vwCl (([((ax 16), .inr (7, [.ref (ax 1), .ref (ax 7), .ref (ax 15), .ref (ax 17), .ref (ax 18), .ref (ax 19), .ref (ax 20), .int xSr, .int xWm, .int xTp])), ((ax 1), .inr (3, [.ref (ax 2), .ref (ax 3), .ref (ax 4), .ref (ax 5), .ref (ax 6), .int xRz, .int xRn])), ((ax 7), .inr (0, [.ref (ax 8), .ref (ax 9), .int xMz])), ((ax 15), .inl (cA 5, 20, .inr (.inr (.inr (.inr gTr))))), ((ax 8), .inl (cA 0, 20, .inl gT)), ((ax 9), .inl (cA 0, 20, .inl gN)), ((ax 2), .inl (cA 0, 400, .inl gP)), ((ax 3), .inl (cA 0, 400, .inl gS)), ((ax 4), .inl (cA 0, 400, .inl gM)), ((ax 5), .inl (cA 0, 400, .inl gK)), ((ax 6), .inl (cA 0, 400, .inl gV)), ((ax 17), .inl (cA 2, 20, .inl gO)), ((ax 18), .inl (cA 0, 400, .inl gW)), ((ax 19), .inl (cA 1, 200, .inr (.inl gKk))), ((ax 20), .inl (cA 1, 20, .inr (.inl gVs)))] : va_W) ++ va_pl L pf) U.heap ∧ va_K (dC, dI) vwCl (tyL cA) U ∧ va_D (fun _ => True) (([((ax 16), .inr (7, [.ref (ax 1), .ref (ax 7), .ref (ax 15), .ref (ax 17), .ref (ax 18), .ref (ax 19), .ref (ax 20), .int xSr, .int xWm, .int xTp])), ((ax 1), .inr (3, [.ref (ax 2), .ref (ax 3), .ref (ax 4), .ref (ax 5), .ref (ax 6), .int xRz, .int xRn])), ((ax 7), .inr (0, [.ref (ax 8), .ref (ax 9), .int xMz])), ((ax 15), .inl (cA 5, 20, .inr (.inr (.inr (.inr gTr))))), ((ax 8), .inl (cA 0, 20, .inl gT)), ((ax 9), .inl (cA 0, 20, .inl gN)), ((ax 2), .inl (cA 0, 400, .inl gP)), ((ax 3), .inl (cA 0, 400, .inl gS)), ((ax 4), .inl (cA 0, 400, .inl gM)), ((ax 5), .inl (cA 0, 400, .inl gK)), ((ax 6), .inl (cA 0, 400, .inl gV)), ((ax 17), .inl (cA 2, 20, .inl gO)), ((ax 18), .inl (cA 0, 400, .inl gW)), ((ax 19), .inl (cA 1, 200, .inr (.inl gKk))), ((ax 20), .inl (cA 1, 20, .inr (.inl gVs)))] : va_W) ++ va_pl L pf) ∧ nw_ok U)) (va_Ql (fun (r : Int64) (u : (Nat → Int32) × (Nat → Int32) × Int32 × Int32 × (Nat → Int64) × Int32 × (Nat → Int64)) => (inB 0 399 400 u.2.1) ∧ (0 ≤ u.2.2.1.toInt ∧ u.2.2.1.toInt ≤ 400) ∧ (0 ≤ u.2.2.2.2.2.1.toInt ∧ u.2.2.2.2.2.1.toInt ≤ 200)) (fun (u : (Nat → Int32) × (Nat → Int32) × Int32 × Int32 × (Nat → Int64) × Int32 × (Nat → Int64)) (t : State) => va_P (dC, dI) vwCl (([((ax 16), .inr (7, [.ref (ax 1), .ref (ax 7), .ref (ax 15), .ref (ax 17), .ref (ax 18), .ref (ax 19), .ref (ax 20), .int u.2.2.1, .int u.2.2.2.1, .int u.2.2.2.2.2.1])), ((ax 1), .inr (3, [.ref (ax 2), .ref (ax 3), .ref (ax 4), .ref (ax 5), .ref (ax 6), .int xRz, .int xRn])), ((ax 7), .inr (0, [.ref (ax 8), .ref (ax 9), .int xMz])), ((ax 15), .inl (cA 5, 20, .inr (.inr (.inr (.inr gTr))))), ((ax 8), .inl (cA 0, 20, .inl gT)), ((ax 9), .inl (cA 0, 20, .inl gN)), ((ax 2), .inl (cA 0, 400, .inl gP)), ((ax 3), .inl (cA 0, 400, .inl gS)), ((ax 4), .inl (cA 0, 400, .inl gM)), ((ax 5), .inl (cA 0, 400, .inl gK)), ((ax 6), .inl (cA 0, 400, .inl gV)), ((ax 17), .inl (cA 2, 20, .inl u.1)), ((ax 18), .inl (cA 0, 400, .inl u.2.1)), ((ax 19), .inl (cA 1, 200, .inr (.inl u.2.2.2.2.1))), ((ax 20), .inl (cA 1, 20, .inr (.inl u.2.2.2.2.2.2)))] : va_W) ++ va_pl L pf) t.heap ∧ va_D (va_A (([((ax 16), .inr (7, [.ref (ax 1), .ref (ax 7), .ref (ax 15), .ref (ax 17), .ref (ax 18), .ref (ax 19), .ref (ax 20), .int xSr, .int xWm, .int xTp])), ((ax 1), .inr (3, [.ref (ax 2), .ref (ax 3), .ref (ax 4), .ref (ax 5), .ref (ax 6), .int xRz, .int xRn])), ((ax 7), .inr (0, [.ref (ax 8), .ref (ax 9), .int xMz])), ((ax 15), .inl (cA 5, 20, .inr (.inr (.inr (.inr gTr))))), ((ax 8), .inl (cA 0, 20, .inl gT)), ((ax 9), .inl (cA 0, 20, .inl gN)), ((ax 2), .inl (cA 0, 400, .inl gP)), ((ax 3), .inl (cA 0, 400, .inl gS)), ((ax 4), .inl (cA 0, 400, .inl gM)), ((ax 5), .inl (cA 0, 400, .inl gK)), ((ax 6), .inl (cA 0, 400, .inl gV)), ((ax 17), .inl (cA 2, 20, .inl gO)), ((ax 18), .inl (cA 0, 400, .inl gW)), ((ax 19), .inl (cA 1, 200, .inr (.inl gKk))), ((ax 20), .inl (cA 1, 20, .inr (.inl gVs)))] : va_W) ++ va_pl L pf) sz) (([((ax 16), .inr (7, [.ref (ax 1), .ref (ax 7), .ref (ax 15), .ref (ax 17), .ref (ax 18), .ref (ax 19), .ref (ax 20), .int u.2.2.1, .int u.2.2.2.1, .int u.2.2.2.2.2.1])), ((ax 1), .inr (3, [.ref (ax 2), .ref (ax 3), .ref (ax 4), .ref (ax 5), .ref (ax 6), .int xRz, .int xRn])), ((ax 7), .inr (0, [.ref (ax 8), .ref (ax 9), .int xMz])), ((ax 15), .inl (cA 5, 20, .inr (.inr (.inr (.inr gTr))))), ((ax 8), .inl (cA 0, 20, .inl gT)), ((ax 9), .inl (cA 0, 20, .inl gN)), ((ax 2), .inl (cA 0, 400, .inl gP)), ((ax 3), .inl (cA 0, 400, .inl gS)), ((ax 4), .inl (cA 0, 400, .inl gM)), ((ax 5), .inl (cA 0, 400, .inl gK)), ((ax 6), .inl (cA 0, 400, .inl gV)), ((ax 17), .inl (cA 2, 20, .inl u.1)), ((ax 18), .inl (cA 0, 400, .inl u.2.1)), ((ax 19), .inl (cA 1, 200, .inr (.inl u.2.2.2.2.1))), ((ax 20), .inl (cA 1, 20, .inr (.inl u.2.2.2.2.2.2)))] : va_W) ++ va_pl L pf)) (va_A (([((ax 16), .inr (7, [.ref (ax 1), .ref (ax 7), .ref (ax 15), .ref (ax 17), .ref (ax 18), .ref (ax 19), .ref (ax 20), .int xSr, .int xWm, .int xTp])), ((ax 1), .inr (3, [.ref (ax 2), .ref (ax 3), .ref (ax 4), .ref (ax 5), .ref (ax 6), .int xRz, .int xRn])), ((ax 7), .inr (0, [.ref (ax 8), .ref (ax 9), .int xMz])), ((ax 15), .inl (cA 5, 20, .inr (.inr (.inr (.inr gTr))))), ((ax 8), .inl (cA 0, 20, .inl gT)), ((ax 9), .inl (cA 0, 20, .inl gN)), ((ax 2), .inl (cA 0, 400, .inl gP)), ((ax 3), .inl (cA 0, 400, .inl gS)), ((ax 4), .inl (cA 0, 400, .inl gM)), ((ax 5), .inl (cA 0, 400, .inl gK)), ((ax 6), .inl (cA 0, 400, .inl gV)), ((ax 17), .inl (cA 2, 20, .inl gO)), ((ax 18), .inl (cA 0, 400, .inl gW)), ((ax 19), .inl (cA 1, 200, .inr (.inl gKk))), ((ax 20), .inl (cA 1, 20, .inr (.inl gVs)))] : va_W) ++ va_pl L pf) sz)) 0 0 (va_A (([((ax 16), .inr (7, [.ref (ax 1), .ref (ax 7), .ref (ax 15), .ref (ax 17), .ref (ax 18), .ref (ax 19), .ref (ax 20), .int xSr, .int xWm, .int xTp])), ((ax 1), .inr (3, [.ref (ax 2), .ref (ax 3), .ref (ax 4), .ref (ax 5), .ref (ax 6), .int xRz, .int xRn])), ((ax 7), .inr (0, [.ref (ax 8), .ref (ax 9), .int xMz])), ((ax 15), .inl (cA 5, 20, .inr (.inr (.inr (.inr gTr))))), ((ax 8), .inl (cA 0, 20, .inl gT)), ((ax 9), .inl (cA 0, 20, .inl gN)), ((ax 2), .inl (cA 0, 400, .inl gP)), ((ax 3), .inl (cA 0, 400, .inl gS)), ((ax 4), .inl (cA 0, 400, .inl gM)), ((ax 5), .inl (cA 0, 400, .inl gK)), ((ax 6), .inl (cA 0, 400, .inl gV)), ((ax 17), .inl (cA 2, 20, .inl gO)), ((ax 18), .inl (cA 0, 400, .inl gW)), ((ax 19), .inl (cA 1, 200, .inr (.inl gKk))), ((ax 20), .inl (cA 1, 20, .inr (.inl gVs)))] : va_W) ++ va_pl L pf) sz) := by
  refine Met.ofW (cc := cX7_make) (maxL := 7) (ret := (some .long)) (by decide) rfl ?_
  intro p e s m args below meth c s₁ B hml hv
  obtain ⟨rfl, hsz, hP, hK, hD0, hN⟩ := hv
  have hx := B.exec
  have hb := B.bytes
  have hr := B.returns
  have hts := atoms_spec (ws := wsX7_make) B.pre
  have hown : s.vm.findClass RX7 = some m.cls := findClass_of_methodNamed B.named
  have hlocks := B.notSynchronized
  subst hsz
  have hD := hD0.self (sz := s.heap.size)
  generalize hAe : va_A (([((ax 16), .inr (7, [.ref (ax 1), .ref (ax 7), .ref (ax 15), .ref (ax 17), .ref (ax 18), .ref (ax 19), .ref (ax 20), .int xSr, .int xWm, .int xTp])), ((ax 1), .inr (3, [.ref (ax 2), .ref (ax 3), .ref (ax 4), .ref (ax 5), .ref (ax 6), .int xRz, .int xRn])), ((ax 7), .inr (0, [.ref (ax 8), .ref (ax 9), .int xMz])), ((ax 15), .inl (cA 5, 20, .inr (.inr (.inr (.inr gTr))))), ((ax 8), .inl (cA 0, 20, .inl gT)), ((ax 9), .inl (cA 0, 20, .inl gN)), ((ax 2), .inl (cA 0, 400, .inl gP)), ((ax 3), .inl (cA 0, 400, .inl gS)), ((ax 4), .inl (cA 0, 400, .inl gM)), ((ax 5), .inl (cA 0, 400, .inl gK)), ((ax 6), .inl (cA 0, 400, .inl gV)), ((ax 17), .inl (cA 2, 20, .inl gO)), ((ax 18), .inl (cA 0, 400, .inl gW)), ((ax 19), .inl (cA 1, 200, .inr (.inl gKk))), ((ax 20), .inl (cA 1, 20, .inr (.inl gVs)))] : va_W) ++ va_pl L pf) s.heap.size = A at hD ⊢
  have hA : ∀ q : Nat, s.heap.size ≤ q → A q := fun q h => by rw [← hAe]; exact Or.inr h
  have hS : va_S A s.heap s.heap [] := va_S.rf
  have hIX6 : ∀ w ∈ u_ws RX6 TX6 8, w ∈ wsX7_make := by decide +kernel
  have hIX7 : ∀ w ∈ u_ws RX7 TX7 10, w ∈ wsX7_make := by decide +kernel
  have hl := lv_entry ([.ref (ax 16), .int tt, .int pp, .int mo, .int kn]) (n := 7) (Nat.le_of_ble_eq_true rfl)
  rw [lg_entry_eq]
  generalize (lg_sl ([.ref (ax 16), .int tt, .int pp, .int mo, .int kn]) ++ List.replicate (7 - (lg_sl ([.ref (ax 16), .int tt, .int pp, .int mo, .int kn])).length) Slot.unset).toArray = ls at hl ⊢
  have hl : lv_has ls 7 [(0, .ref (ax 16)), (1, .int tt), (2, .int pp), (3, .int mo), (4, .int kn)] := hl
  generalize hQe : MQ below _ _ _ _ _ _ = QQ
  refine lv_aload_n hx hb dX7_make_0 rfl (lv_at hl 0 rfl) ?_
  refine va_get (D := (dC, dI)) (ci := 7) (v := .ref (ax 15)) (C := RX7) (T := TX7) (N := 10) hx hb hts hIX7 hown hK hP 0 rfl rfl 2 (by decide) (hts (.fieldLink RX7 34 "TraitHouse$Worker" "traits" "[LTraitHouse$Trait;") (by decide +kernel)) (fun _ h9 => h9) rfl dX7_make_1 ?_
  refine lv_iload_n hx hb dX7_make_4 rfl (lv_at hl 1 rfl) ?_
  have h_1 : vp_in tt 20 := (vp_in_iff.mpr ⟨by omega, by omega⟩)
  refine va_aldq hx hb hK hP 3 5 rfl rfl h_1 dX7_make_5 ?_
  obtain ⟨ndv_2, hnd_2⟩ : ∃ z : Int32, z = nd tt.toNatClampNeg := ⟨_, rfl⟩
  obtain ⟨slv_2, hsl_2⟩ : ∃ z : Int32, z = sl tt.toNatClampNeg := ⟨_, rfl⟩
  obtain ⟨t_2, hte_2, hok_2⟩ := TP_at (i := tt) hTP (by omega) (by omega)
  rw [← hnd_2, ← hsl_2] at hok_2
  have hok9 := hok_2
  obtain ⟨htm_2, s_2, v_2, m_2, lf_2, lt_2, he_2, htf_2, hso_2, hvm_2, ⟨kv_2, hvf_2⟩, hmm_2, km_2, hmf_2⟩ := hok9
  rw [hte_2]
  refine W.eq (g2 := F0 m 6 ls [.ref t_2]) rfl ?_
  refine lv_ifnonnull (tgt := 13) hx hb dX7_make_6 (by decide) ?_
  refine lv_aload_n hx hb dX7_make_13 rfl (lv_at hl 0 rfl) ?_
  refine va_get (D := (dC, dI)) (ci := 7) (v := .ref (ax 15)) (C := RX7) (T := TX7) (N := 10) hx hb hts hIX7 hown hK hP 0 rfl rfl 2 (by decide) (hts (.fieldLink RX7 34 "TraitHouse$Worker" "traits" "[LTraitHouse$Trait;") (by decide +kernel)) (fun _ h9 => h9) rfl dX7_make_14 ?_
  refine lv_iload_n hx hb dX7_make_17 rfl (lv_at hl 1 rfl) ?_
  have h_3 : vp_in tt 20 := (vp_in_iff.mpr ⟨by omega, by omega⟩)
  refine va_aldq hx hb hK hP 3 5 rfl rfl h_3 dX7_make_18 ?_
  obtain ⟨ndv_4, hnd_4⟩ : ∃ z : Int32, z = nd tt.toNatClampNeg := ⟨_, rfl⟩
  obtain ⟨slv_4, hsl_4⟩ : ∃ z : Int32, z = sl tt.toNatClampNeg := ⟨_, rfl⟩
  obtain ⟨t_4, hte_4, hok_4⟩ := TP_at (i := tt) hTP (by omega) (by omega)
  rw [← hnd_4, ← hsl_4] at hok_4
  have hok9 := hok_4
  obtain ⟨htm_4, s_4, v_4, m_4, lf_4, lt_4, he_4, htf_4, hso_4, hvm_4, ⟨kv_4, hvf_4⟩, hmm_4, km_4, hmf_4⟩ := hok9
  rw [hte_4]
  refine W.eq (g2 := F0 m 19 ls [.ref t_4]) rfl ?_
  obtain ⟨pk_5, hpk_5⟩ := va_pl_get (X := [((ax 16), .inr (7, [.ref (ax 1), .ref (ax 7), .ref (ax 15), .ref (ax 17), .ref (ax 18), .ref (ax 19), .ref (ax 20), .int xSr, .int xWm, .int xTp])), ((ax 1), .inr (3, [.ref (ax 2), .ref (ax 3), .ref (ax 4), .ref (ax 5), .ref (ax 6), .int xRz, .int xRn])), ((ax 7), .inr (0, [.ref (ax 8), .ref (ax 9), .int xMz])), ((ax 15), .inl (cA 5, 20, .inr (.inr (.inr (.inr gTr))))), ((ax 8), .inl (cA 0, 20, .inl gT)), ((ax 9), .inl (cA 0, 20, .inl gN)), ((ax 2), .inl (cA 0, 400, .inl gP)), ((ax 3), .inl (cA 0, 400, .inl gS)), ((ax 4), .inl (cA 0, 400, .inl gM)), ((ax 5), .inl (cA 0, 400, .inl gK)), ((ax 6), .inl (cA 0, 400, .inl gV)), ((ax 17), .inl (cA 2, 20, .inl gO)), ((ax 18), .inl (cA 0, 400, .inl gW)), ((ax 19), .inl (cA 1, 200, .inr (.inl gKk))), ((ax 20), .inl (cA 1, 20, .inr (.inl gVs)))]) (f := pf) htm_4
  have gpk_5 := hpk_5
  rw [htf_4] at hpk_5
  refine va_getN (D := (dC, dI)) (ci := 6) (v := .int ndv_4) (C := RX6) (T := TX6) (N := 8) hx hb hts hIX6 hown hK hP pk_5 hpk_5 rfl 1 (by decide) (va_Nw.use rfl (nw_at hN 22 rfl)) (fun _ h9 => h9) rfl dX7_make_19 ?_
  refine lv_istore (lv' := [(5, .int ndv_4), (0, .ref (ax 16)), (1, .int tt), (2, .int pp), (3, .int mo), (4, .int kn)]) hx hb dX7_make_22 hl (by decide) rfl (fun ls hl => ?_)
  refine lv_aload_n hx hb dX7_make_24 rfl (lv_at hl 1 rfl) ?_
  refine lv_iload_n hx hb dX7_make_25 rfl (lv_at hl 3 rfl) ?_
  refine lv_iload_n hx hb dX7_make_26 rfl (lv_at hl 4 rfl) ?_
  refine lv_iload hx hb dX7_make_27 (lv_at hl 5 rfl) ?_
  obtain ⟨hPc, hDc, hFc, hCc⟩ := va_pre (ws' := [((ax 16), .inr (7, [.ref (ax 1), .ref (ax 7), .ref (ax 15), .ref (ax 17), .ref (ax 18), .ref (ax 19), .ref (ax 20), .int xSr, .int xWm, .int xTp])), ((ax 1), .inr (3, [.ref (ax 2), .ref (ax 3), .ref (ax 4), .ref (ax 5), .ref (ax 6), .int xRz, .int xRn])), ((ax 7), .inr (0, [.ref (ax 8), .ref (ax 9), .int xMz])), ((ax 8), .inl (cA 0, 20, .inl gT)), ((ax 9), .inl (cA 0, 20, .inl gN)), ((ax 2), .inl (cA 0, 400, .inl gP)), ((ax 4), .inl (cA 0, 400, .inl gM)), ((ax 5), .inl (cA 0, 400, .inl gK)), ((ax 17), .inl (cA 2, 20, .inl gO)), ((ax 18), .inl (cA 0, 400, .inl gW))]) hP hD hS hA [0, 1, 2, 4, 5, 6, 8, 9, 11, 12] (by decide) rfl
  refine va_callv (va_runV (As := [.int pp, .int mo, .int kn]) (rest := []) ⟨hx, hb, hml, hown, hts⟩ (k_X7_look l dC dI cA s.heap.size ax xSr xWm xTp xRz xRn xMz gT gN gP gM gK gO gW pp mo kn i_xSr i_xTp i_xRz i_gT i_gN i_gP i_gW hpp) (cwV 3 hts gX7_make_X7_look rfl rfl rfl (by decide +kernel) ⟨Nat.le_of_ble_eq_true rfl, Nat.le_of_ble_eq_true rfl⟩) ⟨fun a U g mk q => by obtain ⟨q0, q1, qP, qK, qD, qN⟩ := q; exact ⟨q0, q1, qP, va_K.moved (u := U) (U := U.calling g mk a) (Vm.Alike.refl U.vm) qK, qD, qN.same rfl⟩, va_recv hK hPc (ci := 7) (q0 := 0) rfl rfl, fun U hU hW => ⟨rfl, by rw [hU], by rw [hU]; exact hPc, va_K.moved hW.alike hK, hDc.weaken (fun _ _ _ _ => trivial), hN.warm hW⟩⟩ rfl rfl hl.1 rfl (lv_room (Nat.le_of_ble_eq_true rfl)) dX7_make_29 ⟨Nat.le_of_ble_eq_true rfl, Nat.le_of_ble_eq_true rfl⟩) hS (fun q _ h => hFc q h) hFc (fun u_6 t H1 locs ht hvm hw_7 hB hz1 hk1 hS => ?_)
  obtain ⟨w_8, w_9, w_10, w_11⟩ := u_6
  try dsimp only at hw_7 hB
  obtain ⟨iv_12, iv_13⟩ := hw_7
  obtain ⟨hP1, hD1⟩ := hB
  rw [ht] at hP1
  obtain ⟨hP, hD⟩ := va_joinQ (wr := [((ax 15), .inl (cA 5, 20, .inr (.inr (.inr (.inr gTr))))), ((ax 3), .inl (cA 0, 400, .inl gS)), ((ax 6), .inl (cA 0, 400, .inl gV)), ((ax 19), .inl (cA 1, 200, .inr (.inl gKk))), ((ax 20), .inl (cA 1, 20, .inr (.inl gVs)))]) (w1 := [((ax 16), .inr (7, [.ref (ax 1), .ref (ax 7), .ref (ax 15), .ref (ax 17), .ref (ax 18), .ref (ax 19), .ref (ax 20), .int w_10, .int w_11, .int xTp])), ((ax 1), .inr (3, [.ref (ax 2), .ref (ax 3), .ref (ax 4), .ref (ax 5), .ref (ax 6), .int xRz, .int xRn])), ((ax 7), .inr (0, [.ref (ax 8), .ref (ax 9), .int xMz])), ((ax 8), .inl (cA 0, 20, .inl gT)), ((ax 9), .inl (cA 0, 20, .inl gN)), ((ax 2), .inl (cA 0, 400, .inl gP)), ((ax 4), .inl (cA 0, 400, .inl gM)), ((ax 5), .inl (cA 0, 400, .inl gK)), ((ax 17), .inl (cA 2, 20, .inl w_8)), ((ax 18), .inl (cA 0, 400, .inl w_9))]) hP hD [0, 1, 2, 4, 5, 6, 8, 9, 11, 12] [3, 7, 10, 13, 14] rfl rfl (by decide) (by decide) hk1 hFc hP1 hD1
  clear hz1
  generalize H1 = H at hP hS ⊢
  replace hP : va_P (dC, dI) vwCl (([((ax 15), .inl (cA 5, 20, .inr (.inr (.inr (.inr gTr))))), ((ax 3), .inl (cA 0, 400, .inl gS)), ((ax 6), .inl (cA 0, 400, .inl gV)), ((ax 19), .inl (cA 1, 200, .inr (.inl gKk))), ((ax 20), .inl (cA 1, 20, .inr (.inl gVs))), ((ax 16), .inr (7, [.ref (ax 1), .ref (ax 7), .ref (ax 15), .ref (ax 17), .ref (ax 18), .ref (ax 19), .ref (ax 20), .int w_10, .int w_11, .int xTp])), ((ax 1), .inr (3, [.ref (ax 2), .ref (ax 3), .ref (ax 4), .ref (ax 5), .ref (ax 6), .int xRz, .int xRn])), ((ax 7), .inr (0, [.ref (ax 8), .ref (ax 9), .int xMz])), ((ax 8), .inl (cA 0, 20, .inl gT)), ((ax 9), .inl (cA 0, 20, .inl gN)), ((ax 2), .inl (cA 0, 400, .inl gP)), ((ax 4), .inl (cA 0, 400, .inl gM)), ((ax 5), .inl (cA 0, 400, .inl gK)), ((ax 17), .inl (cA 2, 20, .inl w_8)), ((ax 18), .inl (cA 0, 400, .inl w_9))] : va_W) ++ va_pl L pf) H := hP
  replace hD : va_D A (([((ax 15), .inl (cA 5, 20, .inr (.inr (.inr (.inr gTr))))), ((ax 3), .inl (cA 0, 400, .inl gS)), ((ax 6), .inl (cA 0, 400, .inl gV)), ((ax 19), .inl (cA 1, 200, .inr (.inl gKk))), ((ax 20), .inl (cA 1, 20, .inr (.inl gVs))), ((ax 16), .inr (7, [.ref (ax 1), .ref (ax 7), .ref (ax 15), .ref (ax 17), .ref (ax 18), .ref (ax 19), .ref (ax 20), .int w_10, .int w_11, .int xTp])), ((ax 1), .inr (3, [.ref (ax 2), .ref (ax 3), .ref (ax 4), .ref (ax 5), .ref (ax 6), .int xRz, .int xRn])), ((ax 7), .inr (0, [.ref (ax 8), .ref (ax 9), .int xMz])), ((ax 8), .inl (cA 0, 20, .inl gT)), ((ax 9), .inl (cA 0, 20, .inl gN)), ((ax 2), .inl (cA 0, 400, .inl gP)), ((ax 4), .inl (cA 0, 400, .inl gM)), ((ax 5), .inl (cA 0, 400, .inl gK)), ((ax 17), .inl (cA 2, 20, .inl w_8)), ((ax 18), .inl (cA 0, 400, .inl w_9))] : va_W) ++ va_pl L pf) := hD
  refine lv_iconst (v := 0) hx hb dX7_make_32 (by decide) ?_
  refine lv_istore (lv' := [(6, .int 0), (5, .int ndv_4), (0, .ref (ax 16)), (1, .int tt), (2, .int pp), (3, .int mo), (4, .int kn)]) hx hb dX7_make_33 hl (by decide) rfl (fun ls hl => ?_)
  have loop35_14 : ∀ (n : Nat) (i6 : Int32) (w_gVs_35 : Nat → Int64) (w_gKk_35 : Nat → Int64) (w_xTp_35 : Int32) (H : Heap) (locs : List Loc) (ls : Array Slot), 20 - i6.toInt < (n : Int) → (0 ≤ i6.toInt ∧ i6.toInt ≤ 20) → (0 ≤ w_xTp_35.toInt ∧ w_xTp_35.toInt ≤ 200) → va_P (dC, dI) vwCl (([((ax 15), .inl (cA 5, 20, .inr (.inr (.inr (.inr gTr))))), ((ax 3), .inl (cA 0, 400, .inl gS)), ((ax 6), .inl (cA 0, 400, .inl gV)), ((ax 19), .inl (cA 1, 200, .inr (.inl w_gKk_35))), ((ax 20), .inl (cA 1, 20, .inr (.inl w_gVs_35))), ((ax 16), .inr (7, [.ref (ax 1), .ref (ax 7), .ref (ax 15), .ref (ax 17), .ref (ax 18), .ref (ax 19), .ref (ax 20), .int w_10, .int w_11, .int w_xTp_35])), ((ax 1), .inr (3, [.ref (ax 2), .ref (ax 3), .ref (ax 4), .ref (ax 5), .ref (ax 6), .int xRz, .int xRn])), ((ax 7), .inr (0, [.ref (ax 8), .ref (ax 9), .int xMz])), ((ax 8), .inl (cA 0, 20, .inl gT)), ((ax 9), .inl (cA 0, 20, .inl gN)), ((ax 2), .inl (cA 0, 400, .inl gP)), ((ax 4), .inl (cA 0, 400, .inl gM)), ((ax 5), .inl (cA 0, 400, .inl gK)), ((ax 17), .inl (cA 2, 20, .inl w_8)), ((ax 18), .inl (cA 0, 400, .inl w_9))] : va_W) ++ va_pl L pf) H → va_D A (([((ax 15), .inl (cA 5, 20, .inr (.inr (.inr (.inr gTr))))), ((ax 3), .inl (cA 0, 400, .inl gS)), ((ax 6), .inl (cA 0, 400, .inl gV)), ((ax 19), .inl (cA 1, 200, .inr (.inl w_gKk_35))), ((ax 20), .inl (cA 1, 20, .inr (.inl w_gVs_35))), ((ax 16), .inr (7, [.ref (ax 1), .ref (ax 7), .ref (ax 15), .ref (ax 17), .ref (ax 18), .ref (ax 19), .ref (ax 20), .int w_10, .int w_11, .int w_xTp_35])), ((ax 1), .inr (3, [.ref (ax 2), .ref (ax 3), .ref (ax 4), .ref (ax 5), .ref (ax 6), .int xRz, .int xRn])), ((ax 7), .inr (0, [.ref (ax 8), .ref (ax 9), .int xMz])), ((ax 8), .inl (cA 0, 20, .inl gT)), ((ax 9), .inl (cA 0, 20, .inl gN)), ((ax 2), .inl (cA 0, 400, .inl gP)), ((ax 4), .inl (cA 0, 400, .inl gM)), ((ax 5), .inl (cA 0, 400, .inl gK)), ((ax 17), .inl (cA 2, 20, .inl w_8)), ((ax 18), .inl (cA 0, 400, .inl w_9))] : va_W) ++ va_pl L pf) → va_S A s.heap H locs → lv_has ls 7 [(6, .int i6), (5, .int ndv_4), (0, .ref (ax 16)), (1, .int tt), (2, .int pp), (3, .int mo), (4, .int kn)] → W p l e ({ frames := 5, cells := 0, slots := 0, locals := 117 }) s m ([.ref (ax 16), .int tt, .int pp, .int mo, .int kn] : List Value).toArray below meth c H locs 0 0 QQ (F0 m 35 ls []) := by
    intro n
    induction n with
    | zero => intro i6 w_gVs_35 w_gKk_35 w_xTp_35 H locs ls hme hv0_35 hv1_35; exfalso; omega
    | succ n ih_35 =>
      intro i6 w_gVs_35 w_gKk_35 w_xTp_35 H locs ls hme_35 hv0_35 hv1_35 hP hD hS hl
      refine lv_iload hx hb dX7_make_35 (lv_at hl 0 rfl) ?_
      refine lv_iload_n hx hb dX7_make_37 rfl (lv_at hl 3 rfl) ?_
      refine lv_icmp_gt (tgt := 88) hx hb dX7_make_38 (by decide) (fun c_15 => ?_) (fun c_15 => ?_)
      · have dc_15 : tt.toInt < i6.toInt := jI_lt c_15 rfl rfl
        refine lv_aload_n hx hb dX7_make_88 rfl (lv_at hl 2 rfl) ?_
        refine va_get (D := (dC, dI)) (ci := 7) (v := .ref (ax 20)) (C := RX7) (T := TX7) (N := 10) hx hb hts hIX7 hown hK hP 5 rfl rfl 6 (by decide) (hts (.fieldLink RX7 23 "TraitHouse$Worker" "values" "[J") (by decide +kernel)) (fun _ h9 => h9) rfl dX7_make_89 ?_
        refine lv_iload_n hx hb dX7_make_92 rfl (lv_at hl 3 rfl) ?_
        have h_16 : vp_in tt 20 := (vp_in_iff.mpr ⟨by omega, by omega⟩)
        refine va_lald hx hb hK hP 4 1 rfl rfl h_16 dX7_make_93 ?_
        refine lv_topl (fun y_17 ey_17 => ?_)
        have hP9 := hP.part (cx := [((ax 16), .inr (7, [.ref (ax 1), .ref (ax 7), .ref (ax 15), .ref (ax 17), .ref (ax 18), .ref (ax 19), .ref (ax 20), .int w_10, .int w_11, .int w_xTp_35])), ((ax 1), .inr (3, [.ref (ax 2), .ref (ax 3), .ref (ax 4), .ref (ax 5), .ref (ax 6), .int xRz, .int xRn])), ((ax 7), .inr (0, [.ref (ax 8), .ref (ax 9), .int xMz])), ((ax 15), .inl (cA 5, 20, .inr (.inr (.inr (.inr gTr))))), ((ax 8), .inl (cA 0, 20, .inl gT)), ((ax 9), .inl (cA 0, 20, .inl gN)), ((ax 2), .inl (cA 0, 400, .inl gP)), ((ax 3), .inl (cA 0, 400, .inl gS)), ((ax 4), .inl (cA 0, 400, .inl gM)), ((ax 5), .inl (cA 0, 400, .inl gK)), ((ax 6), .inl (cA 0, 400, .inl gV)), ((ax 17), .inl (cA 2, 20, .inl w_8)), ((ax 18), .inl (cA 0, 400, .inl w_9)), ((ax 19), .inl (cA 1, 200, .inr (.inl w_gKk_35))), ((ax 20), .inl (cA 1, 20, .inr (.inl w_gVs_35)))]) [5, 6, 7, 0, 8, 9, 10, 1, 11, 12, 2, 13, 14, 3, 4] rfl
        have hD9 := hD.part (cx := [((ax 16), .inr (7, [.ref (ax 1), .ref (ax 7), .ref (ax 15), .ref (ax 17), .ref (ax 18), .ref (ax 19), .ref (ax 20), .int w_10, .int w_11, .int w_xTp_35])), ((ax 1), .inr (3, [.ref (ax 2), .ref (ax 3), .ref (ax 4), .ref (ax 5), .ref (ax 6), .int xRz, .int xRn])), ((ax 7), .inr (0, [.ref (ax 8), .ref (ax 9), .int xMz])), ((ax 15), .inl (cA 5, 20, .inr (.inr (.inr (.inr gTr))))), ((ax 8), .inl (cA 0, 20, .inl gT)), ((ax 9), .inl (cA 0, 20, .inl gN)), ((ax 2), .inl (cA 0, 400, .inl gP)), ((ax 3), .inl (cA 0, 400, .inl gS)), ((ax 4), .inl (cA 0, 400, .inl gM)), ((ax 5), .inl (cA 0, 400, .inl gK)), ((ax 6), .inl (cA 0, 400, .inl gV)), ((ax 17), .inl (cA 2, 20, .inl w_8)), ((ax 18), .inl (cA 0, 400, .inl w_9)), ((ax 19), .inl (cA 1, 200, .inr (.inl w_gKk_35))), ((ax 20), .inl (cA 1, 20, .inr (.inl w_gVs_35)))]) [5, 6, 7, 0, 8, 9, 10, 1, 11, 12, 2, 13, 14, 3, 4] (by decide) rfl
        subst hQe
        have hans : (y_17 : Int64).toInt = y_17.toInt := rfl
        have hpost : (inB 0 399 400 w_9) ∧ (0 ≤ w_10.toInt ∧ w_10.toInt ≤ 400) ∧ (0 ≤ w_xTp_35.toInt ∧ w_xTp_35.toInt ≤ 200) := ⟨iv_12, iv_13, hv1_35⟩
        exact W.lret (v := y_17) hx hb hr (fun t ht hW => ⟨⟨y_17, (w_8, w_9, w_10, w_11, w_gKk_35, w_xTp_35, w_gVs_35), rfl, hpost, by rw [ht]; exact hP9, hD9⟩, hS.F ht⟩) hS.2.2 dX7_make_94
      · have dc_15 : i6.toInt ≤ tt.toInt := jI_nlt c_15 rfl rfl
        refine lv_iload hx hb dX7_make_41 (lv_at hl 1 rfl) ?_
        refine lv_iload hx hb dX7_make_43 (lv_at hl 0 rfl) ?_
        obtain ⟨hPc, hDc, hFc, hCc⟩ := va_pre (ws' := []) hP hD hS hA [] (by decide) rfl
        refine va_calli (va_runSN (As := [.int ndv_4, .int i6]) (rest := []) ⟨hx, hb, hml, hown, hts⟩ (k_X8_hasBit l dC dI cA H.size ndv_4 i6 (by omega)) ⟨(va_cnB 2 hts gX7_make_X8_hasBit_n50 rfl rfl rfl (nw_at hN 51 rfl) (hts (.initialized RX8) (by decide +kernel)) (by decide +kernel) ⟨Nat.le_of_ble_eq_true rfl, Nat.le_of_ble_eq_true rfl⟩), (hts (.static yX8_hasBit) (by decide +kernel)), trivial⟩ ⟨fun a U g mk q => by obtain ⟨q0, q1, qP, qK, qD, qN⟩ := q; exact ⟨q0, q1, qP, va_K.moved (u := U) (U := U.calling g mk a) (Vm.Alike.refl U.vm) qK, qD, qN.same rfl⟩, fun U hU hW => ⟨rfl, by rw [hU], by rw [hU]; exact hPc, va_K.moved hW.alike hK, hDc.weaken (fun _ _ _ _ => trivial), hN.warm hW⟩⟩ rfl rfl hl.1 rfl (lv_room (Nat.le_of_ble_eq_true rfl)) dX7_make_45 ⟨Nat.le_of_ble_eq_true rfl, Nat.le_of_ble_eq_true rfl⟩) hS (fun q _ h => hFc q h) hFc (fun r_18 u_19 t H1 locs ht hvm hw_20 hB hz1 hk1 hS => ?_)
        try dsimp only at hw_20 hB
        obtain ⟨po_21, tb_22⟩ := hw_20
        obtain ⟨hP1, hD1⟩ := hB
        rw [ht] at hP1
        obtain ⟨hP, hD⟩ := va_joinQ (wr := [((ax 15), .inl (cA 5, 20, .inr (.inr (.inr (.inr gTr))))), ((ax 3), .inl (cA 0, 400, .inl gS)), ((ax 6), .inl (cA 0, 400, .inl gV)), ((ax 19), .inl (cA 1, 200, .inr (.inl w_gKk_35))), ((ax 20), .inl (cA 1, 20, .inr (.inl w_gVs_35))), ((ax 16), .inr (7, [.ref (ax 1), .ref (ax 7), .ref (ax 15), .ref (ax 17), .ref (ax 18), .ref (ax 19), .ref (ax 20), .int w_10, .int w_11, .int w_xTp_35])), ((ax 1), .inr (3, [.ref (ax 2), .ref (ax 3), .ref (ax 4), .ref (ax 5), .ref (ax 6), .int xRz, .int xRn])), ((ax 7), .inr (0, [.ref (ax 8), .ref (ax 9), .int xMz])), ((ax 8), .inl (cA 0, 20, .inl gT)), ((ax 9), .inl (cA 0, 20, .inl gN)), ((ax 2), .inl (cA 0, 400, .inl gP)), ((ax 4), .inl (cA 0, 400, .inl gM)), ((ax 5), .inl (cA 0, 400, .inl gK)), ((ax 17), .inl (cA 2, 20, .inl w_8)), ((ax 18), .inl (cA 0, 400, .inl w_9))]) (w1 := []) hP hD [] [0, 1, 2, 3, 4, 5, 6, 7, 8, 9, 10, 11, 12, 13, 14] rfl rfl (by decide) (by decide) hk1 hFc hP1 hD1
        clear hz1
        generalize H1 = H at hP hS ⊢
        replace hP : va_P (dC, dI) vwCl (([((ax 15), .inl (cA 5, 20, .inr (.inr (.inr (.inr gTr))))), ((ax 3), .inl (cA 0, 400, .inl gS)), ((ax 6), .inl (cA 0, 400, .inl gV)), ((ax 19), .inl (cA 1, 200, .inr (.inl w_gKk_35))), ((ax 20), .inl (cA 1, 20, .inr (.inl w_gVs_35))), ((ax 16), .inr (7, [.ref (ax 1), .ref (ax 7), .ref (ax 15), .ref (ax 17), .ref (ax 18), .ref (ax 19), .ref (ax 20), .int w_10, .int w_11, .int w_xTp_35])), ((ax 1), .inr (3, [.ref (ax 2), .ref (ax 3), .ref (ax 4), .ref (ax 5), .ref (ax 6), .int xRz, .int xRn])), ((ax 7), .inr (0, [.ref (ax 8), .ref (ax 9), .int xMz])), ((ax 8), .inl (cA 0, 20, .inl gT)), ((ax 9), .inl (cA 0, 20, .inl gN)), ((ax 2), .inl (cA 0, 400, .inl gP)), ((ax 4), .inl (cA 0, 400, .inl gM)), ((ax 5), .inl (cA 0, 400, .inl gK)), ((ax 17), .inl (cA 2, 20, .inl w_8)), ((ax 18), .inl (cA 0, 400, .inl w_9))] : va_W) ++ va_pl L pf) H := hP
        replace hD : va_D A (([((ax 15), .inl (cA 5, 20, .inr (.inr (.inr (.inr gTr))))), ((ax 3), .inl (cA 0, 400, .inl gS)), ((ax 6), .inl (cA 0, 400, .inl gV)), ((ax 19), .inl (cA 1, 200, .inr (.inl w_gKk_35))), ((ax 20), .inl (cA 1, 20, .inr (.inl w_gVs_35))), ((ax 16), .inr (7, [.ref (ax 1), .ref (ax 7), .ref (ax 15), .ref (ax 17), .ref (ax 18), .ref (ax 19), .ref (ax 20), .int w_10, .int w_11, .int w_xTp_35])), ((ax 1), .inr (3, [.ref (ax 2), .ref (ax 3), .ref (ax 4), .ref (ax 5), .ref (ax 6), .int xRz, .int xRn])), ((ax 7), .inr (0, [.ref (ax 8), .ref (ax 9), .int xMz])), ((ax 8), .inl (cA 0, 20, .inl gT)), ((ax 9), .inl (cA 0, 20, .inl gN)), ((ax 2), .inl (cA 0, 400, .inl gP)), ((ax 4), .inl (cA 0, 400, .inl gM)), ((ax 5), .inl (cA 0, 400, .inl gK)), ((ax 17), .inl (cA 2, 20, .inl w_8)), ((ax 18), .inl (cA 0, 400, .inl w_9))] : va_W) ++ va_pl L pf) := hD
        refine lv_if_eq (tgt := 82) hx hb dX7_make_48 (by decide) (fun c_23 => ?_) (fun c_23 => ?_)
        · have dc_23 : r_18.toInt = 0 := jI_eq c_23 rfl (by decide)
          obtain ⟨x_24, ex_24⟩ : ∃ y : Int32, y = i6 + 1 := ⟨_, rfl⟩
          have dx_24 : x_24.toInt = i6.toInt + 1 := by rw [ex_24]; exact jI_add rfl (by decide) (by omega) (by omega)
          refine lv_iinc (v := x_24) (lv' := [(6, .int x_24), (5, .int ndv_4), (0, .ref (ax 16)), (1, .int tt), (2, .int pp), (3, .int mo), (4, .int kn)]) hx hb dX7_make_82 hl (k := 0) rfl (by rw [ex_24]; rfl) (by decide) rfl (fun ls hl => ?_)
          refine lv_goto (tgt := 35) hx hb dX7_make_85 (by decide) ?_
          exact ih_35 x_24 w_gVs_35 w_gKk_35 w_xTp_35 _ _ ls (by omega) (by omega) hv1_35 (hP.part (cx := [((ax 15), .inl (cA 5, 20, .inr (.inr (.inr (.inr gTr))))), ((ax 3), .inl (cA 0, 400, .inl gS)), ((ax 6), .inl (cA 0, 400, .inl gV)), ((ax 19), .inl (cA 1, 200, .inr (.inl w_gKk_35))), ((ax 20), .inl (cA 1, 20, .inr (.inl w_gVs_35))), ((ax 16), .inr (7, [.ref (ax 1), .ref (ax 7), .ref (ax 15), .ref (ax 17), .ref (ax 18), .ref (ax 19), .ref (ax 20), .int w_10, .int w_11, .int w_xTp_35])), ((ax 1), .inr (3, [.ref (ax 2), .ref (ax 3), .ref (ax 4), .ref (ax 5), .ref (ax 6), .int xRz, .int xRn])), ((ax 7), .inr (0, [.ref (ax 8), .ref (ax 9), .int xMz])), ((ax 8), .inl (cA 0, 20, .inl gT)), ((ax 9), .inl (cA 0, 20, .inl gN)), ((ax 2), .inl (cA 0, 400, .inl gP)), ((ax 4), .inl (cA 0, 400, .inl gM)), ((ax 5), .inl (cA 0, 400, .inl gK)), ((ax 17), .inl (cA 2, 20, .inl w_8)), ((ax 18), .inl (cA 0, 400, .inl w_9))]) [0, 1, 2, 3, 4, 5, 6, 7, 8, 9, 10, 11, 12, 13, 14] rfl) (hD.part (cx := [((ax 15), .inl (cA 5, 20, .inr (.inr (.inr (.inr gTr))))), ((ax 3), .inl (cA 0, 400, .inl gS)), ((ax 6), .inl (cA 0, 400, .inl gV)), ((ax 19), .inl (cA 1, 200, .inr (.inl w_gKk_35))), ((ax 20), .inl (cA 1, 20, .inr (.inl w_gVs_35))), ((ax 16), .inr (7, [.ref (ax 1), .ref (ax 7), .ref (ax 15), .ref (ax 17), .ref (ax 18), .ref (ax 19), .ref (ax 20), .int w_10, .int w_11, .int w_xTp_35])), ((ax 1), .inr (3, [.ref (ax 2), .ref (ax 3), .ref (ax 4), .ref (ax 5), .ref (ax 6), .int xRz, .int xRn])), ((ax 7), .inr (0, [.ref (ax 8), .ref (ax 9), .int xMz])), ((ax 8), .inl (cA 0, 20, .inl gT)), ((ax 9), .inl (cA 0, 20, .inl gN)), ((ax 2), .inl (cA 0, 400, .inl gP)), ((ax 4), .inl (cA 0, 400, .inl gM)), ((ax 5), .inl (cA 0, 400, .inl gK)), ((ax 17), .inl (cA 2, 20, .inl w_8)), ((ax 18), .inl (cA 0, 400, .inl w_9))]) [0, 1, 2, 3, 4, 5, 6, 7, 8, 9, 10, 11, 12, 13, 14] (by decide) rfl) hS (lv_sub hl [0, 1, 2, 3, 4, 5, 6] rfl)
        · have dc_23 : ¬ r_18.toInt = 0 := jI_ne c_23 rfl (by decide)
          refine lv_aload_n hx hb dX7_make_51 rfl (lv_at hl 2 rfl) ?_
          refine va_get (D := (dC, dI)) (ci := 7) (v := .ref (ax 15)) (C := RX7) (T := TX7) (N := 10) hx hb hts hIX7 hown hK hP 5 rfl rfl 2 (by decide) (hts (.fieldLink RX7 34 "TraitHouse$Worker" "traits" "[LTraitHouse$Trait;") (by decide +kernel)) (fun _ h9 => h9) rfl dX7_make_52 ?_
          refine lv_iload hx hb dX7_make_55 (lv_at hl 0 rfl) ?_
          have h_25 : vp_in i6 20 := (vp_in_iff.mpr ⟨by omega, by omega⟩)
          refine va_aldq hx hb hK hP 0 5 rfl rfl h_25 dX7_make_57 ?_
          obtain ⟨ndv_26, hnd_26⟩ : ∃ z : Int32, z = nd i6.toNatClampNeg := ⟨_, rfl⟩
          obtain ⟨slv_26, hsl_26⟩ : ∃ z : Int32, z = sl i6.toNatClampNeg := ⟨_, rfl⟩
          obtain ⟨t_26, hte_26, hok_26⟩ := TP_at (i := i6) hTP (by omega) (by omega)
          rw [← hnd_26, ← hsl_26] at hok_26
          have hok9 := hok_26
          obtain ⟨htm_26, s_26, v_26, m_26, lf_26, lt_26, he_26, htf_26, hso_26, hvm_26, ⟨kv_26, hvf_26⟩, hmm_26, km_26, hmf_26⟩ := hok9
          rw [hte_26]
          refine W.eq (g2 := F0 m 58 ls [.ref t_26]) rfl ?_
          refine lv_ifnull hx hb dX7_make_58 ?_
          refine lv_aload_n hx hb dX7_make_61 rfl (lv_at hl 2 rfl) ?_
          refine va_get (D := (dC, dI)) (ci := 7) (v := .ref (ax 20)) (C := RX7) (T := TX7) (N := 10) hx hb hts hIX7 hown hK hP 5 rfl rfl 6 (by decide) (hts (.fieldLink RX7 23 "TraitHouse$Worker" "values" "[J") (by decide +kernel)) (fun _ h9 => h9) rfl dX7_make_62 ?_
          refine lv_iload hx hb dX7_make_65 (lv_at hl 0 rfl) ?_
          refine lv_aload_n hx hb dX7_make_67 rfl (lv_at hl 2 rfl) ?_
          refine lv_aload_n hx hb dX7_make_68 rfl (lv_at hl 2 rfl) ?_
          refine va_get (D := (dC, dI)) (ci := 7) (v := .ref (ax 15)) (C := RX7) (T := TX7) (N := 10) hx hb hts hIX7 hown hK hP 5 rfl rfl 2 (by decide) (hts (.fieldLink RX7 34 "TraitHouse$Worker" "traits" "[LTraitHouse$Trait;") (by decide +kernel)) (fun _ h9 => h9) rfl dX7_make_69 ?_
          refine lv_iload hx hb dX7_make_72 (lv_at hl 0 rfl) ?_
          have h_27 : vp_in i6 20 := (vp_in_iff.mpr ⟨by omega, by omega⟩)
          refine va_aldq hx hb hK hP 0 5 rfl rfl h_27 dX7_make_74 ?_
          obtain ⟨ndv_28, hnd_28⟩ : ∃ z : Int32, z = nd i6.toNatClampNeg := ⟨_, rfl⟩
          obtain ⟨slv_28, hsl_28⟩ : ∃ z : Int32, z = sl i6.toNatClampNeg := ⟨_, rfl⟩
          obtain ⟨t_28, hte_28, hok_28⟩ := TP_at (i := i6) hTP (by omega) (by omega)
          rw [← hnd_28, ← hsl_28] at hok_28
          have hok9 := hok_28
          obtain ⟨htm_28, s_28, v_28, m_28, lf_28, lt_28, he_28, htf_28, hso_28, hvm_28, ⟨kv_28, hvf_28⟩, hmm_28, km_28, hmf_28⟩ := hok9
          rw [hte_28]
          refine W.eq (g2 := F0 m 75 ls [.ref t_28, .ref (ax 16), .int i6, .ref (ax 20)]) rfl ?_
          obtain ⟨pk_29, hpk_29⟩ := va_pl_get (X := [((ax 15), .inl (cA 5, 20, .inr (.inr (.inr (.inr gTr))))), ((ax 3), .inl (cA 0, 400, .inl gS)), ((ax 6), .inl (cA 0, 400, .inl gV)), ((ax 19), .inl (cA 1, 200, .inr (.inl w_gKk_35))), ((ax 20), .inl (cA 1, 20, .inr (.inl w_gVs_35))), ((ax 16), .inr (7, [.ref (ax 1), .ref (ax 7), .ref (ax 15), .ref (ax 17), .ref (ax 18), .ref (ax 19), .ref (ax 20), .int w_10, .int w_11, .int w_xTp_35])), ((ax 1), .inr (3, [.ref (ax 2), .ref (ax 3), .ref (ax 4), .ref (ax 5), .ref (ax 6), .int xRz, .int xRn])), ((ax 7), .inr (0, [.ref (ax 8), .ref (ax 9), .int xMz])), ((ax 8), .inl (cA 0, 20, .inl gT)), ((ax 9), .inl (cA 0, 20, .inl gN)), ((ax 2), .inl (cA 0, 400, .inl gP)), ((ax 4), .inl (cA 0, 400, .inl gM)), ((ax 5), .inl (cA 0, 400, .inl gK)), ((ax 17), .inl (cA 2, 20, .inl w_8)), ((ax 18), .inl (cA 0, 400, .inl w_9))]) (f := pf) htm_28
          have gpk_29 := hpk_29
          rw [htf_28] at hpk_29
          refine va_getN (D := (dC, dI)) (ci := 6) (v := .ref s_28) (C := RX6) (T := TX6) (N := 8) hx hb hts hIX6 hown hK hP pk_29 hpk_29 rfl 0 (by decide) (va_Nw.use rfl (nw_at hN 21 rfl)) (fun _ h9 => h9) rfl dX7_make_75 ?_
          have hPc := hP.part (cx := [((ax 16), .inr (7, [.ref (ax 1), .ref (ax 7), .ref (ax 15), .ref (ax 17), .ref (ax 18), .ref (ax 19), .ref (ax 20), .int w_10, .int w_11, .int w_xTp_35])), ((ax 1), .inr (3, [.ref (ax 2), .ref (ax 3), .ref (ax 4), .ref (ax 5), .ref (ax 6), .int xRz, .int xRn])), ((ax 3), .inl (cA 0, 400, .inl gS)), ((ax 4), .inl (cA 0, 400, .inl gM)), ((ax 6), .inl (cA 0, 400, .inl gV)), ((ax 18), .inl (cA 0, 400, .inl w_9)), ((ax 19), .inl (cA 1, 200, .inr (.inl w_gKk_35))), ((ax 20), .inl (cA 1, 20, .inr (.inl w_gVs_35)))]) [5, 6, 1, 11, 2, 14, 3, 4] rfl
          have hDc := hD.part (cx := [((ax 16), .inr (7, [.ref (ax 1), .ref (ax 7), .ref (ax 15), .ref (ax 17), .ref (ax 18), .ref (ax 19), .ref (ax 20), .int w_10, .int w_11, .int w_xTp_35])), ((ax 1), .inr (3, [.ref (ax 2), .ref (ax 3), .ref (ax 4), .ref (ax 5), .ref (ax 6), .int xRz, .int xRn])), ((ax 3), .inl (cA 0, 400, .inl gS)), ((ax 4), .inl (cA 0, 400, .inl gM)), ((ax 6), .inl (cA 0, 400, .inl gV)), ((ax 18), .inl (cA 0, 400, .inl w_9)), ((ax 19), .inl (cA 1, 200, .inr (.inl w_gKk_35))), ((ax 20), .inl (cA 1, 20, .inr (.inl w_gVs_35)))]) [5, 6, 1, 11, 2, 14, 3, 4] (by decide) rfl
          have hFc := va_freeP (cx := [((ax 16), .inr (7, [.ref (ax 1), .ref (ax 7), .ref (ax 15), .ref (ax 17), .ref (ax 18), .ref (ax 19), .ref (ax 20), .int w_10, .int w_11, .int w_xTp_35])), ((ax 1), .inr (3, [.ref (ax 2), .ref (ax 3), .ref (ax 4), .ref (ax 5), .ref (ax 6), .int xRz, .int xRn])), ((ax 3), .inl (cA 0, 400, .inl gS)), ((ax 4), .inl (cA 0, 400, .inl gM)), ((ax 6), .inl (cA 0, 400, .inl gV)), ((ax 18), .inl (cA 0, 400, .inl w_9)), ((ax 19), .inl (cA 1, 200, .inr (.inl w_gKk_35))), ((ax 20), .inl (cA 1, 20, .inr (.inl w_gVs_35)))]) hD hS hA [5, 6, 1, 11, 2, 14, 3, 4] rfl
          refine va_calll (va_runV (As := [.ref s_28]) (rest := [.int i6, .ref (ax 20)]) ⟨hx, hb, hml, hown, hts⟩ (k_X7_workOut l dC dI cA H.size ax w_10 w_11 w_xTp_35 xRz xRn gS gM gV w_9 w_gKk_35 w_gVs_35 L pf s_28 iv_13 hv1_35 i_xRz iv_12 hso_28) (cwV 1 hts gX7_make_X7_workOut rfl rfl rfl (by decide +kernel) ⟨Nat.le_of_ble_eq_true rfl, Nat.le_of_ble_eq_true rfl⟩) ⟨fun a U g mk q => by obtain ⟨q0, q1, qP, qK, qD, qN⟩ := q; exact ⟨q0, q1, qP, va_K.moved (u := U) (U := U.calling g mk a) (Vm.Alike.refl U.vm) qK, qD, qN.same rfl⟩, va_recv hK hPc (ci := 7) (q0 := 0) rfl rfl, fun U hU hW => ⟨rfl, by rw [hU], by rw [hU]; exact hPc, va_K.moved hW.alike hK, hDc.weaken (fun _ _ _ _ => trivial), hN.warm hW⟩⟩ rfl rfl hl.1 rfl (lv_room (Nat.le_of_ble_eq_true rfl)) dX7_make_78 ⟨Nat.le_of_ble_eq_true rfl, Nat.le_of_ble_eq_true rfl⟩) hS (fun q _ h => hFc q h) hFc (fun r_30 u_31 t H1 locs ht hvm hw_32 hB hz1 hk1 hS => ?_)
          obtain ⟨w_33, w_34⟩ := u_31
          try dsimp only at hw_32 hB
          have iv_35 := hw_32
          clear hw_32
          obtain ⟨hP1, hD1⟩ := hB
          rw [ht] at hP1
          obtain ⟨hP, hD⟩ := va_joinP (wr := [((ax 15), .inl (cA 5, 20, .inr (.inr (.inr (.inr gTr))))), ((ax 7), .inr (0, [.ref (ax 8), .ref (ax 9), .int xMz])), ((ax 8), .inl (cA 0, 20, .inl gT)), ((ax 9), .inl (cA 0, 20, .inl gN)), ((ax 2), .inl (cA 0, 400, .inl gP)), ((ax 5), .inl (cA 0, 400, .inl gK)), ((ax 17), .inl (cA 2, 20, .inl w_8))]) (rx := [((ax 16), .inr (7, [.ref (ax 1), .ref (ax 7), .ref (ax 15), .ref (ax 17), .ref (ax 18), .ref (ax 19), .ref (ax 20), .int w_10, .int w_11, .int w_34])), ((ax 1), .inr (3, [.ref (ax 2), .ref (ax 3), .ref (ax 4), .ref (ax 5), .ref (ax 6), .int xRz, .int xRn])), ((ax 3), .inl (cA 0, 400, .inl gS)), ((ax 4), .inl (cA 0, 400, .inl gM)), ((ax 6), .inl (cA 0, 400, .inl gV)), ((ax 18), .inl (cA 0, 400, .inl w_9)), ((ax 19), .inl (cA 1, 200, .inr (.inl w_33))), ((ax 20), .inl (cA 1, 20, .inr (.inl w_gVs_35)))]) (pl1 := va_pl L pf) hP hD [5, 6, 1, 11, 2, 14, 3, 4] [0, 7, 8, 9, 10, 12, 13] rfl rfl (by decide) (by decide) hk1 hFc hP1 hD1
          clear hz1
          generalize H1 = H at hP hS ⊢
          replace hP : va_P (dC, dI) vwCl (([((ax 15), .inl (cA 5, 20, .inr (.inr (.inr (.inr gTr))))), ((ax 7), .inr (0, [.ref (ax 8), .ref (ax 9), .int xMz])), ((ax 8), .inl (cA 0, 20, .inl gT)), ((ax 9), .inl (cA 0, 20, .inl gN)), ((ax 2), .inl (cA 0, 400, .inl gP)), ((ax 5), .inl (cA 0, 400, .inl gK)), ((ax 17), .inl (cA 2, 20, .inl w_8)), ((ax 16), .inr (7, [.ref (ax 1), .ref (ax 7), .ref (ax 15), .ref (ax 17), .ref (ax 18), .ref (ax 19), .ref (ax 20), .int w_10, .int w_11, .int w_34])), ((ax 1), .inr (3, [.ref (ax 2), .ref (ax 3), .ref (ax 4), .ref (ax 5), .ref (ax 6), .int xRz, .int xRn])), ((ax 3), .inl (cA 0, 400, .inl gS)), ((ax 4), .inl (cA 0, 400, .inl gM)), ((ax 6), .inl (cA 0, 400, .inl gV)), ((ax 18), .inl (cA 0, 400, .inl w_9)), ((ax 19), .inl (cA 1, 200, .inr (.inl w_33))), ((ax 20), .inl (cA 1, 20, .inr (.inl w_gVs_35)))] : va_W) ++ va_pl L pf) H := hP
          replace hD : va_D A (([((ax 15), .inl (cA 5, 20, .inr (.inr (.inr (.inr gTr))))), ((ax 7), .inr (0, [.ref (ax 8), .ref (ax 9), .int xMz])), ((ax 8), .inl (cA 0, 20, .inl gT)), ((ax 9), .inl (cA 0, 20, .inl gN)), ((ax 2), .inl (cA 0, 400, .inl gP)), ((ax 5), .inl (cA 0, 400, .inl gK)), ((ax 17), .inl (cA 2, 20, .inl w_8)), ((ax 16), .inr (7, [.ref (ax 1), .ref (ax 7), .ref (ax 15), .ref (ax 17), .ref (ax 18), .ref (ax 19), .ref (ax 20), .int w_10, .int w_11, .int w_34])), ((ax 1), .inr (3, [.ref (ax 2), .ref (ax 3), .ref (ax 4), .ref (ax 5), .ref (ax 6), .int xRz, .int xRn])), ((ax 3), .inl (cA 0, 400, .inl gS)), ((ax 4), .inl (cA 0, 400, .inl gM)), ((ax 6), .inl (cA 0, 400, .inl gV)), ((ax 18), .inl (cA 0, 400, .inl w_9)), ((ax 19), .inl (cA 1, 200, .inr (.inl w_33))), ((ax 20), .inl (cA 1, 20, .inr (.inl w_gVs_35)))] : va_W) ++ va_pl L pf) := hD
          have h_36 : vp_in i6 20 := (vp_in_iff.mpr ⟨by omega, by omega⟩)
          refine va_last hx hb hK hP hD hS 14 1 rfl rfl h_36 dX7_make_81 (fun H locs hP hD hS => ?_)
          replace hP : va_P (dC, dI) vwCl (([((ax 15), .inl (cA 5, 20, .inr (.inr (.inr (.inr gTr))))), ((ax 7), .inr (0, [.ref (ax 8), .ref (ax 9), .int xMz])), ((ax 8), .inl (cA 0, 20, .inl gT)), ((ax 9), .inl (cA 0, 20, .inl gN)), ((ax 2), .inl (cA 0, 400, .inl gP)), ((ax 5), .inl (cA 0, 400, .inl gK)), ((ax 17), .inl (cA 2, 20, .inl w_8)), ((ax 16), .inr (7, [.ref (ax 1), .ref (ax 7), .ref (ax 15), .ref (ax 17), .ref (ax 18), .ref (ax 19), .ref (ax 20), .int w_10, .int w_11, .int w_34])), ((ax 1), .inr (3, [.ref (ax 2), .ref (ax 3), .ref (ax 4), .ref (ax 5), .ref (ax 6), .int xRz, .int xRn])), ((ax 3), .inl (cA 0, 400, .inl gS)), ((ax 4), .inl (cA 0, 400, .inl gM)), ((ax 6), .inl (cA 0, 400, .inl gV)), ((ax 18), .inl (cA 0, 400, .inl w_9)), ((ax 19), .inl (cA 1, 200, .inr (.inl w_33))), ((ax 20), .inl (cA 1, 20, .inr (.inl (vp_updL w_gVs_35 i6.toNatClampNeg r_30))))] : va_W) ++ va_pl L pf) H := hP
          replace hD : va_D A (([((ax 15), .inl (cA 5, 20, .inr (.inr (.inr (.inr gTr))))), ((ax 7), .inr (0, [.ref (ax 8), .ref (ax 9), .int xMz])), ((ax 8), .inl (cA 0, 20, .inl gT)), ((ax 9), .inl (cA 0, 20, .inl gN)), ((ax 2), .inl (cA 0, 400, .inl gP)), ((ax 5), .inl (cA 0, 400, .inl gK)), ((ax 17), .inl (cA 2, 20, .inl w_8)), ((ax 16), .inr (7, [.ref (ax 1), .ref (ax 7), .ref (ax 15), .ref (ax 17), .ref (ax 18), .ref (ax 19), .ref (ax 20), .int w_10, .int w_11, .int w_34])), ((ax 1), .inr (3, [.ref (ax 2), .ref (ax 3), .ref (ax 4), .ref (ax 5), .ref (ax 6), .int xRz, .int xRn])), ((ax 3), .inl (cA 0, 400, .inl gS)), ((ax 4), .inl (cA 0, 400, .inl gM)), ((ax 6), .inl (cA 0, 400, .inl gV)), ((ax 18), .inl (cA 0, 400, .inl w_9)), ((ax 19), .inl (cA 1, 200, .inr (.inl w_33))), ((ax 20), .inl (cA 1, 20, .inr (.inl (vp_updL w_gVs_35 i6.toNatClampNeg r_30))))] : va_W) ++ va_pl L pf) := hD
          obtain ⟨g_37, eg_37⟩ : ∃ g : Nat → Int64, g = vp_updL w_gVs_35 i6.toNatClampNeg r_30 := ⟨_, rfl⟩
          rw [← eg_37] at hP hD
          obtain ⟨x_38, ex_38⟩ : ∃ y : Int32, y = i6 + 1 := ⟨_, rfl⟩
          have dx_38 : x_38.toInt = i6.toInt + 1 := by rw [ex_38]; exact jI_add rfl (by decide) (by omega) (by omega)
          refine lv_iinc (v := x_38) (lv' := [(6, .int x_38), (5, .int ndv_4), (0, .ref (ax 16)), (1, .int tt), (2, .int pp), (3, .int mo), (4, .int kn)]) hx hb dX7_make_82 hl (k := 0) rfl (by rw [ex_38]; rfl) (by decide) rfl (fun ls hl => ?_)
          refine lv_goto (tgt := 35) hx hb dX7_make_85 (by decide) ?_
          exact ih_35 x_38 g_37 w_33 w_34 _ _ ls (by omega) (by omega) iv_35 (hP.part (cx := [((ax 15), .inl (cA 5, 20, .inr (.inr (.inr (.inr gTr))))), ((ax 3), .inl (cA 0, 400, .inl gS)), ((ax 6), .inl (cA 0, 400, .inl gV)), ((ax 19), .inl (cA 1, 200, .inr (.inl w_33))), ((ax 20), .inl (cA 1, 20, .inr (.inl g_37))), ((ax 16), .inr (7, [.ref (ax 1), .ref (ax 7), .ref (ax 15), .ref (ax 17), .ref (ax 18), .ref (ax 19), .ref (ax 20), .int w_10, .int w_11, .int w_34])), ((ax 1), .inr (3, [.ref (ax 2), .ref (ax 3), .ref (ax 4), .ref (ax 5), .ref (ax 6), .int xRz, .int xRn])), ((ax 7), .inr (0, [.ref (ax 8), .ref (ax 9), .int xMz])), ((ax 8), .inl (cA 0, 20, .inl gT)), ((ax 9), .inl (cA 0, 20, .inl gN)), ((ax 2), .inl (cA 0, 400, .inl gP)), ((ax 4), .inl (cA 0, 400, .inl gM)), ((ax 5), .inl (cA 0, 400, .inl gK)), ((ax 17), .inl (cA 2, 20, .inl w_8)), ((ax 18), .inl (cA 0, 400, .inl w_9))]) [0, 9, 11, 13, 14, 7, 8, 1, 2, 3, 4, 10, 5, 6, 12] rfl) (hD.part (cx := [((ax 15), .inl (cA 5, 20, .inr (.inr (.inr (.inr gTr))))), ((ax 3), .inl (cA 0, 400, .inl gS)), ((ax 6), .inl (cA 0, 400, .inl gV)), ((ax 19), .inl (cA 1, 200, .inr (.inl w_33))), ((ax 20), .inl (cA 1, 20, .inr (.inl g_37))), ((ax 16), .inr (7, [.ref (ax 1), .ref (ax 7), .ref (ax 15), .ref (ax 17), .ref (ax 18), .ref (ax 19), .ref (ax 20), .int w_10, .int w_11, .int w_34])), ((ax 1), .inr (3, [.ref (ax 2), .ref (ax 3), .ref (ax 4), .ref (ax 5), .ref (ax 6), .int xRz, .int xRn])), ((ax 7), .inr (0, [.ref (ax 8), .ref (ax 9), .int xMz])), ((ax 8), .inl (cA 0, 20, .inl gT)), ((ax 9), .inl (cA 0, 20, .inl gN)), ((ax 2), .inl (cA 0, 400, .inl gP)), ((ax 4), .inl (cA 0, 400, .inl gM)), ((ax 5), .inl (cA 0, 400, .inl gK)), ((ax 17), .inl (cA 2, 20, .inl w_8)), ((ax 18), .inl (cA 0, 400, .inl w_9))]) [0, 9, 11, 13, 14, 7, 8, 1, 2, 3, 4, 10, 5, 6, 12] (by decide) rfl) hS (lv_sub hl [0, 1, 2, 3, 4, 5, 6] rfl)
  have hk_39 : (0 : Int32).toInt = 0 := by decide
  exact loop35_14 (Int.toNat (20 - (0 : Int32).toInt) + 1) 0 gVs gKk xTp _ _ ls (by omega) (by omega) i_xTp hP hD hS (lv_sub hl [0, 1, 2, 3, 4, 5, 6] rfl)

set_option maxHeartbeats 8000000 in
set_option maxRecDepth 100000 in
theorem k_X6_isOutside (l : Launch) (dC : Nat → ClassId) (dI : Nat → Nat → Nat) (cA : Nat → ClassId) (sz : Nat) (ax : Nat → Nat) (L : List Nat) (pf : Nat → va_E) (ta : Nat) (sR : Nat) (v : Nat) (mm : Nat) (nd1 : Int32) (lf : Int64) (lt : Int64) (sl1 : Int32) (he : Int32) (kv : Nat → Int64) (km : Nat → Int32) (a : Int64)  (htm : ta ∈ L) (htf : pf ta = .inr (6, [.ref sR, .int nd1, .ref v, .ref mm, .long lf, .long lt, .int sl1, .int he])) (hvq : v ∈ L) (hvf : pf v = .inl (cA 1, 20, .inr (.inl kv))) (hmm : mm ∈ L) (hmf : pf mm = .inl (cA 0, 20, .inl km)) : Met l yX6_isOutside wsX6_isOutside ({ frames := 0, cells := 0, slots := 0, locals := 0 }) (va_Pc [.ref ta, .long a] (fun U => U.heap.size = sz ∧ va_P (dC, dI) vwCl (([] : va_W) ++ va_pl L pf) U.heap ∧ va_K (dC, dI) vwCl (tyL cA) U ∧ va_D (fun _ => True) (([] : va_W) ++ va_pl L pf) ∧ nw_ok U)) (va_Qi (fun (r : Int32) (_ : Unit) => (0 ≤ r.toInt ∧ r.toInt ≤ 1)) (fun (_ : Unit) (t : State) => va_P (dC, dI) vwCl (([] : va_W) ++ va_pl L pf) t.heap ∧ va_D (va_A (([] : va_W) ++ va_pl L pf) sz) (([] : va_W) ++ va_pl L pf)) (va_A (([] : va_W) ++ va_pl L pf) sz)) 0 0 (va_A (([] : va_W) ++ va_pl L pf) sz) := by
  refine Met.ofW (cc := cX6_isOutside) (maxL := 3) (ret := (some .boolean)) (by decide) rfl ?_
  intro p e s m args below meth c s₁ B hml hv
  obtain ⟨rfl, hsz, hP, hK, hD0, hN⟩ := hv
  have hx := B.exec
  have hb := B.bytes
  have hr := B.returns
  have hts := atoms_spec (ws := wsX6_isOutside) B.pre
  have hown : s.vm.findClass RX6 = some m.cls := findClass_of_methodNamed B.named
  have hlocks := B.notSynchronized
  subst hsz
  have hD := hD0.self (sz := s.heap.size)
  generalize hAe : va_A (([] : va_W) ++ va_pl L pf) s.heap.size = A at hD ⊢
  have hA : ∀ q : Nat, s.heap.size ≤ q → A q := fun q h => by rw [← hAe]; exact Or.inr h
  have hS : va_S A s.heap s.heap [] := va_S.rf
  have hIX6 : ∀ w ∈ u_ws RX6 TX6 8, w ∈ wsX6_isOutside := by decide +kernel
  have hl := lv_entry ([.ref ta, .long a]) (n := 3) (Nat.le_of_ble_eq_true rfl)
  rw [lg_entry_eq]
  generalize (lg_sl ([.ref ta, .long a]) ++ List.replicate (3 - (lg_sl ([.ref ta, .long a])).length) Slot.unset).toArray = ls at hl ⊢
  have hl : lv_has ls 3 [(0, .ref ta), (1, .long a)] := hl
  generalize hQe : MQ below _ _ _ _ _ _ = QQ
  refine lv_lload_n hx hb dX6_isOutside_0 rfl (lv_at hl 1 rfl) ?_
  refine lv_ldc2 hx hb hown (hts (.constantLong RX6 42 (-9000000000000000000)) (by decide +kernel)) dX6_isOutside_1 ?_
  refine W.lcmp hx hb dX6_isOutside_4 ?_
  refine lv_topi (fun k_1 ek_1 => ?_)
  have dk_1 : (k_1.toInt < 0 ↔ a.toInt < (-9000000000000000000)) ∧ (k_1.toInt = 0 ↔ a.toInt = (-9000000000000000000)) ∧ (0 < k_1.toInt ↔ (-9000000000000000000) < a.toInt) := jI_cmp ek_1 rfl (by decide)
  refine lv_if_eq (tgt := 30) hx hb dX6_isOutside_5 (by decide) (fun c_2 => ?_) (fun c_2 => ?_)
  · have dc_2 : k_1.toInt = 0 := jI_eq c_2 rfl (by decide)
    refine lv_iconst (v := 0) hx hb dX6_isOutside_30 (by decide) ?_
    have hP9 := hP.part (cx := []) [] rfl
    have hD9 := hD.part (cx := []) [] (by decide) rfl
    subst hQe
    have hans : (0 : Int32).toInt = 0 := (by decide)
    have hpost : (0 ≤ (0 : Int32).toInt ∧ (0 : Int32).toInt ≤ 1) := by omega
    exact W.zret (v := 0) hx hb hr (by decide) (fun t ht hW => ⟨⟨0, (), rfl, hpost, by rw [ht]; exact hP9, hD9⟩, hS.F ht⟩) hS.2.2 dX6_isOutside_31
  · have dc_2 : ¬ k_1.toInt = 0 := jI_ne c_2 rfl (by decide)
    refine lv_lload_n hx hb dX6_isOutside_8 rfl (lv_at hl 1 rfl) ?_
    refine lv_aload_n hx hb dX6_isOutside_9 rfl (lv_at hl 0 rfl) ?_
    obtain ⟨pk_3, hpk_3⟩ := va_pl_get (X := []) (f := pf) htm
    have gpk_3 := hpk_3
    rw [htf] at hpk_3
    refine va_get (D := (dC, dI)) (ci := 6) (v := .long lf) (C := RX6) (T := TX6) (N := 8) hx hb hts hIX6 hown hK hP pk_3 hpk_3 rfl 4 (by decide) (hts (.fieldLink RX6 21 "TraitHouse$Trait" "lawFrom" "J") (by decide +kernel)) (fun _ h9 => h9) rfl dX6_isOutside_10 ?_
    refine W.lcmp hx hb dX6_isOutside_13 ?_
    refine lv_topi (fun k_4 ek_4 => ?_)
    have dk_4 : (k_4.toInt < 0 ↔ a.toInt < lf.toInt) ∧ (k_4.toInt = 0 ↔ a.toInt = lf.toInt) ∧ (0 < k_4.toInt ↔ lf.toInt < a.toInt) := jI_cmp ek_4 rfl rfl
    refine lv_if_lt (tgt := 26) hx hb dX6_isOutside_14 (by decide) (fun c_5 => ?_) (fun c_5 => ?_)
    · have dc_5 : k_4.toInt < 0 := jI_lt c_5 rfl (by decide)
      refine lv_iconst (v := 1) hx hb dX6_isOutside_26 (by decide) ?_
      refine lv_goto (tgt := 31) hx hb dX6_isOutside_27 (by decide) ?_
      have hP9 := hP.part (cx := []) [] rfl
      have hD9 := hD.part (cx := []) [] (by decide) rfl
      subst hQe
      have hans : (1 : Int32).toInt = 1 := (by decide)
      have hpost : (0 ≤ (1 : Int32).toInt ∧ (1 : Int32).toInt ≤ 1) := by omega
      exact W.zret (v := 1) hx hb hr (by decide) (fun t ht hW => ⟨⟨1, (), rfl, hpost, by rw [ht]; exact hP9, hD9⟩, hS.F ht⟩) hS.2.2 dX6_isOutside_31
    · have dc_5 : 0 ≤ k_4.toInt := jI_nlt c_5 rfl (by decide)
      refine lv_lload_n hx hb dX6_isOutside_17 rfl (lv_at hl 1 rfl) ?_
      refine lv_aload_n hx hb dX6_isOutside_18 rfl (lv_at hl 0 rfl) ?_
      obtain ⟨pk_6, hpk_6⟩ := va_pl_get (X := []) (f := pf) htm
      have gpk_6 := hpk_6
      rw [htf] at hpk_6
      refine va_get (D := (dC, dI)) (ci := 6) (v := .long lt) (C := RX6) (T := TX6) (N := 8) hx hb hts hIX6 hown hK hP pk_6 hpk_6 rfl 5 (by decide) (hts (.fieldLink RX6 27 "TraitHouse$Trait" "lawTo" "J") (by decide +kernel)) (fun _ h9 => h9) rfl dX6_isOutside_19 ?_
      refine W.lcmp hx hb dX6_isOutside_22 ?_
      refine lv_topi (fun k_7 ek_7 => ?_)
      have dk_7 : (k_7.toInt < 0 ↔ a.toInt < lt.toInt) ∧ (k_7.toInt = 0 ↔ a.toInt = lt.toInt) ∧ (0 < k_7.toInt ↔ lt.toInt < a.toInt) := jI_cmp ek_7 rfl rfl
      refine lv_if_le (tgt := 30) hx hb dX6_isOutside_23 (by decide) (fun c_8 => ?_) (fun c_8 => ?_)
      · have dc_8 : k_7.toInt ≤ 0 := jI_le c_8 rfl (by decide)
        refine lv_iconst (v := 0) hx hb dX6_isOutside_30 (by decide) ?_
        have hP9 := hP.part (cx := []) [] rfl
        have hD9 := hD.part (cx := []) [] (by decide) rfl
        subst hQe
        have hans : (0 : Int32).toInt = 0 := (by decide)
        have hpost : (0 ≤ (0 : Int32).toInt ∧ (0 : Int32).toInt ≤ 1) := by omega
        exact W.zret (v := 0) hx hb hr (by decide) (fun t ht hW => ⟨⟨0, (), rfl, hpost, by rw [ht]; exact hP9, hD9⟩, hS.F ht⟩) hS.2.2 dX6_isOutside_31
      · have dc_8 : 0 < k_7.toInt := jI_nle c_8 rfl (by decide)
        refine lv_iconst (v := 1) hx hb dX6_isOutside_26 (by decide) ?_
        refine lv_goto (tgt := 31) hx hb dX6_isOutside_27 (by decide) ?_
        have hP9 := hP.part (cx := []) [] rfl
        have hD9 := hD.part (cx := []) [] (by decide) rfl
        subst hQe
        have hans : (1 : Int32).toInt = 1 := (by decide)
        have hpost : (0 ≤ (1 : Int32).toInt ∧ (1 : Int32).toInt ≤ 1) := by omega
        exact W.zret (v := 1) hx hb hr (by decide) (fun t ht hW => ⟨⟨1, (), rfl, hpost, by rw [ht]; exact hP9, hD9⟩, hS.F ht⟩) hS.2.2 dX6_isOutside_31

set_option maxHeartbeats 8000000 in
set_option maxRecDepth 100000 in
theorem k_X6_keep (l : Launch) (dC : Nat → ClassId) (dI : Nat → Nat → Nat) (cA : Nat → ClassId) (sz : Nat) (ax : Nat → Nat) (L : List Nat) (pf : Nat → va_E) (ta : Nat) (sR : Nat) (v : Nat) (mm : Nat) (nd1 : Int32) (lf : Int64) (lt : Int64) (sl1 : Int32) (he : Int32) (kv : Nat → Int64) (km : Nat → Int32) (pp : Int32) (a : Int64) (mo : Int32)  (htm : ta ∈ L) (htf : pf ta = .inr (6, [.ref sR, .int nd1, .ref v, .ref mm, .long lf, .long lt, .int sl1, .int he])) (hvq : v ∈ L) (hvf : pf v = .inl (cA 1, 20, .inr (.inl kv))) (hmm : mm ∈ L) (hmf : pf mm = .inl (cA 0, 20, .inl km)) (hpp : 0 ≤ pp.toInt ∧ pp.toInt ≤ 19) : Met l yX6_keep wsX6_keep ({ frames := 0, cells := 0, slots := 0, locals := 0 }) (va_Pc [.ref ta, .int pp, .long a, .int mo] (fun U => U.heap.size = sz ∧ va_P (dC, dI) vwCl (([] : va_W) ++ va_pl L pf) U.heap ∧ va_K (dC, dI) vwCl (tyL cA) U ∧ va_D (fun _ => True) (([] : va_W) ++ va_pl L pf) ∧ nw_ok U)) (va_Qv (fun (u : (Nat → va_E)) => (shp pf u)) (fun (u : (Nat → va_E)) (t : State) => va_P (dC, dI) vwCl (([] : va_W) ++ va_pl L u) t.heap ∧ va_D (va_A (([] : va_W) ++ va_pl L pf) sz) (([] : va_W) ++ va_pl L u)) (va_A (([] : va_W) ++ va_pl L pf) sz)) 0 0 (va_A (([] : va_W) ++ va_pl L pf) sz) := by
  refine Met.ofW (cc := cX6_keep) (maxL := 5) (ret := none) (by decide) rfl ?_
  intro p e s m args below meth c s₁ B hml hv
  obtain ⟨rfl, hsz, hP, hK, hD0, hN⟩ := hv
  have hx := B.exec
  have hb := B.bytes
  have hr := B.returns
  have hts := atoms_spec (ws := wsX6_keep) B.pre
  have hown : s.vm.findClass RX6 = some m.cls := findClass_of_methodNamed B.named
  have hlocks := B.notSynchronized
  subst hsz
  have hD := hD0.self (sz := s.heap.size)
  generalize hAe : va_A (([] : va_W) ++ va_pl L pf) s.heap.size = A at hD ⊢
  have hA : ∀ q : Nat, s.heap.size ≤ q → A q := fun q h => by rw [← hAe]; exact Or.inr h
  have hS : va_S A s.heap s.heap [] := va_S.rf
  have hIX6 : ∀ w ∈ u_ws RX6 TX6 8, w ∈ wsX6_keep := by decide +kernel
  have hl := lv_entry ([.ref ta, .int pp, .long a, .int mo]) (n := 5) (Nat.le_of_ble_eq_true rfl)
  rw [lg_entry_eq]
  generalize (lg_sl ([.ref ta, .int pp, .long a, .int mo]) ++ List.replicate (5 - (lg_sl ([.ref ta, .int pp, .long a, .int mo])).length) Slot.unset).toArray = ls at hl ⊢
  have hl : lv_has ls 5 [(0, .ref ta), (1, .int pp), (2, .long a), (4, .int mo)] := hl
  generalize hQe : MQ below _ _ _ _ _ _ = QQ
  refine lv_aload_n hx hb dX6_keep_0 rfl (lv_at hl 0 rfl) ?_
  obtain ⟨pk_1, hpk_1⟩ := va_pl_get (X := []) (f := pf) htm
  have gpk_1 := hpk_1
  rw [htf] at hpk_1
  refine va_get (D := (dC, dI)) (ci := 6) (v := .ref v) (C := RX6) (T := TX6) (N := 8) hx hb hts hIX6 hown hK hP pk_1 hpk_1 rfl 2 (by decide) (hts (.fieldLink RX6 9 "TraitHouse$Trait" "keptValues" "[J") (by decide +kernel)) (fun _ h9 => h9) rfl dX6_keep_1 ?_
  refine lv_iload_n hx hb dX6_keep_4 rfl (lv_at hl 1 rfl) ?_
  refine lv_lload_n hx hb dX6_keep_5 rfl (lv_at hl 2 rfl) ?_
  obtain ⟨pk_2, hpk_2⟩ := va_pl_get (X := []) (f := pf) hvq
  have gpk_2 := hpk_2
  rw [hvf] at hpk_2
  have h_3 : vp_in pp 20 := (vp_in_iff.mpr ⟨by omega, by omega⟩)
  have hD8 := hD
  refine va_last hx hb hK hP hD hS pk_2 1 hpk_2 rfl h_3 dX6_keep_6 (fun H locs hP hD hS => ?_)
  obtain ⟨pf_4, epf_4⟩ : ∃ g : Nat → va_E, g = va_up pf v (.inl (cA 1, 20, .inr (.inl (vp_updL kv pp.toNatClampNeg a)))) := ⟨_, rfl⟩
  replace hP : va_P (dC, dI) vwCl ((([] : va_W) ++ va_pl L pf).set pk_2 (v, .inl (cA 1, 20, .inr (.inl (vp_updL kv pp.toNatClampNeg a))))) H := hP
  replace hD : va_D A ((([] : va_W) ++ va_pl L pf).set pk_2 (v, .inl (cA 1, 20, .inr (.inl (vp_updL kv pp.toNatClampNeg a))))) := hD
  rw [va_pl_set hD8 hvq gpk_2, ← epf_4] at hP hD
  have pe_5 : pf_4 ta = .inr (6, [.ref sR, .int nd1, .ref v, .ref mm, .long lf, .long lt, .int sl1, .int he]) := by rw [epf_4, va_up_ne _ _ (fun q9 => by have z9 := htf; rw [q9, hvf] at z9; simp at z9)]; exact htf
  have pe_6 : pf_4 v = .inl (cA 1, 20, .inr (.inl (vp_updL kv pp.toNatClampNeg a))) := by rw [epf_4]; exact va_up_self _ _ _
  have pe_7 : pf_4 mm = .inl (cA 0, 20, .inl km) := by rw [epf_4, va_up_ne _ _ (fun q9 => by have z9 := hmf; rw [q9, hvf] at z9; simp at z9)]; exact hmf
  have sh_8 : shp pf pf_4 := shp_up epf_4 hvf shpE_l
  refine lv_aload_n hx hb dX6_keep_7 rfl (lv_at hl 0 rfl) ?_
  obtain ⟨pk_9, hpk_9⟩ := va_pl_get (X := []) (f := pf_4) htm
  have gpk_9 := hpk_9
  rw [pe_5] at hpk_9
  refine va_get (D := (dC, dI)) (ci := 6) (v := .ref mm) (C := RX6) (T := TX6) (N := 8) hx hb hts hIX6 hown hK hP pk_9 hpk_9 rfl 3 (by decide) (hts (.fieldLink RX6 15 "TraitHouse$Trait" "keptMoments" "[I") (by decide +kernel)) (fun _ h9 => h9) rfl dX6_keep_8 ?_
  refine lv_iload_n hx hb dX6_keep_11 rfl (lv_at hl 1 rfl) ?_
  refine lv_iload hx hb dX6_keep_12 (lv_at hl 3 rfl) ?_
  obtain ⟨pk_10, hpk_10⟩ := va_pl_get (X := []) (f := pf_4) hmm
  have gpk_10 := hpk_10
  rw [pe_7] at hpk_10
  have h_11 : vp_in pp 20 := (vp_in_iff.mpr ⟨by omega, by omega⟩)
  have hD8 := hD
  refine va_iast hx hb hK hP hD hS pk_10 0 hpk_10 rfl h_11 dX6_keep_14 (fun H locs hP hD hS => ?_)
  obtain ⟨pf_12, epf_12⟩ : ∃ g : Nat → va_E, g = va_up pf_4 mm (.inl (cA 0, 20, .inl (upd km pp.toNatClampNeg mo))) := ⟨_, rfl⟩
  replace hP : va_P (dC, dI) vwCl ((([] : va_W) ++ va_pl L pf_4).set pk_10 (mm, .inl (cA 0, 20, .inl (upd km pp.toNatClampNeg mo)))) H := hP
  replace hD : va_D A ((([] : va_W) ++ va_pl L pf_4).set pk_10 (mm, .inl (cA 0, 20, .inl (upd km pp.toNatClampNeg mo)))) := hD
  rw [va_pl_set hD8 hmm gpk_10, ← epf_12] at hP hD
  have pe_13 : pf_12 ta = .inr (6, [.ref sR, .int nd1, .ref v, .ref mm, .long lf, .long lt, .int sl1, .int he]) := by rw [epf_12, va_up_ne _ _ (fun q9 => by have z9 := pe_5; rw [q9, pe_7] at z9; simp at z9)]; exact pe_5
  have pe_14 : pf_12 v = .inl (cA 1, 20, .inr (.inl (vp_updL kv pp.toNatClampNeg a))) := by rw [epf_12, va_up_ne _ _ (fun q9 => by have z9 := pe_6; rw [q9, pe_7] at z9; simp at z9)]; exact pe_6
  have pe_15 : pf_12 mm = .inl (cA 0, 20, .inl (upd km pp.toNatClampNeg mo)) := by rw [epf_12]; exact va_up_self _ _ _
  have sh_16 : shp pf_4 pf_12 := shp_up epf_12 pe_7 shpE_i
  have hP9 := hP.part (cx := []) [] rfl
  have hD9 := hD.part (cx := []) [] (by decide) rfl
  subst hQe
  have hpost : (shp pf pf_12) := (shp_tr sh_8 sh_16)
  exact W.vret hx hb hr (fun t ht hW => ⟨⟨pf_12, rfl, hpost, by rw [ht]; exact hP9, hD9⟩, hS.F ht⟩) hS.2.2 dX6_keep_15

set_option maxHeartbeats 8000000 in
set_option maxRecDepth 100000 in
theorem k_X6_forget (l : Launch) (dC : Nat → ClassId) (dI : Nat → Nat → Nat) (cA : Nat → ClassId) (sz : Nat) (ax : Nat → Nat) (L : List Nat) (pf : Nat → va_E) (ta : Nat) (sR : Nat) (v : Nat) (mm : Nat) (nd1 : Int32) (lf : Int64) (lt : Int64) (sl1 : Int32) (he : Int32) (kv : Nat → Int64) (km : Nat → Int32) (pp : Int32)  (htm : ta ∈ L) (htf : pf ta = .inr (6, [.ref sR, .int nd1, .ref v, .ref mm, .long lf, .long lt, .int sl1, .int he])) (hvq : v ∈ L) (hvf : pf v = .inl (cA 1, 20, .inr (.inl kv))) (hmm : mm ∈ L) (hmf : pf mm = .inl (cA 0, 20, .inl km)) (hpp : 0 ≤ pp.toInt ∧ pp.toInt ≤ 19) : Met l yX6_forget wsX6_forget ({ frames := 1, cells := 0, slots := 0, locals := 24 }) (va_Pc [.ref ta, .int pp] (fun U => U.heap.size = sz ∧ va_P (dC, dI) vwCl (([] : va_W) ++ va_pl L pf) U.heap ∧ va_K (dC, dI) vwCl (tyL cA) U ∧ va_D (fun _ => True) (([] : va_W) ++ va_pl L pf) ∧ nw_ok U)) (va_Qv (fun (u : (Nat → va_E)) => (shp pf u)) (fun (u : (Nat → va_E)) (t : State) => va_P (dC, dI) vwCl (([] : va_W) ++ va_pl L u) t.heap ∧ va_D (va_A (([] : va_W) ++ va_pl L pf) sz) (([] : va_W) ++ va_pl L u)) (va_A (([] : va_W) ++ va_pl L pf) sz)) 0 0 (va_A (([] : va_W) ++ va_pl L pf) sz) := by
  refine Met.ofW (cc := cX6_forget) (maxL := 2) (ret := none) (by decide) rfl ?_
  intro p e s m args below meth c s₁ B hml hv
  obtain ⟨rfl, hsz, hP, hK, hD0, hN⟩ := hv
  have hx := B.exec
  have hb := B.bytes
  have hr := B.returns
  have hts := atoms_spec (ws := wsX6_forget) B.pre
  have hown : s.vm.findClass RX6 = some m.cls := findClass_of_methodNamed B.named
  have hlocks := B.notSynchronized
  subst hsz
  have hD := hD0.self (sz := s.heap.size)
  generalize hAe : va_A (([] : va_W) ++ va_pl L pf) s.heap.size = A at hD ⊢
  have hA : ∀ q : Nat, s.heap.size ≤ q → A q := fun q h => by rw [← hAe]; exact Or.inr h
  have hS : va_S A s.heap s.heap [] := va_S.rf
  have hl := lv_entry ([.ref ta, .int pp]) (n := 2) (Nat.le_of_ble_eq_true rfl)
  rw [lg_entry_eq]
  generalize (lg_sl ([.ref ta, .int pp]) ++ List.replicate (2 - (lg_sl ([.ref ta, .int pp])).length) Slot.unset).toArray = ls at hl ⊢
  have hl : lv_has ls 2 [(0, .ref ta), (1, .int pp)] := hl
  generalize hQe : MQ below _ _ _ _ _ _ = QQ
  refine lv_aload_n hx hb dX6_forget_0 rfl (lv_at hl 0 rfl) ?_
  refine lv_iload_n hx hb dX6_forget_1 rfl (lv_at hl 1 rfl) ?_
  refine lv_ldc2 hx hb hown (hts (.constantLong RX6 42 (-9000000000000000000)) (by decide +kernel)) dX6_forget_2 ?_
  refine lv_iconst (v := (-1)) hx hb dX6_forget_5 (by decide) ?_
  have hk_1 : ((-9000000000000000000) : Int64).toInt = (-9000000000000000000) := by decide
  have hk_2 : ((-1) : Int32).toInt = (-1) := by decide
  have hPc := hP.part (cx := []) [] rfl
  have hDc := hD.part (cx := []) [] (by decide) rfl
  have hFc := va_freeP (cx := []) hD hS hA [] rfl
  obtain ⟨pk_3, hpk_3⟩ := va_pl_get (X := []) (f := pf) htm
  rw [htf] at hpk_3
  refine va_callv (va_runV (As := [.int pp, .long (-9000000000000000000), .int (-1)]) (rest := []) ⟨hx, hb, hml, hown, hts⟩ (k_X6_keep l dC dI cA s.heap.size ax L pf ta sR v mm nd1 lf lt sl1 he kv km pp (-9000000000000000000) (-1) htm htf hvq hvf hmm hmf hpp) (cwV 3 hts gX6_forget_X6_keep rfl rfl rfl (by decide +kernel) ⟨Nat.le_of_ble_eq_true rfl, Nat.le_of_ble_eq_true rfl⟩) ⟨fun a U g mk q => by obtain ⟨q0, q1, qP, qK, qD, qN⟩ := q; exact ⟨q0, q1, qP, va_K.moved (u := U) (U := U.calling g mk a) (Vm.Alike.refl U.vm) qK, qD, qN.same rfl⟩, va_recv hK hPc (ci := 6) (q0 := pk_3) rfl hpk_3, fun U hU hW => ⟨rfl, by rw [hU], by rw [hU]; exact hPc, va_K.moved hW.alike hK, hDc.weaken (fun _ _ _ _ => trivial), hN.warm hW⟩⟩ rfl rfl hl.1 rfl (lv_room (Nat.le_of_ble_eq_true rfl)) dX6_forget_6 ⟨Nat.le_of_ble_eq_true rfl, Nat.le_of_ble_eq_true rfl⟩) hS (fun q _ h => hFc q h) hFc (fun u_4 t H1 locs ht hvm hw_5 hB hz1 hk1 hS => ?_)
  obtain ⟨w_6, rfl⟩ : ∃ z, z = u_4 := ⟨_, rfl⟩
  try dsimp only at hw_5 hB
  have po_7 := hw_5
  clear hw_5
  try simp only [hk_1, hk_2] at po_7
  obtain ⟨hP1, hD1⟩ := hB
  rw [ht] at hP1
  obtain ⟨hP, hD⟩ := va_joinP (wr := []) (rx := []) (pl1 := va_pl L w_6) hP hD [] [] rfl rfl (by decide) (by decide) hk1 hFc hP1 hD1
  clear hz1
  generalize H1 = H at hP hS ⊢
  replace hP : va_P (dC, dI) vwCl (([] : va_W) ++ va_pl L w_6) H := hP
  replace hD : va_D A (([] : va_W) ++ va_pl L w_6) := hD
  have hP9 := hP.part (cx := []) [] rfl
  have hD9 := hD.part (cx := []) [] (by decide) rfl
  subst hQe
  have hpost : (shp pf w_6) := po_7
  exact W.vret hx hb hr (fun t ht hW => ⟨⟨w_6, rfl, hpost, by rw [ht]; exact hP9, hD9⟩, hS.F ht⟩) hS.2.2 dX6_forget_9

set_option maxHeartbeats 8000000 in
set_option maxRecDepth 100000 in
theorem k_X6_isKept (l : Launch) (dC : Nat → ClassId) (dI : Nat → Nat → Nat) (cA : Nat → ClassId) (sz : Nat) (ax : Nat → Nat) (L : List Nat) (pf : Nat → va_E) (ta : Nat) (sR : Nat) (v : Nat) (mm : Nat) (nd1 : Int32) (lf : Int64) (lt : Int64) (sl1 : Int32) (he : Int32) (kv : Nat → Int64) (km : Nat → Int32) (pp : Int32)  (htm : ta ∈ L) (htf : pf ta = .inr (6, [.ref sR, .int nd1, .ref v, .ref mm, .long lf, .long lt, .int sl1, .int he])) (hvq : v ∈ L) (hvf : pf v = .inl (cA 1, 20, .inr (.inl kv))) (hmm : mm ∈ L) (hmf : pf mm = .inl (cA 0, 20, .inl km)) (hpp : 0 ≤ pp.toInt ∧ pp.toInt ≤ 19) : Met l yX6_isKept wsX6_isKept ({ frames := 0, cells := 0, slots := 0, locals := 0 }) (va_Pc [.ref ta, .int pp] (fun U => U.heap.size = sz ∧ va_P (dC, dI) vwCl (([] : va_W) ++ va_pl L pf) U.heap ∧ va_K (dC, dI) vwCl (tyL cA) U ∧ va_D (fun _ => True) (([] : va_W) ++ va_pl L pf) ∧ nw_ok U)) (va_Qi (fun (r : Int32) (_ : Unit) => (0 ≤ r.toInt ∧ r.toInt ≤ 1)) (fun (_ : Unit) (t : State) => va_P (dC, dI) vwCl (([] : va_W) ++ va_pl L pf) t.heap ∧ va_D (va_A (([] : va_W) ++ va_pl L pf) sz) (([] : va_W) ++ va_pl L pf)) (va_A (([] : va_W) ++ va_pl L pf) sz)) 0 0 (va_A (([] : va_W) ++ va_pl L pf) sz) := by
  refine Met.ofW (cc := cX6_isKept) (maxL := 2) (ret := (some .boolean)) (by decide) rfl ?_
  intro p e s m args below meth c s₁ B hml hv
  obtain ⟨rfl, hsz, hP, hK, hD0, hN⟩ := hv
  have hx := B.exec
  have hb := B.bytes
  have hr := B.returns
  have hts := atoms_spec (ws := wsX6_isKept) B.pre
  have hown : s.vm.findClass RX6 = some m.cls := findClass_of_methodNamed B.named
  have hlocks := B.notSynchronized
  subst hsz
  have hD := hD0.self (sz := s.heap.size)
  generalize hAe : va_A (([] : va_W) ++ va_pl L pf) s.heap.size = A at hD ⊢
  have hA : ∀ q : Nat, s.heap.size ≤ q → A q := fun q h => by rw [← hAe]; exact Or.inr h
  have hS : va_S A s.heap s.heap [] := va_S.rf
  have hIX6 : ∀ w ∈ u_ws RX6 TX6 8, w ∈ wsX6_isKept := by decide +kernel
  have hl := lv_entry ([.ref ta, .int pp]) (n := 2) (Nat.le_of_ble_eq_true rfl)
  rw [lg_entry_eq]
  generalize (lg_sl ([.ref ta, .int pp]) ++ List.replicate (2 - (lg_sl ([.ref ta, .int pp])).length) Slot.unset).toArray = ls at hl ⊢
  have hl : lv_has ls 2 [(0, .ref ta), (1, .int pp)] := hl
  generalize hQe : MQ below _ _ _ _ _ _ = QQ
  refine lv_aload_n hx hb dX6_isKept_0 rfl (lv_at hl 0 rfl) ?_
  obtain ⟨pk_1, hpk_1⟩ := va_pl_get (X := []) (f := pf) htm
  have gpk_1 := hpk_1
  rw [htf] at hpk_1
  refine va_get (D := (dC, dI)) (ci := 6) (v := .ref mm) (C := RX6) (T := TX6) (N := 8) hx hb hts hIX6 hown hK hP pk_1 hpk_1 rfl 3 (by decide) (hts (.fieldLink RX6 15 "TraitHouse$Trait" "keptMoments" "[I") (by decide +kernel)) (fun _ h9 => h9) rfl dX6_isKept_1 ?_
  refine lv_iload_n hx hb dX6_isKept_4 rfl (lv_at hl 1 rfl) ?_
  obtain ⟨pk_2, hpk_2⟩ := va_pl_get (X := []) (f := pf) hmm
  have gpk_2 := hpk_2
  rw [hmf] at hpk_2
  have h_3 : vp_in pp 20 := (vp_in_iff.mpr ⟨by omega, by omega⟩)
  refine va_iald hx hb hK hP pk_2 0 hpk_2 rfl h_3 dX6_isKept_5 ?_
  refine lv_topi (fun x_4 ex_4 => ?_)
  refine lv_iconst (v := (-1)) hx hb dX6_isKept_6 (by decide) ?_
  refine lv_icmp_eq (tgt := 14) hx hb dX6_isKept_7 (by decide) (fun c_5 => ?_) (fun c_5 => ?_)
  · have dc_5 : x_4.toInt = (-1) := jI_eq c_5 rfl (by decide)
    refine lv_iconst (v := 0) hx hb dX6_isKept_14 (by decide) ?_
    have hP9 := hP.part (cx := []) [] rfl
    have hD9 := hD.part (cx := []) [] (by decide) rfl
    subst hQe
    have hans : (0 : Int32).toInt = 0 := (by decide)
    have hpost : (0 ≤ (0 : Int32).toInt ∧ (0 : Int32).toInt ≤ 1) := by omega
    exact W.zret (v := 0) hx hb hr (by decide) (fun t ht hW => ⟨⟨0, (), rfl, hpost, by rw [ht]; exact hP9, hD9⟩, hS.F ht⟩) hS.2.2 dX6_isKept_15
  · have dc_5 : ¬ x_4.toInt = (-1) := jI_ne c_5 rfl (by decide)
    refine lv_iconst (v := 1) hx hb dX6_isKept_10 (by decide) ?_
    refine lv_goto (tgt := 15) hx hb dX6_isKept_11 (by decide) ?_
    have hP9 := hP.part (cx := []) [] rfl
    have hD9 := hD.part (cx := []) [] (by decide) rfl
    subst hQe
    have hans : (1 : Int32).toInt = 1 := (by decide)
    have hpost : (0 ≤ (1 : Int32).toInt ∧ (1 : Int32).toInt ≤ 1) := by omega
    exact W.zret (v := 1) hx hb hr (by decide) (fun t ht hW => ⟨⟨1, (), rfl, hpost, by rw [ht]; exact hP9, hD9⟩, hS.F ht⟩) hS.2.2 dX6_isKept_15

set_option maxHeartbeats 8000000 in
set_option maxRecDepth 100000 in
theorem k_X6_isStale (l : Launch) (dC : Nat → ClassId) (dI : Nat → Nat → Nat) (cA : Nat → ClassId) (sz : Nat) (ax : Nat → Nat) (L : List Nat) (pf : Nat → va_E) (ta : Nat) (sR : Nat) (v : Nat) (mm : Nat) (nd1 : Int32) (lf : Int64) (lt : Int64) (sl1 : Int32) (he : Int32) (kv : Nat → Int64) (km : Nat → Int32) (pp : Int32) (no : Int32)  (htm : ta ∈ L) (htf : pf ta = .inr (6, [.ref sR, .int nd1, .ref v, .ref mm, .long lf, .long lt, .int sl1, .int he])) (hvq : v ∈ L) (hvf : pf v = .inl (cA 1, 20, .inr (.inl kv))) (hmm : mm ∈ L) (hmf : pf mm = .inl (cA 0, 20, .inl km)) (hpp : 0 ≤ pp.toInt ∧ pp.toInt ≤ 19) : Met l yX6_isStale wsX6_isStale ({ frames := 0, cells := 0, slots := 0, locals := 0 }) (va_Pc [.ref ta, .int pp, .int no] (fun U => U.heap.size = sz ∧ va_P (dC, dI) vwCl (([] : va_W) ++ va_pl L pf) U.heap ∧ va_K (dC, dI) vwCl (tyL cA) U ∧ va_D (fun _ => True) (([] : va_W) ++ va_pl L pf) ∧ nw_ok U)) (va_Qi (fun (r : Int32) (_ : Unit) => (0 ≤ r.toInt ∧ r.toInt ≤ 1)) (fun (_ : Unit) (t : State) => va_P (dC, dI) vwCl (([] : va_W) ++ va_pl L pf) t.heap ∧ va_D (va_A (([] : va_W) ++ va_pl L pf) sz) (([] : va_W) ++ va_pl L pf)) (va_A (([] : va_W) ++ va_pl L pf) sz)) 0 0 (va_A (([] : va_W) ++ va_pl L pf) sz) := by
  refine Met.ofW (cc := cX6_isStale) (maxL := 3) (ret := (some .boolean)) (by decide) rfl ?_
  intro p e s m args below meth c s₁ B hml hv
  obtain ⟨rfl, hsz, hP, hK, hD0, hN⟩ := hv
  have hx := B.exec
  have hb := B.bytes
  have hr := B.returns
  have hts := atoms_spec (ws := wsX6_isStale) B.pre
  have hown : s.vm.findClass RX6 = some m.cls := findClass_of_methodNamed B.named
  have hlocks := B.notSynchronized
  subst hsz
  have hD := hD0.self (sz := s.heap.size)
  generalize hAe : va_A (([] : va_W) ++ va_pl L pf) s.heap.size = A at hD ⊢
  have hA : ∀ q : Nat, s.heap.size ≤ q → A q := fun q h => by rw [← hAe]; exact Or.inr h
  have hS : va_S A s.heap s.heap [] := va_S.rf
  have hIX6 : ∀ w ∈ u_ws RX6 TX6 8, w ∈ wsX6_isStale := by decide +kernel
  have hl := lv_entry ([.ref ta, .int pp, .int no]) (n := 3) (Nat.le_of_ble_eq_true rfl)
  rw [lg_entry_eq]
  generalize (lg_sl ([.ref ta, .int pp, .int no]) ++ List.replicate (3 - (lg_sl ([.ref ta, .int pp, .int no])).length) Slot.unset).toArray = ls at hl ⊢
  have hl : lv_has ls 3 [(0, .ref ta), (1, .int pp), (2, .int no)] := hl
  generalize hQe : MQ below _ _ _ _ _ _ = QQ
  refine lv_iload_n hx hb dX6_isStale_0 rfl (lv_at hl 2 rfl) ?_
  refine lv_aload_n hx hb dX6_isStale_1 rfl (lv_at hl 0 rfl) ?_
  obtain ⟨pk_1, hpk_1⟩ := va_pl_get (X := []) (f := pf) htm
  have gpk_1 := hpk_1
  rw [htf] at hpk_1
  refine va_get (D := (dC, dI)) (ci := 6) (v := .ref mm) (C := RX6) (T := TX6) (N := 8) hx hb hts hIX6 hown hK hP pk_1 hpk_1 rfl 3 (by decide) (hts (.fieldLink RX6 15 "TraitHouse$Trait" "keptMoments" "[I") (by decide +kernel)) (fun _ h9 => h9) rfl dX6_isStale_2 ?_
  refine lv_iload_n hx hb dX6_isStale_5 rfl (lv_at hl 1 rfl) ?_
  obtain ⟨pk_2, hpk_2⟩ := va_pl_get (X := []) (f := pf) hmm
  have gpk_2 := hpk_2
  rw [hmf] at hpk_2
  have h_3 : vp_in pp 20 := (vp_in_iff.mpr ⟨by omega, by omega⟩)
  refine va_iald hx hb hK hP pk_2 0 hpk_2 rfl h_3 dX6_isStale_6 ?_
  refine lv_topi (fun x_4 ex_4 => ?_)
  refine lv_isub hx hb dX6_isStale_7 ?_
  refine lv_topi (fun x_5 ex_5 => ?_)
  refine lv_aload_n hx hb dX6_isStale_8 rfl (lv_at hl 0 rfl) ?_
  obtain ⟨pk_6, hpk_6⟩ := va_pl_get (X := []) (f := pf) htm
  have gpk_6 := hpk_6
  rw [htf] at hpk_6
  refine va_get (D := (dC, dI)) (ci := 6) (v := .int sl1) (C := RX6) (T := TX6) (N := 8) hx hb hts hIX6 hown hK hP pk_6 hpk_6 rfl 6 (by decide) (hts (.fieldLink RX6 31 "TraitHouse$Trait" "staleAbove" "I") (by decide +kernel)) (fun _ h9 => h9) rfl dX6_isStale_9 ?_
  refine lv_icmp_le (tgt := 19) hx hb dX6_isStale_12 (by decide) (fun c_7 => ?_) (fun c_7 => ?_)
  · have dc_7 : x_5.toInt ≤ sl1.toInt := jI_le c_7 rfl rfl
    refine lv_iconst (v := 0) hx hb dX6_isStale_19 (by decide) ?_
    have hP9 := hP.part (cx := []) [] rfl
    have hD9 := hD.part (cx := []) [] (by decide) rfl
    subst hQe
    have hans : (0 : Int32).toInt = 0 := (by decide)
    have hpost : (0 ≤ (0 : Int32).toInt ∧ (0 : Int32).toInt ≤ 1) := by omega
    exact W.zret (v := 0) hx hb hr (by decide) (fun t ht hW => ⟨⟨0, (), rfl, hpost, by rw [ht]; exact hP9, hD9⟩, hS.F ht⟩) hS.2.2 dX6_isStale_20
  · have dc_7 : sl1.toInt < x_5.toInt := jI_nle c_7 rfl rfl
    refine lv_iconst (v := 1) hx hb dX6_isStale_15 (by decide) ?_
    refine lv_goto (tgt := 20) hx hb dX6_isStale_16 (by decide) ?_
    have hP9 := hP.part (cx := []) [] rfl
    have hD9 := hD.part (cx := []) [] (by decide) rfl
    subst hQe
    have hans : (1 : Int32).toInt = 1 := (by decide)
    have hpost : (0 ≤ (1 : Int32).toInt ∧ (1 : Int32).toInt ≤ 1) := by omega
    exact W.zret (v := 1) hx hb hr (by decide) (fun t ht hW => ⟨⟨1, (), rfl, hpost, by rw [ht]; exact hP9, hD9⟩, hS.F ht⟩) hS.2.2 dX6_isStale_20

set_option maxHeartbeats 8000000 in
set_option maxRecDepth 100000 in
theorem k_X6_isMissing (l : Launch) (dC : Nat → ClassId) (dI : Nat → Nat → Nat) (cA : Nat → ClassId) (sz : Nat) (ax : Nat → Nat) (L : List Nat) (pf : Nat → va_E) (ta : Nat) (sR : Nat) (v : Nat) (mm : Nat) (nd1 : Int32) (lf : Int64) (lt : Int64) (sl1 : Int32) (he : Int32) (kv : Nat → Int64) (km : Nat → Int32) (pp : Int32) (no : Int32)  (htm : ta ∈ L) (htf : pf ta = .inr (6, [.ref sR, .int nd1, .ref v, .ref mm, .long lf, .long lt, .int sl1, .int he])) (hvq : v ∈ L) (hvf : pf v = .inl (cA 1, 20, .inr (.inl kv))) (hmm : mm ∈ L) (hmf : pf mm = .inl (cA 0, 20, .inl km)) (hpp : 0 ≤ pp.toInt ∧ pp.toInt ≤ 19) : Met l yX6_isMissing wsX6_isMissing ({ frames := 1, cells := 0, slots := 0, locals := 22 }) (va_Pc [.ref ta, .int pp, .int no] (fun U => U.heap.size = sz ∧ va_P (dC, dI) vwCl (([] : va_W) ++ va_pl L pf) U.heap ∧ va_K (dC, dI) vwCl (tyL cA) U ∧ va_D (fun _ => True) (([] : va_W) ++ va_pl L pf) ∧ nw_ok U)) (va_Qi (fun (r : Int32) (_ : Unit) => (0 ≤ r.toInt ∧ r.toInt ≤ 1)) (fun (_ : Unit) (t : State) => va_P (dC, dI) vwCl (([] : va_W) ++ va_pl L pf) t.heap ∧ va_D (va_A (([] : va_W) ++ va_pl L pf) sz) (([] : va_W) ++ va_pl L pf)) (va_A (([] : va_W) ++ va_pl L pf) sz)) 0 0 (va_A (([] : va_W) ++ va_pl L pf) sz) := by
  refine Met.ofW (cc := cX6_isMissing) (maxL := 3) (ret := (some .boolean)) (by decide) rfl ?_
  intro p e s m args below meth c s₁ B hml hv
  obtain ⟨rfl, hsz, hP, hK, hD0, hN⟩ := hv
  have hx := B.exec
  have hb := B.bytes
  have hr := B.returns
  have hts := atoms_spec (ws := wsX6_isMissing) B.pre
  have hown : s.vm.findClass RX6 = some m.cls := findClass_of_methodNamed B.named
  have hlocks := B.notSynchronized
  subst hsz
  have hD := hD0.self (sz := s.heap.size)
  generalize hAe : va_A (([] : va_W) ++ va_pl L pf) s.heap.size = A at hD ⊢
  have hA : ∀ q : Nat, s.heap.size ≤ q → A q := fun q h => by rw [← hAe]; exact Or.inr h
  have hS : va_S A s.heap s.heap [] := va_S.rf
  have hIX6 : ∀ w ∈ u_ws RX6 TX6 8, w ∈ wsX6_isMissing := by decide +kernel
  have hl := lv_entry ([.ref ta, .int pp, .int no]) (n := 3) (Nat.le_of_ble_eq_true rfl)
  rw [lg_entry_eq]
  generalize (lg_sl ([.ref ta, .int pp, .int no]) ++ List.replicate (3 - (lg_sl ([.ref ta, .int pp, .int no])).length) Slot.unset).toArray = ls at hl ⊢
  have hl : lv_has ls 3 [(0, .ref ta), (1, .int pp), (2, .int no)] := hl
  generalize hQe : MQ below _ _ _ _ _ _ = QQ
  refine lv_aload_n hx hb dX6_isMissing_0 rfl (lv_at hl 0 rfl) ?_
  refine lv_iload_n hx hb dX6_isMissing_1 rfl (lv_at hl 1 rfl) ?_
  have hPc := hP.part (cx := []) [] rfl
  have hDc := hD.part (cx := []) [] (by decide) rfl
  have hFc := va_freeP (cx := []) hD hS hA [] rfl
  obtain ⟨pk_1, hpk_1⟩ := va_pl_get (X := []) (f := pf) htm
  rw [htf] at hpk_1
  refine va_calli (va_runV (As := [.int pp]) (rest := []) ⟨hx, hb, hml, hown, hts⟩ (k_X6_isKept l dC dI cA s.heap.size ax L pf ta sR v mm nd1 lf lt sl1 he kv km pp htm htf hvq hvf hmm hmf hpp) (cwV 1 hts gX6_isMissing_X6_isKept rfl rfl rfl (by decide +kernel) ⟨Nat.le_of_ble_eq_true rfl, Nat.le_of_ble_eq_true rfl⟩) ⟨fun a U g mk q => by obtain ⟨q0, q1, qP, qK, qD, qN⟩ := q; exact ⟨q0, q1, qP, va_K.moved (u := U) (U := U.calling g mk a) (Vm.Alike.refl U.vm) qK, qD, qN.same rfl⟩, va_recv hK hPc (ci := 6) (q0 := pk_1) rfl hpk_1, fun U hU hW => ⟨rfl, by rw [hU], by rw [hU]; exact hPc, va_K.moved hW.alike hK, hDc.weaken (fun _ _ _ _ => trivial), hN.warm hW⟩⟩ rfl rfl hl.1 rfl (lv_room (Nat.le_of_ble_eq_true rfl)) dX6_isMissing_2 ⟨Nat.le_of_ble_eq_true rfl, Nat.le_of_ble_eq_true rfl⟩) hS (fun q _ h => hFc q h) hFc (fun r_2 u_3 t H1 locs ht hvm hw_4 hB hz1 hk1 hS => ?_)
  try dsimp only at hw_4 hB
  have po_5 := hw_4
  clear hw_4
  obtain ⟨hP1, hD1⟩ := hB
  rw [ht] at hP1
  obtain ⟨hP, hD⟩ := va_joinP (wr := []) (rx := []) (pl1 := va_pl L pf) hP hD [] [] rfl rfl (by decide) (by decide) hk1 hFc hP1 hD1
  clear hz1
  generalize H1 = H at hP hS ⊢
  replace hP : va_P (dC, dI) vwCl (([] : va_W) ++ va_pl L pf) H := hP
  replace hD : va_D A (([] : va_W) ++ va_pl L pf) := hD
  refine lv_if_eq (tgt := 30) hx hb dX6_isMissing_5 (by decide) (fun c_6 => ?_) (fun c_6 => ?_)
  · have dc_6 : r_2.toInt = 0 := jI_eq c_6 rfl (by decide)
    refine lv_iconst (v := 1) hx hb dX6_isMissing_30 (by decide) ?_
    refine lv_goto (tgt := 35) hx hb dX6_isMissing_31 (by decide) ?_
    have hP9 := hP.part (cx := []) [] rfl
    have hD9 := hD.part (cx := []) [] (by decide) rfl
    subst hQe
    have hans : (1 : Int32).toInt = 1 := (by decide)
    have hpost : (0 ≤ (1 : Int32).toInt ∧ (1 : Int32).toInt ≤ 1) := by omega
    exact W.zret (v := 1) hx hb hr (by decide) (fun t ht hW => ⟨⟨1, (), rfl, hpost, by rw [ht]; exact hP9, hD9⟩, hS.F ht⟩) hS.2.2 dX6_isMissing_35
  · have dc_6 : ¬ r_2.toInt = 0 := jI_ne c_6 rfl (by decide)
    refine lv_aload_n hx hb dX6_isMissing_8 rfl (lv_at hl 0 rfl) ?_
    obtain ⟨pk_7, hpk_7⟩ := va_pl_get (X := []) (f := pf) htm
    have gpk_7 := hpk_7
    rw [htf] at hpk_7
    refine va_get (D := (dC, dI)) (ci := 6) (v := .ref v) (C := RX6) (T := TX6) (N := 8) hx hb hts hIX6 hown hK hP pk_7 hpk_7 rfl 2 (by decide) (hts (.fieldLink RX6 9 "TraitHouse$Trait" "keptValues" "[J") (by decide +kernel)) (fun _ h9 => h9) rfl dX6_isMissing_9 ?_
    refine lv_iload_n hx hb dX6_isMissing_12 rfl (lv_at hl 1 rfl) ?_
    obtain ⟨pk_8, hpk_8⟩ := va_pl_get (X := []) (f := pf) hvq
    have gpk_8 := hpk_8
    rw [hvf] at hpk_8
    have h_9 : vp_in pp 20 := (vp_in_iff.mpr ⟨by omega, by omega⟩)
    refine va_lald hx hb hK hP pk_8 1 hpk_8 rfl h_9 dX6_isMissing_13 ?_
    refine lv_topl (fun y_10 ey_10 => ?_)
    refine lv_ldc2 hx hb hown (hts (.constantLong RX6 42 (-9000000000000000000)) (by decide +kernel)) dX6_isMissing_14 ?_
    refine W.lcmp hx hb dX6_isMissing_17 ?_
    refine lv_topi (fun k_11 ek_11 => ?_)
    have dk_11 : (k_11.toInt < 0 ↔ y_10.toInt < (-9000000000000000000)) ∧ (k_11.toInt = 0 ↔ y_10.toInt = (-9000000000000000000)) ∧ (0 < k_11.toInt ↔ (-9000000000000000000) < y_10.toInt) := jI_cmp ek_11 rfl (by decide)
    refine lv_if_eq (tgt := 30) hx hb dX6_isMissing_18 (by decide) (fun c_12 => ?_) (fun c_12 => ?_)
    · have dc_12 : k_11.toInt = 0 := jI_eq c_12 rfl (by decide)
      refine lv_iconst (v := 1) hx hb dX6_isMissing_30 (by decide) ?_
      refine lv_goto (tgt := 35) hx hb dX6_isMissing_31 (by decide) ?_
      have hP9 := hP.part (cx := []) [] rfl
      have hD9 := hD.part (cx := []) [] (by decide) rfl
      subst hQe
      have hans : (1 : Int32).toInt = 1 := (by decide)
      have hpost : (0 ≤ (1 : Int32).toInt ∧ (1 : Int32).toInt ≤ 1) := by omega
      exact W.zret (v := 1) hx hb hr (by decide) (fun t ht hW => ⟨⟨1, (), rfl, hpost, by rw [ht]; exact hP9, hD9⟩, hS.F ht⟩) hS.2.2 dX6_isMissing_35
    · have dc_12 : ¬ k_11.toInt = 0 := jI_ne c_12 rfl (by decide)
      refine lv_aload_n hx hb dX6_isMissing_21 rfl (lv_at hl 0 rfl) ?_
      refine lv_iload_n hx hb dX6_isMissing_22 rfl (lv_at hl 1 rfl) ?_
      refine lv_iload_n hx hb dX6_isMissing_23 rfl (lv_at hl 2 rfl) ?_
      have hPc := hP.part (cx := []) [] rfl
      have hDc := hD.part (cx := []) [] (by decide) rfl
      have hFc := va_freeP (cx := []) hD hS hA [] rfl
      obtain ⟨pk_13, hpk_13⟩ := va_pl_get (X := []) (f := pf) htm
      rw [htf] at hpk_13
      refine va_calli (va_runV (As := [.int pp, .int no]) (rest := []) ⟨hx, hb, hml, hown, hts⟩ (k_X6_isStale l dC dI cA H.size ax L pf ta sR v mm nd1 lf lt sl1 he kv km pp no htm htf hvq hvf hmm hmf hpp) (cwV 2 hts gX6_isMissing_X6_isStale rfl rfl rfl (by decide +kernel) ⟨Nat.le_of_ble_eq_true rfl, Nat.le_of_ble_eq_true rfl⟩) ⟨fun a U g mk q => by obtain ⟨q0, q1, qP, qK, qD, qN⟩ := q; exact ⟨q0, q1, qP, va_K.moved (u := U) (U := U.calling g mk a) (Vm.Alike.refl U.vm) qK, qD, qN.same rfl⟩, va_recv hK hPc (ci := 6) (q0 := pk_13) rfl hpk_13, fun U hU hW => ⟨rfl, by rw [hU], by rw [hU]; exact hPc, va_K.moved hW.alike hK, hDc.weaken (fun _ _ _ _ => trivial), hN.warm hW⟩⟩ rfl rfl hl.1 rfl (lv_room (Nat.le_of_ble_eq_true rfl)) dX6_isMissing_24 ⟨Nat.le_of_ble_eq_true rfl, Nat.le_of_ble_eq_true rfl⟩) hS (fun q _ h => hFc q h) hFc (fun r_14 u_15 t H1 locs ht hvm hw_16 hB hz1 hk1 hS => ?_)
      try dsimp only at hw_16 hB
      have po_17 := hw_16
      clear hw_16
      obtain ⟨hP1, hD1⟩ := hB
      rw [ht] at hP1
      obtain ⟨hP, hD⟩ := va_joinP (wr := []) (rx := []) (pl1 := va_pl L pf) hP hD [] [] rfl rfl (by decide) (by decide) hk1 hFc hP1 hD1
      clear hz1
      generalize H1 = H at hP hS ⊢
      replace hP : va_P (dC, dI) vwCl (([] : va_W) ++ va_pl L pf) H := hP
      replace hD : va_D A (([] : va_W) ++ va_pl L pf) := hD
      refine lv_if_eq (tgt := 34) hx hb dX6_isMissing_27 (by decide) (fun c_18 => ?_) (fun c_18 => ?_)
      · have dc_18 : r_14.toInt = 0 := jI_eq c_18 rfl (by decide)
        refine lv_iconst (v := 0) hx hb dX6_isMissing_34 (by decide) ?_
        have hP9 := hP.part (cx := []) [] rfl
        have hD9 := hD.part (cx := []) [] (by decide) rfl
        subst hQe
        have hans : (0 : Int32).toInt = 0 := (by decide)
        have hpost : (0 ≤ (0 : Int32).toInt ∧ (0 : Int32).toInt ≤ 1) := by omega
        exact W.zret (v := 0) hx hb hr (by decide) (fun t ht hW => ⟨⟨0, (), rfl, hpost, by rw [ht]; exact hP9, hD9⟩, hS.F ht⟩) hS.2.2 dX6_isMissing_35
      · have dc_18 : ¬ r_14.toInt = 0 := jI_ne c_18 rfl (by decide)
        refine lv_iconst (v := 1) hx hb dX6_isMissing_30 (by decide) ?_
        refine lv_goto (tgt := 35) hx hb dX6_isMissing_31 (by decide) ?_
        have hP9 := hP.part (cx := []) [] rfl
        have hD9 := hD.part (cx := []) [] (by decide) rfl
        subst hQe
        have hans : (1 : Int32).toInt = 1 := (by decide)
        have hpost : (0 ≤ (1 : Int32).toInt ∧ (1 : Int32).toInt ≤ 1) := by omega
        exact W.zret (v := 1) hx hb hr (by decide) (fun t ht hW => ⟨⟨1, (), rfl, hpost, by rw [ht]; exact hP9, hD9⟩, hS.F ht⟩) hS.2.2 dX6_isMissing_35
