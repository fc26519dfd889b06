theorem dX5_append_0 : decode cX5_append 0 = .ok (.iconst 3, 1) := by decide +kernel
theorem dX5_append_1 : decode cX5_append 1 = .ok (.istore_n 2, 1) := by decide +kernel
theorem dX5_append_2 : decode cX5_append 2 = .ok (.iload_n 2, 1) := by decide +kernel
theorem dX5_append_3 : decode cX5_append 3 = .ok (.ifCond .lt 48, 3) := by decide +kernel
theorem dX5_append_51 : decode cX5_append 51 = .ok (.return_, 1) := by decide +kernel
theorem dX5_append_6 : decode cX5_append 6 = .ok (.aload_n 0, 1) := by decide +kernel
theorem dX5_append_7 : decode cX5_append 7 = .ok (.getfield 15, 3) := by decide +kernel
theorem dX5_append_10 : decode cX5_append 10 = .ok (.sipush 200, 3) := by decide +kernel
theorem dX5_append_13 : decode cX5_append 13 = .ok (.if_icmp .ge 38, 3) := by decide +kernel
theorem dX5_append_16 : decode cX5_append 16 = .ok (.aload_n 0, 1) := by decide +kernel
theorem dX5_append_17 : decode cX5_append 17 = .ok (.getfield 9, 3) := by decide +kernel
theorem dX5_append_20 : decode cX5_append 20 = .ok (.aload_n 0, 1) := by decide +kernel
theorem dX5_append_21 : decode cX5_append 21 = .ok (.getfield 15, 3) := by decide +kernel
theorem dX5_append_24 : decode cX5_append 24 = .ok (.iload_n 1, 1) := by decide +kernel
theorem dX5_append_25 : decode cX5_append 25 = .ok (.bipush 8, 2) := by decide +kernel
theorem dX5_append_27 : decode cX5_append 27 = .ok (.iload_n 2, 1) := by decide +kernel
theorem dX5_append_28 : decode cX5_append 28 = .ok (.imul, 1) := by decide +kernel
theorem dX5_append_29 : decode cX5_append 29 = .ok (.iushr, 1) := by decide +kernel
theorem dX5_append_30 : decode cX5_append 30 = .ok (.sipush 255, 3) := by decide +kernel
theorem dX5_append_33 : decode cX5_append 33 = .ok (.iand, 1) := by decide +kernel
theorem dX5_append_34 : decode cX5_append 34 = .ok (.iastore, 1) := by decide +kernel
theorem dX5_append_35 : decode cX5_append 35 = .ok (.aload_n 0, 1) := by decide +kernel
theorem dX5_append_36 : decode cX5_append 36 = .ok (.dup, 1) := by decide +kernel
theorem dX5_append_37 : decode cX5_append 37 = .ok (.getfield 15, 3) := by decide +kernel
theorem dX5_append_40 : decode cX5_append 40 = .ok (.iconst 1, 1) := by decide +kernel
theorem dX5_append_41 : decode cX5_append 41 = .ok (.iadd, 1) := by decide +kernel
theorem dX5_append_42 : decode cX5_append 42 = .ok (.putfield 15, 3) := by decide +kernel
theorem dX5_append_45 : decode cX5_append 45 = .ok (.iinc 2 (-1), 3) := by decide +kernel
theorem dX5_append_48 : decode cX5_append 48 = .ok (.goto (-46), 3) := by decide +kernel
theorem dX8_feed_0 : decode cX8_feed 0 = .ok (.aload_n 0, 1) := by decide +kernel
theorem dX8_feed_1 : decode cX8_feed 1 = .ok (.getfield 30, 3) := by decide +kernel
theorem dX8_feed_4 : decode cX8_feed 4 = .ok (.getfield 142, 3) := by decide +kernel
theorem dX8_feed_7 : decode cX8_feed 7 = .ok (.bipush 20, 2) := by decide +kernel
theorem dX8_feed_9 : decode cX8_feed 9 = .ok (.iadd, 1) := by decide +kernel
theorem dX8_feed_10 : decode cX8_feed 10 = .ok (.sipush 200, 3) := by decide +kernel
theorem dX8_feed_13 : decode cX8_feed 13 = .ok (.if_icmp .le 5, 3) := by decide +kernel
theorem dX8_feed_18 : decode cX8_feed 18 = .ok (.aload_n 0, 1) := by decide +kernel
theorem dX8_feed_19 : decode cX8_feed 19 = .ok (.getfield 30, 3) := by decide +kernel
theorem dX8_feed_22 : decode cX8_feed 22 = .ok (.iload_n 1, 1) := by decide +kernel
set_option maxRecDepth 20000 in
theorem ggX8_feed_X5_append : GoodIn wsX8_feed wsX5_append := goodIn_r _ [5, 6, 7, 25, 26] (by decide +kernel) (by decide +kernel)
set_option maxRecDepth 20000 in
theorem gX8_feed_X5_append_n145 : GoodIn wsX8_feed (wsX5_append) := ggX8_feed_X5_append
theorem dX8_feed_23 : decode cX8_feed 23 = .ok (.invokevirtual 145, 3) := by decide +kernel
theorem dX8_feed_26 : decode cX8_feed 26 = .ok (.aload_n 0, 1) := by decide +kernel
theorem dX8_feed_27 : decode cX8_feed 27 = .ok (.getfield 30, 3) := by decide +kernel
theorem dX8_feed_30 : decode cX8_feed 30 = .ok (.iload_n 2, 1) := by decide +kernel
theorem dX8_feed_31 : decode cX8_feed 31 = .ok (.invokevirtual 145, 3) := by decide +kernel
theorem dX8_feed_34 : decode cX8_feed 34 = .ok (.aload_n 0, 1) := by decide +kernel
theorem dX8_feed_35 : decode cX8_feed 35 = .ok (.getfield 30, 3) := by decide +kernel
theorem dX8_feed_38 : decode cX8_feed 38 = .ok (.iload_n 3, 1) := by decide +kernel
theorem dX8_feed_39 : decode cX8_feed 39 = .ok (.invokevirtual 145, 3) := by decide +kernel
theorem dX8_feed_42 : decode cX8_feed 42 = .ok (.aload_n 0, 1) := by decide +kernel
theorem dX8_feed_43 : decode cX8_feed 43 = .ok (.getfield 30, 3) := by decide +kernel
theorem dX8_feed_46 : decode cX8_feed 46 = .ok (.iload 4, 2) := by decide +kernel
theorem dX8_feed_48 : decode cX8_feed 48 = .ok (.invokevirtual 145, 3) := by decide +kernel
theorem dX8_feed_51 : decode cX8_feed 51 = .ok (.aload_n 0, 1) := by decide +kernel
theorem dX8_feed_52 : decode cX8_feed 52 = .ok (.getfield 30, 3) := by decide +kernel
theorem dX8_feed_55 : decode cX8_feed 55 = .ok (.iload 5, 2) := by decide +kernel
theorem dX8_feed_57 : decode cX8_feed 57 = .ok (.invokevirtual 145, 3) := by decide +kernel
theorem dX8_feed_60 : decode cX8_feed 60 = .ok (.aload_n 0, 1) := by decide +kernel
theorem dX8_feed_61 : decode cX8_feed 61 = .ok (.getfield 30, 3) := by decide +kernel
theorem dX8_feed_64 : decode cX8_feed 64 = .ok (.getfield 142, 3) := by decide +kernel
theorem dX8_feed_67 : decode cX8_feed 67 = .ok (.ireturn, 1) := by decide +kernel
theorem dX8_feed_16 : decode cX8_feed 16 = .ok (.iconst (-1), 1) := by decide +kernel
theorem dX8_feed_17 : decode cX8_feed 17 = .ok (.ireturn, 1) := by decide +kernel
theorem dX1_owner_0 : decode cX1_owner 0 = .ok (.iload_n 0, 1) := by decide +kernel
theorem dX1_owner_1 : decode cX1_owner 1 = .ok (.bipush 20, 2) := by decide +kernel
theorem dX1_owner_3 : decode cX1_owner 3 = .ok (.imul, 1) := by decide +kernel
theorem dX1_owner_4 : decode cX1_owner 4 = .ok (.iload_n 1, 1) := by decide +kernel
theorem dX1_owner_5 : decode cX1_owner 5 = .ok (.iadd, 1) := by decide +kernel
theorem dX1_owner_6 : decode cX1_owner 6 = .ok (.ireturn, 1) := by decide +kernel
theorem dX1_free_0 : decode cX1_free 0 = .ok (.sipush 2000, 3) := by decide +kernel
theorem dX1_free_3 : decode cX1_free 3 = .ok (.aload_n 0, 1) := by decide +kernel
theorem dX1_free_4 : decode cX1_free 4 = .ok (.getfield 26, 3) := by decide +kernel
theorem dX1_free_7 : decode cX1_free 7 = .ok (.isub, 1) := by decide +kernel
theorem dX1_free_8 : decode cX1_free 8 = .ok (.ireturn, 1) := by decide +kernel
theorem dX1_put_0 : decode cX1_put 0 = .ok (.aload_n 0, 1) := by decide +kernel
theorem dX1_put_1 : decode cX1_put 1 = .ok (.getfield 26, 3) := by decide +kernel
theorem dX1_put_4 : decode cX1_put 4 = .ok (.sipush 2000, 3) := by decide +kernel
theorem dX1_put_7 : decode cX1_put 7 = .ok (.if_icmp .ge 59, 3) := by decide +kernel
theorem dX1_put_66 : decode cX1_put 66 = .ok (.return_, 1) := by decide +kernel
theorem dX1_put_10 : decode cX1_put 10 = .ok (.aload_n 0, 1) := by decide +kernel
theorem dX1_put_11 : decode cX1_put 11 = .ok (.getfield 9, 3) := by decide +kernel
theorem dX1_put_14 : decode cX1_put 14 = .ok (.aload_n 0, 1) := by decide +kernel
theorem dX1_put_15 : decode cX1_put 15 = .ok (.getfield 26, 3) := by decide +kernel
theorem dX1_put_18 : decode cX1_put 18 = .ok (.iload_n 1, 1) := by decide +kernel
theorem dX1_put_19 : decode cX1_put 19 = .ok (.iload_n 2, 1) := by decide +kernel
set_option maxRecDepth 20000 in
theorem ggX1_put_X1_owner : GoodIn wsX1_put wsX1_owner := goodIn_r _ [9] (by decide +kernel) (by decide +kernel)
set_option maxRecDepth 20000 in
theorem gX1_put_X1_owner : GoodIn wsX1_put (va_wsS RX1 30 yX1_owner wsX1_owner) := goodIn_app (goodIn_of _ (by decide +kernel)) ggX1_put_X1_owner
theorem dX1_put_20 : decode cX1_put 20 = .ok (.invokestatic 30, 3) := by decide +kernel
theorem dX1_put_23 : decode cX1_put 23 = .ok (.iastore, 1) := by decide +kernel
theorem dX1_put_24 : decode cX1_put 24 = .ok (.aload_n 0, 1) := by decide +kernel
theorem dX1_put_25 : decode cX1_put 25 = .ok (.getfield 15, 3) := by decide +kernel
theorem dX1_put_28 : decode cX1_put 28 = .ok (.aload_n 0, 1) := by decide +kernel
theorem dX1_put_29 : decode cX1_put 29 = .ok (.getfield 26, 3) := by decide +kernel
theorem dX1_put_32 : decode cX1_put 32 = .ok (.iload_n 3, 1) := by decide +kernel
theorem dX1_put_33 : decode cX1_put 33 = .ok (.iastore, 1) := by decide +kernel
theorem dX1_put_34 : decode cX1_put 34 = .ok (.aload_n 0, 1) := by decide +kernel
theorem dX1_put_35 : decode cX1_put 35 = .ok (.getfield 18, 3) := by decide +kernel
theorem dX1_put_38 : decode cX1_put 38 = .ok (.aload_n 0, 1) := by decide +kernel
theorem dX1_put_39 : decode cX1_put 39 = .ok (.getfield 26, 3) := by decide +kernel
theorem dX1_put_42 : decode cX1_put 42 = .ok (.iload 4, 2) := by decide +kernel
theorem dX1_put_44 : decode cX1_put 44 = .ok (.bastore, 1) := by decide +kernel
theorem dX1_put_45 : decode cX1_put 45 = .ok (.aload_n 0, 1) := by decide +kernel
theorem dX1_put_46 : decode cX1_put 46 = .ok (.getfield 22, 3) := by decide +kernel
theorem dX1_put_49 : decode cX1_put 49 = .ok (.aload_n 0, 1) := by decide +kernel
theorem dX1_put_50 : decode cX1_put 50 = .ok (.getfield 26, 3) := by decide +kernel
theorem dX1_put_53 : decode cX1_put 53 = .ok (.lload 5, 2) := by decide +kernel
theorem dX1_put_55 : decode cX1_put 55 = .ok (.lastore, 1) := by decide +kernel
theorem dX1_put_56 : decode cX1_put 56 = .ok (.aload_n 0, 1) := by decide +kernel
theorem dX1_put_57 : decode cX1_put 57 = .ok (.dup, 1) := by decide +kernel
theorem dX1_put_58 : decode cX1_put 58 = .ok (.getfield 26, 3) := by decide +kernel
theorem dX1_put_61 : decode cX1_put 61 = .ok (.iconst 1, 1) := by decide +kernel
theorem dX1_put_62 : decode cX1_put 62 = .ok (.iadd, 1) := by decide +kernel
theorem dX1_put_63 : decode cX1_put 63 = .ok (.putfield 26, 3) := by decide +kernel
theorem dX1_find_0 : decode cX1_find 0 = .ok (.iload_n 1, 1) := by decide +kernel
theorem dX1_find_1 : decode cX1_find 1 = .ok (.iload_n 2, 1) := by decide +kernel
set_option maxRecDepth 20000 in
theorem ggX1_find_X1_owner : GoodIn wsX1_find wsX1_owner := goodIn_r _ [7] (by decide +kernel) (by decide +kernel)
set_option maxRecDepth 20000 in
theorem gX1_find_X1_owner : GoodIn wsX1_find (va_wsS RX1 30 yX1_owner wsX1_owner) := goodIn_app (goodIn_of _ (by decide +kernel)) ggX1_find_X1_owner
theorem dX1_find_2 : decode cX1_find 2 = .ok (.invokestatic 30, 3) := by decide +kernel
theorem dX1_find_5 : decode cX1_find 5 = .ok (.istore 4, 2) := by decide +kernel
theorem dX1_find_7 : decode cX1_find 7 = .ok (.iconst (-1), 1) := by decide +kernel
theorem dX1_find_8 : decode cX1_find 8 = .ok (.istore 5, 2) := by decide +kernel
theorem dX1_find_10 : decode cX1_find 10 = .ok (.iconst 0, 1) := by decide +kernel
theorem dX1_find_11 : decode cX1_find 11 = .ok (.istore 6, 2) := by decide +kernel
theorem dX1_find_13 : decode cX1_find 13 = .ok (.iload 6, 2) := by decide +kernel
theorem dX1_find_15 : decode cX1_find 15 = .ok (.aload_n 0, 1) := by decide +kernel
theorem dX1_find_16 : decode cX1_find 16 = .ok (.getfield 26, 3) := by decide +kernel
theorem dX1_find_19 : decode cX1_find 19 = .ok (.if_icmp .ge 59, 3) := by decide +kernel
theorem dX1_find_78 : decode cX1_find 78 = .ok (.iload 5, 2) := by decide +kernel
theorem dX1_find_80 : decode cX1_find 80 = .ok (.ireturn, 1) := by decide +kernel
theorem dX1_find_22 : decode cX1_find 22 = .ok (.aload_n 0, 1) := by decide +kernel
theorem dX1_find_23 : decode cX1_find 23 = .ok (.getfield 9, 3) := by decide +kernel
theorem dX1_find_26 : decode cX1_find 26 = .ok (.iload 6, 2) := by decide +kernel
theorem dX1_find_28 : decode cX1_find 28 = .ok (.iaload, 1) := by decide +kernel
theorem dX1_find_29 : decode cX1_find 29 = .ok (.iload 4, 2) := by decide +kernel
theorem dX1_find_31 : decode cX1_find 31 = .ok (.if_icmp .ne 41, 3) := by decide +kernel
theorem dX1_find_72 : decode cX1_find 72 = .ok (.iinc 6 1, 3) := by decide +kernel
theorem dX1_find_75 : decode cX1_find 75 = .ok (.goto (-62), 3) := by decide +kernel
theorem dX1_find_34 : decode cX1_find 34 = .ok (.aload_n 0, 1) := by decide +kernel
theorem dX1_find_35 : decode cX1_find 35 = .ok (.getfield 15, 3) := by decide +kernel
theorem dX1_find_38 : decode cX1_find 38 = .ok (.iload 6, 2) := by decide +kernel
theorem dX1_find_40 : decode cX1_find 40 = .ok (.iaload, 1) := by decide +kernel
theorem dX1_find_41 : decode cX1_find 41 = .ok (.iload_n 3, 1) := by decide +kernel
theorem dX1_find_42 : decode cX1_find 42 = .ok (.if_icmp .gt 30, 3) := by decide +kernel
theorem dX1_find_45 : decode cX1_find 45 = .ok (.iload 5, 2) := by decide +kernel
theorem dX1_find_47 : decode cX1_find 47 = .ok (.iconst (-1), 1) := by decide +kernel
theorem dX1_find_48 : decode cX1_find 48 = .ok (.if_icmp .eq 20, 3) := by decide +kernel
theorem dX1_find_68 : decode cX1_find 68 = .ok (.iload 6, 2) := by decide +kernel
theorem dX1_find_70 : decode cX1_find 70 = .ok (.istore 5, 2) := by decide +kernel
theorem dX1_find_51 : decode cX1_find 51 = .ok (.aload_n 0, 1) := by decide +kernel
theorem dX1_find_52 : decode cX1_find 52 = .ok (.getfield 15, 3) := by decide +kernel
theorem dX1_find_55 : decode cX1_find 55 = .ok (.iload 6, 2) := by decide +kernel
theorem dX1_find_57 : decode cX1_find 57 = .ok (.iaload, 1) := by decide +kernel
theorem dX1_find_58 : decode cX1_find 58 = .ok (.aload_n 0, 1) := by decide +kernel
theorem dX1_find_59 : decode cX1_find 59 = .ok (.getfield 15, 3) := by decide +kernel
theorem dX1_find_62 : decode cX1_find 62 = .ok (.iload 5, 2) := by decide +kernel
theorem dX1_find_64 : decode cX1_find 64 = .ok (.iaload, 1) := by decide +kernel
theorem dX1_find_65 : decode cX1_find 65 = .ok (.if_icmp .lt 7, 3) := by decide +kernel
theorem dX1_forget_0 : decode cX1_forget 0 = .ok (.iconst 0, 1) := by decide +kernel
theorem dX1_forget_1 : decode cX1_forget 1 = .ok (.istore_n 2, 1) := by decide +kernel
theorem dX1_forget_2 : decode cX1_forget 2 = .ok (.iload_n 2, 1) := by decide +kernel
theorem dX1_forget_3 : decode cX1_forget 3 = .ok (.aload_n 0, 1) := by decide +kernel
theorem dX1_forget_4 : decode cX1_forget 4 = .ok (.getfield 26, 3) := by decide +kernel
theorem dX1_forget_7 : decode cX1_forget 7 = .ok (.if_icmp .ge 48, 3) := by decide +kernel
theorem dX1_forget_55 : decode cX1_forget 55 = .ok (.return_, 1) := by decide +kernel
theorem dX1_forget_10 : decode cX1_forget 10 = .ok (.aload_n 0, 1) := by decide +kernel
theorem dX1_forget_11 : decode cX1_forget 11 = .ok (.getfield 9, 3) := by decide +kernel
theorem dX1_forget_14 : decode cX1_forget 14 = .ok (.iload_n 2, 1) := by decide +kernel
theorem dX1_forget_15 : decode cX1_forget 15 = .ok (.iaload, 1) := by decide +kernel
theorem dX1_forget_16 : decode cX1_forget 16 = .ok (.iconst (-1), 1) := by decide +kernel
theorem dX1_forget_17 : decode cX1_forget 17 = .ok (.if_icmp .eq 32, 3) := by decide +kernel
theorem dX1_forget_49 : decode cX1_forget 49 = .ok (.iinc 2 1, 3) := by decide +kernel
theorem dX1_forget_52 : decode cX1_forget 52 = .ok (.goto (-50), 3) := by decide +kernel
theorem dX1_forget_20 : decode cX1_forget 20 = .ok (.aload_n 0, 1) := by decide +kernel
theorem dX1_forget_21 : decode cX1_forget 21 = .ok (.getfield 9, 3) := by decide +kernel
theorem dX1_forget_24 : decode cX1_forget 24 = .ok (.iload_n 2, 1) := by decide +kernel
theorem dX1_forget_25 : decode cX1_forget 25 = .ok (.iaload, 1) := by decide +kernel
theorem dX1_forget_26 : decode cX1_forget 26 = .ok (.bipush 20, 2) := by decide +kernel
theorem dX1_forget_28 : decode cX1_forget 28 = .ok (.irem, 1) := by decide +kernel
theorem dX1_forget_29 : decode cX1_forget 29 = .ok (.iload_n 1, 1) := by decide +kernel
theorem dX1_forget_30 : decode cX1_forget 30 = .ok (.if_icmp .ne 19, 3) := by decide +kernel
theorem dX1_forget_33 : decode cX1_forget 33 = .ok (.aload_n 0, 1) := by decide +kernel
theorem dX1_forget_34 : decode cX1_forget 34 = .ok (.getfield 9, 3) := by decide +kernel
theorem dX1_forget_37 : decode cX1_forget 37 = .ok (.iload_n 2, 1) := by decide +kernel
theorem dX1_forget_38 : decode cX1_forget 38 = .ok (.iconst (-1), 1) := by decide +kernel
theorem dX1_forget_39 : decode cX1_forget 39 = .ok (.iastore, 1) := by decide +kernel
theorem dX1_forget_40 : decode cX1_forget 40 = .ok (.aload_n 0, 1) := by decide +kernel
theorem dX1_forget_41 : decode cX1_forget 41 = .ok (.getfield 22, 3) := by decide +kernel
theorem dX1_forget_44 : decode cX1_forget 44 = .ok (.iload_n 2, 1) := by decide +kernel
theorem dX1_forget_45 : decode cX1_forget 45 = .ok (.ldc2_w 34, 3) := by decide +kernel
theorem dX1_forget_48 : decode cX1_forget 48 = .ok (.lastore, 1) := by decide +kernel
set_option maxHeartbeats 8000000 in
set_option maxRecDepth 100000 in
theorem k_X5_append (l : Launch) (dC : Nat → ClassId) (dI : Nat → Nat → Nat) (cA : Nat → ClassId) (sz : Nat) (ax : Nat → Nat) (xTz : Int32) (gB : Nat → Int32) (a : Int32) (i_xTz : 0 ≤ xTz.toInt ∧ xTz.toInt ≤ 200) (i_gB : inB 0 255 200 gB)  : Met l yX5_append wsX5_append ({ frames := 0, cells := 0, slots := 0, locals := 0 }) (va_Pc [.ref (ax 11), .int a] (fun U => U.heap.size = sz ∧ va_P (dC, dI) vwCl [((ax 11), .inr (5, [.ref (ax 12), .int xTz])), ((ax 12), .inl (cA 0, 200, .inl gB))] U.heap ∧ va_K (dC, dI) vwCl (tyL cA) U ∧ va_D (fun _ => True) [((ax 11), .inr (5, [.ref (ax 12), .int xTz])), ((ax 12), .inl (cA 0, 200, .inl gB))] ∧ nw_ok U)) (va_Qv (fun (u : Int32 × (Nat → Int32)) => (0 ≤ u.1.toInt ∧ u.1.toInt ≤ 200) ∧ (inB 0 255 200 u.2) ∧ ((xTz.toInt ≤ 196 → u.1.toInt = xTz.toInt + 4)) ∧ (xTz.toInt ≤ 196 → tpe u.2 u.1 = apl (tpe gB xTz) xTz.toInt (byt a) 4)) (fun (u : Int32 × (Nat → Int32)) (t : State) => va_P (dC, dI) vwCl [((ax 11), .inr (5, [.ref (ax 12), .int u.1])), ((ax 12), .inl (cA 0, 200, .inl u.2))] t.heap ∧ va_D (va_A [((ax 11), .inr (5, [.ref (ax 12), .int xTz])), ((ax 12), .inl (cA 0, 200, .inl gB))] sz) [((ax 11), .inr (5, [.ref (ax 12), .int u.1])), ((ax 12), .inl (cA 0, 200, .inl u.2))]) (va_A [((ax 11), .inr (5, [.ref (ax 12), .int xTz])), ((ax 12), .inl (cA 0, 200, .inl gB))] sz)) 0 0 (va_A [((ax 11), .inr (5, [.ref (ax 12), .int xTz])), ((ax 12), .inl (cA 0, 200, .inl gB))] sz) := by
  refine Met.ofW (cc := cX5_append) (maxL := 3) (ret := none) (by decide) rfl ?_
  intro p e s m args below meth c s₁ B hml hv
  obtain ⟨rfl, hsz, hP, hK, hD0, hN⟩ := hv
  have hx := B.exec
  have hb := B.bytes
  have hr := B.returns
  have hts := atoms_spec (ws := wsX5_append) B.pre
  have hown : s.vm.findClass RX5 = some m.cls := findClass_of_methodNamed B.named
  have hlocks := B.notSynchronized
  subst hsz
  have hD := hD0.self (sz := s.heap.size)
  generalize hAe : va_A [((ax 11), .inr (5, [.ref (ax 12), .int xTz])), ((ax 12), .inl (cA 0, 200, .inl gB))] s.heap.size = A at hD ⊢
  have hA : ∀ q : Nat, s.heap.size ≤ q → A q := fun q h => by rw [← hAe]; exact Or.inr h
  have hS : va_S A s.heap s.heap [] := va_S.rf
  have hIX5 : ∀ w ∈ u_ws RX5 TX5 2, w ∈ wsX5_append := by decide +kernel
  have hl := lv_entry ([.ref (ax 11), .int a]) (n := 3) (Nat.le_of_ble_eq_true rfl)
  rw [lg_entry_eq]
  generalize (lg_sl ([.ref (ax 11), .int a]) ++ List.replicate (3 - (lg_sl ([.ref (ax 11), .int a])).length) Slot.unset).toArray = ls at hl ⊢
  have hl : lv_has ls 3 [(0, .ref (ax 11)), (1, .int a)] := hl
  generalize hQe : MQ below _ _ _ _ _ _ = QQ
  refine lv_iconst (v := 3) hx hb dX5_append_0 (by decide) ?_
  refine lv_istore_n (lv' := [(2, .int 3), (0, .ref (ax 11)), (1, .int a)]) hx hb dX5_append_1 rfl hl (by decide) rfl (fun ls hl => ?_)
  have loop2_1 : ∀ (n : Nat) (i2 : Int32) (w_xTz_2 : Int32) (w_gB_2 : Nat → Int32) (H : Heap) (locs : List Loc) (ls : Array Slot), i2.toInt + 1 < (n : Int) → ((-1) ≤ i2.toInt ∧ i2.toInt ≤ 3) → (0 ≤ w_xTz_2.toInt ∧ w_xTz_2.toInt ≤ 200) → (inB 0 255 200 w_gB_2) → ((xTz.toInt ≤ 196 → w_xTz_2.toInt = xTz.toInt + 3 - i2.toInt)) → (xTz.toInt ≤ 196 → fdI gB w_gB_2 xTz.toInt.toNat (byt a) (3 - i2.toInt).toNat) → va_P (dC, dI) vwCl [((ax 11), .inr (5, [.ref (ax 12), .int w_xTz_2])), ((ax 12), .inl (cA 0, 200, .inl w_gB_2))] H → va_D A [((ax 11), .inr (5, [.ref (ax 12), .int w_xTz_2])), ((ax 12), .inl (cA 0, 200, .inl w_gB_2))] → va_S A s.heap H locs → lv_has ls 3 [(2, .int i2), (0, .ref (ax 11)), (1, .int a)] → W p l e ({ frames := 0, cells := 0, slots := 0, locals := 0 }) s m ([.ref (ax 11), .int a] : List Value).toArray below meth c H locs 0 0 QQ (F0 m 2 ls []) := by
    intro n
    induction n with
    | zero => intro i2 w_xTz_2 w_gB_2 H locs ls hme hv0_2 hv1_2 hv2_2 hv3_2 hv4_2; exfalso; omega
    | succ n ih_2 =>
      intro i2 w_xTz_2 w_gB_2 H locs ls hme_2 hv0_2 hv1_2 hv2_2 hv3_2 hv4_2 hP hD hS hl
      refine lv_iload_n hx hb dX5_append_2 rfl (lv_at hl 0 rfl) ?_
      refine lv_if_lt (tgt := 51) hx hb dX5_append_3 (by decide) (fun c_2 => ?_) (fun c_2 => ?_)
      · have dc_2 : i2.toInt < 0 := jI_lt c_2 rfl (by decide)
        obtain ⟨hP9, hD9⟩ := va_pd (ws' := [((ax 11), .inr (5, [.ref (ax 12), .int w_xTz_2])), ((ax 12), .inl (cA 0, 200, .inl w_gB_2))]) hP hD [0, 1] (by decide) rfl
        subst hQe
        have hpost : (0 ≤ w_xTz_2.toInt ∧ w_xTz_2.toInt ≤ 200) ∧ (inB 0 255 200 w_gB_2) ∧ ((xTz.toInt ≤ 196 → w_xTz_2.toInt = xTz.toInt + 4)) ∧ (xTz.toInt ≤ 196 → tpe w_gB_2 w_xTz_2 = apl (tpe gB xTz) xTz.toInt (byt a) 4) := ⟨hv1_2, hv2_2, by omega, fun h9 => fd_e (n := 4) (by have h8 := hv4_2 h9; rw [show (3 - i2.toInt).toNat = 4 by omega] at h8; exact h8) (by omega) (by omega)⟩
        exact W.vret hx hb hr (fun t ht hW => ⟨⟨(w_xTz_2, w_gB_2), rfl, hpost, by rw [ht]; exact hP9, hD9⟩, hS.F ht⟩) hS.2.2 dX5_append_51
      · have dc_2 : 0 ≤ i2.toInt := jI_nlt c_2 rfl (by decide)
        refine lv_aload_n hx hb dX5_append_6 rfl (lv_at hl 1 rfl) ?_
        refine va_get (D := (dC, dI)) (ci := 5) (v := .int w_xTz_2) (C := RX5) (T := TX5) (N := 2) hx hb hts hIX5 hown hK hP 0 rfl rfl 1 (by decide) (hts (.fieldLink RX5 15 "TraitHouse$Tape" "size" "I") (by decide +kernel)) (fun _ h9 => h9) rfl dX5_append_7 ?_
        refine lv_sipush (v := 200) hx hb dX5_append_10 (by decide) ?_
        refine lv_icmp_ge (tgt := 51) hx hb dX5_append_13 (by decide) (fun c_3 => ?_) (fun c_3 => ?_)
        · have dc_3 : 200 ≤ w_xTz_2.toInt := jI_le c_3 (by decide) rfl
          obtain ⟨hP9, hD9⟩ := va_pd (ws' := [((ax 11), .inr (5, [.ref (ax 12), .int w_xTz_2])), ((ax 12), .inl (cA 0, 200, .inl w_gB_2))]) hP hD [0, 1] (by decide) rfl
          subst hQe
          have hpost : (0 ≤ w_xTz_2.toInt ∧ w_xTz_2.toInt ≤ 200) ∧ (inB 0 255 200 w_gB_2) ∧ ((xTz.toInt ≤ 196 → w_xTz_2.toInt = xTz.toInt + 4)) ∧ (xTz.toInt ≤ 196 → tpe w_gB_2 w_xTz_2 = apl (tpe gB xTz) xTz.toInt (byt a) 4) := ⟨hv1_2, hv2_2, by omega, fun h9 => fd_e (n := 4) (by have h8 := hv4_2 h9; rw [show (3 - i2.toInt).toNat = 4 by omega] at h8; exact h8) (by omega) (by omega)⟩
          exact W.vret hx hb hr (fun t ht hW => ⟨⟨(w_xTz_2, w_gB_2), rfl, hpost, by rw [ht]; exact hP9, hD9⟩, hS.F ht⟩) hS.2.2 dX5_append_51
        · have dc_3 : w_xTz_2.toInt < 200 := jI_nle c_3 (by decide) rfl
          refine lv_aload_n hx hb dX5_append_16 rfl (lv_at hl 1 rfl) ?_
          refine va_get (D := (dC, dI)) (ci := 5) (v := .ref (ax 12)) (C := RX5) (T := TX5) (N := 2) hx hb hts hIX5 hown hK hP 0 rfl rfl 0 (by decide) (hts (.fieldLink RX5 9 "TraitHouse$Tape" "bytes" "[I") (by decide +kernel)) (fun _ h9 => h9) rfl dX5_append_17 ?_
          refine lv_aload_n hx hb dX5_append_20 rfl (lv_at hl 1 rfl) ?_
          refine va_get (D := (dC, dI)) (ci := 5) (v := .int w_xTz_2) (C := RX5) (T := TX5) (N := 2) hx hb hts hIX5 hown hK hP 0 rfl rfl 1 (by decide) (hts (.fieldLink RX5 15 "TraitHouse$Tape" "size" "I") (by decide +kernel)) (fun _ h9 => h9) rfl dX5_append_21 ?_
          refine lv_iload_n hx hb dX5_append_24 rfl (lv_at hl 2 rfl) ?_
          refine lv_bipush (v := 8) hx hb dX5_append_25 (by decide) ?_
          refine lv_iload_n hx hb dX5_append_27 rfl (lv_at hl 0 rfl) ?_
          refine lv_imul hx hb dX5_append_28 ?_
          refine lv_topi (fun x_4 ex_4 => ?_)
          have dx_4 : x_4.toInt = 8 * i2.toInt := by rw [ex_4]; exact jI_mul (by decide) rfl (by omega) (by omega)
          obtain ⟨x_5, ex_5⟩ : ∃ y : Int32, y = (a.toUInt32 >>> (x_4.toUInt32 &&& Int32.toUInt32 31)).toInt32 := ⟨_, rfl⟩
          refine lv_iushr (v := x_5) hx hb dX5_append_29 ex_5.symm ?_
          refine lv_sipush (v := 255) hx hb dX5_append_30 (by decide) ?_
          refine lv_iand hx hb dX5_append_33 ?_
          refine lv_topi (fun x_6 ex_6 => ?_)
          have dx_6 : 0 ≤ x_6.toInt ∧ x_6.toInt ≤ 255 := by rw [ex_6]; exact jI_mask _ 8 (by decide) (by decide)
          have h_7 : vp_in w_xTz_2 200 := (vp_in_iff.mpr ⟨by omega, by omega⟩)
          refine va_iast hx hb hK hP hD hS 1 0 rfl rfl h_7 dX5_append_34 (fun H locs hP hD hS => ?_)
          replace hP : va_P (dC, dI) vwCl [((ax 11), .inr (5, [.ref (ax 12), .int w_xTz_2])), ((ax 12), .inl (cA 0, 200, .inl (upd w_gB_2 w_xTz_2.toNatClampNeg x_6)))] H := hP
          replace hD : va_D A [((ax 11), .inr (5, [.ref (ax 12), .int w_xTz_2])), ((ax 12), .inl (cA 0, 200, .inl (upd w_gB_2 w_xTz_2.toNatClampNeg x_6)))] := hD
          obtain ⟨g_8, eg_8⟩ : ∃ g : Nat → Int32, g = upd w_gB_2 w_xTz_2.toNatClampNeg x_6 := ⟨_, rfl⟩
          rw [← eg_8] at hP hD
          have ig_8 : inB 0 255 200 g_8 := by rw [eg_8]; exact inB_upd hv2_2 (by omega) (by omega)
          refine lv_aload_n hx hb dX5_append_35 rfl (lv_at hl 1 rfl) ?_
          refine lv_dup hx hb dX5_append_36 rfl ?_
          refine va_get (D := (dC, dI)) (ci := 5) (v := .int w_xTz_2) (C := RX5) (T := TX5) (N := 2) hx hb hts hIX5 hown hK hP 0 rfl rfl 1 (by decide) (hts (.fieldLink RX5 15 "TraitHouse$Tape" "size" "I") (by decide +kernel)) (fun _ h9 => h9) rfl dX5_append_37 ?_
          refine lv_iconst (v := 1) hx hb dX5_append_40 (by decide) ?_
          refine lv_iadd hx hb dX5_append_41 ?_
          refine lv_topi (fun x_9 ex_9 => ?_)
          have dx_9 : x_9.toInt = w_xTz_2.toInt + 1 := by rw [ex_9]; exact jI_add rfl (by decide) (by omega) (by omega)
          refine va_put (D := (dC, dI)) (ci := 5) (v := .int x_9) (ty := .int) (C := RX5) (T := TX5) (N := 2) hx hb hts hIX5 tyX5 tyX5_ok nmX5 hown hK hP hD hS 0 rfl rfl 1 (by decide) (hts (.fieldLink RX5 15 "TraitHouse$Tape" "size" "I") (by decide +kernel)) (fun _ h9 => h9) rfl (by decide +kernel) rfl rfl (Nat.le_of_ble_eq_true rfl) dX5_append_42 (fun H locs hP hD hS => ?_)
          replace hP : va_P (dC, dI) vwCl [((ax 11), .inr (5, [.ref (ax 12), .int x_9])), ((ax 12), .inl (cA 0, 200, .inl g_8))] H := hP
          replace hD : va_D A [((ax 11), .inr (5, [.ref (ax 12), .int x_9])), ((ax 12), .inl (cA 0, 200, .inl g_8))] := hD
          obtain ⟨x_10, ex_10⟩ : ∃ y : Int32, y = i2 + (-1) := ⟨_, rfl⟩
          have dx_10 : x_10.toInt = i2.toInt + (-1) := by rw [ex_10]; exact jI_add rfl (by decide) (by omega) (by omega)
          refine lv_iinc (v := x_10) (lv' := [(2, .int x_10), (0, .ref (ax 11)), (1, .int a)]) hx hb dX5_append_45 hl (k := 0) rfl (by rw [ex_10]; rfl) (by decide) rfl (fun ls hl => ?_)
          refine lv_goto (tgt := 2) hx hb dX5_append_48 (by decide) ?_
          exact ih_2 x_10 x_9 g_8 _ _ ls (by omega) (by omega) (by omega) ig_8 (by omega) (fun h9 => fd_s (hv4_2 h9) eg_8 (by have : w_xTz_2.toNatClampNeg = w_xTz_2.toInt.toNat := rfl; omega) (cl_byt (x := x_4) (i := i2) (by omega) (by omega) (by omega) ex_5 ex_6 (by omega)) (by omega)) (hP.sub [0, 1] rfl) (hD.sub [0, 1] (by decide) rfl) hS (lv_sub hl [0, 1, 2] rfl)
  have hk_11 : (3 : Int32).toInt = 3 := by decide
  exact loop2_1 (Int.toNat ((3 : Int32).toInt + 1) + 1) 3 xTz gB _ _ ls (by omega) (by omega) i_xTz i_gB (by omega) (fun _ => (by rw [show (3 - (3 : Int32).toInt).toNat = 0 from rfl]; exact fd_0)) hP hD hS (lv_sub hl [0, 1, 2] rfl)

set_option maxHeartbeats 8000000 in
set_option maxRecDepth 100000 in
theorem k_X8_feed (l : Launch) (dC : Nat → ClassId) (dI : Nat → Nat → Nat) (cA : Nat → ClassId) (sz : Nat) (ax : Nat → Nat) (xNow : Int32) (xEr : Int32) (xTr : Int32) (xMo : Int32) (xFa : Int32) (xRe : Int32) (xTz : Int32) (gB : Nat → Int32) (a : Int32) (b : Int32) (d : Int32) (e1 : Int32) (e2 : Int32) (i_xNow : 0 ≤ xNow.toInt ∧ xNow.toInt ≤ 100000) (i_xTr : 0 ≤ xTr.toInt ∧ xTr.toInt ≤ 20) (i_xMo : 0 ≤ xMo.toInt ∧ xMo.toInt ≤ 10) (i_xTz : 0 ≤ xTz.toInt ∧ xTz.toInt ≤ 200) (i_gB : inB 0 255 200 gB)  : Met l yX8_feed wsX8_feed ({ frames := 1, cells := 0, slots := 0, locals := 22 }) (va_Pc [.ref (ax 0), .int a, .int b, .int d, .int e1, .int e2] (fun U => U.heap.size = sz ∧ va_P (dC, dI) vwCl [((ax 0), .inr (8, [.ref (ax 1), .ref (ax 7), .ref (ax 10), .ref (ax 11), .ref (ax 13), .ref (ax 15), .ref (ax 16), .ref (ax 21), .ref (ax 26), .ref (ax 27), .ref (ax 28), .int xNow, .int xEr, .int xTr, .int xMo, .int xFa, .int xRe])), ((ax 11), .inr (5, [.ref (ax 12), .int xTz])), ((ax 12), .inl (cA 0, 200, .inl gB))] U.heap ∧ va_K (dC, dI) vwCl (tyL cA) U ∧ va_D (fun _ => True) [((ax 0), .inr (8, [.ref (ax 1), .ref (ax 7), .ref (ax 10), .ref (ax 11), .ref (ax 13), .ref (ax 15), .ref (ax 16), .ref (ax 21), .ref (ax 26), .ref (ax 27), .ref (ax 28), .int xNow, .int xEr, .int xTr, .int xMo, .int xFa, .int xRe])), ((ax 11), .inr (5, [.ref (ax 12), .int xTz])), ((ax 12), .inl (cA 0, 200, .inl gB))] ∧ nw_ok U)) (va_Qi (fun (r : Int32) (u : Int32 × (Nat → Int32)) => (0 ≤ u.1.toInt ∧ u.1.toInt ≤ 200) ∧ (inB 0 255 200 u.2) ∧ ((xTz.toInt + 20 ≤ 200 → r.toInt = xTz.toInt + 20 ∧ u.1.toInt = xTz.toInt + 20) ∧ (¬ xTz.toInt + 20 ≤ 200 → r.toInt = (-1) ∧ u.1.toInt = xTz.toInt)) ∧ ((xTz.toInt + 20 ≤ 200 → tpe u.2 u.1 = apl (tpe gB xTz) xTz.toInt (w5 a b d e1 e2) 20) ∧ (¬ xTz.toInt + 20 ≤ 200 → u.2 = gB))) (fun (u : Int32 × (Nat → Int32)) (t : State) => va_P (dC, dI) vwCl [((ax 0), .inr (8, [.ref (ax 1), .ref (ax 7), .ref (ax 10), .ref (ax 11), .ref (ax 13), .ref (ax 15), .ref (ax 16), .ref (ax 21), .ref (ax 26), .ref (ax 27), .ref (ax 28), .int xNow, .int xEr, .int xTr, .int xMo, .int xFa, .int xRe])), ((ax 11), .inr (5, [.ref (ax 12), .int u.1])), ((ax 12), .inl (cA 0, 200, .inl u.2))] t.heap ∧ va_D (va_A [((ax 0), .inr (8, [.ref (ax 1), .ref (ax 7), .ref (ax 10), .ref (ax 11), .ref (ax 13), .ref (ax 15), .ref (ax 16), .ref (ax 21), .ref (ax 26), .ref (ax 27), .ref (ax 28), .int xNow, .int xEr, .int xTr, .int xMo, .int xFa, .int xRe])), ((ax 11), .inr (5, [.ref (ax 12), .int xTz])), ((ax 12), .inl (cA 0, 200, .inl gB))] sz) [((ax 0), .inr (8, [.ref (ax 1), .ref (ax 7), .ref (ax 10), .ref (ax 11), .ref (ax 13), .ref (ax 15), .ref (ax 16), .ref (ax 21), .ref (ax 26), .ref (ax 27), .ref (ax 28), .int xNow, .int xEr, .int xTr, .int xMo, .int xFa, .int xRe])), ((ax 11), .inr (5, [.ref (ax 12), .int u.1])), ((ax 12), .inl (cA 0, 200, .inl u.2))]) (va_A [((ax 0), .inr (8, [.ref (ax 1), .ref (ax 7), .ref (ax 10), .ref (ax 11), .ref (ax 13), .ref (ax 15), .ref (ax 16), .ref (ax 21), .ref (ax 26), .ref (ax 27), .ref (ax 28), .int xNow, .int xEr, .int xTr, .int xMo, .int xFa, .int xRe])), ((ax 11), .inr (5, [.ref (ax 12), .int xTz])), ((ax 12), .inl (cA 0, 200, .inl gB))] sz)) 0 0 (va_A [((ax 0), .inr (8, [.ref (ax 1), .ref (ax 7), .ref (ax 10), .ref (ax 11), .ref (ax 13), .ref (ax 15), .ref (ax 16), .ref (ax 21), .ref (ax 26), .ref (ax 27), .ref (ax 28), .int xNow, .int xEr, .int xTr, .int xMo, .int xFa, .int xRe])), ((ax 11), .inr (5, [.ref (ax 12), .int xTz])), ((ax 12), .inl (cA 0, 200, .inl gB))] sz) := by
  refine Met.ofW (cc := cX8_feed) (maxL := 6) (ret := (some .int)) (by decide) rfl ?_
  intro p e s m args below meth c s₁ B hml hv
  obtain ⟨rfl, hsz, hP, hK, hD0, hN⟩ := hv
  have hx := B.exec
  have hb := B.bytes
  have hr := B.returns
  have hts := atoms_spec (ws := wsX8_feed) B.pre
  have hown : s.vm.findClass RX8 = some m.cls := findClass_of_methodNamed B.named
  have hlocks := B.notSynchronized
  subst hsz
  have hD := hD0.self (sz := s.heap.size)
  generalize hAe : va_A [((ax 0), .inr (8, [.ref (ax 1), .ref (ax 7), .ref (ax 10), .ref (ax 11), .ref (ax 13), .ref (ax 15), .ref (ax 16), .ref (ax 21), .ref (ax 26), .ref (ax 27), .ref (ax 28), .int xNow, .int xEr, .int xTr, .int xMo, .int xFa, .int xRe])), ((ax 11), .inr (5, [.ref (ax 12), .int xTz])), ((ax 12), .inl (cA 0, 200, .inl gB))] s.heap.size = A at hD ⊢
  have hA : ∀ q : Nat, s.heap.size ≤ q → A q := fun q h => by rw [← hAe]; exact Or.inr h
  have hS : va_S A s.heap s.heap [] := va_S.rf
  have hIX5 : ∀ w ∈ u_ws RX5 TX5 2, w ∈ wsX8_feed := by decide +kernel
  have hIX8 : ∀ w ∈ u_ws RX8 TX8 17, w ∈ wsX8_feed := by decide +kernel
  have hl := lv_entry ([.ref (ax 0), .int a, .int b, .int d, .int e1, .int e2]) (n := 6) (Nat.le_of_ble_eq_true rfl)
  rw [lg_entry_eq]
  generalize (lg_sl ([.ref (ax 0), .int a, .int b, .int d, .int e1, .int e2]) ++ List.replicate (6 - (lg_sl ([.ref (ax 0), .int a, .int b, .int d, .int e1, .int e2])).length) Slot.unset).toArray = ls at hl ⊢
  have hl : lv_has ls 6 [(0, .ref (ax 0)), (1, .int a), (2, .int b), (3, .int d), (4, .int e1), (5, .int e2)] := hl
  generalize hQe : MQ below _ _ _ _ _ _ = QQ
  refine lv_aload_n hx hb dX8_feed_0 rfl (lv_at hl 0 rfl) ?_
  refine va_get (D := (dC, dI)) (ci := 8) (v := .ref (ax 11)) (C := RX8) (T := TX8) (N := 17) hx hb hts hIX8 hown hK hP 0 rfl rfl 3 (by decide) (hts (.fieldLink RX8 30 "TraitHouse" "tape" "LTraitHouse$Tape;") (by decide +kernel)) (fun _ h9 => h9) rfl dX8_feed_1 ?_
  refine va_getN (D := (dC, dI)) (ci := 5) (v := .int xTz) (C := RX5) (T := TX5) (N := 2) hx hb hts hIX5 hown hK hP 1 rfl rfl 1 (by decide) (va_Nw.use rfl (nw_at hN 10 rfl)) (fun _ h9 => h9) rfl dX8_feed_4 ?_
  refine lv_bipush (v := 20) hx hb dX8_feed_7 (by decide) ?_
  refine lv_iadd hx hb dX8_feed_9 ?_
  refine lv_topi (fun x_1 ex_1 => ?_)
  have dx_1 : x_1.toInt = xTz.toInt + 20 := by rw [ex_1]; exact jI_add rfl (by decide) (by omega) (by omega)
  refine lv_sipush (v := 200) hx hb dX8_feed_10 (by decide) ?_
  refine lv_icmp_le (tgt := 18) hx hb dX8_feed_13 (by decide) (fun c_2 => ?_) (fun c_2 => ?_)
  · have dc_2 : x_1.toInt ≤ 200 := jI_le c_2 rfl (by decide)
    refine lv_aload_n hx hb dX8_feed_18 rfl (lv_at hl 0 rfl) ?_
    refine va_get (D := (dC, dI)) (ci := 8) (v := .ref (ax 11)) (C := RX8) (T := TX8) (N := 17) hx hb hts hIX8 hown hK hP 0 rfl rfl 3 (by decide) (hts (.fieldLink RX8 30 "TraitHouse" "tape" "LTraitHouse$Tape;") (by decide +kernel)) (fun _ h9 => h9) rfl dX8_feed_19 ?_
    refine lv_iload_n hx hb dX8_feed_22 rfl (lv_at hl 1 rfl) ?_
    obtain ⟨hPc, hDc, hFc, hCc⟩ := va_pre (ws' := [((ax 11), .inr (5, [.ref (ax 12), .int xTz])), ((ax 12), .inl (cA 0, 200, .inl gB))]) hP hD hS hA [1, 2] (by decide) rfl
    refine va_callv (va_runVN (As := [.int a]) (rest := []) ⟨hx, hb, hml, hown, hts⟩ (k_X5_append l dC dI cA s.heap.size ax xTz gB a i_xTz i_gB) ⟨(va_cnB 1 hts gX8_feed_X5_append_n145 rfl rfl rfl (nw_at hN 44 rfl) (hts (.initialized RX5) (by decide +kernel)) (by decide +kernel) ⟨Nat.le_of_ble_eq_true rfl, Nat.le_of_ble_eq_true rfl⟩), (hts (.instanceMethod yX5_append) (by decide +kernel)), (hts (.selects RX5 yX5_append yX5_append) (by decide +kernel))⟩ ⟨fun a U g mk q => by obtain ⟨q0, q1, qP, qK, qD, qN⟩ := q; exact ⟨q0, q1, qP, va_K.moved (u := U) (U := U.calling g mk a) (Vm.Alike.refl U.vm) qK, qD, qN.same rfl⟩, va_recv hK hPc (ci := 5) (q0 := 0) rfl rfl, fun U hU hW => ⟨rfl, by rw [hU], by rw [hU]; exact hPc, va_K.moved hW.alike hK, hDc.weaken (fun _ _ _ _ => trivial), hN.warm hW⟩⟩ rfl rfl hl.1 rfl (lv_room (Nat.le_of_ble_eq_true rfl)) dX8_feed_23 ⟨Nat.le_of_ble_eq_true rfl, Nat.le_of_ble_eq_true rfl⟩) hS (fun q _ h => hFc q h) hFc (fun u_3 t H1 locs ht hvm hw_4 hB hz1 hk1 hS => ?_)
    obtain ⟨w_5, w_6⟩ := u_3
    try dsimp only at hw_4 hB
    obtain ⟨iv_7, iv_8, po_9, tp_10⟩ := hw_4
    obtain ⟨hP1, hD1⟩ := hB
    rw [ht] at hP1
    obtain ⟨hP, hD⟩ := va_join (wr := [((ax 0), .inr (8, [.ref (ax 1), .ref (ax 7), .ref (ax 10), .ref (ax 11), .ref (ax 13), .ref (ax 15), .ref (ax 16), .ref (ax 21), .ref (ax 26), .ref (ax 27), .ref (ax 28), .int xNow, .int xEr, .int xTr, .int xMo, .int xFa, .int xRe]))]) (w1 := [((ax 11), .inr (5, [.ref (ax 12), .int w_5])), ((ax 12), .inl (cA 0, 200, .inl w_6))]) hP hD [1, 2] [0] hCc rfl (by decide) (by decide) hk1 hFc hP1 hD1
    clear hz1
    generalize H1 = H at hP hS ⊢
    refine lv_aload_n hx hb dX8_feed_26 rfl (lv_at hl 0 rfl) ?_
    refine va_get (D := (dC, dI)) (ci := 8) (v := .ref (ax 11)) (C := RX8) (T := TX8) (N := 17) hx hb hts hIX8 hown hK hP 0 rfl rfl 3 (by decide) (hts (.fieldLink RX8 30 "TraitHouse" "tape" "LTraitHouse$Tape;") (by decide +kernel)) (fun _ h9 => h9) rfl dX8_feed_27 ?_
    refine lv_iload_n hx hb dX8_feed_30 rfl (lv_at hl 2 rfl) ?_
    obtain ⟨hPc, hDc, hFc, hCc⟩ := va_pre (ws' := [((ax 11), .inr (5, [.ref (ax 12), .int w_5])), ((ax 12), .inl (cA 0, 200, .inl w_6))]) hP hD hS hA [1, 2] (by decide) rfl
    refine va_callv (va_runVN (As := [.int b]) (rest := []) ⟨hx, hb, hml, hown, hts⟩ (k_X5_append l dC dI cA H.size ax w_5 w_6 b iv_7 iv_8) ⟨(va_cnB 1 hts gX8_feed_X5_append_n145 rfl rfl rfl (nw_at hN 44 rfl) (hts (.initialized RX5) (by decide +kernel)) (by decide +kernel) ⟨Nat.le_of_ble_eq_true rfl, Nat.le_of_ble_eq_true rfl⟩), (hts (.instanceMethod yX5_append) (by decide +kernel)), (hts (.selects RX5 yX5_append yX5_append) (by decide +kernel))⟩ ⟨fun a U g mk q => by obtain ⟨q0, q1, qP, qK, qD, qN⟩ := q; exact ⟨q0, q1, qP, va_K.moved (u := U) (U := U.calling g mk a) (Vm.Alike.refl U.vm) qK, qD, qN.same rfl⟩, va_recv hK hPc (ci := 5) (q0 := 0) rfl rfl, fun U hU hW => ⟨rfl, by rw [hU], by rw [hU]; exact hPc, va_K.moved hW.alike hK, hDc.weaken (fun _ _ _ _ => trivial), hN.warm hW⟩⟩ rfl rfl hl.1 rfl (lv_room (Nat.le_of_ble_eq_true rfl)) dX8_feed_31 ⟨Nat.le_of_ble_eq_true rfl, Nat.le_of_ble_eq_true rfl⟩) hS (fun q _ h => hFc q h) hFc (fun u_11 t H1 locs ht hvm hw_12 hB hz1 hk1 hS => ?_)
    obtain ⟨w_13, w_14⟩ := u_11
    try dsimp only at hw_12 hB
    obtain ⟨iv_15, iv_16, po_17, tp_18⟩ := hw_12
    obtain ⟨hP1, hD1⟩ := hB
    rw [ht] at hP1
    obtain ⟨hP, hD⟩ := va_join (wr := [((ax 0), .inr (8, [.ref (ax 1), .ref (ax 7), .ref (ax 10), .ref (ax 11), .ref (ax 13), .ref (ax 15), .ref (ax 16), .ref (ax 21), .ref (ax 26), .ref (ax 27), .ref (ax 28), .int xNow, .int xEr, .int xTr, .int xMo, .int xFa, .int xRe]))]) (w1 := [((ax 11), .inr (5, [.ref (ax 12), .int w_13])), ((ax 12), .inl (cA 0, 200, .inl w_14))]) hP hD [1, 2] [0] hCc rfl (by decide) (by decide) hk1 hFc hP1 hD1
    clear hz1
    generalize H1 = H at hP hS ⊢
    refine lv_aload_n hx hb dX8_feed_34 rfl (lv_at hl 0 rfl) ?_
    refine va_get (D := (dC, dI)) (ci := 8) (v := .ref (ax 11)) (C := RX8) (T := TX8) (N := 17) hx hb hts hIX8 hown hK hP 0 rfl rfl 3 (by decide) (hts (.fieldLink RX8 30 "TraitHouse" "tape" "LTraitHouse$Tape;") (by decide +kernel)) (fun _ h9 => h9) rfl dX8_feed_35 ?_
    refine lv_iload_n hx hb dX8_feed_38 rfl (lv_at hl 3 rfl) ?_
    obtain ⟨hPc, hDc, hFc, hCc⟩ := va_pre (ws' := [((ax 11), .inr (5, [.ref (ax 12), .int w_13])), ((ax 12), .inl (cA 0, 200, .inl w_14))]) hP hD hS hA [1, 2] (by decide) rfl
    refine va_callv (va_runVN (As := [.int d]) (rest := []) ⟨hx, hb, hml, hown, hts⟩ (k_X5_append l dC dI cA H.size ax w_13 w_14 d iv_15 iv_16) ⟨(va_cnB 1 hts gX8_feed_X5_append_n145 rfl rfl rfl (nw_at hN 44 rfl) (hts (.initialized RX5) (by decide +kernel)) (by decide +kernel) ⟨Nat.le_of_ble_eq_true rfl, Nat.le_of_ble_eq_true rfl⟩), (hts (.instanceMethod yX5_append) (by decide +kernel)), (hts (.selects RX5 yX5_append yX5_append) (by decide +kernel))⟩ ⟨fun a U g mk q => by obtain ⟨q0, q1, qP, qK, qD, qN⟩ := q; exact ⟨q0, q1, qP, va_K.moved (u := U) (U := U.calling g mk a) (Vm.Alike.refl U.vm) qK, qD, qN.same rfl⟩, va_recv hK hPc (ci := 5) (q0 := 0) rfl rfl, fun U hU hW => ⟨rfl, by rw [hU], by rw [hU]; exact hPc, va_K.moved hW.alike hK, hDc.weaken (fun _ _ _ _ => trivial), hN.warm hW⟩⟩ rfl rfl hl.1 rfl (lv_room (Nat.le_of_ble_eq_true rfl)) dX8_feed_39 ⟨Nat.le_of_ble_eq_true rfl, Nat.le_of_ble_eq_true rfl⟩) hS (fun q _ h => hFc q h) hFc (fun u_19 t H1 locs ht hvm hw_20 hB hz1 hk1 hS => ?_)
    obtain ⟨w_21, w_22⟩ := u_19
    try dsimp only at hw_20 hB
    obtain ⟨iv_23, iv_24, po_25, tp_26⟩ := hw_20
    obtain ⟨hP1, hD1⟩ := hB
    rw [ht] at hP1
    obtain ⟨hP, hD⟩ := va_join (wr := [((ax 0), .inr (8, [.ref (ax 1), .ref (ax 7), .ref (ax 10), .ref (ax 11), .ref (ax 13), .ref (ax 15), .ref (ax 16), .ref (ax 21), .ref (ax 26), .ref (ax 27), .ref (ax 28), .int xNow, .int xEr, .int xTr, .int xMo, .int xFa, .int xRe]))]) (w1 := [((ax 11), .inr (5, [.ref (ax 12), .int w_21])), ((ax 12), .inl (cA 0, 200, .inl w_22))]) hP hD [1, 2] [0] hCc rfl (by decide) (by decide) hk1 hFc hP1 hD1
    clear hz1
    generalize H1 = H at hP hS ⊢
    refine lv_aload_n hx hb dX8_feed_42 rfl (lv_at hl 0 rfl) ?_
    refine va_get (D := (dC, dI)) (ci := 8) (v := .ref (ax 11)) (C := RX8) (T := TX8) (N := 17) hx hb hts hIX8 hown hK hP 0 rfl rfl 3 (by decide) (hts (.fieldLink RX8 30 "TraitHouse" "tape" "LTraitHouse$Tape;") (by decide +kernel)) (fun _ h9 => h9) rfl dX8_feed_43 ?_
    refine lv_iload hx hb dX8_feed_46 (lv_at hl 4 rfl) ?_
    obtain ⟨hPc, hDc, hFc, hCc⟩ := va_pre (ws' := [((ax 11), .inr (5, [.ref (ax 12), .int w_21])), ((ax 12), .inl (cA 0, 200, .inl w_22))]) hP hD hS hA [1, 2] (by decide) rfl
    refine va_callv (va_runVN (As := [.int e1]) (rest := []) ⟨hx, hb, hml, hown, hts⟩ (k_X5_append l dC dI cA H.size ax w_21 w_22 e1 iv_23 iv_24) ⟨(va_cnB 1 hts gX8_feed_X5_append_n145 rfl rfl rfl (nw_at hN 44 rfl) (hts (.initialized RX5) (by decide +kernel)) (by decide +kernel) ⟨Nat.le_of_ble_eq_true rfl, Nat.le_of_ble_eq_true rfl⟩), (hts (.instanceMethod yX5_append) (by decide +kernel)), (hts (.selects RX5 yX5_append yX5_append) (by decide +kernel))⟩ ⟨fun a U g mk q => by obtain ⟨q0, q1, qP, qK, qD, qN⟩ := q; exact ⟨q0, q1, qP, va_K.moved (u := U) (U := U.calling g mk a) (Vm.Alike.refl U.vm) qK, qD, qN.same rfl⟩, va_recv hK hPc (ci := 5) (q0 := 0) rfl rfl, fun U hU hW => ⟨rfl, by rw [hU], by rw [hU]; exact hPc, va_K.moved hW.alike hK, hDc.weaken (fun _ _ _ _ => trivial), hN.warm hW⟩⟩ rfl rfl hl.1 rfl (lv_room (Nat.le_of_ble_eq_true rfl)) dX8_feed_48 ⟨Nat.le_of_ble_eq_true rfl, Nat.le_of_ble_eq_true rfl⟩) hS (fun q _ h => hFc q h) hFc (fun u_27 t H1 locs ht hvm hw_28 hB hz1 hk1 hS => ?_)
    obtain ⟨w_29, w_30⟩ := u_27
    try dsimp only at hw_28 hB
    obtain ⟨iv_31, iv_32, po_33, tp_34⟩ := hw_28
    obtain ⟨hP1, hD1⟩ := hB
    rw [ht] at hP1
    obtain ⟨hP, hD⟩ := va_join (wr := [((ax 0), .inr (8, [.ref (ax 1), .ref (ax 7), .ref (ax 10), .ref (ax 11), .ref (ax 13), .ref (ax 15), .ref (ax 16), .ref (ax 21), .ref (ax 26), .ref (ax 27), .ref (ax 28), .int xNow, .int xEr, .int xTr, .int xMo, .int xFa, .int xRe]))]) (w1 := [((ax 11), .inr (5, [.ref (ax 12), .int w_29])), ((ax 12), .inl (cA 0, 200, .inl w_30))]) hP hD [1, 2] [0] hCc rfl (by decide) (by decide) hk1 hFc hP1 hD1
    clear hz1
    generalize H1 = H at hP hS ⊢
    refine lv_aload_n hx hb dX8_feed_51 rfl (lv_at hl 0 rfl) ?_
    refine va_get (D := (dC, dI)) (ci := 8) (v := .ref (ax 11)) (C := RX8) (T := TX8) (N := 17) hx hb hts hIX8 hown hK hP 0 rfl rfl 3 (by decide) (hts (.fieldLink RX8 30 "TraitHouse" "tape" "LTraitHouse$Tape;") (by decide +kernel)) (fun _ h9 => h9) rfl dX8_feed_52 ?_
    refine lv_iload hx hb dX8_feed_55 (lv_at hl 5 rfl) ?_
    obtain ⟨hPc, hDc, hFc, hCc⟩ := va_pre (ws' := [((ax 11), .inr (5, [.ref (ax 12), .int w_29])), ((ax 12), .inl (cA 0, 200, .inl w_30))]) hP hD hS hA [1, 2] (by decide) rfl
    refine va_callv (va_runVN (As := [.int e2]) (rest := []) ⟨hx, hb, hml, hown, hts⟩ (k_X5_append l dC dI cA H.size ax w_29 w_30 e2 iv_31 iv_32) ⟨(va_cnB 1 hts gX8_feed_X5_append_n145 rfl rfl rfl (nw_at hN 44 rfl) (hts (.initialized RX5) (by decide +kernel)) (by decide +kernel) ⟨Nat.le_of_ble_eq_true rfl, Nat.le_of_ble_eq_true rfl⟩), (hts (.instanceMethod yX5_append) (by decide +kernel)), (hts (.selects RX5 yX5_append yX5_append) (by decide +kernel))⟩ ⟨fun a U g mk q => by obtain ⟨q0, q1, qP, qK, qD, qN⟩ := q; exact ⟨q0, q1, qP, va_K.moved (u := U) (U := U.calling g mk a) (Vm.Alike.refl U.vm) qK, qD, qN.same rfl⟩, va_recv hK hPc (ci := 5) (q0 := 0) rfl rfl, fun U hU hW => ⟨rfl, by rw [hU], by rw [hU]; exact hPc, va_K.moved hW.alike hK, hDc.weaken (fun _ _ _ _ => trivial), hN.warm hW⟩⟩ rfl rfl hl.1 rfl (lv_room (Nat.le_of_ble_eq_true rfl)) dX8_feed_57 ⟨Nat.le_of_ble_eq_true rfl, Nat.le_of_ble_eq_true rfl⟩) hS (fun q _ h => hFc q h) hFc (fun u_35 t H1 locs ht hvm hw_36 hB hz1 hk1 hS => ?_)
    obtain ⟨w_37, w_38⟩ := u_35
    try dsimp only at hw_36 hB
    obtain ⟨iv_39, iv_40, po_41, tp_42⟩ := hw_36
    obtain ⟨hP1, hD1⟩ := hB
    rw [ht] at hP1
    obtain ⟨hP, hD⟩ := va_join (wr := [((ax 0), .inr (8, [.ref (ax 1), .ref (ax 7), .ref (ax 10), .ref (ax 11), .ref (ax 13), .ref (ax 15), .ref (ax 16), .ref (ax 21), .ref (ax 26), .ref (ax 27), .ref (ax 28), .int xNow, .int xEr, .int xTr, .int xMo, .int xFa, .int xRe]))]) (w1 := [((ax 11), .inr (5, [.ref (ax 12), .int w_37])), ((ax 12), .inl (cA 0, 200, .inl w_38))]) hP hD [1, 2] [0] hCc rfl (by decide) (by decide) hk1 hFc hP1 hD1
    clear hz1
    generalize H1 = H at hP hS ⊢
    refine lv_aload_n hx hb dX8_feed_60 rfl (lv_at hl 0 rfl) ?_
    refine va_get (D := (dC, dI)) (ci := 8) (v := .ref (ax 11)) (C := RX8) (T := TX8) (N := 17) hx hb hts hIX8 hown hK hP 0 rfl rfl 3 (by decide) (hts (.fieldLink RX8 30 "TraitHouse" "tape" "LTraitHouse$Tape;") (by decide +kernel)) (fun _ h9 => h9) rfl dX8_feed_61 ?_
    refine va_getN (D := (dC, dI)) (ci := 5) (v := .int w_37) (C := RX5) (T := TX5) (N := 2) hx hb hts hIX5 hown hK hP 1 rfl rfl 1 (by decide) (va_Nw.use rfl (nw_at hN 10 rfl)) (fun _ h9 => h9) rfl dX8_feed_64 ?_
    obtain ⟨hP9, hD9⟩ := va_pd (ws' := [((ax 0), .inr (8, [.ref (ax 1), .ref (ax 7), .ref (ax 10), .ref (ax 11), .ref (ax 13), .ref (ax 15), .ref (ax 16), .ref (ax 21), .ref (ax 26), .ref (ax 27), .ref (ax 28), .int xNow, .int xEr, .int xTr, .int xMo, .int xFa, .int xRe])), ((ax 11), .inr (5, [.ref (ax 12), .int w_37])), ((ax 12), .inl (cA 0, 200, .inl w_38))]) hP hD [0, 1, 2] (by decide) rfl
    subst hQe
    have hans : (w_37 : Int32).toInt = w_37.toInt := rfl
    have hpost : (0 ≤ w_37.toInt ∧ w_37.toInt ≤ 200) ∧ (inB 0 255 200 w_38) ∧ ((xTz.toInt + 20 ≤ 200 → (w_37 : Int32).toInt = xTz.toInt + 20 ∧ w_37.toInt = xTz.toInt + 20) ∧ (¬ xTz.toInt + 20 ≤ 200 → (w_37 : Int32).toInt = (-1) ∧ w_37.toInt = xTz.toInt)) ∧ ((xTz.toInt + 20 ≤ 200 → tpe w_38 w_37 = apl (tpe gB xTz) xTz.toInt (w5 a b d e1 e2) 20) ∧ (¬ xTz.toInt + 20 ≤ 200 → w_38 = gB)) := ⟨iv_39, iv_40, by omega, ⟨fun _ => (by rw [tp_42 (by omega), tp_34 (by omega), tp_26 (by omega), tp_18 (by omega), tp_10 (by omega), show w_29.toInt = xTz.toInt + 16 by omega, show w_21.toInt = xTz.toInt + 12 by omega, show w_13.toInt = xTz.toInt + 8 by omega, show w_5.toInt = xTz.toInt + 4 by omega]; exact apl5), fun h => by exfalso; omega⟩⟩
    exact W.iret (v := w_37) hx hb hr (fun t ht hW => ⟨⟨w_37, (w_37, w_38), rfl, hpost, by rw [ht]; exact hP9, hD9⟩, hS.F ht⟩) hS.2.2 dX8_feed_67
  · have dc_2 : 200 < x_1.toInt := jI_nle c_2 rfl (by decide)
    refine lv_iconst (v := (-1)) hx hb dX8_feed_16 (by decide) ?_
    obtain ⟨hP9, hD9⟩ := va_pd (ws' := [((ax 0), .inr (8, [.ref (ax 1), .ref (ax 7), .ref (ax 10), .ref (ax 11), .ref (ax 13), .ref (ax 15), .ref (ax 16), .ref (ax 21), .ref (ax 26), .ref (ax 27), .ref (ax 28), .int xNow, .int xEr, .int xTr, .int xMo, .int xFa, .int xRe])), ((ax 11), .inr (5, [.ref (ax 12), .int xTz])), ((ax 12), .inl (cA 0, 200, .inl gB))]) hP hD [0, 1, 2] (by decide) rfl
    subst hQe
    have hans : ((-1) : Int32).toInt = (-1) := (by decide)
    have hpost : (0 ≤ xTz.toInt ∧ xTz.toInt ≤ 200) ∧ (inB 0 255 200 gB) ∧ ((xTz.toInt + 20 ≤ 200 → ((-1) : Int32).toInt = xTz.toInt + 20 ∧ xTz.toInt = xTz.toInt + 20) ∧ (¬ xTz.toInt + 20 ≤ 200 → ((-1) : Int32).toInt = (-1) ∧ xTz.toInt = xTz.toInt)) ∧ ((xTz.toInt + 20 ≤ 200 → tpe gB xTz = apl (tpe gB xTz) xTz.toInt (w5 a b d e1 e2) 20) ∧ (¬ xTz.toInt + 20 ≤ 200 → gB = gB)) := ⟨i_xTz, i_gB, by omega, ⟨fun h => by exfalso; omega, fun _ => rfl⟩⟩
    exact W.iret (v := (-1)) hx hb hr (fun t ht hW => ⟨⟨(-1), (xTz, gB), rfl, hpost, by rw [ht]; exact hP9, hD9⟩, hS.F ht⟩) hS.2.2 dX8_feed_17

set_option maxHeartbeats 8000000 in
set_option maxRecDepth 100000 in
theorem k_X1_owner (l : Launch) (dC : Nat → ClassId) (dI : Nat → Nat → Nat) (cA : Nat → ClassId) (sz : Nat) (a : Int32) (b : Int32)   : Met l yX1_owner wsX1_owner ({ frames := 0, cells := 0, slots := 0, locals := 0 }) (va_Pc [.int a, .int b] (fun U => U.heap.size = sz ∧ va_P (dC, dI) vwCl [] U.heap ∧ va_K (dC, dI) vwCl (tyL cA) U ∧ va_D (fun _ => True) [] ∧ nw_ok U)) (va_Qi (fun (r : Int32) (_ : Unit) => True) (fun (_ : Unit) (t : State) => va_P (dC, dI) vwCl [] t.heap ∧ va_D (va_A [] sz) []) (va_A [] sz)) 0 0 (va_A [] sz) := by
  refine Met.ofW (cc := cX1_owner) (maxL := 2) (ret := (some .int)) (by decide) rfl ?_
  intro p e s m args below meth c s₁ B hml hv
  obtain ⟨rfl, hsz, hP, hK, hD0, hN⟩ := hv
  have hx := B.exec
  have hb := B.bytes
  have hr := B.returns
  have hts := atoms_spec (ws := wsX1_owner) B.pre
  have hown : s.vm.findClass RX1 = some m.cls := findClass_of_methodNamed B.named
  have hlocks := B.notSynchronized
  subst hsz
  have hD := hD0.self (sz := s.heap.size)
  generalize hAe : va_A [] s.heap.size = A at hD ⊢
  have hA : ∀ q : Nat, s.heap.size ≤ q → A q := fun q h => by rw [← hAe]; exact Or.inr h
  have hS : va_S A s.heap s.heap [] := va_S.rf
  have hl := lv_entry ([.int a, .int b]) (n := 2) (Nat.le_of_ble_eq_true rfl)
  rw [lg_entry_eq]
  generalize (lg_sl ([.int a, .int b]) ++ List.replicate (2 - (lg_sl ([.int a, .int b])).length) Slot.unset).toArray = ls at hl ⊢
  have hl : lv_has ls 2 [(0, .int a), (1, .int b)] := hl
  generalize hQe : MQ below _ _ _ _ _ _ = QQ
  refine lv_iload_n hx hb dX1_owner_0 rfl (lv_at hl 0 rfl) ?_
  refine lv_bipush (v := 20) hx hb dX1_owner_1 (by decide) ?_
  refine lv_imul hx hb dX1_owner_3 ?_
  refine lv_topi (fun x_1 ex_1 => ?_)
  refine lv_iload_n hx hb dX1_owner_4 rfl (lv_at hl 1 rfl) ?_
  refine lv_iadd hx hb dX1_owner_5 ?_
  refine lv_topi (fun x_2 ex_2 => ?_)
  obtain ⟨hP9, hD9⟩ := va_pd (ws' := []) hP hD [] (by decide) rfl
  subst hQe
  have hans : (x_2 : Int32).toInt = x_2.toInt := rfl
  exact W.iret (v := x_2) hx hb hr (fun t ht hW => ⟨⟨x_2, (), rfl, trivial, by rw [ht]; exact hP9, hD9⟩, hS.F ht⟩) hS.2.2 dX1_owner_6

set_option maxHeartbeats 8000000 in
set_option maxRecDepth 100000 in
theorem k_X1_free (l : Launch) (dC : Nat → ClassId) (dI : Nat → Nat → Nat) (cA : Nat → ClassId) (sz : Nat) (ax : Nat → Nat) (xPz : Int32) (i_xPz : 0 ≤ xPz.toInt ∧ xPz.toInt ≤ 2000)  : Met l yX1_free wsX1_free ({ frames := 0, cells := 0, slots := 0, locals := 0 }) (va_Pc [.ref (ax 21)] (fun U => U.heap.size = sz ∧ va_P (dC, dI) vwCl [((ax 21), .inr (1, [.ref (ax 22), .ref (ax 23), .ref (ax 24), .ref (ax 25), .int xPz]))] U.heap ∧ va_K (dC, dI) vwCl (tyL cA) U ∧ va_D (fun _ => True) [((ax 21), .inr (1, [.ref (ax 22), .ref (ax 23), .ref (ax 24), .ref (ax 25), .int xPz]))] ∧ nw_ok U)) (va_Qi (fun (r : Int32) (_ : Unit) => (r.toInt = 2000 - xPz.toInt)) (fun (_ : Unit) (t : State) => va_P (dC, dI) vwCl [((ax 21), .inr (1, [.ref (ax 22), .ref (ax 23), .ref (ax 24), .ref (ax 25), .int xPz]))] t.heap ∧ va_D (va_A [((ax 21), .inr (1, [.ref (ax 22), .ref (ax 23), .ref (ax 24), .ref (ax 25), .int xPz]))] sz) [((ax 21), .inr (1, [.ref (ax 22), .ref (ax 23), .ref (ax 24), .ref (ax 25), .int xPz]))]) (va_A [((ax 21), .inr (1, [.ref (ax 22), .ref (ax 23), .ref (ax 24), .ref (ax 25), .int xPz]))] sz)) 0 0 (va_A [((ax 21), .inr (1, [.ref (ax 22), .ref (ax 23), .ref (ax 24), .ref (ax 25), .int xPz]))] sz) := by
  refine Met.ofW (cc := cX1_free) (maxL := 1) (ret := (some .int)) (by decide) rfl ?_
  intro p e s m args below meth c s₁ B hml hv
  obtain ⟨rfl, hsz, hP, hK, hD0, hN⟩ := hv
  have hx := B.exec
  have hb := B.bytes
  have hr := B.returns
  have hts := atoms_spec (ws := wsX1_free) B.pre
  have hown : s.vm.findClass RX1 = some m.cls := findClass_of_methodNamed B.named
  have hlocks := B.notSynchronized
  subst hsz
  have hD := hD0.self (sz := s.heap.size)
  generalize hAe : va_A [((ax 21), .inr (1, [.ref (ax 22), .ref (ax 23), .ref (ax 24), .ref (ax 25), .int xPz]))] s.heap.size = A at hD ⊢
  have hA : ∀ q : Nat, s.heap.size ≤ q → A q := fun q h => by rw [← hAe]; exact Or.inr h
  have hS : va_S A s.heap s.heap [] := va_S.rf
  have hIX1 : ∀ w ∈ u_ws RX1 TX1 5, w ∈ wsX1_free := by decide +kernel
  have hl := lv_entry ([.ref (ax 21)]) (n := 1) (Nat.le_of_ble_eq_true rfl)
  rw [lg_entry_eq]
  generalize (lg_sl ([.ref (ax 21)]) ++ List.replicate (1 - (lg_sl ([.ref (ax 21)])).length) Slot.unset).toArray = ls at hl ⊢
  have hl : lv_has ls 1 [(0, .ref (ax 21))] := hl
  generalize hQe : MQ below _ _ _ _ _ _ = QQ
  refine lv_sipush (v := 2000) hx hb dX1_free_0 (by decide) ?_
  refine lv_aload_n hx hb dX1_free_3 rfl (lv_at hl 0 rfl) ?_
  refine va_get (D := (dC, dI)) (ci := 1) (v := .int xPz) (C := RX1) (T := TX1) (N := 5) hx hb hts hIX1 hown hK hP 0 rfl rfl 4 (by decide) (hts (.fieldLink RX1 26 "TraitHouse$Places" "size" "I") (by decide +kernel)) (fun _ h9 => h9) rfl dX1_free_4 ?_
  refine lv_isub hx hb dX1_free_7 ?_
  refine lv_topi (fun x_1 ex_1 => ?_)
  have dx_1 : x_1.toInt = 2000 - xPz.toInt := by rw [ex_1]; exact jI_sub (by decide) rfl (by omega) (by omega)
  obtain ⟨hP9, hD9⟩ := va_pd (ws' := [((ax 21), .inr (1, [.ref (ax 22), .ref (ax 23), .ref (ax 24), .ref (ax 25), .int xPz]))]) hP hD [0] (by decide) rfl
  subst hQe
  have hans : (x_1 : Int32).toInt = x_1.toInt := rfl
  have hpost : ((x_1 : Int32).toInt = 2000 - xPz.toInt) := by omega
  exact W.iret (v := x_1) hx hb hr (fun t ht hW => ⟨⟨x_1, (), rfl, hpost, by rw [ht]; exact hP9, hD9⟩, hS.F ht⟩) hS.2.2 dX1_free_8

set_option maxHeartbeats 8000000 in
set_option maxRecDepth 100000 in
theorem k_X1_put (l : Launch) (dC : Nat → ClassId) (dI : Nat → Nat → Nat) (cA : Nat → ClassId) (sz : Nat) (ax : Nat → Nat) (xPz : Int32) (gPO : Nat → Int32) (gPM : Nat → Int32) (gPF : Nat → Int32) (gPV : Nat → Int64) (tt : Int32) (pp : Int32) (mo : Int32) (fi : Int32) (va : Int64) (i_xPz : 0 ≤ xPz.toInt ∧ xPz.toInt ≤ 2000)  : Met l yX1_put wsX1_put ({ frames := 1, cells := 0, slots := 0, locals := 21 }) (va_Pc [.ref (ax 21), .int tt, .int pp, .int mo, .int fi, .long va] (fun U => U.heap.size = sz ∧ va_P (dC, dI) vwCl [((ax 21), .inr (1, [.ref (ax 22), .ref (ax 23), .ref (ax 24), .ref (ax 25), .int xPz])), ((ax 22), .inl (cA 0, 2000, .inl gPO)), ((ax 23), .inl (cA 0, 2000, .inl gPM)), ((ax 24), .inl (cA 2, 2000, .inl gPF)), ((ax 25), .inl (cA 1, 2000, .inr (.inl gPV)))] U.heap ∧ va_K (dC, dI) vwCl (tyL cA) U ∧ va_D (fun _ => True) [((ax 21), .inr (1, [.ref (ax 22), .ref (ax 23), .ref (ax 24), .ref (ax 25), .int xPz])), ((ax 22), .inl (cA 0, 2000, .inl gPO)), ((ax 23), .inl (cA 0, 2000, .inl gPM)), ((ax 24), .inl (cA 2, 2000, .inl gPF)), ((ax 25), .inl (cA 1, 2000, .inr (.inl gPV)))] ∧ nw_ok U)) (va_Qv (fun (u : Int32 × (Nat → Int32) × (Nat → Int32) × (Nat → Int32) × (Nat → Int64)) => (0 ≤ u.1.toInt ∧ u.1.toInt ≤ 2000)) (fun (u : Int32 × (Nat → Int32) × (Nat → Int32) × (Nat → Int32) × (Nat → Int64)) (t : State) => va_P (dC, dI) vwCl [((ax 21), .inr (1, [.ref (ax 22), .ref (ax 23), .ref (ax 24), .ref (ax 25), .int u.1])), ((ax 22), .inl (cA 0, 2000, .inl u.2.1)), ((ax 23), .inl (cA 0, 2000, .inl u.2.2.1)), ((ax 24), .inl (cA 2, 2000, .inl u.2.2.2.1)), ((ax 25), .inl (cA 1, 2000, .inr (.inl u.2.2.2.2)))] t.heap ∧ va_D (va_A [((ax 21), .inr (1, [.ref (ax 22), .ref (ax 23), .ref (ax 24), .ref (ax 25), .int xPz])), ((ax 22), .inl (cA 0, 2000, .inl gPO)), ((ax 23), .inl (cA 0, 2000, .inl gPM)), ((ax 24), .inl (cA 2, 2000, .inl gPF)), ((ax 25), .inl (cA 1, 2000, .inr (.inl gPV)))] sz) [((ax 21), .inr (1, [.ref (ax 22), .ref (ax 23), .ref (ax 24), .ref (ax 25), .int u.1])), ((ax 22), .inl (cA 0, 2000, .inl u.2.1)), ((ax 23), .inl (cA 0, 2000, .inl u.2.2.1)), ((ax 24), .inl (cA 2, 2000, .inl u.2.2.2.1)), ((ax 25), .inl (cA 1, 2000, .inr (.inl u.2.2.2.2)))]) (va_A [((ax 21), .inr (1, [.ref (ax 22), .ref (ax 23), .ref (ax 24), .ref (ax 25), .int xPz])), ((ax 22), .inl (cA 0, 2000, .inl gPO)), ((ax 23), .inl (cA 0, 2000, .inl gPM)), ((ax 24), .inl (cA 2, 2000, .inl gPF)), ((ax 25), .inl (cA 1, 2000, .inr (.inl gPV)))] sz)) 0 0 (va_A [((ax 21), .inr (1, [.ref (ax 22), .ref (ax 23), .ref (ax 24), .ref (ax 25), .int xPz])), ((ax 22), .inl (cA 0, 2000, .inl gPO)), ((ax 23), .inl (cA 0, 2000, .inl gPM)), ((ax 24), .inl (cA 2, 2000, .inl gPF)), ((ax 25), .inl (cA 1, 2000, .inr (.inl gPV)))] sz) := by
  refine Met.ofW (cc := cX1_put) (maxL := 7) (ret := none) (by decide) rfl ?_
  intro p e s m args below meth c s₁ B hml hv
  obtain ⟨rfl, hsz, hP, hK, hD0, hN⟩ := hv
  have hx := B.exec
  have hb := B.bytes
  have hr := B.returns
  have hts := atoms_spec (ws := wsX1_put) B.pre
  have hown : s.vm.findClass RX1 = some m.cls := findClass_of_methodNamed B.named
  have hlocks := B.notSynchronized
  subst hsz
  have hD := hD0.self (sz := s.heap.size)
  generalize hAe : va_A [((ax 21), .inr (1, [.ref (ax 22), .ref (ax 23), .ref (ax 24), .ref (ax 25), .int xPz])), ((ax 22), .inl (cA 0, 2000, .inl gPO)), ((ax 23), .inl (cA 0, 2000, .inl gPM)), ((ax 24), .inl (cA 2, 2000, .inl gPF)), ((ax 25), .inl (cA 1, 2000, .inr (.inl gPV)))] s.heap.size = A at hD ⊢
  have hA : ∀ q : Nat, s.heap.size ≤ q → A q := fun q h => by rw [← hAe]; exact Or.inr h
  have hS : va_S A s.heap s.heap [] := va_S.rf
  have hIX1 : ∀ w ∈ u_ws RX1 TX1 5, w ∈ wsX1_put := by decide +kernel
  have hl := lv_entry ([.ref (ax 21), .int tt, .int pp, .int mo, .int fi, .long va]) (n := 7) (Nat.le_of_ble_eq_true rfl)
  rw [lg_entry_eq]
  generalize (lg_sl ([.ref (ax 21), .int tt, .int pp, .int mo, .int fi, .long va]) ++ List.replicate (7 - (lg_sl ([.ref (ax 21), .int tt, .int pp, .int mo, .int fi, .long va])).length) Slot.unset).toArray = ls at hl ⊢
  have hl : lv_has ls 7 [(0, .ref (ax 21)), (1, .int tt), (2, .int pp), (3, .int mo), (4, .int fi), (5, .long va)] := hl
  generalize hQe : MQ below _ _ _ _ _ _ = QQ
  refine lv_aload_n hx hb dX1_put_0 rfl (lv_at hl 0 rfl) ?_
  refine va_get (D := (dC, dI)) (ci := 1) (v := .int xPz) (C := RX1) (T := TX1) (N := 5) hx hb hts hIX1 hown hK hP 0 rfl rfl 4 (by decide) (hts (.fieldLink RX1 26 "TraitHouse$Places" "size" "I") (by decide +kernel)) (fun _ h9 => h9) rfl dX1_put_1 ?_
  refine lv_sipush (v := 2000) hx hb dX1_put_4 (by decide) ?_
  refine lv_icmp_ge (tgt := 66) hx hb dX1_put_7 (by decide) (fun c_1 => ?_) (fun c_1 => ?_)
  · have dc_1 : 2000 ≤ xPz.toInt := jI_le c_1 (by decide) rfl
    obtain ⟨hP9, hD9⟩ := va_pd (ws' := [((ax 21), .inr (1, [.ref (ax 22), .ref (ax 23), .ref (ax 24), .ref (ax 25), .int xPz])), ((ax 22), .inl (cA 0, 2000, .inl gPO)), ((ax 23), .inl (cA 0, 2000, .inl gPM)), ((ax 24), .inl (cA 2, 2000, .inl gPF)), ((ax 25), .inl (cA 1, 2000, .inr (.inl gPV)))]) hP hD [0, 1, 2, 3, 4] (by decide) rfl
    subst hQe
    have hpost : (0 ≤ xPz.toInt ∧ xPz.toInt ≤ 2000) := i_xPz
    exact W.vret hx hb hr (fun t ht hW => ⟨⟨(xPz, gPO, gPM, gPF, gPV), rfl, hpost, by rw [ht]; exact hP9, hD9⟩, hS.F ht⟩) hS.2.2 dX1_put_66
  · have dc_1 : xPz.toInt < 2000 := jI_nle c_1 (by decide) rfl
    refine lv_aload_n hx hb dX1_put_10 rfl (lv_at hl 0 rfl) ?_
    refine va_get (D := (dC, dI)) (ci := 1) (v := .ref (ax 22)) (C := RX1) (T := TX1) (N := 5) hx hb hts hIX1 hown hK hP 0 rfl rfl 0 (by decide) (hts (.fieldLink RX1 9 "TraitHouse$Places" "owners" "[I") (by decide +kernel)) (fun _ h9 => h9) rfl dX1_put_11 ?_
    refine lv_aload_n hx hb dX1_put_14 rfl (lv_at hl 0 rfl) ?_
    refine va_get (D := (dC, dI)) (ci := 1) (v := .int xPz) (C := RX1) (T := TX1) (N := 5) hx hb hts hIX1 hown hK hP 0 rfl rfl 4 (by decide) (hts (.fieldLink RX1 26 "TraitHouse$Places" "size" "I") (by decide +kernel)) (fun _ h9 => h9) rfl dX1_put_15 ?_
    refine lv_iload_n hx hb dX1_put_18 rfl (lv_at hl 1 rfl) ?_
    refine lv_iload_n hx hb dX1_put_19 rfl (lv_at hl 2 rfl) ?_
    obtain ⟨hPc, hDc, hFc, hCc⟩ := va_pre (ws' := []) hP hD hS hA [] (by decide) rfl
    refine va_calli (va_runS (As := [.int tt, .int pp]) (rest := [.int xPz, .ref (ax 22)]) ⟨hx, hb, hml, hown, hts⟩ (k_X1_owner l dC dI cA s.heap.size tt pp ) (va_cwS 2 hts gX1_put_X1_owner rfl rfl rfl (by decide +kernel) ⟨Nat.le_of_ble_eq_true rfl, Nat.le_of_ble_eq_true rfl⟩) ⟨fun a U g mk q => by obtain ⟨q0, q1, qP, qK, qD, qN⟩ := q; exact ⟨q0, q1, qP, va_K.moved (u := U) (U := U.calling g mk a) (Vm.Alike.refl U.vm) qK, qD, qN.same rfl⟩, fun U hU hW => ⟨rfl, by rw [hU], by rw [hU]; exact hPc, va_K.moved hW.alike hK, hDc.weaken (fun _ _ _ _ => trivial), hN.warm hW⟩⟩ rfl rfl hl.1 rfl (lv_room (Nat.le_of_ble_eq_true rfl)) dX1_put_20 ⟨Nat.le_of_ble_eq_true rfl, Nat.le_of_ble_eq_true rfl⟩) hS (fun q _ h => hFc q h) hFc (fun r_2 u_3 t H1 locs ht hvm hw_4 hB hz1 hk1 hS => ?_)
    try dsimp only at hw_4 hB
    obtain ⟨hP1, hD1⟩ := hB
    rw [ht] at hP1
    obtain ⟨hP, hD⟩ := va_join (wr := [((ax 21), .inr (1, [.ref (ax 22), .ref (ax 23), .ref (ax 24), .ref (ax 25), .int xPz])), ((ax 22), .inl (cA 0, 2000, .inl gPO)), ((ax 23), .inl (cA 0, 2000, .inl gPM)), ((ax 24), .inl (cA 2, 2000, .inl gPF)), ((ax 25), .inl (cA 1, 2000, .inr (.inl gPV)))]) (w1 := []) hP hD [] [0, 1, 2, 3, 4] hCc rfl (by decide) (by decide) hk1 hFc hP1 hD1
    clear hz1
    generalize H1 = H at hP hS ⊢
    have h_5 : vp_in xPz 2000 := (vp_in_iff.mpr ⟨by omega, by omega⟩)
    refine va_iast hx hb hK hP hD hS 1 0 rfl rfl h_5 dX1_put_23 (fun H locs hP hD hS => ?_)
    replace hP : va_P (dC, dI) vwCl [((ax 21), .inr (1, [.ref (ax 22), .ref (ax 23), .ref (ax 24), .ref (ax 25), .int xPz])), ((ax 22), .inl (cA 0, 2000, .inl (upd gPO xPz.toNatClampNeg r_2))), ((ax 23), .inl (cA 0, 2000, .inl gPM)), ((ax 24), .inl (cA 2, 2000, .inl gPF)), ((ax 25), .inl (cA 1, 2000, .inr (.inl gPV)))] H := hP
    replace hD : va_D A [((ax 21), .inr (1, [.ref (ax 22), .ref (ax 23), .ref (ax 24), .ref (ax 25), .int xPz])), ((ax 22), .inl (cA 0, 2000, .inl (upd gPO xPz.toNatClampNeg r_2))), ((ax 23), .inl (cA 0, 2000, .inl gPM)), ((ax 24), .inl (cA 2, 2000, .inl gPF)), ((ax 25), .inl (cA 1, 2000, .inr (.inl gPV)))] := hD
    obtain ⟨g_6, eg_6⟩ : ∃ g : Nat → Int32, g = upd gPO xPz.toNatClampNeg r_2 := ⟨_, rfl⟩
    rw [← eg_6] at hP hD
    refine lv_aload_n hx hb dX1_put_24 rfl (lv_at hl 0 rfl) ?_
    refine va_get (D := (dC, dI)) (ci := 1) (v := .ref (ax 23)) (C := RX1) (T := TX1) (N := 5) hx hb hts hIX1 hown hK hP 0 rfl rfl 1 (by decide) (hts (.fieldLink RX1 15 "TraitHouse$Places" "moments" "[I") (by decide +kernel)) (fun _ h9 => h9) rfl dX1_put_25 ?_
    refine lv_aload_n hx hb dX1_put_28 rfl (lv_at hl 0 rfl) ?_
    refine va_get (D := (dC, dI)) (ci := 1) (v := .int xPz) (C := RX1) (T := TX1) (N := 5) hx hb hts hIX1 hown hK hP 0 rfl rfl 4 (by decide) (hts (.fieldLink RX1 26 "TraitHouse$Places" "size" "I") (by decide +kernel)) (fun _ h9 => h9) rfl dX1_put_29 ?_
    refine lv_iload_n hx hb dX1_put_32 rfl (lv_at hl 3 rfl) ?_
    have h_7 : vp_in xPz 2000 := (vp_in_iff.mpr ⟨by omega, by omega⟩)
    refine va_iast hx hb hK hP hD hS 2 0 rfl rfl h_7 dX1_put_33 (fun H locs hP hD hS => ?_)
    replace hP : va_P (dC, dI) vwCl [((ax 21), .inr (1, [.ref (ax 22), .ref (ax 23), .ref (ax 24), .ref (ax 25), .int xPz])), ((ax 22), .inl (cA 0, 2000, .inl g_6)), ((ax 23), .inl (cA 0, 2000, .inl (upd gPM xPz.toNatClampNeg mo))), ((ax 24), .inl (cA 2, 2000, .inl gPF)), ((ax 25), .inl (cA 1, 2000, .inr (.inl gPV)))] H := hP
    replace hD : va_D A [((ax 21), .inr (1, [.ref (ax 22), .ref (ax 23), .ref (ax 24), .ref (ax 25), .int xPz])), ((ax 22), .inl (cA 0, 2000, .inl g_6)), ((ax 23), .inl (cA 0, 2000, .inl (upd gPM xPz.toNatClampNeg mo))), ((ax 24), .inl (cA 2, 2000, .inl gPF)), ((ax 25), .inl (cA 1, 2000, .inr (.inl gPV)))] := hD
    obtain ⟨g_8, eg_8⟩ : ∃ g : Nat → Int32, g = upd gPM xPz.toNatClampNeg mo := ⟨_, rfl⟩
    rw [← eg_8] at hP hD
    refine lv_aload_n hx hb dX1_put_34 rfl (lv_at hl 0 rfl) ?_
    refine va_get (D := (dC, dI)) (ci := 1) (v := .ref (ax 24)) (C := RX1) (T := TX1) (N := 5) hx hb hts hIX1 hown hK hP 0 rfl rfl 2 (by decide) (hts (.fieldLink RX1 18 "TraitHouse$Places" "filled" "[Z") (by decide +kernel)) (fun _ h9 => h9) rfl dX1_put_35 ?_
    refine lv_aload_n hx hb dX1_put_38 rfl (lv_at hl 0 rfl) ?_
    refine va_get (D := (dC, dI)) (ci := 1) (v := .int xPz) (C := RX1) (T := TX1) (N := 5) hx hb hts hIX1 hown hK hP 0 rfl rfl 4 (by decide) (hts (.fieldLink RX1 26 "TraitHouse$Places" "size" "I") (by decide +kernel)) (fun _ h9 => h9) rfl dX1_put_39 ?_
    refine lv_iload hx hb dX1_put_42 (lv_at hl 4 rfl) ?_
    have h_9 : vp_in xPz 2000 := (vp_in_iff.mpr ⟨by omega, by omega⟩)
    refine va_zast hx hb hK hP hD hS 3 2 rfl rfl h_9 dX1_put_44 (fun H locs hP hD hS => ?_)
    replace hP : va_P (dC, dI) vwCl [((ax 21), .inr (1, [.ref (ax 22), .ref (ax 23), .ref (ax 24), .ref (ax 25), .int xPz])), ((ax 22), .inl (cA 0, 2000, .inl g_6)), ((ax 23), .inl (cA 0, 2000, .inl g_8)), ((ax 24), .inl (cA 2, 2000, .inl (upd gPF xPz.toNatClampNeg (vp_nar .boolean fi)))), ((ax 25), .inl (cA 1, 2000, .inr (.inl gPV)))] H := hP
    replace hD : va_D A [((ax 21), .inr (1, [.ref (ax 22), .ref (ax 23), .ref (ax 24), .ref (ax 25), .int xPz])), ((ax 22), .inl (cA 0, 2000, .inl g_6)), ((ax 23), .inl (cA 0, 2000, .inl g_8)), ((ax 24), .inl (cA 2, 2000, .inl (upd gPF xPz.toNatClampNeg (vp_nar .boolean fi)))), ((ax 25), .inl (cA 1, 2000, .inr (.inl gPV)))] := hD
    obtain ⟨g_10, eg_10⟩ : ∃ g : Nat → Int32, g = upd gPF xPz.toNatClampNeg (vp_nar .boolean fi) := ⟨_, rfl⟩
    rw [← eg_10] at hP hD
    refine lv_aload_n hx hb dX1_put_45 rfl (lv_at hl 0 rfl) ?_
    refine va_get (D := (dC, dI)) (ci := 1) (v := .ref (ax 25)) (C := RX1) (T := TX1) (N := 5) hx hb hts hIX1 hown hK hP 0 rfl rfl 3 (by decide) (hts (.fieldLink RX1 22 "TraitHouse$Places" "values" "[J") (by decide +kernel)) (fun _ h9 => h9) rfl dX1_put_46 ?_
    refine lv_aload_n hx hb dX1_put_49 rfl (lv_at hl 0 rfl) ?_
    refine va_get (D := (dC, dI)) (ci := 1) (v := .int xPz) (C := RX1) (T := TX1) (N := 5) hx hb hts hIX1 hown hK hP 0 rfl rfl 4 (by decide) (hts (.fieldLink RX1 26 "TraitHouse$Places" "size" "I") (by decide +kernel)) (fun _ h9 => h9) rfl dX1_put_50 ?_
    refine lv_lload hx hb dX1_put_53 (lv_at hl 5 rfl) ?_
    have h_11 : vp_in xPz 2000 := (vp_in_iff.mpr ⟨by omega, by omega⟩)
    refine va_last hx hb hK hP hD hS 4 1 rfl rfl h_11 dX1_put_55 (fun H locs hP hD hS => ?_)
    replace hP : va_P (dC, dI) vwCl [((ax 21), .inr (1, [.ref (ax 22), .ref (ax 23), .ref (ax 24), .ref (ax 25), .int xPz])), ((ax 22), .inl (cA 0, 2000, .inl g_6)), ((ax 23), .inl (cA 0, 2000, .inl g_8)), ((ax 24), .inl (cA 2, 2000, .inl g_10)), ((ax 25), .inl (cA 1, 2000, .inr (.inl (vp_updL gPV xPz.toNatClampNeg va))))] H := hP
    replace hD : va_D A [((ax 21), .inr (1, [.ref (ax 22), .ref (ax 23), .ref (ax 24), .ref (ax 25), .int xPz])), ((ax 22), .inl (cA 0, 2000, .inl g_6)), ((ax 23), .inl (cA 0, 2000, .inl g_8)), ((ax 24), .inl (cA 2, 2000, .inl g_10)), ((ax 25), .inl (cA 1, 2000, .inr (.inl (vp_updL gPV xPz.toNatClampNeg va))))] := hD
    obtain ⟨g_12, eg_12⟩ : ∃ g : Nat → Int64, g = vp_updL gPV xPz.toNatClampNeg va := ⟨_, rfl⟩
    rw [← eg_12] at hP hD
    refine lv_aload_n hx hb dX1_put_56 rfl (lv_at hl 0 rfl) ?_
    refine lv_dup hx hb dX1_put_57 rfl ?_
    refine va_get (D := (dC, dI)) (ci := 1) (v := .int xPz) (C := RX1) (T := TX1) (N := 5) hx hb hts hIX1 hown hK hP 0 rfl rfl 4 (by decide) (hts (.fieldLink RX1 26 "TraitHouse$Places" "size" "I") (by decide +kernel)) (fun _ h9 => h9) rfl dX1_put_58 ?_
    refine lv_iconst (v := 1) hx hb dX1_put_61 (by decide) ?_
    refine lv_iadd hx hb dX1_put_62 ?_
    refine lv_topi (fun x_13 ex_13 => ?_)
    have dx_13 : x_13.toInt = xPz.toInt + 1 := by rw [ex_13]; exact jI_add rfl (by decide) (by omega) (by omega)
    refine va_put (D := (dC, dI)) (ci := 1) (v := .int x_13) (ty := .int) (C := RX1) (T := TX1) (N := 5) hx hb hts hIX1 tyX1 tyX1_ok nmX1 hown hK hP hD hS 0 rfl rfl 4 (by decide) (hts (.fieldLink RX1 26 "TraitHouse$Places" "size" "I") (by decide +kernel)) (fun _ h9 => h9) rfl (by decide +kernel) rfl rfl (Nat.le_of_ble_eq_true rfl) dX1_put_63 (fun H locs hP hD hS => ?_)
    replace hP : va_P (dC, dI) vwCl [((ax 21), .inr (1, [.ref (ax 22), .ref (ax 23), .ref (ax 24), .ref (ax 25), .int x_13])), ((ax 22), .inl (cA 0, 2000, .inl g_6)), ((ax 23), .inl (cA 0, 2000, .inl g_8)), ((ax 24), .inl (cA 2, 2000, .inl g_10)), ((ax 25), .inl (cA 1, 2000, .inr (.inl g_12)))] H := hP
    replace hD : va_D A [((ax 21), .inr (1, [.ref (ax 22), .ref (ax 23), .ref (ax 24), .ref (ax 25), .int x_13])), ((ax 22), .inl (cA 0, 2000, .inl g_6)), ((ax 23), .inl (cA 0, 2000, .inl g_8)), ((ax 24), .inl (cA 2, 2000, .inl g_10)), ((ax 25), .inl (cA 1, 2000, .inr (.inl g_12)))] := hD
    obtain ⟨hP9, hD9⟩ := va_pd (ws' := [((ax 21), .inr (1, [.ref (ax 22), .ref (ax 23), .ref (ax 24), .ref (ax 25), .int x_13])), ((ax 22), .inl (cA 0, 2000, .inl g_6)), ((ax 23), .inl (cA 0, 2000, .inl g_8)), ((ax 24), .inl (cA 2, 2000, .inl g_10)), ((ax 25), .inl (cA 1, 2000, .inr (.inl g_12)))]) hP hD [0, 1, 2, 3, 4] (by decide) rfl
    subst hQe
    have hpost : (0 ≤ x_13.toInt ∧ x_13.toInt ≤ 2000) := by omega
    exact W.vret hx hb hr (fun t ht hW => ⟨⟨(x_13, g_6, g_8, g_10, g_12), rfl, hpost, by rw [ht]; exact hP9, hD9⟩, hS.F ht⟩) hS.2.2 dX1_put_66

set_option maxHeartbeats 8000000 in
set_option maxRecDepth 100000 in
theorem k_X1_find (l : Launch) (dC : Nat → ClassId) (dI : Nat → Nat → Nat) (cA : Nat → ClassId) (sz : Nat) (ax : Nat → Nat) (xPz : Int32) (gPO : Nat → Int32) (gPM : Nat → Int32) (tt : Int32) (pp : Int32) (mo : Int32) (i_xPz : 0 ≤ xPz.toInt ∧ xPz.toInt ≤ 2000)  : Met l yX1_find wsX1_find ({ frames := 1, cells := 0, slots := 0, locals := 21 }) (va_Pc [.ref (ax 21), .int tt, .int pp, .int mo] (fun U => U.heap.size = sz ∧ va_P (dC, dI) vwCl [((ax 21), .inr (1, [.ref (ax 22), .ref (ax 23), .ref (ax 24), .ref (ax 25), .int xPz])), ((ax 22), .inl (cA 0, 2000, .inl gPO)), ((ax 23), .inl (cA 0, 2000, .inl gPM))] U.heap ∧ va_K (dC, dI) vwCl (tyL cA) U ∧ va_D (fun _ => True) [((ax 21), .inr (1, [.ref (ax 22), .ref (ax 23), .ref (ax 24), .ref (ax 25), .int xPz])), ((ax 22), .inl (cA 0, 2000, .inl gPO)), ((ax 23), .inl (cA 0, 2000, .inl gPM))] ∧ nw_ok U)) (va_Qi (fun (r : Int32) (_ : Unit) => ((-1) ≤ r.toInt ∧ r.toInt ≤ 1999)) (fun (_ : Unit) (t : State) => va_P (dC, dI) vwCl [((ax 21), .inr (1, [.ref (ax 22), .ref (ax 23), .ref (ax 24), .ref (ax 25), .int xPz])), ((ax 22), .inl (cA 0, 2000, .inl gPO)), ((ax 23), .inl (cA 0, 2000, .inl gPM))] t.heap ∧ va_D (va_A [((ax 21), .inr (1, [.ref (ax 22), .ref (ax 23), .ref (ax 24), .ref (ax 25), .int xPz])), ((ax 22), .inl (cA 0, 2000, .inl gPO)), ((ax 23), .inl (cA 0, 2000, .inl gPM))] sz) [((ax 21), .inr (1, [.ref (ax 22), .ref (ax 23), .ref (ax 24), .ref (ax 25), .int xPz])), ((ax 22), .inl (cA 0, 2000, .inl gPO)), ((ax 23), .inl (cA 0, 2000, .inl gPM))]) (va_A [((ax 21), .inr (1, [.ref (ax 22), .ref (ax 23), .ref (ax 24), .ref (ax 25), .int xPz])), ((ax 22), .inl (cA 0, 2000, .inl gPO)), ((ax 23), .inl (cA 0, 2000, .inl gPM))] sz)) 0 0 (va_A [((ax 21), .inr (1, [.ref (ax 22), .ref (ax 23), .ref (ax 24), .ref (ax 25), .int xPz])), ((ax 22), .inl (cA 0, 2000, .inl gPO)), ((ax 23), .inl (cA 0, 2000, .inl gPM))] sz) := by
  refine Met.ofW (cc := cX1_find) (maxL := 7) (ret := (some .int)) (by decide) rfl ?_
  intro p e s m args below meth c s₁ B hml hv
  obtain ⟨rfl, hsz, hP, hK, hD0, hN⟩ := hv
  have hx := B.exec
  have hb := B.bytes
  have hr := B.returns
  have hts := atoms_spec (ws := wsX1_find) B.pre
  have hown : s.vm.findClass RX1 = some m.cls := findClass_of_methodNamed B.named
  have hlocks := B.notSynchronized
  subst hsz
  have hD := hD0.self (sz := s.heap.size)
  generalize hAe : va_A [((ax 21), .inr (1, [.ref (ax 22), .ref (ax 23), .ref (ax 24), .ref (ax 25), .int xPz])), ((ax 22), .inl (cA 0, 2000, .inl gPO)), ((ax 23), .inl (cA 0, 2000, .inl gPM))] s.heap.size = A at hD ⊢
  have hA : ∀ q : Nat, s.heap.size ≤ q → A q := fun q h => by rw [← hAe]; exact Or.inr h
  have hS : va_S A s.heap s.heap [] := va_S.rf
  have hIX1 : ∀ w ∈ u_ws RX1 TX1 5, w ∈ wsX1_find := by decide +kernel
  have hl := lv_entry ([.ref (ax 21), .int tt, .int pp, .int mo]) (n := 7) (Nat.le_of_ble_eq_true rfl)
  rw [lg_entry_eq]
  generalize (lg_sl ([.ref (ax 21), .int tt, .int pp, .int mo]) ++ List.replicate (7 - (lg_sl ([.ref (ax 21), .int tt, .int pp, .int mo])).length) Slot.unset).toArray = ls at hl ⊢
  have hl : lv_has ls 7 [(0, .ref (ax 21)), (1, .int tt), (2, .int pp), (3, .int mo)] := hl
  generalize hQe : MQ below _ _ _ _ _ _ = QQ
  refine lv_iload_n hx hb dX1_find_0 rfl (lv_at hl 1 rfl) ?_
  refine lv_iload_n hx hb dX1_find_1 rfl (lv_at hl 2 rfl) ?_
  obtain ⟨hPc, hDc, hFc, hCc⟩ := va_pre (ws' := []) hP hD hS hA [] (by decide) rfl
  refine va_calli (va_runS (As := [.int tt, .int pp]) (rest := []) ⟨hx, hb, hml, hown, hts⟩ (k_X1_owner l dC dI cA s.heap.size tt pp ) (va_cwS 2 hts gX1_find_X1_owner rfl rfl rfl (by decide +kernel) ⟨Nat.le_of_ble_eq_true rfl, Nat.le_of_ble_eq_true rfl⟩) ⟨fun a U g mk q => by obtain ⟨q0, q1, qP, qK, qD, qN⟩ := q; exact ⟨q0, q1, qP, va_K.moved (u := U) (U := U.calling g mk a) (Vm.Alike.refl U.vm) qK, qD, qN.same rfl⟩, fun U hU hW => ⟨rfl, by rw [hU], by rw [hU]; exact hPc, va_K.moved hW.alike hK, hDc.weaken (fun _ _ _ _ => trivial), hN.warm hW⟩⟩ rfl rfl hl.1 rfl (lv_room (Nat.le_of_ble_eq_true rfl)) dX1_find_2 ⟨Nat.le_of_ble_eq_true rfl, Nat.le_of_ble_eq_true rfl⟩) hS (fun q _ h => hFc q h) hFc (fun r_1 u_2 t H1 locs ht hvm hw_3 hB hz1 hk1 hS => ?_)
  try dsimp only at hw_3 hB
  obtain ⟨hP1, hD1⟩ := hB
  rw [ht] at hP1
  obtain ⟨hP, hD⟩ := va_join (wr := [((ax 21), .inr (1, [.ref (ax 22), .ref (ax 23), .ref (ax 24), .ref (ax 25), .int xPz])), ((ax 22), .inl (cA 0, 2000, .inl gPO)), ((ax 23), .inl (cA 0, 2000, .inl gPM))]) (w1 := []) hP hD [] [0, 1, 2] hCc rfl (by decide) (by decide) hk1 hFc hP1 hD1
  clear hz1
  generalize H1 = H at hP hS ⊢
  refine lv_istore (lv' := [(4, .int r_1), (0, .ref (ax 21)), (1, .int tt), (2, .int pp), (3, .int mo)]) hx hb dX1_find_5 hl (by decide) rfl (fun ls hl => ?_)
  refine lv_iconst (v := (-1)) hx hb dX1_find_7 (by decide) ?_
  refine lv_istore (lv' := [(5, .int (-1)), (4, .int r_1), (0, .ref (ax 21)), (1, .int tt), (2, .int pp), (3, .int mo)]) hx hb dX1_find_8 hl (by decide) rfl (fun ls hl => ?_)
  refine lv_iconst (v := 0) hx hb dX1_find_10 (by decide) ?_
  refine lv_istore (lv' := [(6, .int 0), (5, .int (-1)), (4, .int r_1), (0, .ref (ax 21)), (1, .int tt), (2, .int pp), (3, .int mo)]) hx hb dX1_find_11 hl (by decide) rfl (fun ls hl => ?_)
  have loop13_4 : ∀ (n : Nat) (i6 : Int32) (b5 : Int32) (H : Heap) (locs : List Loc) (ls : Array Slot), 2000 - i6.toInt < (n : Int) → (0 ≤ i6.toInt ∧ i6.toInt ≤ 2000) → ((-1) ≤ b5.toInt ∧ b5.toInt ≤ 1999) → va_P (dC, dI) vwCl [((ax 21), .inr (1, [.ref (ax 22), .ref (ax 23), .ref (ax 24), .ref (ax 25), .int xPz])), ((ax 22), .inl (cA 0, 2000, .inl gPO)), ((ax 23), .inl (cA 0, 2000, .inl gPM))] H → va_D A [((ax 21), .inr (1, [.ref (ax 22), .ref (ax 23), .ref (ax 24), .ref (ax 25), .int xPz])), ((ax 22), .inl (cA 0, 2000, .inl gPO)), ((ax 23), .inl (cA 0, 2000, .inl gPM))] → va_S A s.heap H locs → lv_has ls 7 [(6, .int i6), (5, .int b5), (4, .int r_1), (0, .ref (ax 21)), (1, .int tt), (2, .int pp), (3, .int mo)] → W p l e ({ frames := 1, cells := 0, slots := 0, locals := 21 }) s m ([.ref (ax 21), .int tt, .int pp, .int mo] : List Value).toArray below meth c H locs 0 0 QQ (F0 m 13 ls []) := by
    intro n
    induction n with
    | zero => intro i6 b5 H locs ls hme hv0_13 hv1_13; exfalso; omega
    | succ n ih_13 =>
      intro i6 b5 H locs ls hme_13 hv0_13 hv1_13 hP hD hS hl
      refine lv_iload hx hb dX1_find_13 (lv_at hl 0 rfl) ?_
      refine lv_aload_n hx hb dX1_find_15 rfl (lv_at hl 3 rfl) ?_
      refine va_get (D := (dC, dI)) (ci := 1) (v := .int xPz) (C := RX1) (T := TX1) (N := 5) hx hb hts hIX1 hown hK hP 0 rfl rfl 4 (by decide) (hts (.fieldLink RX1 26 "TraitHouse$Places" "size" "I") (by decide +kernel)) (fun _ h9 => h9) rfl dX1_find_16 ?_
      refine lv_icmp_ge (tgt := 78) hx hb dX1_find_19 (by decide) (fun c_5 => ?_) (fun c_5 => ?_)
      · have dc_5 : xPz.toInt ≤ i6.toInt := jI_le c_5 rfl rfl
        refine lv_iload hx hb dX1_find_78 (lv_at hl 1 rfl) ?_
        obtain ⟨hP9, hD9⟩ := va_pd (ws' := [((ax 21), .inr (1, [.ref (ax 22), .ref (ax 23), .ref (ax 24), .ref (ax 25), .int xPz])), ((ax 22), .inl (cA 0, 2000, .inl gPO)), ((ax 23), .inl (cA 0, 2000, .inl gPM))]) hP hD [0, 1, 2] (by decide) rfl
        subst hQe
        have hans : (b5 : Int32).toInt = b5.toInt := rfl
        have hpost : ((-1) ≤ (b5 : Int32).toInt ∧ (b5 : Int32).toInt ≤ 1999) := by omega
        exact W.iret (v := b5) hx hb hr (fun t ht hW => ⟨⟨b5, (), rfl, hpost, by rw [ht]; exact hP9, hD9⟩, hS.F ht⟩) hS.2.2 dX1_find_80
      · have dc_5 : i6.toInt < xPz.toInt := jI_nle c_5 rfl rfl
        refine lv_aload_n hx hb dX1_find_22 rfl (lv_at hl 3 rfl) ?_
        refine va_get (D := (dC, dI)) (ci := 1) (v := .ref (ax 22)) (C := RX1) (T := TX1) (N := 5) hx hb hts hIX1 hown hK hP 0 rfl rfl 0 (by decide) (hts (.fieldLink RX1 9 "TraitHouse$Places" "owners" "[I") (by decide +kernel)) (fun _ h9 => h9) rfl dX1_find_23 ?_
        refine lv_iload hx hb dX1_find_26 (lv_at hl 0 rfl) ?_
        have h_6 : vp_in i6 2000 := (vp_in_iff.mpr ⟨by omega, by omega⟩)
        refine va_iald hx hb hK hP 1 0 rfl rfl h_6 dX1_find_28 ?_
        refine lv_topi (fun x_7 ex_7 => ?_)
        refine lv_iload hx hb dX1_find_29 (lv_at hl 2 rfl) ?_
        refine lv_icmp_ne (tgt := 72) hx hb dX1_find_31 (by decide) (fun c_8 => ?_) (fun c_8 => ?_)
        · have dc_8 : ¬ x_7.toInt = r_1.toInt := jI_ne c_8 rfl rfl
          obtain ⟨x_9, ex_9⟩ : ∃ y : Int32, y = i6 + 1 := ⟨_, rfl⟩
          have dx_9 : x_9.toInt = i6.toInt + 1 := by rw [ex_9]; exact jI_add rfl (by decide) (by omega) (by omega)
          refine lv_iinc (v := x_9) (lv' := [(6, .int x_9), (5, .int b5), (4, .int r_1), (0, .ref (ax 21)), (1, .int tt), (2, .int pp), (3, .int mo)]) hx hb dX1_find_72 hl (k := 0) rfl (by rw [ex_9]; rfl) (by decide) rfl (fun ls hl => ?_)
          refine lv_goto (tgt := 13) hx hb dX1_find_75 (by decide) ?_
          exact ih_13 x_9 b5 _ _ ls (by omega) (by omega) hv1_13 (hP.sub [0, 1, 2] rfl) (hD.sub [0, 1, 2] (by decide) rfl) hS (lv_sub hl [0, 1, 2, 3, 4, 5, 6] rfl)
        · have dc_8 : x_7.toInt = r_1.toInt := jI_eq c_8 rfl rfl
          refine lv_aload_n hx hb dX1_find_34 rfl (lv_at hl 3 rfl) ?_
          refine va_get (D := (dC, dI)) (ci := 1) (v := .ref (ax 23)) (C := RX1) (T := TX1) (N := 5) hx hb hts hIX1 hown hK hP 0 rfl rfl 1 (by decide) (hts (.fieldLink RX1 15 "TraitHouse$Places" "moments" "[I") (by decide +kernel)) (fun _ h9 => h9) rfl dX1_find_35 ?_
          refine lv_iload hx hb dX1_find_38 (lv_at hl 0 rfl) ?_
          have h_10 : vp_in i6 2000 := (vp_in_iff.mpr ⟨by omega, by omega⟩)
          refine va_iald hx hb hK hP 2 0 rfl rfl h_10 dX1_find_40 ?_
          refine lv_topi (fun x_11 ex_11 => ?_)
          refine lv_iload_n hx hb dX1_find_41 rfl (lv_at hl 6 rfl) ?_
          refine lv_icmp_gt (tgt := 72) hx hb dX1_find_42 (by decide) (fun c_12 => ?_) (fun c_12 => ?_)
          · have dc_12 : mo.toInt < x_11.toInt := jI_lt c_12 rfl rfl
            obtain ⟨x_13, ex_13⟩ : ∃ y : Int32, y = i6 + 1 := ⟨_, rfl⟩
            have dx_13 : x_13.toInt = i6.toInt + 1 := by rw [ex_13]; exact jI_add rfl (by decide) (by omega) (by omega)
            refine lv_iinc (v := x_13) (lv' := [(6, .int x_13), (5, .int b5), (4, .int r_1), (0, .ref (ax 21)), (1, .int tt), (2, .int pp), (3, .int mo)]) hx hb dX1_find_72 hl (k := 0) rfl (by rw [ex_13]; rfl) (by decide) rfl (fun ls hl => ?_)
            refine lv_goto (tgt := 13) hx hb dX1_find_75 (by decide) ?_
            exact ih_13 x_13 b5 _ _ ls (by omega) (by omega) hv1_13 (hP.sub [0, 1, 2] rfl) (hD.sub [0, 1, 2] (by decide) rfl) hS (lv_sub hl [0, 1, 2, 3, 4, 5, 6] rfl)
          · have dc_12 : x_11.toInt ≤ mo.toInt := jI_nlt c_12 rfl rfl
            refine lv_iload hx hb dX1_find_45 (lv_at hl 1 rfl) ?_
            refine lv_iconst (v := (-1)) hx hb dX1_find_47 (by decide) ?_
            refine lv_icmp_eq (tgt := 68) hx hb dX1_find_48 (by decide) (fun c_14 => ?_) (fun c_14 => ?_)
            · have dc_14 : b5.toInt = (-1) := jI_eq c_14 rfl (by decide)
              refine lv_iload hx hb dX1_find_68 (lv_at hl 0 rfl) ?_
              refine lv_istore (lv' := [(5, .int i6), (6, .int i6), (4, .int r_1), (0, .ref (ax 21)), (1, .int tt), (2, .int pp), (3, .int mo)]) hx hb dX1_find_70 hl (by decide) rfl (fun ls hl => ?_)
              obtain ⟨x_15, ex_15⟩ : ∃ y : Int32, y = i6 + 1 := ⟨_, rfl⟩
              have dx_15 : x_15.toInt = i6.toInt + 1 := by rw [ex_15]; exact jI_add rfl (by decide) (by omega) (by omega)
              refine lv_iinc (v := x_15) (lv' := [(6, .int x_15), (5, .int i6), (4, .int r_1), (0, .ref (ax 21)), (1, .int tt), (2, .int pp), (3, .int mo)]) hx hb dX1_find_72 hl (k := 1) rfl (by rw [ex_15]; rfl) (by decide) rfl (fun ls hl => ?_)
              refine lv_goto (tgt := 13) hx hb dX1_find_75 (by decide) ?_
              exact ih_13 x_15 i6 _ _ ls (by omega) (by omega) (by omega) (hP.sub [0, 1, 2] rfl) (hD.sub [0, 1, 2] (by decide) rfl) hS (lv_sub hl [0, 1, 2, 3, 4, 5, 6] rfl)
            · have dc_14 : ¬ b5.toInt = (-1) := jI_ne c_14 rfl (by decide)
              refine lv_aload_n hx hb dX1_find_51 rfl (lv_at hl 3 rfl) ?_
              refine va_get (D := (dC, dI)) (ci := 1) (v := .ref (ax 23)) (C := RX1) (T := TX1) (N := 5) hx hb hts hIX1 hown hK hP 0 rfl rfl 1 (by decide) (hts (.fieldLink RX1 15 "TraitHouse$Places" "moments" "[I") (by decide +kernel)) (fun _ h9 => h9) rfl dX1_find_52 ?_
              refine lv_iload hx hb dX1_find_55 (lv_at hl 0 rfl) ?_
              have h_16 : vp_in i6 2000 := (vp_in_iff.mpr ⟨by omega, by omega⟩)
              refine va_iald hx hb hK hP 2 0 rfl rfl h_16 dX1_find_57 ?_
              refine lv_topi (fun x_17 ex_17 => ?_)
              refine lv_aload_n hx hb dX1_find_58 rfl (lv_at hl 3 rfl) ?_
              refine va_get (D := (dC, dI)) (ci := 1) (v := .ref (ax 23)) (C := RX1) (T := TX1) (N := 5) hx hb hts hIX1 hown hK hP 0 rfl rfl 1 (by decide) (hts (.fieldLink RX1 15 "TraitHouse$Places" "moments" "[I") (by decide +kernel)) (fun _ h9 => h9) rfl dX1_find_59 ?_
              refine lv_iload hx hb dX1_find_62 (lv_at hl 1 rfl) ?_
              have h_18 : vp_in b5 2000 := (vp_in_iff.mpr ⟨by omega, by omega⟩)
              refine va_iald hx hb hK hP 2 0 rfl rfl h_18 dX1_find_64 ?_
              refine lv_topi (fun x_19 ex_19 => ?_)
              refine lv_icmp_lt (tgt := 72) hx hb dX1_find_65 (by decide) (fun c_20 => ?_) (fun c_20 => ?_)
              · have dc_20 : x_17.toInt < x_19.toInt := jI_lt c_20 rfl rfl
                obtain ⟨x_21, ex_21⟩ : ∃ y : Int32, y = i6 + 1 := ⟨_, rfl⟩
                have dx_21 : x_21.toInt = i6.toInt + 1 := by rw [ex_21]; exact jI_add rfl (by decide) (by omega) (by omega)
                refine lv_iinc (v := x_21) (lv' := [(6, .int x_21), (5, .int b5), (4, .int r_1), (0, .ref (ax 21)), (1, .int tt), (2, .int pp), (3, .int mo)]) hx hb dX1_find_72 hl (k := 0) rfl (by rw [ex_21]; rfl) (by decide) rfl (fun ls hl => ?_)
                refine lv_goto (tgt := 13) hx hb dX1_find_75 (by decide) ?_
                exact ih_13 x_21 b5 _ _ ls (by omega) (by omega) hv1_13 (hP.sub [0, 1, 2] rfl) (hD.sub [0, 1, 2] (by decide) rfl) hS (lv_sub hl [0, 1, 2, 3, 4, 5, 6] rfl)
              · have dc_20 : x_19.toInt ≤ x_17.toInt := jI_nlt c_20 rfl rfl
                refine lv_iload hx hb dX1_find_68 (lv_at hl 0 rfl) ?_
                refine lv_istore (lv' := [(5, .int i6), (6, .int i6), (4, .int r_1), (0, .ref (ax 21)), (1, .int tt), (2, .int pp), (3, .int mo)]) hx hb dX1_find_70 hl (by decide) rfl (fun ls hl => ?_)
                obtain ⟨x_22, ex_22⟩ : ∃ y : Int32, y = i6 + 1 := ⟨_, rfl⟩
                have dx_22 : x_22.toInt = i6.toInt + 1 := by rw [ex_22]; exact jI_add rfl (by decide) (by omega) (by omega)
                refine lv_iinc (v := x_22) (lv' := [(6, .int x_22), (5, .int i6), (4, .int r_1), (0, .ref (ax 21)), (1, .int tt), (2, .int pp), (3, .int mo)]) hx hb dX1_find_72 hl (k := 1) rfl (by rw [ex_22]; rfl) (by decide) rfl (fun ls hl => ?_)
                refine lv_goto (tgt := 13) hx hb dX1_find_75 (by decide) ?_
                exact ih_13 x_22 i6 _ _ ls (by omega) (by omega) (by omega) (hP.sub [0, 1, 2] rfl) (hD.sub [0, 1, 2] (by decide) rfl) hS (lv_sub hl [0, 1, 2, 3, 4, 5, 6] rfl)
  have hk_23 : (0 : Int32).toInt = 0 := by decide
  have hk_24 : ((-1) : Int32).toInt = (-1) := by decide
  exact loop13_4 (Int.toNat (2000 - (0 : Int32).toInt) + 1) 0 (-1) _ _ ls (by omega) (by omega) (by omega) hP hD hS (lv_sub hl [0, 1, 2, 3, 4, 5, 6] rfl)

set_option maxHeartbeats 8000000 in
set_option maxRecDepth 100000 in
theorem k_X1_forget (l : Launch) (dC : Nat → ClassId) (dI : Nat → Nat → Nat) (cA : Nat → ClassId) (sz : Nat) (ax : Nat → Nat) (xPz : Int32) (gPO : Nat → Int32) (gPV : Nat → Int64) (a : Int32) (i_xPz : 0 ≤ xPz.toInt ∧ xPz.toInt ≤ 2000)  : Met l yX1_forget wsX1_forget ({ frames := 0, cells := 0, slots := 0, locals := 0 }) (va_Pc [.ref (ax 21), .int a] (fun U => U.heap.size = sz ∧ va_P (dC, dI) vwCl [((ax 21), .inr (1, [.ref (ax 22), .ref (ax 23), .ref (ax 24), .ref (ax 25), .int xPz])), ((ax 22), .inl (cA 0, 2000, .inl gPO)), ((ax 25), .inl (cA 1, 2000, .inr (.inl gPV)))] U.heap ∧ va_K (dC, dI) vwCl (tyL cA) U ∧ va_D (fun _ => True) [((ax 21), .inr (1, [.ref (ax 22), .ref (ax 23), .ref (ax 24), .ref (ax 25), .int xPz])), ((ax 22), .inl (cA 0, 2000, .inl gPO)), ((ax 25), .inl (cA 1, 2000, .inr (.inl gPV)))] ∧ nw_ok U)) (va_Qv (fun (u : (Nat → Int32) × (Nat → Int64)) => True) (fun (u : (Nat → Int32) × (Nat → Int64)) (t : State) => va_P (dC, dI) vwCl [((ax 21), .inr (1, [.ref (ax 22), .ref (ax 23), .ref (ax 24), .ref (ax 25), .int xPz])), ((ax 22), .inl (cA 0, 2000, .inl u.1)), ((ax 25), .inl (cA 1, 2000, .inr (.inl u.2)))] t.heap ∧ va_D (va_A [((ax 21), .inr (1, [.ref (ax 22), .ref (ax 23), .ref (ax 24), .ref (ax 25), .int xPz])), ((ax 22), .inl (cA 0, 2000, .inl gPO)), ((ax 25), .inl (cA 1, 2000, .inr (.inl gPV)))] sz) [((ax 21), .inr (1, [.ref (ax 22), .ref (ax 23), .ref (ax 24), .ref (ax 25), .int xPz])), ((ax 22), .inl (cA 0, 2000, .inl u.1)), ((ax 25), .inl (cA 1, 2000, .inr (.inl u.2)))]) (va_A [((ax 21), .inr (1, [.ref (ax 22), .ref (ax 23), .ref (ax 24), .ref (ax 25), .int xPz])), ((ax 22), .inl (cA 0, 2000, .inl gPO)), ((ax 25), .inl (cA 1, 2000, .inr (.inl gPV)))] sz)) 0 0 (va_A [((ax 21), .inr (1, [.ref (ax 22), .ref (ax 23), .ref (ax 24), .ref (ax 25), .int xPz])), ((ax 22), .inl (cA 0, 2000, .inl gPO)), ((ax 25), .inl (cA 1, 2000, .inr (.inl gPV)))] sz) := by
  refine Met.ofW (cc := cX1_forget) (maxL := 3) (ret := none) (by decide) rfl ?_
  intro p e s m args below meth c s₁ B hml hv
  obtain ⟨rfl, hsz, hP, hK, hD0, hN⟩ := hv
  have hx := B.exec
  have hb := B.bytes
  have hr := B.returns
  have hts := atoms_spec (ws := wsX1_forget) B.pre
  have hown : s.vm.findClass RX1 = some m.cls := findClass_of_methodNamed B.named
  have hlocks := B.notSynchronized
  subst hsz
  have hD := hD0.self (sz := s.heap.size)
  generalize hAe : va_A [((ax 21), .inr (1, [.ref (ax 22), .ref (ax 23), .ref (ax 24), .ref (ax 25), .int xPz])), ((ax 22), .inl (cA 0, 2000, .inl gPO)), ((ax 25), .inl (cA 1, 2000, .inr (.inl gPV)))] s.heap.size = A at hD ⊢
  have hA : ∀ q : Nat, s.heap.size ≤ q → A q := fun q h => by rw [← hAe]; exact Or.inr h
  have hS : va_S A s.heap s.heap [] := va_S.rf
  have hIX1 : ∀ w ∈ u_ws RX1 TX1 5, w ∈ wsX1_forget := by decide +kernel
  have hl := lv_entry ([.ref (ax 21), .int a]) (n := 3) (Nat.le_of_ble_eq_true rfl)
  rw [lg_entry_eq]
  generalize (lg_sl ([.ref (ax 21), .int a]) ++ List.replicate (3 - (lg_sl ([.ref (ax 21), .int a])).length) Slot.unset).toArray = ls at hl ⊢
  have hl : lv_has ls 3 [(0, .ref (ax 21)), (1, .int a)] := hl
  generalize hQe : MQ below _ _ _ _ _ _ = QQ
  refine lv_iconst (v := 0) hx hb dX1_forget_0 (by decide) ?_
  refine lv_istore_n (lv' := [(2, .int 0), (0, .ref (ax 21)), (1, .int a)]) hx hb dX1_forget_1 rfl hl (by decide) rfl (fun ls hl => ?_)
  have loop2_1 : ∀ (n : Nat) (i2 : Int32) (w_gPO_2 : Nat → Int32) (w_gPV_2 : Nat → Int64) (H : Heap) (locs : List Loc) (ls : Array Slot), 2000 - i2.toInt < (n : Int) → (0 ≤ i2.toInt ∧ i2.toInt ≤ 2000) → va_P (dC, dI) vwCl [((ax 21), .inr (1, [.ref (ax 22), .ref (ax 23), .ref (ax 24), .ref (ax 25), .int xPz])), ((ax 22), .inl (cA 0, 2000, .inl w_gPO_2)), ((ax 25), .inl (cA 1, 2000, .inr (.inl w_gPV_2)))] H → va_D A [((ax 21), .inr (1, [.ref (ax 22), .ref (ax 23), .ref (ax 24), .ref (ax 25), .int xPz])), ((ax 22), .inl (cA 0, 2000, .inl w_gPO_2)), ((ax 25), .inl (cA 1, 2000, .inr (.inl w_gPV_2)))] → va_S A s.heap H locs → lv_has ls 3 [(2, .int i2), (0, .ref (ax 21)), (1, .int a)] → W p l e ({ frames := 0, cells := 0, slots := 0, locals := 0 }) s m ([.ref (ax 21), .int a] : List Value).toArray below meth c H locs 0 0 QQ (F0 m 2 ls []) := by
    intro n
    induction n with
    | zero => intro i2 w_gPO_2 w_gPV_2 H locs ls hme hv0_2; exfalso; omega
    | succ n ih_2 =>
      intro i2 w_gPO_2 w_gPV_2 H locs ls hme_2 hv0_2 hP hD hS hl
      refine lv_iload_n hx hb dX1_forget_2 rfl (lv_at hl 0 rfl) ?_
      refine lv_aload_n hx hb dX1_forget_3 rfl (lv_at hl 1 rfl) ?_
      refine va_get (D := (dC, dI)) (ci := 1) (v := .int xPz) (C := RX1) (T := TX1) (N := 5) hx hb hts hIX1 hown hK hP 0 rfl rfl 4 (by decide) (hts (.fieldLink RX1 26 "TraitHouse$Places" "size" "I") (by decide +kernel)) (fun _ h9 => h9) rfl dX1_forget_4 ?_
      refine lv_icmp_ge (tgt := 55) hx hb dX1_forget_7 (by decide) (fun c_2 => ?_) (fun c_2 => ?_)
      · have dc_2 : xPz.toInt ≤ i2.toInt := jI_le c_2 rfl rfl
        obtain ⟨hP9, hD9⟩ := va_pd (ws' := [((ax 21), .inr (1, [.ref (ax 22), .ref (ax 23), .ref (ax 24), .ref (ax 25), .int xPz])), ((ax 22), .inl (cA 0, 2000, .inl w_gPO_2)), ((ax 25), .inl (cA 1, 2000, .inr (.inl w_gPV_2)))]) hP hD [0, 1, 2] (by decide) rfl
        subst hQe
        exact W.vret hx hb hr (fun t ht hW => ⟨⟨(w_gPO_2, w_gPV_2), rfl, trivial, by rw [ht]; exact hP9, hD9⟩, hS.F ht⟩) hS.2.2 dX1_forget_55
      · have dc_2 : i2.toInt < xPz.toInt := jI_nle c_2 rfl rfl
        refine lv_aload_n hx hb dX1_forget_10 rfl (lv_at hl 1 rfl) ?_
        refine va_get (D := (dC, dI)) (ci := 1) (v := .ref (ax 22)) (C := RX1) (T := TX1) (N := 5) hx hb hts hIX1 hown hK hP 0 rfl rfl 0 (by decide) (hts (.fieldLink RX1 9 "TraitHouse$Places" "owners" "[I") (by decide +kernel)) (fun _ h9 => h9) rfl dX1_forget_11 ?_
        refine lv_iload_n hx hb dX1_forget_14 rfl (lv_at hl 0 rfl) ?_
        have h_3 : vp_in i2 2000 := (vp_in_iff.mpr ⟨by omega, by omega⟩)
        refine va_iald hx hb hK hP 1 0 rfl rfl h_3 dX1_forget_15 ?_
        refine lv_topi (fun x_4 ex_4 => ?_)
        refine lv_iconst (v := (-1)) hx hb dX1_forget_16 (by decide) ?_
        refine lv_icmp_eq (tgt := 49) hx hb dX1_forget_17 (by decide) (fun c_5 => ?_) (fun c_5 => ?_)
        · have dc_5 : x_4.toInt = (-1) := jI_eq c_5 rfl (by decide)
          obtain ⟨x_6, ex_6⟩ : ∃ y : Int32, y = i2 + 1 := ⟨_, rfl⟩
          have dx_6 : x_6.toInt = i2.toInt + 1 := by rw [ex_6]; exact jI_add rfl (by decide) (by omega) (by omega)
          refine lv_iinc (v := x_6) (lv' := [(2, .int x_6), (0, .ref (ax 21)), (1, .int a)]) hx hb dX1_forget_49 hl (k := 0) rfl (by rw [ex_6]; rfl) (by decide) rfl (fun ls hl => ?_)
          refine lv_goto (tgt := 2) hx hb dX1_forget_52 (by decide) ?_
          exact ih_2 x_6 w_gPO_2 w_gPV_2 _ _ ls (by omega) (by omega) (hP.sub [0, 1, 2] rfl) (hD.sub [0, 1, 2] (by decide) rfl) hS (lv_sub hl [0, 1, 2] rfl)
        · have dc_5 : ¬ x_4.toInt = (-1) := jI_ne c_5 rfl (by decide)
          refine lv_aload_n hx hb dX1_forget_20 rfl (lv_at hl 1 rfl) ?_
          refine va_get (D := (dC, dI)) (ci := 1) (v := .ref (ax 22)) (C := RX1) (T := TX1) (N := 5) hx hb hts hIX1 hown hK hP 0 rfl rfl 0 (by decide) (hts (.fieldLink RX1 9 "TraitHouse$Places" "owners" "[I") (by decide +kernel)) (fun _ h9 => h9) rfl dX1_forget_21 ?_
          refine lv_iload_n hx hb dX1_forget_24 rfl (lv_at hl 0 rfl) ?_
          have h_7 : vp_in i2 2000 := (vp_in_iff.mpr ⟨by omega, by omega⟩)
          refine va_iald hx hb hK hP 1 0 rfl rfl h_7 dX1_forget_25 ?_
          refine lv_topi (fun x_8 ex_8 => ?_)
          refine lv_bipush (v := 20) hx hb dX1_forget_26 (by decide) ?_
          refine lv_irem hx hb dX1_forget_28 (by decide) ?_
          refine lv_topi (fun x_9 ex_9 => ?_)
          refine lv_iload_n hx hb dX1_forget_29 rfl (lv_at hl 2 rfl) ?_
          refine lv_icmp_ne (tgt := 49) hx hb dX1_forget_30 (by decide) (fun c_10 => ?_) (fun c_10 => ?_)
          · have dc_10 : ¬ x_9.toInt = a.toInt := jI_ne c_10 rfl rfl
            obtain ⟨x_11, ex_11⟩ : ∃ y : Int32, y = i2 + 1 := ⟨_, rfl⟩
            have dx_11 : x_11.toInt = i2.toInt + 1 := by rw [ex_11]; exact jI_add rfl (by decide) (by omega) (by omega)
            refine lv_iinc (v := x_11) (lv' := [(2, .int x_11), (0, .ref (ax 21)), (1, .int a)]) hx hb dX1_forget_49 hl (k := 0) rfl (by rw [ex_11]; rfl) (by decide) rfl (fun ls hl => ?_)
            refine lv_goto (tgt := 2) hx hb dX1_forget_52 (by decide) ?_
            exact ih_2 x_11 w_gPO_2 w_gPV_2 _ _ ls (by omega) (by omega) (hP.sub [0, 1, 2] rfl) (hD.sub [0, 1, 2] (by decide) rfl) hS (lv_sub hl [0, 1, 2] rfl)
          · have dc_10 : x_9.toInt = a.toInt := jI_eq c_10 rfl rfl
            refine lv_aload_n hx hb dX1_forget_33 rfl (lv_at hl 1 rfl) ?_
            refine va_get (D := (dC, dI)) (ci := 1) (v := .ref (ax 22)) (C := RX1) (T := TX1) (N := 5) hx hb hts hIX1 hown hK hP 0 rfl rfl 0 (by decide) (hts (.fieldLink RX1 9 "TraitHouse$Places" "owners" "[I") (by decide +kernel)) (fun _ h9 => h9) rfl dX1_forget_34 ?_
            refine lv_iload_n hx hb dX1_forget_37 rfl (lv_at hl 0 rfl) ?_
            refine lv_iconst (v := (-1)) hx hb dX1_forget_38 (by decide) ?_
            have h_12 : vp_in i2 2000 := (vp_in_iff.mpr ⟨by omega, by omega⟩)
            refine va_iast hx hb hK hP hD hS 1 0 rfl rfl h_12 dX1_forget_39 (fun H locs hP hD hS => ?_)
            replace hP : va_P (dC, dI) vwCl [((ax 21), .inr (1, [.ref (ax 22), .ref (ax 23), .ref (ax 24), .ref (ax 25), .int xPz])), ((ax 22), .inl (cA 0, 2000, .inl (upd w_gPO_2 i2.toNatClampNeg (-1)))), ((ax 25), .inl (cA 1, 2000, .inr (.inl w_gPV_2)))] H := hP
            replace hD : va_D A [((ax 21), .inr (1, [.ref (ax 22), .ref (ax 23), .ref (ax 24), .ref (ax 25), .int xPz])), ((ax 22), .inl (cA 0, 2000, .inl (upd w_gPO_2 i2.toNatClampNeg (-1)))), ((ax 25), .inl (cA 1, 2000, .inr (.inl w_gPV_2)))] := hD
            obtain ⟨g_13, eg_13⟩ : ∃ g : Nat → Int32, g = upd w_gPO_2 i2.toNatClampNeg (-1) := ⟨_, rfl⟩
            rw [← eg_13] at hP hD
            refine lv_aload_n hx hb dX1_forget_40 rfl (lv_at hl 1 rfl) ?_
            refine va_get (D := (dC, dI)) (ci := 1) (v := .ref (ax 25)) (C := RX1) (T := TX1) (N := 5) hx hb hts hIX1 hown hK hP 0 rfl rfl 3 (by decide) (hts (.fieldLink RX1 22 "TraitHouse$Places" "values" "[J") (by decide +kernel)) (fun _ h9 => h9) rfl dX1_forget_41 ?_
            refine lv_iload_n hx hb dX1_forget_44 rfl (lv_at hl 0 rfl) ?_
            refine lv_ldc2 hx hb hown (hts (.constantLong RX1 34 (-9000000000000000000)) (by decide +kernel)) dX1_forget_45 ?_
            have h_14 : vp_in i2 2000 := (vp_in_iff.mpr ⟨by omega, by omega⟩)
            refine va_last hx hb hK hP hD hS 2 1 rfl rfl h_14 dX1_forget_48 (fun H locs hP hD hS => ?_)
            replace hP : va_P (dC, dI) vwCl [((ax 21), .inr (1, [.ref (ax 22), .ref (ax 23), .ref (ax 24), .ref (ax 25), .int xPz])), ((ax 22), .inl (cA 0, 2000, .inl g_13)), ((ax 25), .inl (cA 1, 2000, .inr (.inl (vp_updL w_gPV_2 i2.toNatClampNeg (-9000000000000000000)))))] H := hP
            replace hD : va_D A [((ax 21), .inr (1, [.ref (ax 22), .ref (ax 23), .ref (ax 24), .ref (ax 25), .int xPz])), ((ax 22), .inl (cA 0, 2000, .inl g_13)), ((ax 25), .inl (cA 1, 2000, .inr (.inl (vp_updL w_gPV_2 i2.toNatClampNeg (-9000000000000000000)))))] := hD
            obtain ⟨g_15, eg_15⟩ : ∃ g : Nat → Int64, g = vp_updL w_gPV_2 i2.toNatClampNeg (-9000000000000000000) := ⟨_, rfl⟩
            rw [← eg_15] at hP hD
            obtain ⟨x_16, ex_16⟩ : ∃ y : Int32, y = i2 + 1 := ⟨_, rfl⟩
            have dx_16 : x_16.toInt = i2.toInt + 1 := by rw [ex_16]; exact jI_add rfl (by decide) (by omega) (by omega)
            refine lv_iinc (v := x_16) (lv' := [(2, .int x_16), (0, .ref (ax 21)), (1, .int a)]) hx hb dX1_forget_49 hl (k := 0) rfl (by rw [ex_16]; rfl) (by decide) rfl (fun ls hl => ?_)
            refine lv_goto (tgt := 2) hx hb dX1_forget_52 (by decide) ?_
            exact ih_2 x_16 g_13 g_15 _ _ ls (by omega) (by omega) (hP.sub [0, 1, 2] rfl) (hD.sub [0, 1, 2] (by decide) rfl) hS (lv_sub hl [0, 1, 2] rfl)
  have hk_17 : (0 : Int32).toInt = 0 := by decide
  exact loop2_1 (Int.toNat (2000 - (0 : Int32).toInt) + 1) 0 gPO gPV _ _ ls (by omega) (by omega) hP hD hS (lv_sub hl [0, 1, 2] rfl)
