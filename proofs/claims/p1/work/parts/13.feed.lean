theorem dX11_dip_0 : decode cX11_dip 0 = .ok (.aload_n 0, 1) := by decide +kernel
theorem dX11_dip_1 : decode cX11_dip 1 = .ok (.iload_n 1, 1) := by decide +kernel
theorem dX11_dip_11 : decode cX11_dip 11 = .ok (.iload_n 2, 1) := by decide +kernel
theorem dX11_dip_12 : decode cX11_dip 12 = .ok (.iconst 1, 1) := by decide +kernel
theorem dX11_dip_13 : decode cX11_dip 13 = .ok (.bipush 30, 2) := by decide +kernel
theorem dX11_dip_15 : decode cX11_dip 15 = .ok (.invokestatic 130, 3) := by decide +kernel
theorem dX11_dip_18 : decode cX11_dip 18 = .ok (.ifCond .eq 17, 3) := by decide +kernel
theorem dX11_dip_2 : decode cX11_dip 2 = .ok (.iconst 1, 1) := by decide +kernel
theorem dX11_dip_21 : decode cX11_dip 21 = .ok (.iload_n 3, 1) := by decide +kernel
theorem dX11_dip_22 : decode cX11_dip 22 = .ok (.iconst 1, 1) := by decide +kernel
theorem dX11_dip_23 : decode cX11_dip 23 = .ok (.bipush 99, 2) := by decide +kernel
theorem dX11_dip_25 : decode cX11_dip 25 = .ok (.invokestatic 130, 3) := by decide +kernel
theorem dX11_dip_28 : decode cX11_dip 28 = .ok (.ifCond .eq 7, 3) := by decide +kernel
theorem dX11_dip_3 : decode cX11_dip 3 = .ok (.bipush 99, 2) := by decide +kernel
theorem dX11_dip_31 : decode cX11_dip 31 = .ok (.iconst 1, 1) := by decide +kernel
theorem dX11_dip_32 : decode cX11_dip 32 = .ok (.goto 4, 3) := by decide +kernel
theorem dX11_dip_35 : decode cX11_dip 35 = .ok (.iconst 0, 1) := by decide +kernel
theorem dX11_dip_36 : decode cX11_dip 36 = .ok (.invokevirtual 134, 3) := by decide +kernel
theorem dX11_dip_39 : decode cX11_dip 39 = .ok (.aload_n 0, 1) := by decide +kernel
theorem dX11_dip_40 : decode cX11_dip 40 = .ok (.getfield 41, 3) := by decide +kernel
theorem dX11_dip_43 : decode cX11_dip 43 = .ok (.iload_n 1, 1) := by decide +kernel
theorem dX11_dip_44 : decode cX11_dip 44 = .ok (.iload_n 2, 1) := by decide +kernel
theorem dX11_dip_45 : decode cX11_dip 45 = .ok (.iload_n 3, 1) := by decide +kernel
theorem dX11_dip_46 : decode cX11_dip 46 = .ok (.invokevirtual 308, 3) := by decide +kernel
theorem dX11_dip_49 : decode cX11_dip 49 = .ok (.ireturn, 1) := by decide +kernel
theorem dX11_dip_5 : decode cX11_dip 5 = .ok (.invokestatic 130, 3) := by decide +kernel
theorem dX11_dip_8 : decode cX11_dip 8 = .ok (.ifCond .eq 27, 3) := by decide +kernel
theorem dX11_feed_0 : decode cX11_feed 0 = .ok (.aload_n 0, 1) := by decide +kernel
theorem dX11_feed_1 : decode cX11_feed 1 = .ok (.getfield 10, 3) := by decide +kernel
theorem dX11_feed_12 : decode cX11_feed 12 = .ok (.aload_n 0, 1) := by decide +kernel
theorem dX11_feed_13 : decode cX11_feed 13 = .ok (.getfield 10, 3) := by decide +kernel
theorem dX11_feed_16 : decode cX11_feed 16 = .ok (.iload_n 1, 1) := by decide +kernel
theorem dX11_feed_17 : decode cX11_feed 17 = .ok (.invokevirtual 77, 3) := by decide +kernel
theorem dX11_feed_20 : decode cX11_feed 20 = .ok (.aload_n 0, 1) := by decide +kernel
theorem dX11_feed_21 : decode cX11_feed 21 = .ok (.getfield 10, 3) := by decide +kernel
theorem dX11_feed_24 : decode cX11_feed 24 = .ok (.iload_n 2, 1) := by decide +kernel
theorem dX11_feed_25 : decode cX11_feed 25 = .ok (.invokevirtual 77, 3) := by decide +kernel
theorem dX11_feed_28 : decode cX11_feed 28 = .ok (.aload_n 0, 1) := by decide +kernel
theorem dX11_feed_29 : decode cX11_feed 29 = .ok (.getfield 10, 3) := by decide +kernel
theorem dX11_feed_32 : decode cX11_feed 32 = .ok (.iload_n 3, 1) := by decide +kernel
theorem dX11_feed_33 : decode cX11_feed 33 = .ok (.invokevirtual 77, 3) := by decide +kernel
theorem dX11_feed_36 : decode cX11_feed 36 = .ok (.aload_n 0, 1) := by decide +kernel
theorem dX11_feed_37 : decode cX11_feed 37 = .ok (.getfield 10, 3) := by decide +kernel
theorem dX11_feed_4 : decode cX11_feed 4 = .ok (.invokevirtual 73, 3) := by decide +kernel
theorem dX11_feed_40 : decode cX11_feed 40 = .ok (.iload 4, 2) := by decide +kernel
theorem dX11_feed_42 : decode cX11_feed 42 = .ok (.invokevirtual 77, 3) := by decide +kernel
theorem dX11_feed_45 : decode cX11_feed 45 = .ok (.aload_n 0, 1) := by decide +kernel
theorem dX11_feed_46 : decode cX11_feed 46 = .ok (.getfield 10, 3) := by decide +kernel
theorem dX11_feed_49 : decode cX11_feed 49 = .ok (.iload 5, 2) := by decide +kernel
theorem dX11_feed_51 : decode cX11_feed 51 = .ok (.invokevirtual 77, 3) := by decide +kernel
theorem dX11_feed_54 : decode cX11_feed 54 = .ok (.aload_n 0, 1) := by decide +kernel
theorem dX11_feed_55 : decode cX11_feed 55 = .ok (.getfield 10, 3) := by decide +kernel
theorem dX11_feed_58 : decode cX11_feed 58 = .ok (.getfield 81, 3) := by decide +kernel
theorem dX11_feed_61 : decode cX11_feed 61 = .ok (.ireturn, 1) := by decide +kernel
theorem dX11_feed_7 : decode cX11_feed 7 = .ok (.ifCond .ne 5, 3) := by decide +kernel
theorem dX11_share_0 : decode cX11_share 0 = .ok (.aload_n 0, 1) := by decide +kernel
theorem dX11_share_1 : decode cX11_share 1 = .ok (.iload_n 1, 1) := by decide +kernel
theorem dX11_share_10 : decode cX11_share 10 = .ok (.iload_n 2, 1) := by decide +kernel
theorem dX11_share_11 : decode cX11_share 11 = .ok (.iconst 0, 1) := by decide +kernel
theorem dX11_share_12 : decode cX11_share 12 = .ok (.bipush 99, 2) := by decide +kernel
theorem dX11_share_14 : decode cX11_share 14 = .ok (.invokestatic 130, 3) := by decide +kernel
theorem dX11_share_17 : decode cX11_share 17 = .ok (.ifCond .eq 7, 3) := by decide +kernel
theorem dX11_share_2 : decode cX11_share 2 = .ok (.iconst 0, 1) := by decide +kernel
theorem dX11_share_20 : decode cX11_share 20 = .ok (.iconst 1, 1) := by decide +kernel
theorem dX11_share_21 : decode cX11_share 21 = .ok (.goto 4, 3) := by decide +kernel
theorem dX11_share_24 : decode cX11_share 24 = .ok (.iconst 0, 1) := by decide +kernel
theorem dX11_share_25 : decode cX11_share 25 = .ok (.invokevirtual 134, 3) := by decide +kernel
theorem dX11_share_28 : decode cX11_share 28 = .ok (.aload_n 0, 1) := by decide +kernel
theorem dX11_share_29 : decode cX11_share 29 = .ok (.getfield 41, 3) := by decide +kernel
theorem dX11_share_3 : decode cX11_share 3 = .ok (.iconst 3, 1) := by decide +kernel
theorem dX11_share_32 : decode cX11_share 32 = .ok (.getfield 301, 3) := by decide +kernel
theorem dX11_share_35 : decode cX11_share 35 = .ok (.iload_n 1, 1) := by decide +kernel
theorem dX11_share_36 : decode cX11_share 36 = .ok (.iaload, 1) := by decide +kernel
theorem dX11_share_37 : decode cX11_share 37 = .ok (.istore_n 3, 1) := by decide +kernel
theorem dX11_share_38 : decode cX11_share 38 = .ok (.aload_n 0, 1) := by decide +kernel
theorem dX11_share_39 : decode cX11_share 39 = .ok (.getfield 41, 3) := by decide +kernel
theorem dX11_share_4 : decode cX11_share 4 = .ok (.invokestatic 130, 3) := by decide +kernel
theorem dX11_share_42 : decode cX11_share 42 = .ok (.getfield 301, 3) := by decide +kernel
theorem dX11_share_45 : decode cX11_share 45 = .ok (.iload_n 1, 1) := by decide +kernel
theorem dX11_share_46 : decode cX11_share 46 = .ok (.iload_n 2, 1) := by decide +kernel
theorem dX11_share_47 : decode cX11_share 47 = .ok (.iastore, 1) := by decide +kernel
theorem dX11_share_48 : decode cX11_share 48 = .ok (.iload_n 3, 1) := by decide +kernel
theorem dX11_share_49 : decode cX11_share 49 = .ok (.ireturn, 1) := by decide +kernel
theorem dX11_share_7 : decode cX11_share 7 = .ok (.ifCond .eq 17, 3) := by decide +kernel
theorem dX11_status_0 : decode cX11_status 0 = .ok (.iload_n 1, 1) := by decide +kernel
theorem dX11_status_1 : decode cX11_status 1 = .ok (.iconst 0, 1) := by decide +kernel
theorem dX11_status_10 : decode cX11_status 10 = .ok (.getfield 67, 3) := by decide +kernel
theorem dX11_status_13 : decode cX11_status 13 = .ok (.iload_n 1, 1) := by decide +kernel
theorem dX11_status_14 : decode cX11_status 14 = .ok (.iaload, 1) := by decide +kernel
theorem dX11_status_15 : decode cX11_status 15 = .ok (.goto 4, 3) := by decide +kernel
theorem dX11_status_18 : decode cX11_status 18 = .ok (.iconst (-1), 1) := by decide +kernel
theorem dX11_status_19 : decode cX11_status 19 = .ok (.ireturn, 1) := by decide +kernel
theorem dX11_status_2 : decode cX11_status 2 = .ok (.iconst 3, 1) := by decide +kernel
theorem dX11_status_3 : decode cX11_status 3 = .ok (.invokestatic 130, 3) := by decide +kernel
theorem dX11_status_6 : decode cX11_status 6 = .ok (.ifCond .eq 12, 3) := by decide +kernel
theorem dX11_status_9 : decode cX11_status 9 = .ok (.aload_n 0, 1) := by decide +kernel
theorem dX4_addDip_0 : decode cX4_addDip 0 = .ok (.aload_n 0, 1) := by decide +kernel
theorem dX4_addDip_1 : decode cX4_addDip 1 = .ok (.getfield 25, 3) := by decide +kernel
theorem dX4_addDip_11 : decode cX4_addDip 11 = .ok (.iconst 3, 1) := by decide +kernel
theorem dX4_addDip_12 : decode cX4_addDip 12 = .ok (.aload_n 0, 1) := by decide +kernel
theorem dX4_addDip_13 : decode cX4_addDip 13 = .ok (.getfield 25, 3) := by decide +kernel
theorem dX4_addDip_16 : decode cX4_addDip 16 = .ok (.imul, 1) := by decide +kernel
theorem dX4_addDip_17 : decode cX4_addDip 17 = .ok (.istore 4, 2) := by decide +kernel
theorem dX4_addDip_19 : decode cX4_addDip 19 = .ok (.aload_n 0, 1) := by decide +kernel
theorem dX4_addDip_20 : decode cX4_addDip 20 = .ok (.getfield 15, 3) := by decide +kernel
theorem dX4_addDip_23 : decode cX4_addDip 23 = .ok (.iload 4, 2) := by decide +kernel
theorem dX4_addDip_25 : decode cX4_addDip 25 = .ok (.iload_n 1, 1) := by decide +kernel
theorem dX4_addDip_26 : decode cX4_addDip 26 = .ok (.iastore, 1) := by decide +kernel
theorem dX4_addDip_27 : decode cX4_addDip 27 = .ok (.aload_n 0, 1) := by decide +kernel
theorem dX4_addDip_28 : decode cX4_addDip 28 = .ok (.getfield 15, 3) := by decide +kernel
theorem dX4_addDip_31 : decode cX4_addDip 31 = .ok (.iload 4, 2) := by decide +kernel
theorem dX4_addDip_33 : decode cX4_addDip 33 = .ok (.iconst 1, 1) := by decide +kernel
theorem dX4_addDip_34 : decode cX4_addDip 34 = .ok (.iadd, 1) := by decide +kernel
theorem dX4_addDip_35 : decode cX4_addDip 35 = .ok (.iload_n 2, 1) := by decide +kernel
theorem dX4_addDip_36 : decode cX4_addDip 36 = .ok (.iastore, 1) := by decide +kernel
theorem dX4_addDip_37 : decode cX4_addDip 37 = .ok (.aload_n 0, 1) := by decide +kernel
theorem dX4_addDip_38 : decode cX4_addDip 38 = .ok (.getfield 15, 3) := by decide +kernel
theorem dX4_addDip_4 : decode cX4_addDip 4 = .ok (.bipush 9, 2) := by decide +kernel
theorem dX4_addDip_41 : decode cX4_addDip 41 = .ok (.iload 4, 2) := by decide +kernel
theorem dX4_addDip_43 : decode cX4_addDip 43 = .ok (.iconst 2, 1) := by decide +kernel
theorem dX4_addDip_44 : decode cX4_addDip 44 = .ok (.iadd, 1) := by decide +kernel
theorem dX4_addDip_45 : decode cX4_addDip 45 = .ok (.iload_n 3, 1) := by decide +kernel
theorem dX4_addDip_46 : decode cX4_addDip 46 = .ok (.iastore, 1) := by decide +kernel
theorem dX4_addDip_47 : decode cX4_addDip 47 = .ok (.aload_n 0, 1) := by decide +kernel
theorem dX4_addDip_48 : decode cX4_addDip 48 = .ok (.dup, 1) := by decide +kernel
theorem dX4_addDip_49 : decode cX4_addDip 49 = .ok (.getfield 25, 3) := by decide +kernel
theorem dX4_addDip_52 : decode cX4_addDip 52 = .ok (.iconst 1, 1) := by decide +kernel
theorem dX4_addDip_53 : decode cX4_addDip 53 = .ok (.iadd, 1) := by decide +kernel
theorem dX4_addDip_54 : decode cX4_addDip 54 = .ok (.putfield 25, 3) := by decide +kernel
theorem dX4_addDip_57 : decode cX4_addDip 57 = .ok (.aload_n 0, 1) := by decide +kernel
theorem dX4_addDip_58 : decode cX4_addDip 58 = .ok (.getfield 25, 3) := by decide +kernel
theorem dX4_addDip_6 : decode cX4_addDip 6 = .ok (.if_icmp .ne 5, 3) := by decide +kernel
theorem dX4_addDip_61 : decode cX4_addDip 61 = .ok (.ireturn, 1) := by decide +kernel
theorem dX8_add_0 : decode cX8_add 0 = .ok (.bipush 24, 2) := by decide +kernel
theorem dX8_add_11 : decode cX8_add 11 = .ok (.sipush 600, 3) := by decide +kernel
theorem dX8_add_14 : decode cX8_add 14 = .ok (.if_icmp .ge 32, 3) := by decide +kernel
theorem dX8_add_17 : decode cX8_add 17 = .ok (.aload_n 0, 1) := by decide +kernel
theorem dX8_add_18 : decode cX8_add 18 = .ok (.getfield 11, 3) := by decide +kernel
theorem dX8_add_2 : decode cX8_add 2 = .ok (.istore_n 2, 1) := by decide +kernel
theorem dX8_add_21 : decode cX8_add 21 = .ok (.aload_n 0, 1) := by decide +kernel
theorem dX8_add_22 : decode cX8_add 22 = .ok (.getfield 19, 3) := by decide +kernel
theorem dX8_add_25 : decode cX8_add 25 = .ok (.iload_n 1, 1) := by decide +kernel
theorem dX8_add_26 : decode cX8_add 26 = .ok (.iload_n 2, 1) := by decide +kernel
theorem dX8_add_27 : decode cX8_add 27 = .ok (.ishr, 1) := by decide +kernel
theorem dX8_add_28 : decode cX8_add 28 = .ok (.i2b, 1) := by decide +kernel
theorem dX8_add_29 : decode cX8_add 29 = .ok (.bastore, 1) := by decide +kernel
theorem dX8_add_3 : decode cX8_add 3 = .ok (.iload_n 2, 1) := by decide +kernel
theorem dX8_add_30 : decode cX8_add 30 = .ok (.aload_n 0, 1) := by decide +kernel
theorem dX8_add_31 : decode cX8_add 31 = .ok (.dup, 1) := by decide +kernel
theorem dX8_add_32 : decode cX8_add 32 = .ok (.getfield 19, 3) := by decide +kernel
theorem dX8_add_35 : decode cX8_add 35 = .ok (.iconst 1, 1) := by decide +kernel
theorem dX8_add_36 : decode cX8_add 36 = .ok (.iadd, 1) := by decide +kernel
theorem dX8_add_37 : decode cX8_add 37 = .ok (.putfield 19, 3) := by decide +kernel
theorem dX8_add_4 : decode cX8_add 4 = .ok (.ifCond .lt 42, 3) := by decide +kernel
theorem dX8_add_40 : decode cX8_add 40 = .ok (.iinc 2 (-8), 3) := by decide +kernel
theorem dX8_add_43 : decode cX8_add 43 = .ok (.goto (-40), 3) := by decide +kernel
theorem dX8_add_46 : decode cX8_add 46 = .ok (.return_, 1) := by decide +kernel
theorem dX8_add_7 : decode cX8_add 7 = .ok (.aload_n 0, 1) := by decide +kernel
theorem dX8_add_8 : decode cX8_add 8 = .ok (.getfield 19, 3) := by decide +kernel
theorem dX8_hasRoom_0 : decode cX8_hasRoom 0 = .ok (.aload_n 0, 1) := by decide +kernel
theorem dX8_hasRoom_1 : decode cX8_hasRoom 1 = .ok (.getfield 19, 3) := by decide +kernel
theorem dX8_hasRoom_10 : decode cX8_hasRoom 10 = .ok (.if_icmp .gt 7, 3) := by decide +kernel
theorem dX8_hasRoom_13 : decode cX8_hasRoom 13 = .ok (.iconst 1, 1) := by decide +kernel
theorem dX8_hasRoom_14 : decode cX8_hasRoom 14 = .ok (.goto 4, 3) := by decide +kernel
theorem dX8_hasRoom_18 : decode cX8_hasRoom 18 = .ok (.ireturn, 1) := by decide +kernel
theorem dX8_hasRoom_4 : decode cX8_hasRoom 4 = .ok (.bipush 20, 2) := by decide +kernel
theorem dX8_hasRoom_6 : decode cX8_hasRoom 6 = .ok (.iadd, 1) := by decide +kernel
theorem dX8_hasRoom_7 : decode cX8_hasRoom 7 = .ok (.sipush 600, 3) := by decide +kernel
theorem shF_in {i : Int32} (h : vp_in i 4) : shF i.toNatClampNeg = 1 := shF_1 _ (by unfold vp_in at h; omega)
def vs_c_share : List Cond := .code yX11_share cX11_share 4 (some .int) :: (([.fieldLink RX11 41 "KerbSplash" "plan" "LKerbSplash$Plan;"] : List Cond) ++ ((va_wsS RX11 130 yX11_isWithin wsX11_isWithin) ++ ((wsV RX11 134 RX11 yX11_needArgument wsX11_needArgument) ++ ((wsX110) ++ ((wsX40) ++ ([]))))))
set_option maxHeartbeats 4000000 in
set_option maxRecDepth 100000 in
theorem c_share (l : Launch) (hl : l.stackTraces = false) (D : va_G) (cy : Nat → ClassId) (sa : Nat → Nat) (ko : Nat) (ka : Nat → Nat) (p0 p1 : Int32) (sz : Nat) : vx_Met l yX11_share vs_c_share ({ frames := 7, cells := 1, slots := 6, locals := 121 }) (va_Pc [.ref ko, .int p0, .int p1] (pcW D cy sa sz [(ko, .inr (11, [.ref (ka 0), .ref (ka 1), .ref (ka 2), .int 0, .int 0, .ref (ka 5), .ref (ka 6), .ref (ka 7), .ref (ka 8), .ref (ka 9), .int 0, .ref (ka 11), .ref (ka 12), .ref (ka 13)])), ((ka 7), .inr (4, [.int 0, .ref (ka 41), .int 0, .ref (ka 42), .ref (ka 43)])), ((ka 43), .inl (cy 0, 4, .inl shF)), ((ka 13), .inl (cy 0, 4, .inl (fun _ => 0)))])) (va_Qi (fun (r : Int32) (u : SU) => (((0 ≤ p0 ∧ p0 ≤ 3) ∧ (0 ≤ p1 ∧ p1 ≤ 99)) ∧ r = 1)) (fun u t => atW D (va_A [(ko, .inr (11, [.ref (ka 0), .ref (ka 1), .ref (ka 2), .int 0, .int 0, .ref (ka 5), .ref (ka 6), .ref (ka 7), .ref (ka 8), .ref (ka 9), .int 0, .ref (ka 11), .ref (ka 12), .ref (ka 13)])), ((ka 7), .inr (4, [.int 0, .ref (ka 41), .int 0, .ref (ka 42), .ref (ka 43)])), ((ka 43), .inl (cy 0, 4, .inl shF)), ((ka 13), .inl (cy 0, 4, .inl (fun _ => 0)))] sz) [] t) (va_A [(ko, .inr (11, [.ref (ka 0), .ref (ka 1), .ref (ka 2), .int 0, .int 0, .ref (ka 5), .ref (ka 6), .ref (ka 7), .ref (ka 8), .ref (ka 9), .int 0, .ref (ka 11), .ref (ka 12), .ref (ka 13)])), ((ka 7), .inr (4, [.int 0, .ref (ka 41), .int 0, .ref (ka 42), .ref (ka 43)])), ((ka 43), .inl (cy 0, 4, .inl shF)), ((ka 13), .inl (cy 0, 4, .inl (fun _ => 0)))] sz)) (xcW (fun E => (E = "java/lang/IllegalArgumentException" ∧ (¬ ((0 ≤ p0 ∧ p0 ≤ 3) ∧ (0 ≤ p1 ∧ p1 ≤ 99))))) (va_A [(ko, .inr (11, [.ref (ka 0), .ref (ka 1), .ref (ka 2), .int 0, .int 0, .ref (ka 5), .ref (ka 6), .ref (ka 7), .ref (ka 8), .ref (ka 9), .int 0, .ref (ka 11), .ref (ka 12), .ref (ka 13)])), ((ka 7), .inr (4, [.int 0, .ref (ka 41), .int 0, .ref (ka 42), .ref (ka 43)])), ((ka 43), .inl (cy 0, 4, .inl shF)), ((ka 13), .inl (cy 0, 4, .inl (fun _ => 0)))] sz)) 1 6 (va_A [(ko, .inr (11, [.ref (ka 0), .ref (ka 1), .ref (ka 2), .int 0, .int 0, .ref (ka 5), .ref (ka 6), .ref (ka 7), .ref (ka 8), .ref (ka 9), .int 0, .ref (ka 11), .ref (ka 12), .ref (ka 13)])), ((ka 7), .inr (4, [.int 0, .ref (ka 41), .int 0, .ref (ka 42), .ref (ka 43)])), ((ka 43), .inl (cy 0, 4, .inl shF)), ((ka 13), .inl (cy 0, 4, .inl (fun _ => 0)))] sz) := by
  refine vx_ofW (cc := cX11_share) (maxL := 4) (ret := (some .int)) (by decide) rfl ?_
  intro p e s m args below meth c s₁ B hml hex hv
  obtain ⟨rfl, hsz, hP, hG, hD0, hT⟩ := hv
  have hx := B.exec
  have hb := B.bytes
  have hr := B.returns
  have hts := atoms_spec (ws := vs_c_share) B.pre
  have hown : s.vm.findClass RX11 = some m.cls := findClass_of_methodNamed B.named
  have hlocks := B.notSynchronized
  subst hsz
  have hD := hD0.self (sz := s.heap.size)
  generalize hAe : va_A [(ko, .inr (11, [.ref (ka 0), .ref (ka 1), .ref (ka 2), .int 0, .int 0, .ref (ka 5), .ref (ka 6), .ref (ka 7), .ref (ka 8), .ref (ka 9), .int 0, .ref (ka 11), .ref (ka 12), .ref (ka 13)])), ((ka 7), .inr (4, [.int 0, .ref (ka 41), .int 0, .ref (ka 42), .ref (ka 43)])), ((ka 43), .inl (cy 0, 4, .inl shF)), ((ka 13), .inl (cy 0, 4, .inl (fun _ => 0)))] s.heap.size = A at hD hT ⊢
  have hA : ∀ q : Nat, s.heap.size ≤ q → A q := fun q h => by rw [← hAe]; exact Or.inr h
  have hS : va_S A s.heap s.heap [] := va_S.rf
  have hl0 := lv_entry ([.ref ko, .int p0, .int p1]) (n := 4) (Nat.le_of_ble_eq_true rfl)
  rw [lg_entry_eq]
  generalize (lg_sl ([.ref ko, .int p0, .int p1]) ++ List.replicate (4 - (lg_sl ([.ref ko, .int p0, .int p1])).length) Slot.unset).toArray = ls at hl0 ⊢
  have hlv : lv_has ls 4 [(0, .ref ko), (1, .int p0), (2, .int p1)] := hl0
  have gg_0 : GoodIn vs_c_share (va_wsS RX11 130 yX11_isWithin wsX11_isWithin) := goodIn_sub (fun w h => List.mem_cons_of_mem _ (List.mem_append_right _ (List.mem_append_left _ h))) (by decide +kernel)
  have gg_1 : GoodIn vs_c_share (wsV RX11 134 RX11 yX11_needArgument wsX11_needArgument) := goodIn_sub (fun w h => List.mem_cons_of_mem _ (List.mem_append_right _ (List.mem_append_right _ (List.mem_append_left _ h)))) (by decide +kernel)
  have lf41 := hts (.fieldLink RX11 41 "KerbSplash" "plan" "LKerbSplash$Plan;") (List.mem_of_getElem? (i := 1) rfl)
  have hi11 : ∀ w ∈ wsX110, w ∈ vs_c_share := fun w h => List.mem_cons_of_mem _ (List.mem_append_right _ (List.mem_append_right _ (List.mem_append_right _ (List.mem_append_left _ h))))
  have hi4 : ∀ w ∈ wsX40, w ∈ vs_c_share := fun w h => List.mem_cons_of_mem _ (List.mem_append_right _ (List.mem_append_right _ (List.mem_append_right _ (List.mem_append_right _ (List.mem_append_left _ h)))))
  refine lv_aload_n hx hb dX11_share_0 rfl (lv_at hlv 0 rfl) ?_
  refine lv_iload_n hx hb dX11_share_1 rfl (lv_at hlv 1 rfl) ?_
  refine lv_iconst (v := 0) hx hb dX11_share_2 (by decide) ?_
  refine lv_iconst (v := 3) hx hb dX11_share_3 (by decide) ?_
  refine cj_i (wr := [(ko, .inr (11, [.ref (ka 0), .ref (ka 1), .ref (ka 2), .int 0, .int 0, .ref (ka 5), .ref (ka 6), .ref (ka 7), .ref (ka 8), .ref (ka 9), .int 0, .ref (ka 11), .ref (ka 12), .ref (ka 13)])), ((ka 7), .inr (4, [.int 0, .ref (ka 41), .int 0, .ref (ka 42), .ref (ka 43)])), ((ka 43), .inl (cy 0, 4, .inl shF)), ((ka 13), .inl (cy 0, 4, .inl (fun _ => 0)))]) (va_runS (As := [.int p0, .int 0, .int 3]) (rest := [.ref ko]) ⟨hx, hb, hml, hown, hts⟩ (c_isWithin l hl D cy sa p0 0 3 s.heap.size) (va_cwS 3 hts gg_0 rfl rfl rfl (by decide +kernel) ⟨Nat.le_of_ble_eq_true rfl, Nat.le_of_ble_eq_true rfl⟩) ⟨pcW.blind, (pcW.mk hP hD hS hA hG hT [] rfl (by decide))⟩ rfl rfl hlv.1 rfl (lv_room (Nat.le_of_ble_eq_true rfl)) dX11_share_4 ⟨Nat.le_of_ble_eq_true rfl, Nat.le_of_ble_eq_true rfl⟩) hP hD hS hA [] [0, 1, 2, 3] rfl rfl (by decide) (by decide) (fun r1 u1 H locs hw1 hP hD hS => ?_)
  rcases hw1 with ⟨hg1, rfl⟩ | ⟨hg1, rfl⟩
  · have hP : va_P D vwCl [(ko, .inr (11, [.ref (ka 0), .ref (ka 1), .ref (ka 2), .int 0, .int 0, .ref (ka 5), .ref (ka 6), .ref (ka 7), .ref (ka 8), .ref (ka 9), .int 0, .ref (ka 11), .ref (ka 12), .ref (ka 13)])), ((ka 7), .inr (4, [.int 0, .ref (ka 41), .int 0, .ref (ka 42), .ref (ka 43)])), ((ka 43), .inl (cy 0, 4, .inl shF)), ((ka 13), .inl (cy 0, 4, .inl (fun _ => 0)))] H := hP
    have hD : va_D A [(ko, .inr (11, [.ref (ka 0), .ref (ka 1), .ref (ka 2), .int 0, .int 0, .ref (ka 5), .ref (ka 6), .ref (ka 7), .ref (ka 8), .ref (ka 9), .int 0, .ref (ka 11), .ref (ka 12), .ref (ka 13)])), ((ka 7), .inr (4, [.int 0, .ref (ka 41), .int 0, .ref (ka 42), .ref (ka 43)])), ((ka 43), .inl (cy 0, 4, .inl shF)), ((ka 13), .inl (cy 0, 4, .inl (fun _ => 0)))] := hD
    refine lv_if_eq (tgt := 24) hx hb dX11_share_7 (by decide) (fun c => absurd c (by decide)) (fun _ => ?_)
    refine lv_iload_n hx hb dX11_share_10 rfl (lv_at hlv 2 rfl) ?_
    refine lv_iconst (v := 0) hx hb dX11_share_11 (by decide) ?_
    refine lv_bipush (v := 99) hx hb dX11_share_12 (by decide) ?_
    refine cj_i (wr := [(ko, .inr (11, [.ref (ka 0), .ref (ka 1), .ref (ka 2), .int 0, .int 0, .ref (ka 5), .ref (ka 6), .ref (ka 7), .ref (ka 8), .ref (ka 9), .int 0, .ref (ka 11), .ref (ka 12), .ref (ka 13)])), ((ka 7), .inr (4, [.int 0, .ref (ka 41), .int 0, .ref (ka 42), .ref (ka 43)])), ((ka 43), .inl (cy 0, 4, .inl shF)), ((ka 13), .inl (cy 0, 4, .inl (fun _ => 0)))]) (va_runS (As := [.int p1, .int 0, .int 99]) (rest := [.ref ko]) ⟨hx, hb, hml, hown, hts⟩ (c_isWithin l hl D cy sa p1 0 99 H.size) (va_cwS 3 hts gg_0 rfl rfl rfl (by decide +kernel) ⟨Nat.le_of_ble_eq_true rfl, Nat.le_of_ble_eq_true rfl⟩) ⟨pcW.blind, (pcW.mk hP hD hS hA hG hT [] rfl (by decide))⟩ rfl rfl hlv.1 rfl (lv_room (Nat.le_of_ble_eq_true rfl)) dX11_share_14 ⟨Nat.le_of_ble_eq_true rfl, Nat.le_of_ble_eq_true rfl⟩) hP hD hS hA [] [0, 1, 2, 3] rfl rfl (by decide) (by decide) (fun r2 u2 H locs hw2 hP hD hS => ?_)
    rcases hw2 with ⟨hg2, rfl⟩ | ⟨hg2, rfl⟩
    · have hP : va_P D vwCl [(ko, .inr (11, [.ref (ka 0), .ref (ka 1), .ref (ka 2), .int 0, .int 0, .ref (ka 5), .ref (ka 6), .ref (ka 7), .ref (ka 8), .ref (ka 9), .int 0, .ref (ka 11), .ref (ka 12), .ref (ka 13)])), ((ka 7), .inr (4, [.int 0, .ref (ka 41), .int 0, .ref (ka 42), .ref (ka 43)])), ((ka 43), .inl (cy 0, 4, .inl shF)), ((ka 13), .inl (cy 0, 4, .inl (fun _ => 0)))] H := hP
      have hD : va_D A [(ko, .inr (11, [.ref (ka 0), .ref (ka 1), .ref (ka 2), .int 0, .int 0, .ref (ka 5), .ref (ka 6), .ref (ka 7), .ref (ka 8), .ref (ka 9), .int 0, .ref (ka 11), .ref (ka 12), .ref (ka 13)])), ((ka 7), .inr (4, [.int 0, .ref (ka 41), .int 0, .ref (ka 42), .ref (ka 43)])), ((ka 43), .inl (cy 0, 4, .inl shF)), ((ka 13), .inl (cy 0, 4, .inl (fun _ => 0)))] := hD
      refine lv_if_eq (tgt := 24) hx hb dX11_share_17 (by decide) (fun c => absurd c (by decide)) (fun _ => ?_)
      refine lv_iconst (v := 1) hx hb dX11_share_20 (by decide) ?_
      refine lv_goto (tgt := 25) hx hb dX11_share_21 (by decide) ?_
      refine cj_v (wr := [(ko, .inr (11, [.ref (ka 0), .ref (ka 1), .ref (ka 2), .int 0, .int 0, .ref (ka 5), .ref (ka 6), .ref (ka 7), .ref (ka 8), .ref (ka 9), .int 0, .ref (ka 11), .ref (ka 12), .ref (ka 13)])), ((ka 7), .inr (4, [.int 0, .ref (ka 41), .int 0, .ref (ka 42), .ref (ka 43)])), ((ka 43), .inl (cy 0, 4, .inl shF)), ((ka 13), .inl (cy 0, 4, .inl (fun _ => 0)))]) (va_runV (As := [.int 1]) (rest := []) ⟨hx, hb, hml, hown, hts⟩ (c_needArgument1 l hl D cy sa ko H.size) (cwV 1 hts gg_1 rfl rfl rfl (by decide +kernel) ⟨Nat.le_of_ble_eq_true rfl, Nat.le_of_ble_eq_true rfl⟩) ⟨pcW.blind, (va_recv hG.1 hP (ci := 11) (q0 := 0) rfl rfl), (pcW.mk hP hD hS hA hG hT [] rfl (by decide))⟩ rfl rfl hlv.1 rfl (lv_room (Nat.le_of_ble_eq_true rfl)) dX11_share_25 ⟨Nat.le_of_ble_eq_true rfl, Nat.le_of_ble_eq_true rfl⟩) hP hD hS hA [] [0, 1, 2, 3] rfl rfl (by decide) (by decide) (fun u3 H locs hw3 hP hD hS => ?_)
      have hP : va_P D vwCl [(ko, .inr (11, [.ref (ka 0), .ref (ka 1), .ref (ka 2), .int 0, .int 0, .ref (ka 5), .ref (ka 6), .ref (ka 7), .ref (ka 8), .ref (ka 9), .int 0, .ref (ka 11), .ref (ka 12), .ref (ka 13)])), ((ka 7), .inr (4, [.int 0, .ref (ka 41), .int 0, .ref (ka 42), .ref (ka 43)])), ((ka 43), .inl (cy 0, 4, .inl shF)), ((ka 13), .inl (cy 0, 4, .inl (fun _ => 0)))] H := hP
      have hD : va_D A [(ko, .inr (11, [.ref (ka 0), .ref (ka 1), .ref (ka 2), .int 0, .int 0, .ref (ka 5), .ref (ka 6), .ref (ka 7), .ref (ka 8), .ref (ka 9), .int 0, .ref (ka 11), .ref (ka 12), .ref (ka 13)])), ((ka 7), .inr (4, [.int 0, .ref (ka 41), .int 0, .ref (ka 42), .ref (ka 43)])), ((ka 43), .inl (cy 0, 4, .inl shF)), ((ka 13), .inl (cy 0, 4, .inl (fun _ => 0)))] := hD
      refine lv_aload_n hx hb dX11_share_28 rfl (lv_at hlv 0 rfl) ?_
      refine va_get (D := D) (ci := 11) (v := .ref (ka 7)) (C := RX11) (T := TX11) (N := 14) hx hb hts hi11 hown hG.1 hP 0 rfl rfl 7 (by decide) lf41 (fun _ h9 => h9) rfl dX11_share_29 ?_
      refine va_getN (D := D) (ci := 4) (v := .ref (ka 43)) (C := RX4) (T := TX4) (N := 5) hx hb hts hi4 hown hG.1 hP 1 rfl rfl 4 (by decide) (va_Nw.use rfl (nF_K_301 hG.2.1)) (fun _ h9 => h9) rfl dX11_share_32 ?_
      refine lv_iload_n hx hb dX11_share_35 rfl (lv_at hlv 1 rfl) ?_
      refine va_iald hx hb hG.1 hP 2 0 rfl rfl (inbd hg1 (by decide)) dX11_share_36 ?_
      refine lt_i (y := 1) (shF_in (inbd hg1 (by decide))) ?_
      refine lv_istore_n (lv' := [(3, .int 1), (0, .ref ko), (1, .int p0), (2, .int p1)]) hx hb dX11_share_37 rfl hlv (by decide) rfl (fun ls hlv => ?_)
      refine lv_aload_n hx hb dX11_share_38 rfl (lv_at hlv 1 rfl) ?_
      refine va_get (D := D) (ci := 11) (v := .ref (ka 7)) (C := RX11) (T := TX11) (N := 14) hx hb hts hi11 hown hG.1 hP 0 rfl rfl 7 (by decide) lf41 (fun _ h9 => h9) rfl dX11_share_39 ?_
      refine va_getN (D := D) (ci := 4) (v := .ref (ka 43)) (C := RX4) (T := TX4) (N := 5) hx hb hts hi4 hown hG.1 hP 1 rfl rfl 4 (by decide) (va_Nw.use rfl (nF_K_301 hG.2.1)) (fun _ h9 => h9) rfl dX11_share_42 ?_
      refine lv_iload_n hx hb dX11_share_45 rfl (lv_at hlv 2 rfl) ?_
      refine lv_iload_n hx hb dX11_share_46 rfl (lv_at hlv 3 rfl) ?_
      refine va_iast hx hb hG.1 hP hD hS 2 0 rfl rfl (inbd hg1 (by decide)) dX11_share_47 (fun H locs hP hD hS => ?_)
      have ⟨f_1, hP, hD⟩ : ∃ f_1 : Nat → Int32, va_P D vwCl [(ko, .inr (11, [.ref (ka 0), .ref (ka 1), .ref (ka 2), .int 0, .int 0, .ref (ka 5), .ref (ka 6), .ref (ka 7), .ref (ka 8), .ref (ka 9), .int 0, .ref (ka 11), .ref (ka 12), .ref (ka 13)])), ((ka 7), .inr (4, [.int 0, .ref (ka 41), .int 0, .ref (ka 42), .ref (ka 43)])), ((ka 43), .inl (cy 0, 4, .inl f_1)), ((ka 13), .inl (cy 0, 4, .inl (fun _ => 0)))] H ∧ va_D A [(ko, .inr (11, [.ref (ka 0), .ref (ka 1), .ref (ka 2), .int 0, .int 0, .ref (ka 5), .ref (ka 6), .ref (ka 7), .ref (ka 8), .ref (ka 9), .int 0, .ref (ka 11), .ref (ka 12), .ref (ka 13)])), ((ka 7), .inr (4, [.int 0, .ref (ka 41), .int 0, .ref (ka 42), .ref (ka 43)])), ((ka 43), .inl (cy 0, 4, .inl f_1)), ((ka 13), .inl (cy 0, 4, .inl (fun _ => 0)))] := ⟨_, hP, hD⟩
      refine lv_iload_n hx hb dX11_share_48 rfl (lv_at hlv 0 rfl) ?_
      refine W.widen (k := 1) (n := 6) (Nat.le_of_ble_eq_true rfl) (Nat.le_of_ble_eq_true rfl) ?_
      refine vx_ret ?_
      exact W.iret (v := 1) hx hb hr (fun t ht hW => ⟨⟨1, ((fun k => ([] : List Nat).getD k 0), (fun k => ([] : List Int32).getD k 0), (fun k => ([] : List (Nat → Int32)).getD k (fun _ => 0))), rfl, (by first | (exact ⟨⟨hg1, hg2⟩, by rfl⟩)), by rw [ht]; exact hP.sub [] rfl, hD.sub [] (by decide) rfl⟩, hS.F ht⟩) hS.2.2 dX11_share_49
    · have hP : va_P D vwCl [(ko, .inr (11, [.ref (ka 0), .ref (ka 1), .ref (ka 2), .int 0, .int 0, .ref (ka 5), .ref (ka 6), .ref (ka 7), .ref (ka 8), .ref (ka 9), .int 0, .ref (ka 11), .ref (ka 12), .ref (ka 13)])), ((ka 7), .inr (4, [.int 0, .ref (ka 41), .int 0, .ref (ka 42), .ref (ka 43)])), ((ka 43), .inl (cy 0, 4, .inl shF)), ((ka 13), .inl (cy 0, 4, .inl (fun _ => 0)))] H := hP
      have hD : va_D A [(ko, .inr (11, [.ref (ka 0), .ref (ka 1), .ref (ka 2), .int 0, .int 0, .ref (ka 5), .ref (ka 6), .ref (ka 7), .ref (ka 8), .ref (ka 9), .int 0, .ref (ka 11), .ref (ka 12), .ref (ka 13)])), ((ka 7), .inr (4, [.int 0, .ref (ka 41), .int 0, .ref (ka 42), .ref (ka 43)])), ((ka 43), .inl (cy 0, 4, .inl shF)), ((ka 13), .inl (cy 0, 4, .inl (fun _ => 0)))] := hD
      refine lv_if_eq (tgt := 24) hx hb dX11_share_17 (by decide) (fun _ => ?_) (fun c => absurd (by decide) c)
      refine lv_iconst (v := 0) hx hb dX11_share_24 (by decide) ?_
      refine cjx_v (wr := [((ka 7), .inr (4, [.int 0, .ref (ka 41), .int 0, .ref (ka 42), .ref (ka 43)])), ((ka 43), .inl (cy 0, 4, .inl shF))]) (vx_runV (As := [.int 0]) (rest := []) ⟨hx, hb, hml, hown, hts⟩ (c_needArgument0 l hl D cy sa ko ka H.size) (cwV 1 hts gg_1 rfl rfl rfl (by decide +kernel) ⟨Nat.le_of_ble_eq_true rfl, Nat.le_of_ble_eq_true rfl⟩) ⟨pcW.blind, (va_recv hG.1 hP (ci := 11) (q0 := 0) rfl rfl), (pcW.mk hP hD hS hA hG hT [0, 3] rfl (by decide))⟩ rfl rfl hlv.1 rfl (lv_room (Nat.le_of_ble_eq_true rfl)) dX11_share_25 ⟨Nat.le_of_ble_eq_true rfl, Nat.le_of_ble_eq_true rfl⟩) hP hD hS hA [0, 3] [1, 2] rfl rfl (by decide) (by decide) (fun E ce q9 H locs hp hP hD hS h1 h2 h3 => ?_) (fun u4 H locs hw4 hP hD hS => ?_)
      · obtain ⟨rfl, hg4⟩ := hp
        exact vx_out (fun x h => (hex x h).elim) hlocks h1 h2 h3 (fun t ht hvm => ⟨(), trivial, (by exact ⟨rfl, (fun q => absurd q.2 hg2)⟩), hS.F ht⟩) hS.2.2 (Nat.le_of_ble_eq_true rfl) (Nat.le_of_ble_eq_true rfl)
      · exact (hw4).elim
  · have hP : va_P D vwCl [(ko, .inr (11, [.ref (ka 0), .ref (ka 1), .ref (ka 2), .int 0, .int 0, .ref (ka 5), .ref (ka 6), .ref (ka 7), .ref (ka 8), .ref (ka 9), .int 0, .ref (ka 11), .ref (ka 12), .ref (ka 13)])), ((ka 7), .inr (4, [.int 0, .ref (ka 41), .int 0, .ref (ka 42), .ref (ka 43)])), ((ka 43), .inl (cy 0, 4, .inl shF)), ((ka 13), .inl (cy 0, 4, .inl (fun _ => 0)))] H := hP
    have hD : va_D A [(ko, .inr (11, [.ref (ka 0), .ref (ka 1), .ref (ka 2), .int 0, .int 0, .ref (ka 5), .ref (ka 6), .ref (ka 7), .ref (ka 8), .ref (ka 9), .int 0, .ref (ka 11), .ref (ka 12), .ref (ka 13)])), ((ka 7), .inr (4, [.int 0, .ref (ka 41), .int 0, .ref (ka 42), .ref (ka 43)])), ((ka 43), .inl (cy 0, 4, .inl shF)), ((ka 13), .inl (cy 0, 4, .inl (fun _ => 0)))] := hD
    refine lv_if_eq (tgt := 24) hx hb dX11_share_7 (by decide) (fun _ => ?_) (fun c => absurd (by decide) c)
    refine lv_iconst (v := 0) hx hb dX11_share_24 (by decide) ?_
    refine cjx_v (wr := [((ka 7), .inr (4, [.int 0, .ref (ka 41), .int 0, .ref (ka 42), .ref (ka 43)])), ((ka 43), .inl (cy 0, 4, .inl shF))]) (vx_runV (As := [.int 0]) (rest := []) ⟨hx, hb, hml, hown, hts⟩ (c_needArgument0 l hl D cy sa ko ka H.size) (cwV 1 hts gg_1 rfl rfl rfl (by decide +kernel) ⟨Nat.le_of_ble_eq_true rfl, Nat.le_of_ble_eq_true rfl⟩) ⟨pcW.blind, (va_recv hG.1 hP (ci := 11) (q0 := 0) rfl rfl), (pcW.mk hP hD hS hA hG hT [0, 3] rfl (by decide))⟩ rfl rfl hlv.1 rfl (lv_room (Nat.le_of_ble_eq_true rfl)) dX11_share_25 ⟨Nat.le_of_ble_eq_true rfl, Nat.le_of_ble_eq_true rfl⟩) hP hD hS hA [0, 3] [1, 2] rfl rfl (by decide) (by decide) (fun E ce q9 H locs hp hP hD hS h1 h2 h3 => ?_) (fun u5 H locs hw5 hP hD hS => ?_)
    · obtain ⟨rfl, hg5⟩ := hp
      exact vx_out (fun x h => (hex x h).elim) hlocks h1 h2 h3 (fun t ht hvm => ⟨(), trivial, (by exact ⟨rfl, (fun q => absurd q.1 hg1)⟩), hS.F ht⟩) hS.2.2 (Nat.le_of_ble_eq_true rfl) (Nat.le_of_ble_eq_true rfl)
    · exact (hw5).elim
def vs_c_addDip : List Cond := .code yX4_addDip cX4_addDip 5 (some .int) :: (([.fieldLink RX4 25 "KerbSplash$Plan" "dips" "I", .fieldLink RX4 15 "KerbSplash$Plan" "dip" "[I"] : List Cond) ++ ((wsX40) ++ ([])))
set_option maxHeartbeats 4000000 in
set_option maxRecDepth 100000 in
theorem c_addDip (l : Launch) (hl : l.stackTraces = false) (D : va_G) (cy : Nat → ClassId) (sa : Nat → Nat) (ka : Nat → Nat) (p0 p1 p2 : Int32) (sz : Nat) : Met l yX4_addDip vs_c_addDip ({ frames := 0, cells := 0, slots := 0, locals := 0 }) (va_Pc [.ref (ka 7), .int p0, .int p1, .int p2] (pcW D cy sa sz [((ka 7), .inr (4, [.int 0, .ref (ka 41), .int 0, .ref (ka 42), .ref (ka 43)])), ((ka 42), .inl (cy 0, 27, .inl (fun _ => 0)))])) (va_Qi (fun (r : Int32) (u : SU) => (r = 1)) (fun u t => atW D (va_A [((ka 7), .inr (4, [.int 0, .ref (ka 41), .int 0, .ref (ka 42), .ref (ka 43)])), ((ka 42), .inl (cy 0, 27, .inl (fun _ => 0)))] sz) [] t) (va_A [((ka 7), .inr (4, [.int 0, .ref (ka 41), .int 0, .ref (ka 42), .ref (ka 43)])), ((ka 42), .inl (cy 0, 27, .inl (fun _ => 0)))] sz)) 0 0 (va_A [((ka 7), .inr (4, [.int 0, .ref (ka 41), .int 0, .ref (ka 42), .ref (ka 43)])), ((ka 42), .inl (cy 0, 27, .inl (fun _ => 0)))] sz) := by
  refine Met.ofW (cc := cX4_addDip) (maxL := 5) (ret := (some .int)) (by decide) rfl ?_
  intro p e s m args below meth c s₁ B hml hv
  obtain ⟨rfl, hsz, hP, hG, hD0, hT⟩ := hv
  have hx := B.exec
  have hb := B.bytes
  have hr := B.returns
  have hts := atoms_spec (ws := vs_c_addDip) B.pre
  have hown : s.vm.findClass RX4 = some m.cls := findClass_of_methodNamed B.named
  have hlocks := B.notSynchronized
  subst hsz
  have hD := hD0.self (sz := s.heap.size)
  generalize hAe : va_A [((ka 7), .inr (4, [.int 0, .ref (ka 41), .int 0, .ref (ka 42), .ref (ka 43)])), ((ka 42), .inl (cy 0, 27, .inl (fun _ => 0)))] s.heap.size = A at hD hT ⊢
  have hA : ∀ q : Nat, s.heap.size ≤ q → A q := fun q h => by rw [← hAe]; exact Or.inr h
  have hS : va_S A s.heap s.heap [] := va_S.rf
  have hl0 := lv_entry ([.ref (ka 7), .int p0, .int p1, .int p2]) (n := 5) (Nat.le_of_ble_eq_true rfl)
  rw [lg_entry_eq]
  generalize (lg_sl ([.ref (ka 7), .int p0, .int p1, .int p2]) ++ List.replicate (5 - (lg_sl ([.ref (ka 7), .int p0, .int p1, .int p2])).length) Slot.unset).toArray = ls at hl0 ⊢
  have hlv : lv_has ls 5 [(0, .ref (ka 7)), (1, .int p0), (2, .int p1), (3, .int p2)] := hl0
  have lf25 := hts (.fieldLink RX4 25 "KerbSplash$Plan" "dips" "I") (List.mem_of_getElem? (i := 1) rfl)
  have hi4 : ∀ w ∈ wsX40, w ∈ vs_c_addDip := fun w h => List.mem_cons_of_mem _ (List.mem_append_right _ (List.mem_append_left _ h))
  have lf15 := hts (.fieldLink RX4 15 "KerbSplash$Plan" "dip" "[I") (List.mem_of_getElem? (i := 2) rfl)
  refine lv_aload_n hx hb dX4_addDip_0 rfl (lv_at hlv 0 rfl) ?_
  refine va_get (D := D) (ci := 4) (v := .int 0) (C := RX4) (T := TX4) (N := 5) hx hb hts hi4 hown hG.1 hP 0 rfl rfl 2 (by decide) lf25 (fun _ h9 => h9) rfl dX4_addDip_1 ?_
  refine lv_bipush (v := 9) hx hb dX4_addDip_4 (by decide) ?_
  refine lv_icmp_ne (tgt := 11) hx hb dX4_addDip_6 (by decide) (fun _ => ?_) (fun c => absurd c (by decide))
  refine lv_iconst (v := 3) hx hb dX4_addDip_11 (by decide) ?_
  refine lv_aload_n hx hb dX4_addDip_12 rfl (lv_at hlv 0 rfl) ?_
  refine va_get (D := D) (ci := 4) (v := .int 0) (C := RX4) (T := TX4) (N := 5) hx hb hts hi4 hown hG.1 hP 0 rfl rfl 2 (by decide) lf25 (fun _ h9 => h9) rfl dX4_addDip_13 ?_
  refine lv_imul hx hb dX4_addDip_16 ?_
  refine lt_i (y := 0) (by decide) ?_
  refine lv_istore (lv' := [(4, .int 0), (0, .ref (ka 7)), (1, .int p0), (2, .int p1), (3, .int p2)]) hx hb dX4_addDip_17 hlv (by decide) rfl (fun ls hlv => ?_)
  refine lv_aload_n hx hb dX4_addDip_19 rfl (lv_at hlv 1 rfl) ?_
  refine va_get (D := D) (ci := 4) (v := .ref (ka 42)) (C := RX4) (T := TX4) (N := 5) hx hb hts hi4 hown hG.1 hP 0 rfl rfl 3 (by decide) lf15 (fun _ h9 => h9) rfl dX4_addDip_20 ?_
  refine lv_iload hx hb dX4_addDip_23 (lv_at hlv 0 rfl) ?_
  refine lv_iload_n hx hb dX4_addDip_25 rfl (lv_at hlv 2 rfl) ?_
  refine va_iast hx hb hG.1 hP hD hS 1 0 rfl rfl (vpd (by decide)) dX4_addDip_26 (fun H locs hP hD hS => ?_)
  have ⟨f_1, hP, hD⟩ : ∃ f_1 : Nat → Int32, va_P D vwCl [((ka 7), .inr (4, [.int 0, .ref (ka 41), .int 0, .ref (ka 42), .ref (ka 43)])), ((ka 42), .inl (cy 0, 27, .inl f_1))] H ∧ va_D A [((ka 7), .inr (4, [.int 0, .ref (ka 41), .int 0, .ref (ka 42), .ref (ka 43)])), ((ka 42), .inl (cy 0, 27, .inl f_1))] := ⟨_, hP, hD⟩
  refine lv_aload_n hx hb dX4_addDip_27 rfl (lv_at hlv 1 rfl) ?_
  refine va_get (D := D) (ci := 4) (v := .ref (ka 42)) (C := RX4) (T := TX4) (N := 5) hx hb hts hi4 hown hG.1 hP 0 rfl rfl 3 (by decide) lf15 (fun _ h9 => h9) rfl dX4_addDip_28 ?_
  refine lv_iload hx hb dX4_addDip_31 (lv_at hlv 0 rfl) ?_
  refine lv_iconst (v := 1) hx hb dX4_addDip_33 (by decide) ?_
  refine lv_iadd hx hb dX4_addDip_34 ?_
  refine lt_i (y := 1) (by decide) ?_
  refine lv_iload_n hx hb dX4_addDip_35 rfl (lv_at hlv 3 rfl) ?_
  refine va_iast hx hb hG.1 hP hD hS 1 0 rfl rfl (vpd (by decide)) dX4_addDip_36 (fun H locs hP hD hS => ?_)
  have ⟨f_2, hP, hD⟩ : ∃ f_2 : Nat → Int32, va_P D vwCl [((ka 7), .inr (4, [.int 0, .ref (ka 41), .int 0, .ref (ka 42), .ref (ka 43)])), ((ka 42), .inl (cy 0, 27, .inl f_2))] H ∧ va_D A [((ka 7), .inr (4, [.int 0, .ref (ka 41), .int 0, .ref (ka 42), .ref (ka 43)])), ((ka 42), .inl (cy 0, 27, .inl f_2))] := ⟨_, hP, hD⟩
  refine lv_aload_n hx hb dX4_addDip_37 rfl (lv_at hlv 1 rfl) ?_
  refine va_get (D := D) (ci := 4) (v := .ref (ka 42)) (C := RX4) (T := TX4) (N := 5) hx hb hts hi4 hown hG.1 hP 0 rfl rfl 3 (by decide) lf15 (fun _ h9 => h9) rfl dX4_addDip_38 ?_
  refine lv_iload hx hb dX4_addDip_41 (lv_at hlv 0 rfl) ?_
  refine lv_iconst (v := 2) hx hb dX4_addDip_43 (by decide) ?_
  refine lv_iadd hx hb dX4_addDip_44 ?_
  refine lt_i (y := 2) (by decide) ?_
  refine lv_iload_n hx hb dX4_addDip_45 rfl (lv_at hlv 4 rfl) ?_
  refine va_iast hx hb hG.1 hP hD hS 1 0 rfl rfl (vpd (by decide)) dX4_addDip_46 (fun H locs hP hD hS => ?_)
  have ⟨f_3, hP, hD⟩ : ∃ f_3 : Nat → Int32, va_P D vwCl [((ka 7), .inr (4, [.int 0, .ref (ka 41), .int 0, .ref (ka 42), .ref (ka 43)])), ((ka 42), .inl (cy 0, 27, .inl f_3))] H ∧ va_D A [((ka 7), .inr (4, [.int 0, .ref (ka 41), .int 0, .ref (ka 42), .ref (ka 43)])), ((ka 42), .inl (cy 0, 27, .inl f_3))] := ⟨_, hP, hD⟩
  refine lv_aload_n hx hb dX4_addDip_47 rfl (lv_at hlv 1 rfl) ?_
  refine lv_dup hx hb dX4_addDip_48 rfl ?_
  refine va_get (D := D) (ci := 4) (v := .int 0) (C := RX4) (T := TX4) (N := 5) hx hb hts hi4 hown hG.1 hP 0 rfl rfl 2 (by decide) lf25 (fun _ h9 => h9) rfl dX4_addDip_49 ?_
  refine lv_iconst (v := 1) hx hb dX4_addDip_52 (by decide) ?_
  refine lv_iadd hx hb dX4_addDip_53 ?_
  refine lt_i (y := 1) (by decide) ?_
  refine va_put (D := D) (ci := 4) (v := .int 1) (ty := .int) (C := RX4) (T := TX4) (N := 5) hx hb hts hi4 tyX4 tyX4_ok nmX4 hown hG.1 hP hD hS 0 rfl rfl 2 (by decide) lf25 (fun _ h9 => h9) rfl (by decide +kernel) rfl rfl (Nat.le_of_ble_eq_true rfl) dX4_addDip_54 (fun H locs hP hD hS => ?_)
  have hP : va_P D vwCl [((ka 7), .inr (4, [.int 0, .ref (ka 41), .int 1, .ref (ka 42), .ref (ka 43)])), ((ka 42), .inl (cy 0, 27, .inl f_3))] H := hP
  have hD : va_D A [((ka 7), .inr (4, [.int 0, .ref (ka 41), .int 1, .ref (ka 42), .ref (ka 43)])), ((ka 42), .inl (cy 0, 27, .inl f_3))] := hD
  refine lv_aload_n hx hb dX4_addDip_57 rfl (lv_at hlv 1 rfl) ?_
  refine va_get (D := D) (ci := 4) (v := .int 1) (C := RX4) (T := TX4) (N := 5) hx hb hts hi4 hown hG.1 hP 0 rfl rfl 2 (by decide) lf25 (fun _ h9 => h9) rfl dX4_addDip_58 ?_
  refine W.widen (k := 0) (n := 0) (Nat.le_of_ble_eq_true rfl) (Nat.le_of_ble_eq_true rfl) ?_
  exact W.iret (v := 1) hx hb hr (fun t ht hW => ⟨⟨1, ((fun k => ([] : List Nat).getD k 0), (fun k => ([] : List Int32).getD k 0), (fun k => ([] : List (Nat → Int32)).getD k (fun _ => 0))), rfl, (by first | (exact (by rfl))), by rw [ht]; exact hP.sub [] rfl, hD.sub [] (by decide) rfl⟩, hS.F ht⟩) hS.2.2 dX4_addDip_61
def vs_c_dip : List Cond := .code yX11_dip cX11_dip 4 (some .int) :: (([.fieldLink RX11 41 "KerbSplash" "plan" "LKerbSplash$Plan;", .initialized RX4, .instanceMethod yX4_addDip, .selects RX4 yX4_addDip yX4_addDip] : List Cond) ++ ((va_wsS RX11 130 yX11_isWithin wsX11_isWithin) ++ ((wsV RX11 134 RX11 yX11_needArgument wsX11_needArgument) ++ ((wsX110) ++ ((vs_c_addDip) ++ ([]))))))
set_option maxHeartbeats 4000000 in
set_option maxRecDepth 100000 in
theorem c_dip (l : Launch) (hl : l.stackTraces = false) (D : va_G) (cy : Nat → ClassId) (sa : Nat → Nat) (ko : Nat) (ka : Nat → Nat) (p0 p1 p2 : Int32) (sz : Nat) : vx_Met l yX11_dip vs_c_dip ({ frames := 7, cells := 1, slots := 6, locals := 121 }) (va_Pc [.ref ko, .int p0, .int p1, .int p2] (pcW D cy sa sz [(ko, .inr (11, [.ref (ka 0), .ref (ka 1), .ref (ka 2), .int 0, .int 0, .ref (ka 5), .ref (ka 6), .ref (ka 7), .ref (ka 8), .ref (ka 9), .int 0, .ref (ka 11), .ref (ka 12), .ref (ka 13)])), ((ka 7), .inr (4, [.int 0, .ref (ka 41), .int 0, .ref (ka 42), .ref (ka 43)])), ((ka 42), .inl (cy 0, 27, .inl (fun _ => 0))), ((ka 13), .inl (cy 0, 4, .inl (fun _ => 0)))])) (va_Qi (fun (r : Int32) (u : SU) => (((1 ≤ p0 ∧ p0 ≤ 99) ∧ (1 ≤ p1 ∧ p1 ≤ 30) ∧ (1 ≤ p2 ∧ p2 ≤ 99)) ∧ r = 1)) (fun u t => atW D (va_A [(ko, .inr (11, [.ref (ka 0), .ref (ka 1), .ref (ka 2), .int 0, .int 0, .ref (ka 5), .ref (ka 6), .ref (ka 7), .ref (ka 8), .ref (ka 9), .int 0, .ref (ka 11), .ref (ka 12), .ref (ka 13)])), ((ka 7), .inr (4, [.int 0, .ref (ka 41), .int 0, .ref (ka 42), .ref (ka 43)])), ((ka 42), .inl (cy 0, 27, .inl (fun _ => 0))), ((ka 13), .inl (cy 0, 4, .inl (fun _ => 0)))] sz) [] t) (va_A [(ko, .inr (11, [.ref (ka 0), .ref (ka 1), .ref (ka 2), .int 0, .int 0, .ref (ka 5), .ref (ka 6), .ref (ka 7), .ref (ka 8), .ref (ka 9), .int 0, .ref (ka 11), .ref (ka 12), .ref (ka 13)])), ((ka 7), .inr (4, [.int 0, .ref (ka 41), .int 0, .ref (ka 42), .ref (ka 43)])), ((ka 42), .inl (cy 0, 27, .inl (fun _ => 0))), ((ka 13), .inl (cy 0, 4, .inl (fun _ => 0)))] sz)) (xcW (fun E => (E = "java/lang/IllegalArgumentException" ∧ (¬ ((1 ≤ p0 ∧ p0 ≤ 99) ∧ (1 ≤ p1 ∧ p1 ≤ 30) ∧ (1 ≤ p2 ∧ p2 ≤ 99))))) (va_A [(ko, .inr (11, [.ref (ka 0), .ref (ka 1), .ref (ka 2), .int 0, .int 0, .ref (ka 5), .ref (ka 6), .ref (ka 7), .ref (ka 8), .ref (ka 9), .int 0, .ref (ka 11), .ref (ka 12), .ref (ka 13)])), ((ka 7), .inr (4, [.int 0, .ref (ka 41), .int 0, .ref (ka 42), .ref (ka 43)])), ((ka 42), .inl (cy 0, 27, .inl (fun _ => 0))), ((ka 13), .inl (cy 0, 4, .inl (fun _ => 0)))] sz)) 1 6 (va_A [(ko, .inr (11, [.ref (ka 0), .ref (ka 1), .ref (ka 2), .int 0, .int 0, .ref (ka 5), .ref (ka 6), .ref (ka 7), .ref (ka 8), .ref (ka 9), .int 0, .ref (ka 11), .ref (ka 12), .ref (ka 13)])), ((ka 7), .inr (4, [.int 0, .ref (ka 41), .int 0, .ref (ka 42), .ref (ka 43)])), ((ka 42), .inl (cy 0, 27, .inl (fun _ => 0))), ((ka 13), .inl (cy 0, 4, .inl (fun _ => 0)))] sz) := by
  refine vx_ofW (cc := cX11_dip) (maxL := 4) (ret := (some .int)) (by decide) rfl ?_
  intro p e s m args below meth c s₁ B hml hex hv
  obtain ⟨rfl, hsz, hP, hG, hD0, hT⟩ := hv
  have hx := B.exec
  have hb := B.bytes
  have hr := B.returns
  have hts := atoms_spec (ws := vs_c_dip) B.pre
  have hown : s.vm.findClass RX11 = some m.cls := findClass_of_methodNamed B.named
  have hlocks := B.notSynchronized
  subst hsz
  have hD := hD0.self (sz := s.heap.size)
  generalize hAe : va_A [(ko, .inr (11, [.ref (ka 0), .ref (ka 1), .ref (ka 2), .int 0, .int 0, .ref (ka 5), .ref (ka 6), .ref (ka 7), .ref (ka 8), .ref (ka 9), .int 0, .ref (ka 11), .ref (ka 12), .ref (ka 13)])), ((ka 7), .inr (4, [.int 0, .ref (ka 41), .int 0, .ref (ka 42), .ref (ka 43)])), ((ka 42), .inl (cy 0, 27, .inl (fun _ => 0))), ((ka 13), .inl (cy 0, 4, .inl (fun _ => 0)))] s.heap.size = A at hD hT ⊢
  have hA : ∀ q : Nat, s.heap.size ≤ q → A q := fun q h => by rw [← hAe]; exact Or.inr h
  have hS : va_S A s.heap s.heap [] := va_S.rf
  have hl0 := lv_entry ([.ref ko, .int p0, .int p1, .int p2]) (n := 4) (Nat.le_of_ble_eq_true rfl)
  rw [lg_entry_eq]
  generalize (lg_sl ([.ref ko, .int p0, .int p1, .int p2]) ++ List.replicate (4 - (lg_sl ([.ref ko, .int p0, .int p1, .int p2])).length) Slot.unset).toArray = ls at hl0 ⊢
  have hlv : lv_has ls 4 [(0, .ref ko), (1, .int p0), (2, .int p1), (3, .int p2)] := hl0
  have gg_0 : GoodIn vs_c_dip (va_wsS RX11 130 yX11_isWithin wsX11_isWithin) := goodIn_sub (fun w h => List.mem_cons_of_mem _ (List.mem_append_right _ (List.mem_append_left _ h))) (by decide +kernel)
  have gg_1 : GoodIn vs_c_dip (wsV RX11 134 RX11 yX11_needArgument wsX11_needArgument) := goodIn_sub (fun w h => List.mem_cons_of_mem _ (List.mem_append_right _ (List.mem_append_right _ (List.mem_append_left _ h)))) (by decide +kernel)
  have lf41 := hts (.fieldLink RX11 41 "KerbSplash" "plan" "LKerbSplash$Plan;") (List.mem_of_getElem? (i := 1) rfl)
  have hi11 : ∀ w ∈ wsX110, w ∈ vs_c_dip := fun w h => List.mem_cons_of_mem _ (List.mem_append_right _ (List.mem_append_right _ (List.mem_append_right _ (List.mem_append_left _ h))))
  have gg_3 : GoodIn vs_c_dip (vs_c_addDip) := goodIn_sub (fun w h => List.mem_cons_of_mem _ (List.mem_append_right _ (List.mem_append_right _ (List.mem_append_right _ (List.mem_append_right _ (List.mem_append_left _ h)))))) (by decide +kernel)
  have ini_RX4 := hts (.initialized RX4) (List.mem_of_getElem? (i := 2) rfl)
  have im_X4_addDip := hts (.instanceMethod yX4_addDip) (List.mem_of_getElem? (i := 3) rfl)
  have se_X4_addDip := hts (.selects RX4 yX4_addDip yX4_addDip) (List.mem_of_getElem? (i := 4) rfl)
  refine lv_aload_n hx hb dX11_dip_0 rfl (lv_at hlv 0 rfl) ?_
  refine lv_iload_n hx hb dX11_dip_1 rfl (lv_at hlv 1 rfl) ?_
  refine lv_iconst (v := 1) hx hb dX11_dip_2 (by decide) ?_
  refine lv_bipush (v := 99) hx hb dX11_dip_3 (by decide) ?_
  refine cj_i (wr := [(ko, .inr (11, [.ref (ka 0), .ref (ka 1), .ref (ka 2), .int 0, .int 0, .ref (ka 5), .ref (ka 6), .ref (ka 7), .ref (ka 8), .ref (ka 9), .int 0, .ref (ka 11), .ref (ka 12), .ref (ka 13)])), ((ka 7), .inr (4, [.int 0, .ref (ka 41), .int 0, .ref (ka 42), .ref (ka 43)])), ((ka 42), .inl (cy 0, 27, .inl (fun _ => 0))), ((ka 13), .inl (cy 0, 4, .inl (fun _ => 0)))]) (va_runS (As := [.int p0, .int 1, .int 99]) (rest := [.ref ko]) ⟨hx, hb, hml, hown, hts⟩ (c_isWithin l hl D cy sa p0 1 99 s.heap.size) (va_cwS 3 hts gg_0 rfl rfl rfl (by decide +kernel) ⟨Nat.le_of_ble_eq_true rfl, Nat.le_of_ble_eq_true rfl⟩) ⟨pcW.blind, (pcW.mk hP hD hS hA hG hT [] rfl (by decide))⟩ rfl rfl hlv.1 rfl (lv_room (Nat.le_of_ble_eq_true rfl)) dX11_dip_5 ⟨Nat.le_of_ble_eq_true rfl, Nat.le_of_ble_eq_true rfl⟩) hP hD hS hA [] [0, 1, 2, 3] rfl rfl (by decide) (by decide) (fun r1 u1 H locs hw1 hP hD hS => ?_)
  rcases hw1 with ⟨hg1, rfl⟩ | ⟨hg1, rfl⟩
  · have hP : va_P D vwCl [(ko, .inr (11, [.ref (ka 0), .ref (ka 1), .ref (ka 2), .int 0, .int 0, .ref (ka 5), .ref (ka 6), .ref (ka 7), .ref (ka 8), .ref (ka 9), .int 0, .ref (ka 11), .ref (ka 12), .ref (ka 13)])), ((ka 7), .inr (4, [.int 0, .ref (ka 41), .int 0, .ref (ka 42), .ref (ka 43)])), ((ka 42), .inl (cy 0, 27, .inl (fun _ => 0))), ((ka 13), .inl (cy 0, 4, .inl (fun _ => 0)))] H := hP
    have hD : va_D A [(ko, .inr (11, [.ref (ka 0), .ref (ka 1), .ref (ka 2), .int 0, .int 0, .ref (ka 5), .ref (ka 6), .ref (ka 7), .ref (ka 8), .ref (ka 9), .int 0, .ref (ka 11), .ref (ka 12), .ref (ka 13)])), ((ka 7), .inr (4, [.int 0, .ref (ka 41), .int 0, .ref (ka 42), .ref (ka 43)])), ((ka 42), .inl (cy 0, 27, .inl (fun _ => 0))), ((ka 13), .inl (cy 0, 4, .inl (fun _ => 0)))] := hD
    refine lv_if_eq (tgt := 35) hx hb dX11_dip_8 (by decide) (fun c => absurd c (by decide)) (fun _ => ?_)
    refine lv_iload_n hx hb dX11_dip_11 rfl (lv_at hlv 2 rfl) ?_
    refine lv_iconst (v := 1) hx hb dX11_dip_12 (by decide) ?_
    refine lv_bipush (v := 30) hx hb dX11_dip_13 (by decide) ?_
    refine cj_i (wr := [(ko, .inr (11, [.ref (ka 0), .ref (ka 1), .ref (ka 2), .int 0, .int 0, .ref (ka 5), .ref (ka 6), .ref (ka 7), .ref (ka 8), .ref (ka 9), .int 0, .ref (ka 11), .ref (ka 12), .ref (ka 13)])), ((ka 7), .inr (4, [.int 0, .ref (ka 41), .int 0, .ref (ka 42), .ref (ka 43)])), ((ka 42), .inl (cy 0, 27, .inl (fun _ => 0))), ((ka 13), .inl (cy 0, 4, .inl (fun _ => 0)))]) (va_runS (As := [.int p1, .int 1, .int 30]) (rest := [.ref ko]) ⟨hx, hb, hml, hown, hts⟩ (c_isWithin l hl D cy sa p1 1 30 H.size) (va_cwS 3 hts gg_0 rfl rfl rfl (by decide +kernel) ⟨Nat.le_of_ble_eq_true rfl, Nat.le_of_ble_eq_true rfl⟩) ⟨pcW.blind, (pcW.mk hP hD hS hA hG hT [] rfl (by decide))⟩ rfl rfl hlv.1 rfl (lv_room (Nat.le_of_ble_eq_true rfl)) dX11_dip_15 ⟨Nat.le_of_ble_eq_true rfl, Nat.le_of_ble_eq_true rfl⟩) hP hD hS hA [] [0, 1, 2, 3] rfl rfl (by decide) (by decide) (fun r2 u2 H locs hw2 hP hD hS => ?_)
    rcases hw2 with ⟨hg2, rfl⟩ | ⟨hg2, rfl⟩
    · have hP : va_P D vwCl [(ko, .inr (11, [.ref (ka 0), .ref (ka 1), .ref (ka 2), .int 0, .int 0, .ref (ka 5), .ref (ka 6), .ref (ka 7), .ref (ka 8), .ref (ka 9), .int 0, .ref (ka 11), .ref (ka 12), .ref (ka 13)])), ((ka 7), .inr (4, [.int 0, .ref (ka 41), .int 0, .ref (ka 42), .ref (ka 43)])), ((ka 42), .inl (cy 0, 27, .inl (fun _ => 0))), ((ka 13), .inl (cy 0, 4, .inl (fun _ => 0)))] H := hP
      have hD : va_D A [(ko, .inr (11, [.ref (ka 0), .ref (ka 1), .ref (ka 2), .int 0, .int 0, .ref (ka 5), .ref (ka 6), .ref (ka 7), .ref (ka 8), .ref (ka 9), .int 0, .ref (ka 11), .ref (ka 12), .ref (ka 13)])), ((ka 7), .inr (4, [.int 0, .ref (ka 41), .int 0, .ref (ka 42), .ref (ka 43)])), ((ka 42), .inl (cy 0, 27, .inl (fun _ => 0))), ((ka 13), .inl (cy 0, 4, .inl (fun _ => 0)))] := hD
      refine lv_if_eq (tgt := 35) hx hb dX11_dip_18 (by decide) (fun c => absurd c (by decide)) (fun _ => ?_)
      refine lv_iload_n hx hb dX11_dip_21 rfl (lv_at hlv 3 rfl) ?_
      refine lv_iconst (v := 1) hx hb dX11_dip_22 (by decide) ?_
      refine lv_bipush (v := 99) hx hb dX11_dip_23 (by decide) ?_
      refine cj_i (wr := [(ko, .inr (11, [.ref (ka 0), .ref (ka 1), .ref (ka 2), .int 0, .int 0, .ref (ka 5), .ref (ka 6), .ref (ka 7), .ref (ka 8), .ref (ka 9), .int 0, .ref (ka 11), .ref (ka 12), .ref (ka 13)])), ((ka 7), .inr (4, [.int 0, .ref (ka 41), .int 0, .ref (ka 42), .ref (ka 43)])), ((ka 42), .inl (cy 0, 27, .inl (fun _ => 0))), ((ka 13), .inl (cy 0, 4, .inl (fun _ => 0)))]) (va_runS (As := [.int p2, .int 1, .int 99]) (rest := [.ref ko]) ⟨hx, hb, hml, hown, hts⟩ (c_isWithin l hl D cy sa p2 1 99 H.size) (va_cwS 3 hts gg_0 rfl rfl rfl (by decide +kernel) ⟨Nat.le_of_ble_eq_true rfl, Nat.le_of_ble_eq_true rfl⟩) ⟨pcW.blind, (pcW.mk hP hD hS hA hG hT [] rfl (by decide))⟩ rfl rfl hlv.1 rfl (lv_room (Nat.le_of_ble_eq_true rfl)) dX11_dip_25 ⟨Nat.le_of_ble_eq_true rfl, Nat.le_of_ble_eq_true rfl⟩) hP hD hS hA [] [0, 1, 2, 3] rfl rfl (by decide) (by decide) (fun r3 u3 H locs hw3 hP hD hS => ?_)
      rcases hw3 with ⟨hg3, rfl⟩ | ⟨hg3, rfl⟩
      · have hP : va_P D vwCl [(ko, .inr (11, [.ref (ka 0), .ref (ka 1), .ref (ka 2), .int 0, .int 0, .ref (ka 5), .ref (ka 6), .ref (ka 7), .ref (ka 8), .ref (ka 9), .int 0, .ref (ka 11), .ref (ka 12), .ref (ka 13)])), ((ka 7), .inr (4, [.int 0, .ref (ka 41), .int 0, .ref (ka 42), .ref (ka 43)])), ((ka 42), .inl (cy 0, 27, .inl (fun _ => 0))), ((ka 13), .inl (cy 0, 4, .inl (fun _ => 0)))] H := hP
        have hD : va_D A [(ko, .inr (11, [.ref (ka 0), .ref (ka 1), .ref (ka 2), .int 0, .int 0, .ref (ka 5), .ref (ka 6), .ref (ka 7), .ref (ka 8), .ref (ka 9), .int 0, .ref (ka 11), .ref (ka 12), .ref (ka 13)])), ((ka 7), .inr (4, [.int 0, .ref (ka 41), .int 0, .ref (ka 42), .ref (ka 43)])), ((ka 42), .inl (cy 0, 27, .inl (fun _ => 0))), ((ka 13), .inl (cy 0, 4, .inl (fun _ => 0)))] := hD
        refine lv_if_eq (tgt := 35) hx hb dX11_dip_28 (by decide) (fun c => absurd c (by decide)) (fun _ => ?_)
        refine lv_iconst (v := 1) hx hb dX11_dip_31 (by decide) ?_
        refine lv_goto (tgt := 36) hx hb dX11_dip_32 (by decide) ?_
        refine cj_v (wr := [(ko, .inr (11, [.ref (ka 0), .ref (ka 1), .ref (ka 2), .int 0, .int 0, .ref (ka 5), .ref (ka 6), .ref (ka 7), .ref (ka 8), .ref (ka 9), .int 0, .ref (ka 11), .ref (ka 12), .ref (ka 13)])), ((ka 7), .inr (4, [.int 0, .ref (ka 41), .int 0, .ref (ka 42), .ref (ka 43)])), ((ka 42), .inl (cy 0, 27, .inl (fun _ => 0))), ((ka 13), .inl (cy 0, 4, .inl (fun _ => 0)))]) (va_runV (As := [.int 1]) (rest := []) ⟨hx, hb, hml, hown, hts⟩ (c_needArgument1 l hl D cy sa ko H.size) (cwV 1 hts gg_1 rfl rfl rfl (by decide +kernel) ⟨Nat.le_of_ble_eq_true rfl, Nat.le_of_ble_eq_true rfl⟩) ⟨pcW.blind, (va_recv hG.1 hP (ci := 11) (q0 := 0) rfl rfl), (pcW.mk hP hD hS hA hG hT [] rfl (by decide))⟩ rfl rfl hlv.1 rfl (lv_room (Nat.le_of_ble_eq_true rfl)) dX11_dip_36 ⟨Nat.le_of_ble_eq_true rfl, Nat.le_of_ble_eq_true rfl⟩) hP hD hS hA [] [0, 1, 2, 3] rfl rfl (by decide) (by decide) (fun u4 H locs hw4 hP hD hS => ?_)
        have hP : va_P D vwCl [(ko, .inr (11, [.ref (ka 0), .ref (ka 1), .ref (ka 2), .int 0, .int 0, .ref (ka 5), .ref (ka 6), .ref (ka 7), .ref (ka 8), .ref (ka 9), .int 0, .ref (ka 11), .ref (ka 12), .ref (ka 13)])), ((ka 7), .inr (4, [.int 0, .ref (ka 41), .int 0, .ref (ka 42), .ref (ka 43)])), ((ka 42), .inl (cy 0, 27, .inl (fun _ => 0))), ((ka 13), .inl (cy 0, 4, .inl (fun _ => 0)))] H := hP
        have hD : va_D A [(ko, .inr (11, [.ref (ka 0), .ref (ka 1), .ref (ka 2), .int 0, .int 0, .ref (ka 5), .ref (ka 6), .ref (ka 7), .ref (ka 8), .ref (ka 9), .int 0, .ref (ka 11), .ref (ka 12), .ref (ka 13)])), ((ka 7), .inr (4, [.int 0, .ref (ka 41), .int 0, .ref (ka 42), .ref (ka 43)])), ((ka 42), .inl (cy 0, 27, .inl (fun _ => 0))), ((ka 13), .inl (cy 0, 4, .inl (fun _ => 0)))] := hD
        refine lv_aload_n hx hb dX11_dip_39 rfl (lv_at hlv 0 rfl) ?_
        refine va_get (D := D) (ci := 11) (v := .ref (ka 7)) (C := RX11) (T := TX11) (N := 14) hx hb hts hi11 hown hG.1 hP 0 rfl rfl 7 (by decide) lf41 (fun _ h9 => h9) rfl dX11_dip_40 ?_
        refine lv_iload_n hx hb dX11_dip_43 rfl (lv_at hlv 1 rfl) ?_
        refine lv_iload_n hx hb dX11_dip_44 rfl (lv_at hlv 2 rfl) ?_
        refine lv_iload_n hx hb dX11_dip_45 rfl (lv_at hlv 3 rfl) ?_
        refine cj_i (wr := [(ko, .inr (11, [.ref (ka 0), .ref (ka 1), .ref (ka 2), .int 0, .int 0, .ref (ka 5), .ref (ka 6), .ref (ka 7), .ref (ka 8), .ref (ka 9), .int 0, .ref (ka 11), .ref (ka 12), .ref (ka 13)])), ((ka 13), .inl (cy 0, 4, .inl (fun _ => 0)))]) (va_runVN (host := "KerbSplash") (As := [.int p0, .int p1, .int p2]) (rest := []) ⟨hx, hb, hml, hown, hts⟩ (c_addDip l hl D cy sa ka p0 p1 p2 H.size) ⟨va_cnB 3 hts gg_3 rfl rfl rfl (nM_K_308 hG.2.1) ini_RX4 (by decide +kernel) ⟨Nat.le_of_ble_eq_true rfl, Nat.le_of_ble_eq_true rfl⟩, im_X4_addDip, se_X4_addDip⟩ ⟨pcW.blind, (va_recv hG.1 hP (ci := 4) (q0 := 1) rfl rfl), (pcW.mk hP hD hS hA hG hT [1, 2] rfl (by decide))⟩ rfl rfl hlv.1 rfl (lv_room (Nat.le_of_ble_eq_true rfl)) dX11_dip_46 ⟨Nat.le_of_ble_eq_true rfl, Nat.le_of_ble_eq_true rfl⟩) hP hD hS hA [1, 2] [0, 3] rfl rfl (by decide) (by decide) (fun r5 u5 H locs hw5 hP hD hS => ?_)
        obtain rfl := hw5
        have hP : va_P D vwCl [(ko, .inr (11, [.ref (ka 0), .ref (ka 1), .ref (ka 2), .int 0, .int 0, .ref (ka 5), .ref (ka 6), .ref (ka 7), .ref (ka 8), .ref (ka 9), .int 0, .ref (ka 11), .ref (ka 12), .ref (ka 13)])), ((ka 13), .inl (cy 0, 4, .inl (fun _ => 0)))] H := hP
        have hD : va_D A [(ko, .inr (11, [.ref (ka 0), .ref (ka 1), .ref (ka 2), .int 0, .int 0, .ref (ka 5), .ref (ka 6), .ref (ka 7), .ref (ka 8), .ref (ka 9), .int 0, .ref (ka 11), .ref (ka 12), .ref (ka 13)])), ((ka 13), .inl (cy 0, 4, .inl (fun _ => 0)))] := hD
        refine W.widen (k := 1) (n := 6) (Nat.le_of_ble_eq_true rfl) (Nat.le_of_ble_eq_true rfl) ?_
        refine vx_ret ?_
        exact W.iret (v := 1) hx hb hr (fun t ht hW => ⟨⟨1, ((fun k => ([] : List Nat).getD k 0), (fun k => ([] : List Int32).getD k 0), (fun k => ([] : List (Nat → Int32)).getD k (fun _ => 0))), rfl, (by first | (exact ⟨⟨hg1, hg2, hg3⟩, by rfl⟩)), by rw [ht]; exact hP.sub [] rfl, hD.sub [] (by decide) rfl⟩, hS.F ht⟩) hS.2.2 dX11_dip_49
      · have hP : va_P D vwCl [(ko, .inr (11, [.ref (ka 0), .ref (ka 1), .ref (ka 2), .int 0, .int 0, .ref (ka 5), .ref (ka 6), .ref (ka 7), .ref (ka 8), .ref (ka 9), .int 0, .ref (ka 11), .ref (ka 12), .ref (ka 13)])), ((ka 7), .inr (4, [.int 0, .ref (ka 41), .int 0, .ref (ka 42), .ref (ka 43)])), ((ka 42), .inl (cy 0, 27, .inl (fun _ => 0))), ((ka 13), .inl (cy 0, 4, .inl (fun _ => 0)))] H := hP
        have hD : va_D A [(ko, .inr (11, [.ref (ka 0), .ref (ka 1), .ref (ka 2), .int 0, .int 0, .ref (ka 5), .ref (ka 6), .ref (ka 7), .ref (ka 8), .ref (ka 9), .int 0, .ref (ka 11), .ref (ka 12), .ref (ka 13)])), ((ka 7), .inr (4, [.int 0, .ref (ka 41), .int 0, .ref (ka 42), .ref (ka 43)])), ((ka 42), .inl (cy 0, 27, .inl (fun _ => 0))), ((ka 13), .inl (cy 0, 4, .inl (fun _ => 0)))] := hD
        refine lv_if_eq (tgt := 35) hx hb dX11_dip_28 (by decide) (fun _ => ?_) (fun c => absurd (by decide) c)
        refine lv_iconst (v := 0) hx hb dX11_dip_35 (by decide) ?_
        refine cjx_v (wr := [((ka 7), .inr (4, [.int 0, .ref (ka 41), .int 0, .ref (ka 42), .ref (ka 43)])), ((ka 42), .inl (cy 0, 27, .inl (fun _ => 0)))]) (vx_runV (As := [.int 0]) (rest := []) ⟨hx, hb, hml, hown, hts⟩ (c_needArgument0 l hl D cy sa ko ka H.size) (cwV 1 hts gg_1 rfl rfl rfl (by decide +kernel) ⟨Nat.le_of_ble_eq_true rfl, Nat.le_of_ble_eq_true rfl⟩) ⟨pcW.blind, (va_recv hG.1 hP (ci := 11) (q0 := 0) rfl rfl), (pcW.mk hP hD hS hA hG hT [0, 3] rfl (by decide))⟩ rfl rfl hlv.1 rfl (lv_room (Nat.le_of_ble_eq_true rfl)) dX11_dip_36 ⟨Nat.le_of_ble_eq_true rfl, Nat.le_of_ble_eq_true rfl⟩) hP hD hS hA [0, 3] [1, 2] rfl rfl (by decide) (by decide) (fun E ce q9 H locs hp hP hD hS h1 h2 h3 => ?_) (fun u6 H locs hw6 hP hD hS => ?_)
        · obtain ⟨rfl, hg6⟩ := hp
          exact vx_out (fun x h => (hex x h).elim) hlocks h1 h2 h3 (fun t ht hvm => ⟨(), trivial, (by exact ⟨rfl, (fun q => absurd q.2.2 hg3)⟩), hS.F ht⟩) hS.2.2 (Nat.le_of_ble_eq_true rfl) (Nat.le_of_ble_eq_true rfl)
        · exact (hw6).elim
    · have hP : va_P D vwCl [(ko, .inr (11, [.ref (ka 0), .ref (ka 1), .ref (ka 2), .int 0, .int 0, .ref (ka 5), .ref (ka 6), .ref (ka 7), .ref (ka 8), .ref (ka 9), .int 0, .ref (ka 11), .ref (ka 12), .ref (ka 13)])), ((ka 7), .inr (4, [.int 0, .ref (ka 41), .int 0, .ref (ka 42), .ref (ka 43)])), ((ka 42), .inl (cy 0, 27, .inl (fun _ => 0))), ((ka 13), .inl (cy 0, 4, .inl (fun _ => 0)))] H := hP
      have hD : va_D A [(ko, .inr (11, [.ref (ka 0), .ref (ka 1), .ref (ka 2), .int 0, .int 0, .ref (ka 5), .ref (ka 6), .ref (ka 7), .ref (ka 8), .ref (ka 9), .int 0, .ref (ka 11), .ref (ka 12), .ref (ka 13)])), ((ka 7), .inr (4, [.int 0, .ref (ka 41), .int 0, .ref (ka 42), .ref (ka 43)])), ((ka 42), .inl (cy 0, 27, .inl (fun _ => 0))), ((ka 13), .inl (cy 0, 4, .inl (fun _ => 0)))] := hD
      refine lv_if_eq (tgt := 35) hx hb dX11_dip_18 (by decide) (fun _ => ?_) (fun c => absurd (by decide) c)
      refine lv_iconst (v := 0) hx hb dX11_dip_35 (by decide) ?_
      refine cjx_v (wr := [((ka 7), .inr (4, [.int 0, .ref (ka 41), .int 0, .ref (ka 42), .ref (ka 43)])), ((ka 42), .inl (cy 0, 27, .inl (fun _ => 0)))]) (vx_runV (As := [.int 0]) (rest := []) ⟨hx, hb, hml, hown, hts⟩ (c_needArgument0 l hl D cy sa ko ka H.size) (cwV 1 hts gg_1 rfl rfl rfl (by decide +kernel) ⟨Nat.le_of_ble_eq_true rfl, Nat.le_of_ble_eq_true rfl⟩) ⟨pcW.blind, (va_recv hG.1 hP (ci := 11) (q0 := 0) rfl rfl), (pcW.mk hP hD hS hA hG hT [0, 3] rfl (by decide))⟩ rfl rfl hlv.1 rfl (lv_room (Nat.le_of_ble_eq_true rfl)) dX11_dip_36 ⟨Nat.le_of_ble_eq_true rfl, Nat.le_of_ble_eq_true rfl⟩) hP hD hS hA [0, 3] [1, 2] rfl rfl (by decide) (by decide) (fun E ce q9 H locs hp hP hD hS h1 h2 h3 => ?_) (fun u7 H locs hw7 hP hD hS => ?_)
      · obtain ⟨rfl, hg7⟩ := hp
        exact vx_out (fun x h => (hex x h).elim) hlocks h1 h2 h3 (fun t ht hvm => ⟨(), trivial, (by exact ⟨rfl, (fun q => absurd q.2.1 hg2)⟩), hS.F ht⟩) hS.2.2 (Nat.le_of_ble_eq_true rfl) (Nat.le_of_ble_eq_true rfl)
      · exact (hw7).elim
  · have hP : va_P D vwCl [(ko, .inr (11, [.ref (ka 0), .ref (ka 1), .ref (ka 2), .int 0, .int 0, .ref (ka 5), .ref (ka 6), .ref (ka 7), .ref (ka 8), .ref (ka 9), .int 0, .ref (ka 11), .ref (ka 12), .ref (ka 13)])), ((ka 7), .inr (4, [.int 0, .ref (ka 41), .int 0, .ref (ka 42), .ref (ka 43)])), ((ka 42), .inl (cy 0, 27, .inl (fun _ => 0))), ((ka 13), .inl (cy 0, 4, .inl (fun _ => 0)))] H := hP
    have hD : va_D A [(ko, .inr (11, [.ref (ka 0), .ref (ka 1), .ref (ka 2), .int 0, .int 0, .ref (ka 5), .ref (ka 6), .ref (ka 7), .ref (ka 8), .ref (ka 9), .int 0, .ref (ka 11), .ref (ka 12), .ref (ka 13)])), ((ka 7), .inr (4, [.int 0, .ref (ka 41), .int 0, .ref (ka 42), .ref (ka 43)])), ((ka 42), .inl (cy 0, 27, .inl (fun _ => 0))), ((ka 13), .inl (cy 0, 4, .inl (fun _ => 0)))] := hD
    refine lv_if_eq (tgt := 35) hx hb dX11_dip_8 (by decide) (fun _ => ?_) (fun c => absurd (by decide) c)
    refine lv_iconst (v := 0) hx hb dX11_dip_35 (by decide) ?_
    refine cjx_v (wr := [((ka 7), .inr (4, [.int 0, .ref (ka 41), .int 0, .ref (ka 42), .ref (ka 43)])), ((ka 42), .inl (cy 0, 27, .inl (fun _ => 0)))]) (vx_runV (As := [.int 0]) (rest := []) ⟨hx, hb, hml, hown, hts⟩ (c_needArgument0 l hl D cy sa ko ka H.size) (cwV 1 hts gg_1 rfl rfl rfl (by decide +kernel) ⟨Nat.le_of_ble_eq_true rfl, Nat.le_of_ble_eq_true rfl⟩) ⟨pcW.blind, (va_recv hG.1 hP (ci := 11) (q0 := 0) rfl rfl), (pcW.mk hP hD hS hA hG hT [0, 3] rfl (by decide))⟩ rfl rfl hlv.1 rfl (lv_room (Nat.le_of_ble_eq_true rfl)) dX11_dip_36 ⟨Nat.le_of_ble_eq_true rfl, Nat.le_of_ble_eq_true rfl⟩) hP hD hS hA [0, 3] [1, 2] rfl rfl (by decide) (by decide) (fun E ce q9 H locs hp hP hD hS h1 h2 h3 => ?_) (fun u8 H locs hw8 hP hD hS => ?_)
    · obtain ⟨rfl, hg8⟩ := hp
      exact vx_out (fun x h => (hex x h).elim) hlocks h1 h2 h3 (fun t ht hvm => ⟨(), trivial, (by exact ⟨rfl, (fun q => absurd q.1 hg1)⟩), hS.F ht⟩) hS.2.2 (Nat.le_of_ble_eq_true rfl) (Nat.le_of_ble_eq_true rfl)
    · exact (hw8).elim
def vs_c_status : List Cond := .code yX11_status cX11_status 2 (some .int) :: (([.fieldLink RX11 67 "KerbSplash" "refused" "[I"] : List Cond) ++ ((va_wsS RX11 130 yX11_isWithin wsX11_isWithin) ++ ((wsX110) ++ ([]))))
set_option maxHeartbeats 4000000 in
set_option maxRecDepth 100000 in
theorem c_status (l : Launch) (hl : l.stackTraces = false) (D : va_G) (cy : Nat → ClassId) (sa : Nat → Nat) (ko : Nat) (ka : Nat → Nat) (p0 : Int32) (sz : Nat) : Met l yX11_status vs_c_status ({ frames := 1, cells := 0, slots := 0, locals := 22 }) (va_Pc [.ref ko, .int p0] (pcW D cy sa sz [(ko, .inr (11, [.ref (ka 0), .ref (ka 1), .ref (ka 2), .int 0, .int 0, .ref (ka 5), .ref (ka 6), .ref (ka 7), .ref (ka 8), .ref (ka 9), .int 0, .ref (ka 11), .ref (ka 12), .ref (ka 13)])), ((ka 13), .inl (cy 0, 4, .inl (fun _ => 0)))])) (va_Qi (fun (r : Int32) (u : SU) => (((0 ≤ p0 ∧ p0 ≤ 3)) ∧ r = 0) ∨ ((¬ (0 ≤ p0 ∧ p0 ≤ 3)) ∧ r = (-1))) (fun u t => atW D (va_A [(ko, .inr (11, [.ref (ka 0), .ref (ka 1), .ref (ka 2), .int 0, .int 0, .ref (ka 5), .ref (ka 6), .ref (ka 7), .ref (ka 8), .ref (ka 9), .int 0, .ref (ka 11), .ref (ka 12), .ref (ka 13)])), ((ka 13), .inl (cy 0, 4, .inl (fun _ => 0)))] sz) [] t) (va_A [(ko, .inr (11, [.ref (ka 0), .ref (ka 1), .ref (ka 2), .int 0, .int 0, .ref (ka 5), .ref (ka 6), .ref (ka 7), .ref (ka 8), .ref (ka 9), .int 0, .ref (ka 11), .ref (ka 12), .ref (ka 13)])), ((ka 13), .inl (cy 0, 4, .inl (fun _ => 0)))] sz)) 0 0 (va_A [(ko, .inr (11, [.ref (ka 0), .ref (ka 1), .ref (ka 2), .int 0, .int 0, .ref (ka 5), .ref (ka 6), .ref (ka 7), .ref (ka 8), .ref (ka 9), .int 0, .ref (ka 11), .ref (ka 12), .ref (ka 13)])), ((ka 13), .inl (cy 0, 4, .inl (fun _ => 0)))] sz) := by
  refine Met.ofW (cc := cX11_status) (maxL := 2) (ret := (some .int)) (by decide) rfl ?_
  intro p e s m args below meth c s₁ B hml hv
  obtain ⟨rfl, hsz, hP, hG, hD0, hT⟩ := hv
  have hx := B.exec
  have hb := B.bytes
  have hr := B.returns
  have hts := atoms_spec (ws := vs_c_status) B.pre
  have hown : s.vm.findClass RX11 = some m.cls := findClass_of_methodNamed B.named
  have hlocks := B.notSynchronized
  subst hsz
  have hD := hD0.self (sz := s.heap.size)
  generalize hAe : va_A [(ko, .inr (11, [.ref (ka 0), .ref (ka 1), .ref (ka 2), .int 0, .int 0, .ref (ka 5), .ref (ka 6), .ref (ka 7), .ref (ka 8), .ref (ka 9), .int 0, .ref (ka 11), .ref (ka 12), .ref (ka 13)])), ((ka 13), .inl (cy 0, 4, .inl (fun _ => 0)))] s.heap.size = A at hD hT ⊢
  have hA : ∀ q : Nat, s.heap.size ≤ q → A q := fun q h => by rw [← hAe]; exact Or.inr h
  have hS : va_S A s.heap s.heap [] := va_S.rf
  have hl0 := lv_entry ([.ref ko, .int p0]) (n := 2) (Nat.le_of_ble_eq_true rfl)
  rw [lg_entry_eq]
  generalize (lg_sl ([.ref ko, .int p0]) ++ List.replicate (2 - (lg_sl ([.ref ko, .int p0])).length) Slot.unset).toArray = ls at hl0 ⊢
  have hlv : lv_has ls 2 [(0, .ref ko), (1, .int p0)] := hl0
  have gg_0 : GoodIn vs_c_status (va_wsS RX11 130 yX11_isWithin wsX11_isWithin) := goodIn_sub (fun w h => List.mem_cons_of_mem _ (List.mem_append_right _ (List.mem_append_left _ h))) (by decide +kernel)
  have lf67 := hts (.fieldLink RX11 67 "KerbSplash" "refused" "[I") (List.mem_of_getElem? (i := 1) rfl)
  have hi11 : ∀ w ∈ wsX110, w ∈ vs_c_status := fun w h => List.mem_cons_of_mem _ (List.mem_append_right _ (List.mem_append_right _ (List.mem_append_left _ h)))
  refine lv_iload_n hx hb dX11_status_0 rfl (lv_at hlv 1 rfl) ?_
  refine lv_iconst (v := 0) hx hb dX11_status_1 (by decide) ?_
  refine lv_iconst (v := 3) hx hb dX11_status_2 (by decide) ?_
  refine cj_i (wr := [(ko, .inr (11, [.ref (ka 0), .ref (ka 1), .ref (ka 2), .int 0, .int 0, .ref (ka 5), .ref (ka 6), .ref (ka 7), .ref (ka 8), .ref (ka 9), .int 0, .ref (ka 11), .ref (ka 12), .ref (ka 13)])), ((ka 13), .inl (cy 0, 4, .inl (fun _ => 0)))]) (va_runS (As := [.int p0, .int 0, .int 3]) (rest := []) ⟨hx, hb, hml, hown, hts⟩ (c_isWithin l hl D cy sa p0 0 3 s.heap.size) (va_cwS 3 hts gg_0 rfl rfl rfl (by decide +kernel) ⟨Nat.le_of_ble_eq_true rfl, Nat.le_of_ble_eq_true rfl⟩) ⟨pcW.blind, (pcW.mk hP hD hS hA hG hT [] rfl (by decide))⟩ rfl rfl hlv.1 rfl (lv_room (Nat.le_of_ble_eq_true rfl)) dX11_status_3 ⟨Nat.le_of_ble_eq_true rfl, Nat.le_of_ble_eq_true rfl⟩) hP hD hS hA [] [0, 1] rfl rfl (by decide) (by decide) (fun r1 u1 H locs hw1 hP hD hS => ?_)
  rcases hw1 with ⟨hg1, rfl⟩ | ⟨hg1, rfl⟩
  · have hP : va_P D vwCl [(ko, .inr (11, [.ref (ka 0), .ref (ka 1), .ref (ka 2), .int 0, .int 0, .ref (ka 5), .ref (ka 6), .ref (ka 7), .ref (ka 8), .ref (ka 9), .int 0, .ref (ka 11), .ref (ka 12), .ref (ka 13)])), ((ka 13), .inl (cy 0, 4, .inl (fun _ => 0)))] H := hP
    have hD : va_D A [(ko, .inr (11, [.ref (ka 0), .ref (ka 1), .ref (ka 2), .int 0, .int 0, .ref (ka 5), .ref (ka 6), .ref (ka 7), .ref (ka 8), .ref (ka 9), .int 0, .ref (ka 11), .ref (ka 12), .ref (ka 13)])), ((ka 13), .inl (cy 0, 4, .inl (fun _ => 0)))] := hD
    refine lv_if_eq (tgt := 18) hx hb dX11_status_6 (by decide) (fun c => absurd c (by decide)) (fun _ => ?_)
    refine lv_aload_n hx hb dX11_status_9 rfl (lv_at hlv 0 rfl) ?_
    refine va_get (D := D) (ci := 11) (v := .ref (ka 13)) (C := RX11) (T := TX11) (N := 14) hx hb hts hi11 hown hG.1 hP 0 rfl rfl 13 (by decide) lf67 (fun _ h9 => h9) rfl dX11_status_10 ?_
    refine lv_iload_n hx hb dX11_status_13 rfl (lv_at hlv 1 rfl) ?_
    refine va_iald hx hb hG.1 hP 1 0 rfl rfl (inbd hg1 (by decide)) dX11_status_14 ?_
    refine lt_i (y := 0) rfl ?_
    refine lv_goto (tgt := 19) hx hb dX11_status_15 (by decide) ?_
    refine W.widen (k := 0) (n := 0) (Nat.le_of_ble_eq_true rfl) (Nat.le_of_ble_eq_true rfl) ?_
    exact W.iret (v := 0) hx hb hr (fun t ht hW => ⟨⟨0, ((fun k => ([] : List Nat).getD k 0), (fun k => ([] : List Int32).getD k 0), (fun k => ([] : List (Nat → Int32)).getD k (fun _ => 0))), rfl, (by first | (left; exact ⟨hg1, by rfl⟩)), by rw [ht]; exact hP.sub [] rfl, hD.sub [] (by decide) rfl⟩, hS.F ht⟩) hS.2.2 dX11_status_19
  · have hP : va_P D vwCl [(ko, .inr (11, [.ref (ka 0), .ref (ka 1), .ref (ka 2), .int 0, .int 0, .ref (ka 5), .ref (ka 6), .ref (ka 7), .ref (ka 8), .ref (ka 9), .int 0, .ref (ka 11), .ref (ka 12), .ref (ka 13)])), ((ka 13), .inl (cy 0, 4, .inl (fun _ => 0)))] H := hP
    have hD : va_D A [(ko, .inr (11, [.ref (ka 0), .ref (ka 1), .ref (ka 2), .int 0, .int 0, .ref (ka 5), .ref (ka 6), .ref (ka 7), .ref (ka 8), .ref (ka 9), .int 0, .ref (ka 11), .ref (ka 12), .ref (ka 13)])), ((ka 13), .inl (cy 0, 4, .inl (fun _ => 0)))] := hD
    refine lv_if_eq (tgt := 18) hx hb dX11_status_6 (by decide) (fun _ => ?_) (fun c => absurd (by decide) c)
    refine lv_iconst (v := (-1)) hx hb dX11_status_18 (by decide) ?_
    refine W.widen (k := 0) (n := 0) (Nat.le_of_ble_eq_true rfl) (Nat.le_of_ble_eq_true rfl) ?_
    exact W.iret (v := (-1)) hx hb hr (fun t ht hW => ⟨⟨(-1), ((fun k => ([] : List Nat).getD k 0), (fun k => ([] : List Int32).getD k 0), (fun k => ([] : List (Nat → Int32)).getD k (fun _ => 0))), rfl, (by first | (right; exact ⟨hg1, by rfl⟩)), by rw [ht]; exact hP.sub [] rfl, hD.sub [] (by decide) rfl⟩, hS.F ht⟩) hS.2.2 dX11_status_19
def vs_c_hasRoom : List Cond := .code yX8_hasRoom cX8_hasRoom 1 (some .boolean) :: (([.fieldLink RX8 19 "KerbSplash$Tape" "fed" "I"] : List Cond) ++ ((wsX80) ++ ([])))
set_option maxHeartbeats 4000000 in
set_option maxRecDepth 100000 in
theorem c_hasRoom (l : Launch) (hl : l.stackTraces = false) (D : va_G) (cy : Nat → ClassId) (sa : Nat → Nat) (ka : Nat → Nat) (sz : Nat) : Met l yX8_hasRoom vs_c_hasRoom ({ frames := 0, cells := 0, slots := 0, locals := 0 }) (va_Pc [.ref (ka 0)] (pcW D cy sa sz [((ka 0), .inr (8, [.ref (ka 20), .int 0, .int 0, .int 0, .int 0, .int 0, .int (-1)]))])) (va_Qi (fun (r : Int32) (u : SU) => (r = 1)) (fun u t => atW D (va_A [((ka 0), .inr (8, [.ref (ka 20), .int 0, .int 0, .int 0, .int 0, .int 0, .int (-1)]))] sz) [((ka 0), .inr (8, [.ref (ka 20), .int 0, .int 0, .int 0, .int 0, .int 0, .int (-1)]))] t) (va_A [((ka 0), .inr (8, [.ref (ka 20), .int 0, .int 0, .int 0, .int 0, .int 0, .int (-1)]))] sz)) 0 0 (va_A [((ka 0), .inr (8, [.ref (ka 20), .int 0, .int 0, .int 0, .int 0, .int 0, .int (-1)]))] sz) := by
  refine Met.ofW (cc := cX8_hasRoom) (maxL := 1) (ret := (some .boolean)) (by decide) rfl ?_
  intro p e s m args below meth c s₁ B hml hv
  obtain ⟨rfl, hsz, hP, hG, hD0, hT⟩ := hv
  have hx := B.exec
  have hb := B.bytes
  have hr := B.returns
  have hts := atoms_spec (ws := vs_c_hasRoom) B.pre
  have hown : s.vm.findClass RX8 = some m.cls := findClass_of_methodNamed B.named
  have hlocks := B.notSynchronized
  subst hsz
  have hD := hD0.self (sz := s.heap.size)
  generalize hAe : va_A [((ka 0), .inr (8, [.ref (ka 20), .int 0, .int 0, .int 0, .int 0, .int 0, .int (-1)]))] s.heap.size = A at hD hT ⊢
  have hA : ∀ q : Nat, s.heap.size ≤ q → A q := fun q h => by rw [← hAe]; exact Or.inr h
  have hS : va_S A s.heap s.heap [] := va_S.rf
  have hl0 := lv_entry ([.ref (ka 0)]) (n := 1) (Nat.le_of_ble_eq_true rfl)
  rw [lg_entry_eq]
  generalize (lg_sl ([.ref (ka 0)]) ++ List.replicate (1 - (lg_sl ([.ref (ka 0)])).length) Slot.unset).toArray = ls at hl0 ⊢
  have hlv : lv_has ls 1 [(0, .ref (ka 0))] := hl0
  have lf19 := hts (.fieldLink RX8 19 "KerbSplash$Tape" "fed" "I") (List.mem_of_getElem? (i := 1) rfl)
  have hi8 : ∀ w ∈ wsX80, w ∈ vs_c_hasRoom := fun w h => List.mem_cons_of_mem _ (List.mem_append_right _ (List.mem_append_left _ h))
  refine lv_aload_n hx hb dX8_hasRoom_0 rfl (lv_at hlv 0 rfl) ?_
  refine va_get (D := D) (ci := 8) (v := .int 0) (C := RX8) (T := TX8) (N := 7) hx hb hts hi8 hown hG.1 hP 0 rfl rfl 1 (by decide) lf19 (fun _ h9 => h9) rfl dX8_hasRoom_1 ?_
  refine lv_bipush (v := 20) hx hb dX8_hasRoom_4 (by decide) ?_
  refine lv_iadd hx hb dX8_hasRoom_6 ?_
  refine lt_i (y := 20) (by decide) ?_
  refine lv_sipush (v := 600) hx hb dX8_hasRoom_7 (by decide) ?_
  refine lv_icmp_gt (tgt := 17) hx hb dX8_hasRoom_10 (by decide) (fun c => absurd c (by decide)) (fun _ => ?_)
  refine lv_iconst (v := 1) hx hb dX8_hasRoom_13 (by decide) ?_
  refine lv_goto (tgt := 18) hx hb dX8_hasRoom_14 (by decide) ?_
  refine W.widen (k := 0) (n := 0) (Nat.le_of_ble_eq_true rfl) (Nat.le_of_ble_eq_true rfl) ?_
  exact W.zret (v := 1) hx hb hr (by first | rfl | decide) (fun t ht hW => ⟨⟨1, ((fun k => ([] : List Nat).getD k 0), (fun k => ([] : List Int32).getD k 0), (fun k => ([] : List (Nat → Int32)).getD k (fun _ => 0))), rfl, (by first | (exact (by rfl))), by rw [ht]; exact hP.sub [0] rfl, hD.sub [0] (by decide) rfl⟩, hS.F ht⟩) hS.2.2 dX8_hasRoom_18
def vs_c_tadd0 : List Cond := .code yX8_add cX8_add 3 none :: (([.fieldLink RX8 19 "KerbSplash$Tape" "fed" "I", .fieldLink RX8 11 "KerbSplash$Tape" "bytes" "[B"] : List Cond) ++ ((wsX80) ++ ([])))
set_option maxHeartbeats 4000000 in
set_option maxRecDepth 100000 in
theorem c_tadd0 (l : Launch) (hl : l.stackTraces = false) (D : va_G) (cy : Nat → ClassId) (sa : Nat → Nat) (ka : Nat → Nat) (n : Int32) (f0 : Nat → Int32) (sz : Nat) : Met l yX8_add vs_c_tadd0 ({ frames := 0, cells := 0, slots := 0, locals := 0 }) (va_Pc [.ref (ka 0), .int n] (pcW D cy sa sz [((ka 0), .inr (8, [.ref (ka 20), .int 0, .int 0, .int 0, .int 0, .int 0, .int (-1)])), ((ka 20), .inl (cy 1, 600, .inl f0))])) (va_Qv (fun u : SU => (True)) (fun u t => atW D (va_A [((ka 0), .inr (8, [.ref (ka 20), .int 0, .int 0, .int 0, .int 0, .int 0, .int (-1)])), ((ka 20), .inl (cy 1, 600, .inl f0))] sz) [((ka 0), .inr (8, [.ref (ka 20), .int 4, .int 0, .int 0, .int 0, .int 0, .int (-1)])), ((ka 20), .inl (cy 1, 600, .inl (u.2.2 0)))] t) (va_A [((ka 0), .inr (8, [.ref (ka 20), .int 0, .int 0, .int 0, .int 0, .int 0, .int (-1)])), ((ka 20), .inl (cy 1, 600, .inl f0))] sz)) 0 0 (va_A [((ka 0), .inr (8, [.ref (ka 20), .int 0, .int 0, .int 0, .int 0, .int 0, .int (-1)])), ((ka 20), .inl (cy 1, 600, .inl f0))] sz) := by
  refine Met.ofW (cc := cX8_add) (maxL := 3) (ret := none) (by decide) rfl ?_
  intro p e s m args below meth c s₁ B hml hv
  obtain ⟨rfl, hsz, hP, hG, hD0, hT⟩ := hv
  have hx := B.exec
  have hb := B.bytes
  have hr := B.returns
  have hts := atoms_spec (ws := vs_c_tadd0) B.pre
  have hown : s.vm.findClass RX8 = some m.cls := findClass_of_methodNamed B.named
  have hlocks := B.notSynchronized
  subst hsz
  have hD := hD0.self (sz := s.heap.size)
  generalize hAe : va_A [((ka 0), .inr (8, [.ref (ka 20), .int 0, .int 0, .int 0, .int 0, .int 0, .int (-1)])), ((ka 20), .inl (cy 1, 600, .inl f0))] s.heap.size = A at hD hT ⊢
  have hA : ∀ q : Nat, s.heap.size ≤ q → A q := fun q h => by rw [← hAe]; exact Or.inr h
  have hS : va_S A s.heap s.heap [] := va_S.rf
  have hl0 := lv_entry ([.ref (ka 0), .int n]) (n := 3) (Nat.le_of_ble_eq_true rfl)
  rw [lg_entry_eq]
  generalize (lg_sl ([.ref (ka 0), .int n]) ++ List.replicate (3 - (lg_sl ([.ref (ka 0), .int n])).length) Slot.unset).toArray = ls at hl0 ⊢
  have hlv : lv_has ls 3 [(0, .ref (ka 0)), (1, .int n)] := hl0
  have lf19 := hts (.fieldLink RX8 19 "KerbSplash$Tape" "fed" "I") (List.mem_of_getElem? (i := 1) rfl)
  have hi8 : ∀ w ∈ wsX80, w ∈ vs_c_tadd0 := fun w h => List.mem_cons_of_mem _ (List.mem_append_right _ (List.mem_append_left _ h))
  have lf11 := hts (.fieldLink RX8 11 "KerbSplash$Tape" "bytes" "[B") (List.mem_of_getElem? (i := 2) rfl)
  refine lv_bipush (v := 24) hx hb dX8_add_0 (by decide) ?_
  refine lv_istore_n (lv' := [(2, .int 24), (0, .ref (ka 0)), (1, .int n)]) hx hb dX8_add_2 rfl hlv (by decide) rfl (fun ls hlv => ?_)
  refine lv_iload_n hx hb dX8_add_3 rfl (lv_at hlv 0 rfl) ?_
  refine lv_if_lt (tgt := 46) hx hb dX8_add_4 (by decide) (fun c => absurd c (by decide)) (fun _ => ?_)
  refine lv_aload_n hx hb dX8_add_7 rfl (lv_at hlv 1 rfl) ?_
  refine va_get (D := D) (ci := 8) (v := .int 0) (C := RX8) (T := TX8) (N := 7) hx hb hts hi8 hown hG.1 hP 0 rfl rfl 1 (by decide) lf19 (fun _ h9 => h9) rfl dX8_add_8 ?_
  refine lv_sipush (v := 600) hx hb dX8_add_11 (by decide) ?_
  refine lv_icmp_ge (tgt := 46) hx hb dX8_add_14 (by decide) (fun c => absurd c (by decide)) (fun _ => ?_)
  refine lv_aload_n hx hb dX8_add_17 rfl (lv_at hlv 1 rfl) ?_
  refine va_get (D := D) (ci := 8) (v := .ref (ka 20)) (C := RX8) (T := TX8) (N := 7) hx hb hts hi8 hown hG.1 hP 0 rfl rfl 0 (by decide) lf11 (fun _ h9 => h9) rfl dX8_add_18 ?_
  refine lv_aload_n hx hb dX8_add_21 rfl (lv_at hlv 1 rfl) ?_
  refine va_get (D := D) (ci := 8) (v := .int 0) (C := RX8) (T := TX8) (N := 7) hx hb hts hi8 hown hG.1 hP 0 rfl rfl 1 (by decide) lf19 (fun _ h9 => h9) rfl dX8_add_22 ?_
  refine lv_iload_n hx hb dX8_add_25 rfl (lv_at hlv 2 rfl) ?_
  refine lv_iload_n hx hb dX8_add_26 rfl (lv_at hlv 0 rfl) ?_
  refine lv_ishr hx hb dX8_add_27 ?_
  refine lv_topi (fun z_1 ez_1 => ?_)
  refine lv_i2b (v := z_1.toInt8.toInt32) hx hb dX8_add_28 rfl ?_
  refine va_bast hx hb hG.1 hP hD hS 1 1 rfl rfl (vpd (by decide)) dX8_add_29 (fun H locs hP hD hS => ?_)
  have ⟨f_3, hP, hD⟩ : ∃ f_3 : Nat → Int32, va_P D vwCl [((ka 0), .inr (8, [.ref (ka 20), .int 0, .int 0, .int 0, .int 0, .int 0, .int (-1)])), ((ka 20), .inl (cy 1, 600, .inl f_3))] H ∧ va_D A [((ka 0), .inr (8, [.ref (ka 20), .int 0, .int 0, .int 0, .int 0, .int 0, .int (-1)])), ((ka 20), .inl (cy 1, 600, .inl f_3))] := ⟨_, hP, hD⟩
  refine lv_aload_n hx hb dX8_add_30 rfl (lv_at hlv 1 rfl) ?_
  refine lv_dup hx hb dX8_add_31 rfl ?_
  refine va_get (D := D) (ci := 8) (v := .int 0) (C := RX8) (T := TX8) (N := 7) hx hb hts hi8 hown hG.1 hP 0 rfl rfl 1 (by decide) lf19 (fun _ h9 => h9) rfl dX8_add_32 ?_
  refine lv_iconst (v := 1) hx hb dX8_add_35 (by decide) ?_
  refine lv_iadd hx hb dX8_add_36 ?_
  refine lt_i (y := 1) (by decide) ?_
  refine va_put (D := D) (ci := 8) (v := .int 1) (ty := .int) (C := RX8) (T := TX8) (N := 7) hx hb hts hi8 tyX8 tyX8_ok nmX8 hown hG.1 hP hD hS 0 rfl rfl 1 (by decide) lf19 (fun _ h9 => h9) rfl (by decide +kernel) rfl rfl (Nat.le_of_ble_eq_true rfl) dX8_add_37 (fun H locs hP hD hS => ?_)
  have hP : va_P D vwCl [((ka 0), .inr (8, [.ref (ka 20), .int 1, .int 0, .int 0, .int 0, .int 0, .int (-1)])), ((ka 20), .inl (cy 1, 600, .inl f_3))] H := hP
  have hD : va_D A [((ka 0), .inr (8, [.ref (ka 20), .int 1, .int 0, .int 0, .int 0, .int 0, .int (-1)])), ((ka 20), .inl (cy 1, 600, .inl f_3))] := hD
  refine lv_iinc (v := 16) (lv' := [(2, .int 16), (0, .ref (ka 0)), (1, .int n)]) hx hb dX8_add_40 hlv (k := 0) rfl (by decide) (by decide) rfl (fun ls hlv => ?_)
  refine lv_goto (tgt := 3) hx hb dX8_add_43 (by decide) ?_
  refine lv_iload_n hx hb dX8_add_3 rfl (lv_at hlv 0 rfl) ?_
  refine lv_if_lt (tgt := 46) hx hb dX8_add_4 (by decide) (fun c => absurd c (by decide)) (fun _ => ?_)
  refine lv_aload_n hx hb dX8_add_7 rfl (lv_at hlv 1 rfl) ?_
  refine va_get (D := D) (ci := 8) (v := .int 1) (C := RX8) (T := TX8) (N := 7) hx hb hts hi8 hown hG.1 hP 0 rfl rfl 1 (by decide) lf19 (fun _ h9 => h9) rfl dX8_add_8 ?_
  refine lv_sipush (v := 600) hx hb dX8_add_11 (by decide) ?_
  refine lv_icmp_ge (tgt := 46) hx hb dX8_add_14 (by decide) (fun c => absurd c (by decide)) (fun _ => ?_)
  refine lv_aload_n hx hb dX8_add_17 rfl (lv_at hlv 1 rfl) ?_
  refine va_get (D := D) (ci := 8) (v := .ref (ka 20)) (C := RX8) (T := TX8) (N := 7) hx hb hts hi8 hown hG.1 hP 0 rfl rfl 0 (by decide) lf11 (fun _ h9 => h9) rfl dX8_add_18 ?_
  refine lv_aload_n hx hb dX8_add_21 rfl (lv_at hlv 1 rfl) ?_
  refine va_get (D := D) (ci := 8) (v := .int 1) (C := RX8) (T := TX8) (N := 7) hx hb hts hi8 hown hG.1 hP 0 rfl rfl 1 (by decide) lf19 (fun _ h9 => h9) rfl dX8_add_22 ?_
  refine lv_iload_n hx hb dX8_add_25 rfl (lv_at hlv 2 rfl) ?_
  refine lv_iload_n hx hb dX8_add_26 rfl (lv_at hlv 0 rfl) ?_
  refine lv_ishr hx hb dX8_add_27 ?_
  refine lv_topi (fun z_4 ez_4 => ?_)
  refine lv_i2b (v := z_4.toInt8.toInt32) hx hb dX8_add_28 rfl ?_
  refine va_bast hx hb hG.1 hP hD hS 1 1 rfl rfl (vpd (by decide)) dX8_add_29 (fun H locs hP hD hS => ?_)
  have ⟨f_6, hP, hD⟩ : ∃ f_6 : Nat → Int32, va_P D vwCl [((ka 0), .inr (8, [.ref (ka 20), .int 1, .int 0, .int 0, .int 0, .int 0, .int (-1)])), ((ka 20), .inl (cy 1, 600, .inl f_6))] H ∧ va_D A [((ka 0), .inr (8, [.ref (ka 20), .int 1, .int 0, .int 0, .int 0, .int 0, .int (-1)])), ((ka 20), .inl (cy 1, 600, .inl f_6))] := ⟨_, hP, hD⟩
  refine lv_aload_n hx hb dX8_add_30 rfl (lv_at hlv 1 rfl) ?_
  refine lv_dup hx hb dX8_add_31 rfl ?_
  refine va_get (D := D) (ci := 8) (v := .int 1) (C := RX8) (T := TX8) (N := 7) hx hb hts hi8 hown hG.1 hP 0 rfl rfl 1 (by decide) lf19 (fun _ h9 => h9) rfl dX8_add_32 ?_
  refine lv_iconst (v := 1) hx hb dX8_add_35 (by decide) ?_
  refine lv_iadd hx hb dX8_add_36 ?_
  refine lt_i (y := 2) (by decide) ?_
  refine va_put (D := D) (ci := 8) (v := .int 2) (ty := .int) (C := RX8) (T := TX8) (N := 7) hx hb hts hi8 tyX8 tyX8_ok nmX8 hown hG.1 hP hD hS 0 rfl rfl 1 (by decide) lf19 (fun _ h9 => h9) rfl (by decide +kernel) rfl rfl (Nat.le_of_ble_eq_true rfl) dX8_add_37 (fun H locs hP hD hS => ?_)
  have hP : va_P D vwCl [((ka 0), .inr (8, [.ref (ka 20), .int 2, .int 0, .int 0, .int 0, .int 0, .int (-1)])), ((ka 20), .inl (cy 1, 600, .inl f_6))] H := hP
  have hD : va_D A [((ka 0), .inr (8, [.ref (ka 20), .int 2, .int 0, .int 0, .int 0, .int 0, .int (-1)])), ((ka 20), .inl (cy 1, 600, .inl f_6))] := hD
  refine lv_iinc (v := 8) (lv' := [(2, .int 8), (0, .ref (ka 0)), (1, .int n)]) hx hb dX8_add_40 hlv (k := 0) rfl (by decide) (by decide) rfl (fun ls hlv => ?_)
  refine lv_goto (tgt := 3) hx hb dX8_add_43 (by decide) ?_
  refine lv_iload_n hx hb dX8_add_3 rfl (lv_at hlv 0 rfl) ?_
  refine lv_if_lt (tgt := 46) hx hb dX8_add_4 (by decide) (fun c => absurd c (by decide)) (fun _ => ?_)
  refine lv_aload_n hx hb dX8_add_7 rfl (lv_at hlv 1 rfl) ?_
  refine va_get (D := D) (ci := 8) (v := .int 2) (C := RX8) (T := TX8) (N := 7) hx hb hts hi8 hown hG.1 hP 0 rfl rfl 1 (by decide) lf19 (fun _ h9 => h9) rfl dX8_add_8 ?_
  refine lv_sipush (v := 600) hx hb dX8_add_11 (by decide) ?_
  refine lv_icmp_ge (tgt := 46) hx hb dX8_add_14 (by decide) (fun c => absurd c (by decide)) (fun _ => ?_)
  refine lv_aload_n hx hb dX8_add_17 rfl (lv_at hlv 1 rfl) ?_
  refine va_get (D := D) (ci := 8) (v := .ref (ka 20)) (C := RX8) (T := TX8) (N := 7) hx hb hts hi8 hown hG.1 hP 0 rfl rfl 0 (by decide) lf11 (fun _ h9 => h9) rfl dX8_add_18 ?_
  refine lv_aload_n hx hb dX8_add_21 rfl (lv_at hlv 1 rfl) ?_
  refine va_get (D := D) (ci := 8) (v := .int 2) (C := RX8) (T := TX8) (N := 7) hx hb hts hi8 hown hG.1 hP 0 rfl rfl 1 (by decide) lf19 (fun _ h9 => h9) rfl dX8_add_22 ?_
  refine lv_iload_n hx hb dX8_add_25 rfl (lv_at hlv 2 rfl) ?_
  refine lv_iload_n hx hb dX8_add_26 rfl (lv_at hlv 0 rfl) ?_
  refine lv_ishr hx hb dX8_add_27 ?_
  refine lv_topi (fun z_7 ez_7 => ?_)
  refine lv_i2b (v := z_7.toInt8.toInt32) hx hb dX8_add_28 rfl ?_
  refine va_bast hx hb hG.1 hP hD hS 1 1 rfl rfl (vpd (by decide)) dX8_add_29 (fun H locs hP hD hS => ?_)
  have ⟨f_9, hP, hD⟩ : ∃ f_9 : Nat → Int32, va_P D vwCl [((ka 0), .inr (8, [.ref (ka 20), .int 2, .int 0, .int 0, .int 0, .int 0, .int (-1)])), ((ka 20), .inl (cy 1, 600, .inl f_9))] H ∧ va_D A [((ka 0), .inr (8, [.ref (ka 20), .int 2, .int 0, .int 0, .int 0, .int 0, .int (-1)])), ((ka 20), .inl (cy 1, 600, .inl f_9))] := ⟨_, hP, hD⟩
  refine lv_aload_n hx hb dX8_add_30 rfl (lv_at hlv 1 rfl) ?_
  refine lv_dup hx hb dX8_add_31 rfl ?_
  refine va_get (D := D) (ci := 8) (v := .int 2) (C := RX8) (T := TX8) (N := 7) hx hb hts hi8 hown hG.1 hP 0 rfl rfl 1 (by decide) lf19 (fun _ h9 => h9) rfl dX8_add_32 ?_
  refine lv_iconst (v := 1) hx hb dX8_add_35 (by decide) ?_
  refine lv_iadd hx hb dX8_add_36 ?_
  refine lt_i (y := 3) (by decide) ?_
  refine va_put (D := D) (ci := 8) (v := .int 3) (ty := .int) (C := RX8) (T := TX8) (N := 7) hx hb hts hi8 tyX8 tyX8_ok nmX8 hown hG.1 hP hD hS 0 rfl rfl 1 (by decide) lf19 (fun _ h9 => h9) rfl (by decide +kernel) rfl rfl (Nat.le_of_ble_eq_true rfl) dX8_add_37 (fun H locs hP hD hS => ?_)
  have hP : va_P D vwCl [((ka 0), .inr (8, [.ref (ka 20), .int 3, .int 0, .int 0, .int 0, .int 0, .int (-1)])), ((ka 20), .inl (cy 1, 600, .inl f_9))] H := hP
  have hD : va_D A [((ka 0), .inr (8, [.ref (ka 20), .int 3, .int 0, .int 0, .int 0, .int 0, .int (-1)])), ((ka 20), .inl (cy 1, 600, .inl f_9))] := hD
  refine lv_iinc (v := 0) (lv' := [(2, .int 0), (0, .ref (ka 0)), (1, .int n)]) hx hb dX8_add_40 hlv (k := 0) rfl (by decide) (by decide) rfl (fun ls hlv => ?_)
  refine lv_goto (tgt := 3) hx hb dX8_add_43 (by decide) ?_
  refine lv_iload_n hx hb dX8_add_3 rfl (lv_at hlv 0 rfl) ?_
  refine lv_if_lt (tgt := 46) hx hb dX8_add_4 (by decide) (fun c => absurd c (by decide)) (fun _ => ?_)
  refine lv_aload_n hx hb dX8_add_7 rfl (lv_at hlv 1 rfl) ?_
  refine va_get (D := D) (ci := 8) (v := .int 3) (C := RX8) (T := TX8) (N := 7) hx hb hts hi8 hown hG.1 hP 0 rfl rfl 1 (by decide) lf19 (fun _ h9 => h9) rfl dX8_add_8 ?_
  refine lv_sipush (v := 600) hx hb dX8_add_11 (by decide) ?_
  refine lv_icmp_ge (tgt := 46) hx hb dX8_add_14 (by decide) (fun c => absurd c (by decide)) (fun _ => ?_)
  refine lv_aload_n hx hb dX8_add_17 rfl (lv_at hlv 1 rfl) ?_
  refine va_get (D := D) (ci := 8) (v := .ref (ka 20)) (C := RX8) (T := TX8) (N := 7) hx hb hts hi8 hown hG.1 hP 0 rfl rfl 0 (by decide) lf11 (fun _ h9 => h9) rfl dX8_add_18 ?_
  refine lv_aload_n hx hb dX8_add_21 rfl (lv_at hlv 1 rfl) ?_
  refine va_get (D := D) (ci := 8) (v := .int 3) (C := RX8) (T := TX8) (N := 7) hx hb hts hi8 hown hG.1 hP 0 rfl rfl 1 (by decide) lf19 (fun _ h9 => h9) rfl dX8_add_22 ?_
  refine lv_iload_n hx hb dX8_add_25 rfl (lv_at hlv 2 rfl) ?_
  refine lv_iload_n hx hb dX8_add_26 rfl (lv_at hlv 0 rfl) ?_
  refine lv_ishr hx hb dX8_add_27 ?_
  refine lv_topi (fun z_10 ez_10 => ?_)
  refine lv_i2b (v := z_10.toInt8.toInt32) hx hb dX8_add_28 rfl ?_
  refine va_bast hx hb hG.1 hP hD hS 1 1 rfl rfl (vpd (by decide)) dX8_add_29 (fun H locs hP hD hS => ?_)
  have ⟨f_12, hP, hD⟩ : ∃ f_12 : Nat → Int32, va_P D vwCl [((ka 0), .inr (8, [.ref (ka 20), .int 3, .int 0, .int 0, .int 0, .int 0, .int (-1)])), ((ka 20), .inl (cy 1, 600, .inl f_12))] H ∧ va_D A [((ka 0), .inr (8, [.ref (ka 20), .int 3, .int 0, .int 0, .int 0, .int 0, .int (-1)])), ((ka 20), .inl (cy 1, 600, .inl f_12))] := ⟨_, hP, hD⟩
  refine lv_aload_n hx hb dX8_add_30 rfl (lv_at hlv 1 rfl) ?_
  refine lv_dup hx hb dX8_add_31 rfl ?_
  refine va_get (D := D) (ci := 8) (v := .int 3) (C := RX8) (T := TX8) (N := 7) hx hb hts hi8 hown hG.1 hP 0 rfl rfl 1 (by decide) lf19 (fun _ h9 => h9) rfl dX8_add_32 ?_
  refine lv_iconst (v := 1) hx hb dX8_add_35 (by decide) ?_
  refine lv_iadd hx hb dX8_add_36 ?_
  refine lt_i (y := 4) (by decide) ?_
  refine va_put (D := D) (ci := 8) (v := .int 4) (ty := .int) (C := RX8) (T := TX8) (N := 7) hx hb hts hi8 tyX8 tyX8_ok nmX8 hown hG.1 hP hD hS 0 rfl rfl 1 (by decide) lf19 (fun _ h9 => h9) rfl (by decide +kernel) rfl rfl (Nat.le_of_ble_eq_true rfl) dX8_add_37 (fun H locs hP hD hS => ?_)
  have hP : va_P D vwCl [((ka 0), .inr (8, [.ref (ka 20), .int 4, .int 0, .int 0, .int 0, .int 0, .int (-1)])), ((ka 20), .inl (cy 1, 600, .inl f_12))] H := hP
  have hD : va_D A [((ka 0), .inr (8, [.ref (ka 20), .int 4, .int 0, .int 0, .int 0, .int 0, .int (-1)])), ((ka 20), .inl (cy 1, 600, .inl f_12))] := hD
  refine lv_iinc (v := (-8)) (lv' := [(2, .int (-8)), (0, .ref (ka 0)), (1, .int n)]) hx hb dX8_add_40 hlv (k := 0) rfl (by decide) (by decide) rfl (fun ls hlv => ?_)
  refine lv_goto (tgt := 3) hx hb dX8_add_43 (by decide) ?_
  refine lv_iload_n hx hb dX8_add_3 rfl (lv_at hlv 0 rfl) ?_
  refine lv_if_lt (tgt := 46) hx hb dX8_add_4 (by decide) (fun _ => ?_) (fun c => absurd (by decide) c)
  refine W.widen (k := 0) (n := 0) (Nat.le_of_ble_eq_true rfl) (Nat.le_of_ble_eq_true rfl) ?_
  exact W.vret hx hb hr (fun t ht hW => ⟨⟨((fun k => ([] : List Nat).getD k 0), (fun k => ([] : List Int32).getD k 0), (fun k => ([f_12] : List (Nat → Int32)).getD k (fun _ => 0))), rfl, (by first | (trivial)), by rw [ht]; exact hP.sub [0, 1] rfl, hD.sub [0, 1] (by decide) rfl⟩, hS.F ht⟩) hS.2.2 dX8_add_46
def vs_c_tadd4 : List Cond := .code yX8_add cX8_add 3 none :: (([.fieldLink RX8 19 "KerbSplash$Tape" "fed" "I", .fieldLink RX8 11 "KerbSplash$Tape" "bytes" "[B"] : List Cond) ++ ((wsX80) ++ ([])))
set_option maxHeartbeats 4000000 in
set_option maxRecDepth 100000 in
theorem c_tadd4 (l : Launch) (hl : l.stackTraces = false) (D : va_G) (cy : Nat → ClassId) (sa : Nat → Nat) (ka : Nat → Nat) (n : Int32) (f0 : Nat → Int32) (sz : Nat) : Met l yX8_add vs_c_tadd4 ({ frames := 0, cells := 0, slots := 0, locals := 0 }) (va_Pc [.ref (ka 0), .int n] (pcW D cy sa sz [((ka 0), .inr (8, [.ref (ka 20), .int 4, .int 0, .int 0, .int 0, .int 0, .int (-1)])), ((ka 20), .inl (cy 1, 600, .inl f0))])) (va_Qv (fun u : SU => (True)) (fun u t => atW D (va_A [((ka 0), .inr (8, [.ref (ka 20), .int 4, .int 0, .int 0, .int 0, .int 0, .int (-1)])), ((ka 20), .inl (cy 1, 600, .inl f0))] sz) [((ka 0), .inr (8, [.ref (ka 20), .int 8, .int 0, .int 0, .int 0, .int 0, .int (-1)])), ((ka 20), .inl (cy 1, 600, .inl (u.2.2 0)))] t) (va_A [((ka 0), .inr (8, [.ref (ka 20), .int 4, .int 0, .int 0, .int 0, .int 0, .int (-1)])), ((ka 20), .inl (cy 1, 600, .inl f0))] sz)) 0 0 (va_A [((ka 0), .inr (8, [.ref (ka 20), .int 4, .int 0, .int 0, .int 0, .int 0, .int (-1)])), ((ka 20), .inl (cy 1, 600, .inl f0))] sz) := by
  refine Met.ofW (cc := cX8_add) (maxL := 3) (ret := none) (by decide) rfl ?_
  intro p e s m args below meth c s₁ B hml hv
  obtain ⟨rfl, hsz, hP, hG, hD0, hT⟩ := hv
  have hx := B.exec
  have hb := B.bytes
  have hr := B.returns
  have hts := atoms_spec (ws := vs_c_tadd4) B.pre
  have hown : s.vm.findClass RX8 = some m.cls := findClass_of_methodNamed B.named
  have hlocks := B.notSynchronized
  subst hsz
  have hD := hD0.self (sz := s.heap.size)
  generalize hAe : va_A [((ka 0), .inr (8, [.ref (ka 20), .int 4, .int 0, .int 0, .int 0, .int 0, .int (-1)])), ((ka 20), .inl (cy 1, 600, .inl f0))] s.heap.size = A at hD hT ⊢
  have hA : ∀ q : Nat, s.heap.size ≤ q → A q := fun q h => by rw [← hAe]; exact Or.inr h
  have hS : va_S A s.heap s.heap [] := va_S.rf
  have hl0 := lv_entry ([.ref (ka 0), .int n]) (n := 3) (Nat.le_of_ble_eq_true rfl)
  rw [lg_entry_eq]
  generalize (lg_sl ([.ref (ka 0), .int n]) ++ List.replicate (3 - (lg_sl ([.ref (ka 0), .int n])).length) Slot.unset).toArray = ls at hl0 ⊢
  have hlv : lv_has ls 3 [(0, .ref (ka 0)), (1, .int n)] := hl0
  have lf19 := hts (.fieldLink RX8 19 "KerbSplash$Tape" "fed" "I") (List.mem_of_getElem? (i := 1) rfl)
  have hi8 : ∀ w ∈ wsX80, w ∈ vs_c_tadd4 := fun w h => List.mem_cons_of_mem _ (List.mem_append_right _ (List.mem_append_left _ h))
  have lf11 := hts (.fieldLink RX8 11 "KerbSplash$Tape" "bytes" "[B") (List.mem_of_getElem? (i := 2) rfl)
  refine lv_bipush (v := 24) hx hb dX8_add_0 (by decide) ?_
  refine lv_istore_n (lv' := [(2, .int 24), (0, .ref (ka 0)), (1, .int n)]) hx hb dX8_add_2 rfl hlv (by decide) rfl (fun ls hlv => ?_)
  refine lv_iload_n hx hb dX8_add_3 rfl (lv_at hlv 0 rfl) ?_
  refine lv_if_lt (tgt := 46) hx hb dX8_add_4 (by decide) (fun c => absurd c (by decide)) (fun _ => ?_)
  refine lv_aload_n hx hb dX8_add_7 rfl (lv_at hlv 1 rfl) ?_
  refine va_get (D := D) (ci := 8) (v := .int 4) (C := RX8) (T := TX8) (N := 7) hx hb hts hi8 hown hG.1 hP 0 rfl rfl 1 (by decide) lf19 (fun _ h9 => h9) rfl dX8_add_8 ?_
  refine lv_sipush (v := 600) hx hb dX8_add_11 (by decide) ?_
  refine lv_icmp_ge (tgt := 46) hx hb dX8_add_14 (by decide) (fun c => absurd c (by decide)) (fun _ => ?_)
  refine lv_aload_n hx hb dX8_add_17 rfl (lv_at hlv 1 rfl) ?_
  refine va_get (D := D) (ci := 8) (v := .ref (ka 20)) (C := RX8) (T := TX8) (N := 7) hx hb hts hi8 hown hG.1 hP 0 rfl rfl 0 (by decide) lf11 (fun _ h9 => h9) rfl dX8_add_18 ?_
  refine lv_aload_n hx hb dX8_add_21 rfl (lv_at hlv 1 rfl) ?_
  refine va_get (D := D) (ci := 8) (v := .int 4) (C := RX8) (T := TX8) (N := 7) hx hb hts hi8 hown hG.1 hP 0 rfl rfl 1 (by decide) lf19 (fun _ h9 => h9) rfl dX8_add_22 ?_
  refine lv_iload_n hx hb dX8_add_25 rfl (lv_at hlv 2 rfl) ?_
  refine lv_iload_n hx hb dX8_add_26 rfl (lv_at hlv 0 rfl) ?_
  refine lv_ishr hx hb dX8_add_27 ?_
  refine lv_topi (fun z_1 ez_1 => ?_)
  refine lv_i2b (v := z_1.toInt8.toInt32) hx hb dX8_add_28 rfl ?_
  refine va_bast hx hb hG.1 hP hD hS 1 1 rfl rfl (vpd (by decide)) dX8_add_29 (fun H locs hP hD hS => ?_)
  have ⟨f_3, hP, hD⟩ : ∃ f_3 : Nat → Int32, va_P D vwCl [((ka 0), .inr (8, [.ref (ka 20), .int 4, .int 0, .int 0, .int 0, .int 0, .int (-1)])), ((ka 20), .inl (cy 1, 600, .inl f_3))] H ∧ va_D A [((ka 0), .inr (8, [.ref (ka 20), .int 4, .int 0, .int 0, .int 0, .int 0, .int (-1)])), ((ka 20), .inl (cy 1, 600, .inl f_3))] := ⟨_, hP, hD⟩
  refine lv_aload_n hx hb dX8_add_30 rfl (lv_at hlv 1 rfl) ?_
  refine lv_dup hx hb dX8_add_31 rfl ?_
  refine va_get (D := D) (ci := 8) (v := .int 4) (C := RX8) (T := TX8) (N := 7) hx hb hts hi8 hown hG.1 hP 0 rfl rfl 1 (by decide) lf19 (fun _ h9 => h9) rfl dX8_add_32 ?_
  refine lv_iconst (v := 1) hx hb dX8_add_35 (by decide) ?_
  refine lv_iadd hx hb dX8_add_36 ?_
  refine lt_i (y := 5) (by decide) ?_
  refine va_put (D := D) (ci := 8) (v := .int 5) (ty := .int) (C := RX8) (T := TX8) (N := 7) hx hb hts hi8 tyX8 tyX8_ok nmX8 hown hG.1 hP hD hS 0 rfl rfl 1 (by decide) lf19 (fun _ h9 => h9) rfl (by decide +kernel) rfl rfl (Nat.le_of_ble_eq_true rfl) dX8_add_37 (fun H locs hP hD hS => ?_)
  have hP : va_P D vwCl [((ka 0), .inr (8, [.ref (ka 20), .int 5, .int 0, .int 0, .int 0, .int 0, .int (-1)])), ((ka 20), .inl (cy 1, 600, .inl f_3))] H := hP
  have hD : va_D A [((ka 0), .inr (8, [.ref (ka 20), .int 5, .int 0, .int 0, .int 0, .int 0, .int (-1)])), ((ka 20), .inl (cy 1, 600, .inl f_3))] := hD
  refine lv_iinc (v := 16) (lv' := [(2, .int 16), (0, .ref (ka 0)), (1, .int n)]) hx hb dX8_add_40 hlv (k := 0) rfl (by decide) (by decide) rfl (fun ls hlv => ?_)
  refine lv_goto (tgt := 3) hx hb dX8_add_43 (by decide) ?_
  refine lv_iload_n hx hb dX8_add_3 rfl (lv_at hlv 0 rfl) ?_
  refine lv_if_lt (tgt := 46) hx hb dX8_add_4 (by decide) (fun c => absurd c (by decide)) (fun _ => ?_)
  refine lv_aload_n hx hb dX8_add_7 rfl (lv_at hlv 1 rfl) ?_
  refine va_get (D := D) (ci := 8) (v := .int 5) (C := RX8) (T := TX8) (N := 7) hx hb hts hi8 hown hG.1 hP 0 rfl rfl 1 (by decide) lf19 (fun _ h9 => h9) rfl dX8_add_8 ?_
  refine lv_sipush (v := 600) hx hb dX8_add_11 (by decide) ?_
  refine lv_icmp_ge (tgt := 46) hx hb dX8_add_14 (by decide) (fun c => absurd c (by decide)) (fun _ => ?_)
  refine lv_aload_n hx hb dX8_add_17 rfl (lv_at hlv 1 rfl) ?_
  refine va_get (D := D) (ci := 8) (v := .ref (ka 20)) (C := RX8) (T := TX8) (N := 7) hx hb hts hi8 hown hG.1 hP 0 rfl rfl 0 (by decide) lf11 (fun _ h9 => h9) rfl dX8_add_18 ?_
  refine lv_aload_n hx hb dX8_add_21 rfl (lv_at hlv 1 rfl) ?_
  refine va_get (D := D) (ci := 8) (v := .int 5) (C := RX8) (T := TX8) (N := 7) hx hb hts hi8 hown hG.1 hP 0 rfl rfl 1 (by decide) lf19 (fun _ h9 => h9) rfl dX8_add_22 ?_
  refine lv_iload_n hx hb dX8_add_25 rfl (lv_at hlv 2 rfl) ?_
  refine lv_iload_n hx hb dX8_add_26 rfl (lv_at hlv 0 rfl) ?_
  refine lv_ishr hx hb dX8_add_27 ?_
  refine lv_topi (fun z_4 ez_4 => ?_)
  refine lv_i2b (v := z_4.toInt8.toInt32) hx hb dX8_add_28 rfl ?_
  refine va_bast hx hb hG.1 hP hD hS 1 1 rfl rfl (vpd (by decide)) dX8_add_29 (fun H locs hP hD hS => ?_)
  have ⟨f_6, hP, hD⟩ : ∃ f_6 : Nat → Int32, va_P D vwCl [((ka 0), .inr (8, [.ref (ka 20), .int 5, .int 0, .int 0, .int 0, .int 0, .int (-1)])), ((ka 20), .inl (cy 1, 600, .inl f_6))] H ∧ va_D A [((ka 0), .inr (8, [.ref (ka 20), .int 5, .int 0, .int 0, .int 0, .int 0, .int (-1)])), ((ka 20), .inl (cy 1, 600, .inl f_6))] := ⟨_, hP, hD⟩
  refine lv_aload_n hx hb dX8_add_30 rfl (lv_at hlv 1 rfl) ?_
  refine lv_dup hx hb dX8_add_31 rfl ?_
  refine va_get (D := D) (ci := 8) (v := .int 5) (C := RX8) (T := TX8) (N := 7) hx hb hts hi8 hown hG.1 hP 0 rfl rfl 1 (by decide) lf19 (fun _ h9 => h9) rfl dX8_add_32 ?_
  refine lv_iconst (v := 1) hx hb dX8_add_35 (by decide) ?_
  refine lv_iadd hx hb dX8_add_36 ?_
  refine lt_i (y := 6) (by decide) ?_
  refine va_put (D := D) (ci := 8) (v := .int 6) (ty := .int) (C := RX8) (T := TX8) (N := 7) hx hb hts hi8 tyX8 tyX8_ok nmX8 hown hG.1 hP hD hS 0 rfl rfl 1 (by decide) lf19 (fun _ h9 => h9) rfl (by decide +kernel) rfl rfl (Nat.le_of_ble_eq_true rfl) dX8_add_37 (fun H locs hP hD hS => ?_)
  have hP : va_P D vwCl [((ka 0), .inr (8, [.ref (ka 20), .int 6, .int 0, .int 0, .int 0, .int 0, .int (-1)])), ((ka 20), .inl (cy 1, 600, .inl f_6))] H := hP
  have hD : va_D A [((ka 0), .inr (8, [.ref (ka 20), .int 6, .int 0, .int 0, .int 0, .int 0, .int (-1)])), ((ka 20), .inl (cy 1, 600, .inl f_6))] := hD
  refine lv_iinc (v := 8) (lv' := [(2, .int 8), (0, .ref (ka 0)), (1, .int n)]) hx hb dX8_add_40 hlv (k := 0) rfl (by decide) (by decide) rfl (fun ls hlv => ?_)
  refine lv_goto (tgt := 3) hx hb dX8_add_43 (by decide) ?_
  refine lv_iload_n hx hb dX8_add_3 rfl (lv_at hlv 0 rfl) ?_
  refine lv_if_lt (tgt := 46) hx hb dX8_add_4 (by decide) (fun c => absurd c (by decide)) (fun _ => ?_)
  refine lv_aload_n hx hb dX8_add_7 rfl (lv_at hlv 1 rfl) ?_
  refine va_get (D := D) (ci := 8) (v := .int 6) (C := RX8) (T := TX8) (N := 7) hx hb hts hi8 hown hG.1 hP 0 rfl rfl 1 (by decide) lf19 (fun _ h9 => h9) rfl dX8_add_8 ?_
  refine lv_sipush (v := 600) hx hb dX8_add_11 (by decide) ?_
  refine lv_icmp_ge (tgt := 46) hx hb dX8_add_14 (by decide) (fun c => absurd c (by decide)) (fun _ => ?_)
  refine lv_aload_n hx hb dX8_add_17 rfl (lv_at hlv 1 rfl) ?_
  refine va_get (D := D) (ci := 8) (v := .ref (ka 20)) (C := RX8) (T := TX8) (N := 7) hx hb hts hi8 hown hG.1 hP 0 rfl rfl 0 (by decide) lf11 (fun _ h9 => h9) rfl dX8_add_18 ?_
  refine lv_aload_n hx hb dX8_add_21 rfl (lv_at hlv 1 rfl) ?_
  refine va_get (D := D) (ci := 8) (v := .int 6) (C := RX8) (T := TX8) (N := 7) hx hb hts hi8 hown hG.1 hP 0 rfl rfl 1 (by decide) lf19 (fun _ h9 => h9) rfl dX8_add_22 ?_
  refine lv_iload_n hx hb dX8_add_25 rfl (lv_at hlv 2 rfl) ?_
  refine lv_iload_n hx hb dX8_add_26 rfl (lv_at hlv 0 rfl) ?_
  refine lv_ishr hx hb dX8_add_27 ?_
  refine lv_topi (fun z_7 ez_7 => ?_)
  refine lv_i2b (v := z_7.toInt8.toInt32) hx hb dX8_add_28 rfl ?_
  refine va_bast hx hb hG.1 hP hD hS 1 1 rfl rfl (vpd (by decide)) dX8_add_29 (fun H locs hP hD hS => ?_)
  have ⟨f_9, hP, hD⟩ : ∃ f_9 : Nat → Int32, va_P D vwCl [((ka 0), .inr (8, [.ref (ka 20), .int 6, .int 0, .int 0, .int 0, .int 0, .int (-1)])), ((ka 20), .inl (cy 1, 600, .inl f_9))] H ∧ va_D A [((ka 0), .inr (8, [.ref (ka 20), .int 6, .int 0, .int 0, .int 0, .int 0, .int (-1)])), ((ka 20), .inl (cy 1, 600, .inl f_9))] := ⟨_, hP, hD⟩
  refine lv_aload_n hx hb dX8_add_30 rfl (lv_at hlv 1 rfl) ?_
  refine lv_dup hx hb dX8_add_31 rfl ?_
  refine va_get (D := D) (ci := 8) (v := .int 6) (C := RX8) (T := TX8) (N := 7) hx hb hts hi8 hown hG.1 hP 0 rfl rfl 1 (by decide) lf19 (fun _ h9 => h9) rfl dX8_add_32 ?_
  refine lv_iconst (v := 1) hx hb dX8_add_35 (by decide) ?_
  refine lv_iadd hx hb dX8_add_36 ?_
  refine lt_i (y := 7) (by decide) ?_
  refine va_put (D := D) (ci := 8) (v := .int 7) (ty := .int) (C := RX8) (T := TX8) (N := 7) hx hb hts hi8 tyX8 tyX8_ok nmX8 hown hG.1 hP hD hS 0 rfl rfl 1 (by decide) lf19 (fun _ h9 => h9) rfl (by decide +kernel) rfl rfl (Nat.le_of_ble_eq_true rfl) dX8_add_37 (fun H locs hP hD hS => ?_)
  have hP : va_P D vwCl [((ka 0), .inr (8, [.ref (ka 20), .int 7, .int 0, .int 0, .int 0, .int 0, .int (-1)])), ((ka 20), .inl (cy 1, 600, .inl f_9))] H := hP
  have hD : va_D A [((ka 0), .inr (8, [.ref (ka 20), .int 7, .int 0, .int 0, .int 0, .int 0, .int (-1)])), ((ka 20), .inl (cy 1, 600, .inl f_9))] := hD
  refine lv_iinc (v := 0) (lv' := [(2, .int 0), (0, .ref (ka 0)), (1, .int n)]) hx hb dX8_add_40 hlv (k := 0) rfl (by decide) (by decide) rfl (fun ls hlv => ?_)
  refine lv_goto (tgt := 3) hx hb dX8_add_43 (by decide) ?_
  refine lv_iload_n hx hb dX8_add_3 rfl (lv_at hlv 0 rfl) ?_
  refine lv_if_lt (tgt := 46) hx hb dX8_add_4 (by decide) (fun c => absurd c (by decide)) (fun _ => ?_)
  refine lv_aload_n hx hb dX8_add_7 rfl (lv_at hlv 1 rfl) ?_
  refine va_get (D := D) (ci := 8) (v := .int 7) (C := RX8) (T := TX8) (N := 7) hx hb hts hi8 hown hG.1 hP 0 rfl rfl 1 (by decide) lf19 (fun _ h9 => h9) rfl dX8_add_8 ?_
  refine lv_sipush (v := 600) hx hb dX8_add_11 (by decide) ?_
  refine lv_icmp_ge (tgt := 46) hx hb dX8_add_14 (by decide) (fun c => absurd c (by decide)) (fun _ => ?_)
  refine lv_aload_n hx hb dX8_add_17 rfl (lv_at hlv 1 rfl) ?_
  refine va_get (D := D) (ci := 8) (v := .ref (ka 20)) (C := RX8) (T := TX8) (N := 7) hx hb hts hi8 hown hG.1 hP 0 rfl rfl 0 (by decide) lf11 (fun _ h9 => h9) rfl dX8_add_18 ?_
  refine lv_aload_n hx hb dX8_add_21 rfl (lv_at hlv 1 rfl) ?_
  refine va_get (D := D) (ci := 8) (v := .int 7) (C := RX8) (T := TX8) (N := 7) hx hb hts hi8 hown hG.1 hP 0 rfl rfl 1 (by decide) lf19 (fun _ h9 => h9) rfl dX8_add_22 ?_
  refine lv_iload_n hx hb dX8_add_25 rfl (lv_at hlv 2 rfl) ?_
  refine lv_iload_n hx hb dX8_add_26 rfl (lv_at hlv 0 rfl) ?_
  refine lv_ishr hx hb dX8_add_27 ?_
  refine lv_topi (fun z_10 ez_10 => ?_)
  refine lv_i2b (v := z_10.toInt8.toInt32) hx hb dX8_add_28 rfl ?_
  refine va_bast hx hb hG.1 hP hD hS 1 1 rfl rfl (vpd (by decide)) dX8_add_29 (fun H locs hP hD hS => ?_)
  have ⟨f_12, hP, hD⟩ : ∃ f_12 : Nat → Int32, va_P D vwCl [((ka 0), .inr (8, [.ref (ka 20), .int 7, .int 0, .int 0, .int 0, .int 0, .int (-1)])), ((ka 20), .inl (cy 1, 600, .inl f_12))] H ∧ va_D A [((ka 0), .inr (8, [.ref (ka 20), .int 7, .int 0, .int 0, .int 0, .int 0, .int (-1)])), ((ka 20), .inl (cy 1, 600, .inl f_12))] := ⟨_, hP, hD⟩
  refine lv_aload_n hx hb dX8_add_30 rfl (lv_at hlv 1 rfl) ?_
  refine lv_dup hx hb dX8_add_31 rfl ?_
  refine va_get (D := D) (ci := 8) (v := .int 7) (C := RX8) (T := TX8) (N := 7) hx hb hts hi8 hown hG.1 hP 0 rfl rfl 1 (by decide) lf19 (fun _ h9 => h9) rfl dX8_add_32 ?_
  refine lv_iconst (v := 1) hx hb dX8_add_35 (by decide) ?_
  refine lv_iadd hx hb dX8_add_36 ?_
  refine lt_i (y := 8) (by decide) ?_
  refine va_put (D := D) (ci := 8) (v := .int 8) (ty := .int) (C := RX8) (T := TX8) (N := 7) hx hb hts hi8 tyX8 tyX8_ok nmX8 hown hG.1 hP hD hS 0 rfl rfl 1 (by decide) lf19 (fun _ h9 => h9) rfl (by decide +kernel) rfl rfl (Nat.le_of_ble_eq_true rfl) dX8_add_37 (fun H locs hP hD hS => ?_)
  have hP : va_P D vwCl [((ka 0), .inr (8, [.ref (ka 20), .int 8, .int 0, .int 0, .int 0, .int 0, .int (-1)])), ((ka 20), .inl (cy 1, 600, .inl f_12))] H := hP
  have hD : va_D A [((ka 0), .inr (8, [.ref (ka 20), .int 8, .int 0, .int 0, .int 0, .int 0, .int (-1)])), ((ka 20), .inl (cy 1, 600, .inl f_12))] := hD
  refine lv_iinc (v := (-8)) (lv' := [(2, .int (-8)), (0, .ref (ka 0)), (1, .int n)]) hx hb dX8_add_40 hlv (k := 0) rfl (by decide) (by decide) rfl (fun ls hlv => ?_)
  refine lv_goto (tgt := 3) hx hb dX8_add_43 (by decide) ?_
  refine lv_iload_n hx hb dX8_add_3 rfl (lv_at hlv 0 rfl) ?_
  refine lv_if_lt (tgt := 46) hx hb dX8_add_4 (by decide) (fun _ => ?_) (fun c => absurd (by decide) c)
  refine W.widen (k := 0) (n := 0) (Nat.le_of_ble_eq_true rfl) (Nat.le_of_ble_eq_true rfl) ?_
  exact W.vret hx hb hr (fun t ht hW => ⟨⟨((fun k => ([] : List Nat).getD k 0), (fun k => ([] : List Int32).getD k 0), (fun k => ([f_12] : List (Nat → Int32)).getD k (fun _ => 0))), rfl, (by first | (trivial)), by rw [ht]; exact hP.sub [0, 1] rfl, hD.sub [0, 1] (by decide) rfl⟩, hS.F ht⟩) hS.2.2 dX8_add_46
def vs_c_tadd8 : List Cond := .code yX8_add cX8_add 3 none :: (([.fieldLink RX8 19 "KerbSplash$Tape" "fed" "I", .fieldLink RX8 11 "KerbSplash$Tape" "bytes" "[B"] : List Cond) ++ ((wsX80) ++ ([])))
set_option maxHeartbeats 4000000 in
set_option maxRecDepth 100000 in
theorem c_tadd8 (l : Launch) (hl : l.stackTraces = false) (D : va_G) (cy : Nat → ClassId) (sa : Nat → Nat) (ka : Nat → Nat) (n : Int32) (f0 : Nat → Int32) (sz : Nat) : Met l yX8_add vs_c_tadd8 ({ frames := 0, cells := 0, slots := 0, locals := 0 }) (va_Pc [.ref (ka 0), .int n] (pcW D cy sa sz [((ka 0), .inr (8, [.ref (ka 20), .int 8, .int 0, .int 0, .int 0, .int 0, .int (-1)])), ((ka 20), .inl (cy 1, 600, .inl f0))])) (va_Qv (fun u : SU => (True)) (fun u t => atW D (va_A [((ka 0), .inr (8, [.ref (ka 20), .int 8, .int 0, .int 0, .int 0, .int 0, .int (-1)])), ((ka 20), .inl (cy 1, 600, .inl f0))] sz) [((ka 0), .inr (8, [.ref (ka 20), .int 12, .int 0, .int 0, .int 0, .int 0, .int (-1)])), ((ka 20), .inl (cy 1, 600, .inl (u.2.2 0)))] t) (va_A [((ka 0), .inr (8, [.ref (ka 20), .int 8, .int 0, .int 0, .int 0, .int 0, .int (-1)])), ((ka 20), .inl (cy 1, 600, .inl f0))] sz)) 0 0 (va_A [((ka 0), .inr (8, [.ref (ka 20), .int 8, .int 0, .int 0, .int 0, .int 0, .int (-1)])), ((ka 20), .inl (cy 1, 600, .inl f0))] sz) := by
  refine Met.ofW (cc := cX8_add) (maxL := 3) (ret := none) (by decide) rfl ?_
  intro p e s m args below meth c s₁ B hml hv
  obtain ⟨rfl, hsz, hP, hG, hD0, hT⟩ := hv
  have hx := B.exec
  have hb := B.bytes
  have hr := B.returns
  have hts := atoms_spec (ws := vs_c_tadd8) B.pre
  have hown : s.vm.findClass RX8 = some m.cls := findClass_of_methodNamed B.named
  have hlocks := B.notSynchronized
  subst hsz
  have hD := hD0.self (sz := s.heap.size)
  generalize hAe : va_A [((ka 0), .inr (8, [.ref (ka 20), .int 8, .int 0, .int 0, .int 0, .int 0, .int (-1)])), ((ka 20), .inl (cy 1, 600, .inl f0))] s.heap.size = A at hD hT ⊢
  have hA : ∀ q : Nat, s.heap.size ≤ q → A q := fun q h => by rw [← hAe]; exact Or.inr h
  have hS : va_S A s.heap s.heap [] := va_S.rf
  have hl0 := lv_entry ([.ref (ka 0), .int n]) (n := 3) (Nat.le_of_ble_eq_true rfl)
  rw [lg_entry_eq]
  generalize (lg_sl ([.ref (ka 0), .int n]) ++ List.replicate (3 - (lg_sl ([.ref (ka 0), .int n])).length) Slot.unset).toArray = ls at hl0 ⊢
  have hlv : lv_has ls 3 [(0, .ref (ka 0)), (1, .int n)] := hl0
  have lf19 := hts (.fieldLink RX8 19 "KerbSplash$Tape" "fed" "I") (List.mem_of_getElem? (i := 1) rfl)
  have hi8 : ∀ w ∈ wsX80, w ∈ vs_c_tadd8 := fun w h => List.mem_cons_of_mem _ (List.mem_append_right _ (List.mem_append_left _ h))
  have lf11 := hts (.fieldLink RX8 11 "KerbSplash$Tape" "bytes" "[B") (List.mem_of_getElem? (i := 2) rfl)
  refine lv_bipush (v := 24) hx hb dX8_add_0 (by decide) ?_
  refine lv_istore_n (lv' := [(2, .int 24), (0, .ref (ka 0)), (1, .int n)]) hx hb dX8_add_2 rfl hlv (by decide) rfl (fun ls hlv => ?_)
  refine lv_iload_n hx hb dX8_add_3 rfl (lv_at hlv 0 rfl) ?_
  refine lv_if_lt (tgt := 46) hx hb dX8_add_4 (by decide) (fun c => absurd c (by decide)) (fun _ => ?_)
  refine lv_aload_n hx hb dX8_add_7 rfl (lv_at hlv 1 rfl) ?_
  refine va_get (D := D) (ci := 8) (v := .int 8) (C := RX8) (T := TX8) (N := 7) hx hb hts hi8 hown hG.1 hP 0 rfl rfl 1 (by decide) lf19 (fun _ h9 => h9) rfl dX8_add_8 ?_
  refine lv_sipush (v := 600) hx hb dX8_add_11 (by decide) ?_
  refine lv_icmp_ge (tgt := 46) hx hb dX8_add_14 (by decide) (fun c => absurd c (by decide)) (fun _ => ?_)
  refine lv_aload_n hx hb dX8_add_17 rfl (lv_at hlv 1 rfl) ?_
  refine va_get (D := D) (ci := 8) (v := .ref (ka 20)) (C := RX8) (T := TX8) (N := 7) hx hb hts hi8 hown hG.1 hP 0 rfl rfl 0 (by decide) lf11 (fun _ h9 => h9) rfl dX8_add_18 ?_
  refine lv_aload_n hx hb dX8_add_21 rfl (lv_at hlv 1 rfl) ?_
  refine va_get (D := D) (ci := 8) (v := .int 8) (C := RX8) (T := TX8) (N := 7) hx hb hts hi8 hown hG.1 hP 0 rfl rfl 1 (by decide) lf19 (fun _ h9 => h9) rfl dX8_add_22 ?_
  refine lv_iload_n hx hb dX8_add_25 rfl (lv_at hlv 2 rfl) ?_
  refine lv_iload_n hx hb dX8_add_26 rfl (lv_at hlv 0 rfl) ?_
  refine lv_ishr hx hb dX8_add_27 ?_
  refine lv_topi (fun z_1 ez_1 => ?_)
  refine lv_i2b (v := z_1.toInt8.toInt32) hx hb dX8_add_28 rfl ?_
  refine va_bast hx hb hG.1 hP hD hS 1 1 rfl rfl (vpd (by decide)) dX8_add_29 (fun H locs hP hD hS => ?_)
  have ⟨f_3, hP, hD⟩ : ∃ f_3 : Nat → Int32, va_P D vwCl [((ka 0), .inr (8, [.ref (ka 20), .int 8, .int 0, .int 0, .int 0, .int 0, .int (-1)])), ((ka 20), .inl (cy 1, 600, .inl f_3))] H ∧ va_D A [((ka 0), .inr (8, [.ref (ka 20), .int 8, .int 0, .int 0, .int 0, .int 0, .int (-1)])), ((ka 20), .inl (cy 1, 600, .inl f_3))] := ⟨_, hP, hD⟩
  refine lv_aload_n hx hb dX8_add_30 rfl (lv_at hlv 1 rfl) ?_
  refine lv_dup hx hb dX8_add_31 rfl ?_
  refine va_get (D := D) (ci := 8) (v := .int 8) (C := RX8) (T := TX8) (N := 7) hx hb hts hi8 hown hG.1 hP 0 rfl rfl 1 (by decide) lf19 (fun _ h9 => h9) rfl dX8_add_32 ?_
  refine lv_iconst (v := 1) hx hb dX8_add_35 (by decide) ?_
  refine lv_iadd hx hb dX8_add_36 ?_
  refine lt_i (y := 9) (by decide) ?_
  refine va_put (D := D) (ci := 8) (v := .int 9) (ty := .int) (C := RX8) (T := TX8) (N := 7) hx hb hts hi8 tyX8 tyX8_ok nmX8 hown hG.1 hP hD hS 0 rfl rfl 1 (by decide) lf19 (fun _ h9 => h9) rfl (by decide +kernel) rfl rfl (Nat.le_of_ble_eq_true rfl) dX8_add_37 (fun H locs hP hD hS => ?_)
  have hP : va_P D vwCl [((ka 0), .inr (8, [.ref (ka 20), .int 9, .int 0, .int 0, .int 0, .int 0, .int (-1)])), ((ka 20), .inl (cy 1, 600, .inl f_3))] H := hP
  have hD : va_D A [((ka 0), .inr (8, [.ref (ka 20), .int 9, .int 0, .int 0, .int 0, .int 0, .int (-1)])), ((ka 20), .inl (cy 1, 600, .inl f_3))] := hD
  refine lv_iinc (v := 16) (lv' := [(2, .int 16), (0, .ref (ka 0)), (1, .int n)]) hx hb dX8_add_40 hlv (k := 0) rfl (by decide) (by decide) rfl (fun ls hlv => ?_)
  refine lv_goto (tgt := 3) hx hb dX8_add_43 (by decide) ?_
  refine lv_iload_n hx hb dX8_add_3 rfl (lv_at hlv 0 rfl) ?_
  refine lv_if_lt (tgt := 46) hx hb dX8_add_4 (by decide) (fun c => absurd c (by decide)) (fun _ => ?_)
  refine lv_aload_n hx hb dX8_add_7 rfl (lv_at hlv 1 rfl) ?_
  refine va_get (D := D) (ci := 8) (v := .int 9) (C := RX8) (T := TX8) (N := 7) hx hb hts hi8 hown hG.1 hP 0 rfl rfl 1 (by decide) lf19 (fun _ h9 => h9) rfl dX8_add_8 ?_
  refine lv_sipush (v := 600) hx hb dX8_add_11 (by decide) ?_
  refine lv_icmp_ge (tgt := 46) hx hb dX8_add_14 (by decide) (fun c => absurd c (by decide)) (fun _ => ?_)
  refine lv_aload_n hx hb dX8_add_17 rfl (lv_at hlv 1 rfl) ?_
  refine va_get (D := D) (ci := 8) (v := .ref (ka 20)) (C := RX8) (T := TX8) (N := 7) hx hb hts hi8 hown hG.1 hP 0 rfl rfl 0 (by decide) lf11 (fun _ h9 => h9) rfl dX8_add_18 ?_
  refine lv_aload_n hx hb dX8_add_21 rfl (lv_at hlv 1 rfl) ?_
  refine va_get (D := D) (ci := 8) (v := .int 9) (C := RX8) (T := TX8) (N := 7) hx hb hts hi8 hown hG.1 hP 0 rfl rfl 1 (by decide) lf19 (fun _ h9 => h9) rfl dX8_add_22 ?_
  refine lv_iload_n hx hb dX8_add_25 rfl (lv_at hlv 2 rfl) ?_
  refine lv_iload_n hx hb dX8_add_26 rfl (lv_at hlv 0 rfl) ?_
  refine lv_ishr hx hb dX8_add_27 ?_
  refine lv_topi (fun z_4 ez_4 => ?_)
  refine lv_i2b (v := z_4.toInt8.toInt32) hx hb dX8_add_28 rfl ?_
  refine va_bast hx hb hG.1 hP hD hS 1 1 rfl rfl (vpd (by decide)) dX8_add_29 (fun H locs hP hD hS => ?_)
  have ⟨f_6, hP, hD⟩ : ∃ f_6 : Nat → Int32, va_P D vwCl [((ka 0), .inr (8, [.ref (ka 20), .int 9, .int 0, .int 0, .int 0, .int 0, .int (-1)])), ((ka 20), .inl (cy 1, 600, .inl f_6))] H ∧ va_D A [((ka 0), .inr (8, [.ref (ka 20), .int 9, .int 0, .int 0, .int 0, .int 0, .int (-1)])), ((ka 20), .inl (cy 1, 600, .inl f_6))] := ⟨_, hP, hD⟩
  refine lv_aload_n hx hb dX8_add_30 rfl (lv_at hlv 1 rfl) ?_
  refine lv_dup hx hb dX8_add_31 rfl ?_
  refine va_get (D := D) (ci := 8) (v := .int 9) (C := RX8) (T := TX8) (N := 7) hx hb hts hi8 hown hG.1 hP 0 rfl rfl 1 (by decide) lf19 (fun _ h9 => h9) rfl dX8_add_32 ?_
  refine lv_iconst (v := 1) hx hb dX8_add_35 (by decide) ?_
  refine lv_iadd hx hb dX8_add_36 ?_
  refine lt_i (y := 10) (by decide) ?_
  refine va_put (D := D) (ci := 8) (v := .int 10) (ty := .int) (C := RX8) (T := TX8) (N := 7) hx hb hts hi8 tyX8 tyX8_ok nmX8 hown hG.1 hP hD hS 0 rfl rfl 1 (by decide) lf19 (fun _ h9 => h9) rfl (by decide +kernel) rfl rfl (Nat.le_of_ble_eq_true rfl) dX8_add_37 (fun H locs hP hD hS => ?_)
  have hP : va_P D vwCl [((ka 0), .inr (8, [.ref (ka 20), .int 10, .int 0, .int 0, .int 0, .int 0, .int (-1)])), ((ka 20), .inl (cy 1, 600, .inl f_6))] H := hP
  have hD : va_D A [((ka 0), .inr (8, [.ref (ka 20), .int 10, .int 0, .int 0, .int 0, .int 0, .int (-1)])), ((ka 20), .inl (cy 1, 600, .inl f_6))] := hD
  refine lv_iinc (v := 8) (lv' := [(2, .int 8), (0, .ref (ka 0)), (1, .int n)]) hx hb dX8_add_40 hlv (k := 0) rfl (by decide) (by decide) rfl (fun ls hlv => ?_)
  refine lv_goto (tgt := 3) hx hb dX8_add_43 (by decide) ?_
  refine lv_iload_n hx hb dX8_add_3 rfl (lv_at hlv 0 rfl) ?_
  refine lv_if_lt (tgt := 46) hx hb dX8_add_4 (by decide) (fun c => absurd c (by decide)) (fun _ => ?_)
  refine lv_aload_n hx hb dX8_add_7 rfl (lv_at hlv 1 rfl) ?_
  refine va_get (D := D) (ci := 8) (v := .int 10) (C := RX8) (T := TX8) (N := 7) hx hb hts hi8 hown hG.1 hP 0 rfl rfl 1 (by decide) lf19 (fun _ h9 => h9) rfl dX8_add_8 ?_
  refine lv_sipush (v := 600) hx hb dX8_add_11 (by decide) ?_
  refine lv_icmp_ge (tgt := 46) hx hb dX8_add_14 (by decide) (fun c => absurd c (by decide)) (fun _ => ?_)
  refine lv_aload_n hx hb dX8_add_17 rfl (lv_at hlv 1 rfl) ?_
  refine va_get (D := D) (ci := 8) (v := .ref (ka 20)) (C := RX8) (T := TX8) (N := 7) hx hb hts hi8 hown hG.1 hP 0 rfl rfl 0 (by decide) lf11 (fun _ h9 => h9) rfl dX8_add_18 ?_
  refine lv_aload_n hx hb dX8_add_21 rfl (lv_at hlv 1 rfl) ?_
  refine va_get (D := D) (ci := 8) (v := .int 10) (C := RX8) (T := TX8) (N := 7) hx hb hts hi8 hown hG.1 hP 0 rfl rfl 1 (by decide) lf19 (fun _ h9 => h9) rfl dX8_add_22 ?_
  refine lv_iload_n hx hb dX8_add_25 rfl (lv_at hlv 2 rfl) ?_
  refine lv_iload_n hx hb dX8_add_26 rfl (lv_at hlv 0 rfl) ?_
  refine lv_ishr hx hb dX8_add_27 ?_
  refine lv_topi (fun z_7 ez_7 => ?_)
  refine lv_i2b (v := z_7.toInt8.toInt32) hx hb dX8_add_28 rfl ?_
  refine va_bast hx hb hG.1 hP hD hS 1 1 rfl rfl (vpd (by decide)) dX8_add_29 (fun H locs hP hD hS => ?_)
  have ⟨f_9, hP, hD⟩ : ∃ f_9 : Nat → Int32, va_P D vwCl [((ka 0), .inr (8, [.ref (ka 20), .int 10, .int 0, .int 0, .int 0, .int 0, .int (-1)])), ((ka 20), .inl (cy 1, 600, .inl f_9))] H ∧ va_D A [((ka 0), .inr (8, [.ref (ka 20), .int 10, .int 0, .int 0, .int 0, .int 0, .int (-1)])), ((ka 20), .inl (cy 1, 600, .inl f_9))] := ⟨_, hP, hD⟩
  refine lv_aload_n hx hb dX8_add_30 rfl (lv_at hlv 1 rfl) ?_
  refine lv_dup hx hb dX8_add_31 rfl ?_
  refine va_get (D := D) (ci := 8) (v := .int 10) (C := RX8) (T := TX8) (N := 7) hx hb hts hi8 hown hG.1 hP 0 rfl rfl 1 (by decide) lf19 (fun _ h9 => h9) rfl dX8_add_32 ?_
  refine lv_iconst (v := 1) hx hb dX8_add_35 (by decide) ?_
  refine lv_iadd hx hb dX8_add_36 ?_
  refine lt_i (y := 11) (by decide) ?_
  refine va_put (D := D) (ci := 8) (v := .int 11) (ty := .int) (C := RX8) (T := TX8) (N := 7) hx hb hts hi8 tyX8 tyX8_ok nmX8 hown hG.1 hP hD hS 0 rfl rfl 1 (by decide) lf19 (fun _ h9 => h9) rfl (by decide +kernel) rfl rfl (Nat.le_of_ble_eq_true rfl) dX8_add_37 (fun H locs hP hD hS => ?_)
  have hP : va_P D vwCl [((ka 0), .inr (8, [.ref (ka 20), .int 11, .int 0, .int 0, .int 0, .int 0, .int (-1)])), ((ka 20), .inl (cy 1, 600, .inl f_9))] H := hP
  have hD : va_D A [((ka 0), .inr (8, [.ref (ka 20), .int 11, .int 0, .int 0, .int 0, .int 0, .int (-1)])), ((ka 20), .inl (cy 1, 600, .inl f_9))] := hD
  refine lv_iinc (v := 0) (lv' := [(2, .int 0), (0, .ref (ka 0)), (1, .int n)]) hx hb dX8_add_40 hlv (k := 0) rfl (by decide) (by decide) rfl (fun ls hlv => ?_)
  refine lv_goto (tgt := 3) hx hb dX8_add_43 (by decide) ?_
  refine lv_iload_n hx hb dX8_add_3 rfl (lv_at hlv 0 rfl) ?_
  refine lv_if_lt (tgt := 46) hx hb dX8_add_4 (by decide) (fun c => absurd c (by decide)) (fun _ => ?_)
  refine lv_aload_n hx hb dX8_add_7 rfl (lv_at hlv 1 rfl) ?_
  refine va_get (D := D) (ci := 8) (v := .int 11) (C := RX8) (T := TX8) (N := 7) hx hb hts hi8 hown hG.1 hP 0 rfl rfl 1 (by decide) lf19 (fun _ h9 => h9) rfl dX8_add_8 ?_
  refine lv_sipush (v := 600) hx hb dX8_add_11 (by decide) ?_
  refine lv_icmp_ge (tgt := 46) hx hb dX8_add_14 (by decide) (fun c => absurd c (by decide)) (fun _ => ?_)
  refine lv_aload_n hx hb dX8_add_17 rfl (lv_at hlv 1 rfl) ?_
  refine va_get (D := D) (ci := 8) (v := .ref (ka 20)) (C := RX8) (T := TX8) (N := 7) hx hb hts hi8 hown hG.1 hP 0 rfl rfl 0 (by decide) lf11 (fun _ h9 => h9) rfl dX8_add_18 ?_
  refine lv_aload_n hx hb dX8_add_21 rfl (lv_at hlv 1 rfl) ?_
  refine va_get (D := D) (ci := 8) (v := .int 11) (C := RX8) (T := TX8) (N := 7) hx hb hts hi8 hown hG.1 hP 0 rfl rfl 1 (by decide) lf19 (fun _ h9 => h9) rfl dX8_add_22 ?_
  refine lv_iload_n hx hb dX8_add_25 rfl (lv_at hlv 2 rfl) ?_
  refine lv_iload_n hx hb dX8_add_26 rfl (lv_at hlv 0 rfl) ?_
  refine lv_ishr hx hb dX8_add_27 ?_
  refine lv_topi (fun z_10 ez_10 => ?_)
  refine lv_i2b (v := z_10.toInt8.toInt32) hx hb dX8_add_28 rfl ?_
  refine va_bast hx hb hG.1 hP hD hS 1 1 rfl rfl (vpd (by decide)) dX8_add_29 (fun H locs hP hD hS => ?_)
  have ⟨f_12, hP, hD⟩ : ∃ f_12 : Nat → Int32, va_P D vwCl [((ka 0), .inr (8, [.ref (ka 20), .int 11, .int 0, .int 0, .int 0, .int 0, .int (-1)])), ((ka 20), .inl (cy 1, 600, .inl f_12))] H ∧ va_D A [((ka 0), .inr (8, [.ref (ka 20), .int 11, .int 0, .int 0, .int 0, .int 0, .int (-1)])), ((ka 20), .inl (cy 1, 600, .inl f_12))] := ⟨_, hP, hD⟩
  refine lv_aload_n hx hb dX8_add_30 rfl (lv_at hlv 1 rfl) ?_
  refine lv_dup hx hb dX8_add_31 rfl ?_
  refine va_get (D := D) (ci := 8) (v := .int 11) (C := RX8) (T := TX8) (N := 7) hx hb hts hi8 hown hG.1 hP 0 rfl rfl 1 (by decide) lf19 (fun _ h9 => h9) rfl dX8_add_32 ?_
  refine lv_iconst (v := 1) hx hb dX8_add_35 (by decide) ?_
  refine lv_iadd hx hb dX8_add_36 ?_
  refine lt_i (y := 12) (by decide) ?_
  refine va_put (D := D) (ci := 8) (v := .int 12) (ty := .int) (C := RX8) (T := TX8) (N := 7) hx hb hts hi8 tyX8 tyX8_ok nmX8 hown hG.1 hP hD hS 0 rfl rfl 1 (by decide) lf19 (fun _ h9 => h9) rfl (by decide +kernel) rfl rfl (Nat.le_of_ble_eq_true rfl) dX8_add_37 (fun H locs hP hD hS => ?_)
  have hP : va_P D vwCl [((ka 0), .inr (8, [.ref (ka 20), .int 12, .int 0, .int 0, .int 0, .int 0, .int (-1)])), ((ka 20), .inl (cy 1, 600, .inl f_12))] H := hP
  have hD : va_D A [((ka 0), .inr (8, [.ref (ka 20), .int 12, .int 0, .int 0, .int 0, .int 0, .int (-1)])), ((ka 20), .inl (cy 1, 600, .inl f_12))] := hD
  refine lv_iinc (v := (-8)) (lv' := [(2, .int (-8)), (0, .ref (ka 0)), (1, .int n)]) hx hb dX8_add_40 hlv (k := 0) rfl (by decide) (by decide) rfl (fun ls hlv => ?_)
  refine lv_goto (tgt := 3) hx hb dX8_add_43 (by decide) ?_
  refine lv_iload_n hx hb dX8_add_3 rfl (lv_at hlv 0 rfl) ?_
  refine lv_if_lt (tgt := 46) hx hb dX8_add_4 (by decide) (fun _ => ?_) (fun c => absurd (by decide) c)
  refine W.widen (k := 0) (n := 0) (Nat.le_of_ble_eq_true rfl) (Nat.le_of_ble_eq_true rfl) ?_
  exact W.vret hx hb hr (fun t ht hW => ⟨⟨((fun k => ([] : List Nat).getD k 0), (fun k => ([] : List Int32).getD k 0), (fun k => ([f_12] : List (Nat → Int32)).getD k (fun _ => 0))), rfl, (by first | (trivial)), by rw [ht]; exact hP.sub [0, 1] rfl, hD.sub [0, 1] (by decide) rfl⟩, hS.F ht⟩) hS.2.2 dX8_add_46
def vs_c_tadd12 : List Cond := .code yX8_add cX8_add 3 none :: (([.fieldLink RX8 19 "KerbSplash$Tape" "fed" "I", .fieldLink RX8 11 "KerbSplash$Tape" "bytes" "[B"] : List Cond) ++ ((wsX80) ++ ([])))
set_option maxHeartbeats 4000000 in
set_option maxRecDepth 100000 in
theorem c_tadd12 (l : Launch) (hl : l.stackTraces = false) (D : va_G) (cy : Nat → ClassId) (sa : Nat → Nat) (ka : Nat → Nat) (n : Int32) (f0 : Nat → Int32) (sz : Nat) : Met l yX8_add vs_c_tadd12 ({ frames := 0, cells := 0, slots := 0, locals := 0 }) (va_Pc [.ref (ka 0), .int n] (pcW D cy sa sz [((ka 0), .inr (8, [.ref (ka 20), .int 12, .int 0, .int 0, .int 0, .int 0, .int (-1)])), ((ka 20), .inl (cy 1, 600, .inl f0))])) (va_Qv (fun u : SU => (True)) (fun u t => atW D (va_A [((ka 0), .inr (8, [.ref (ka 20), .int 12, .int 0, .int 0, .int 0, .int 0, .int (-1)])), ((ka 20), .inl (cy 1, 600, .inl f0))] sz) [((ka 0), .inr (8, [.ref (ka 20), .int 16, .int 0, .int 0, .int 0, .int 0, .int (-1)])), ((ka 20), .inl (cy 1, 600, .inl (u.2.2 0)))] t) (va_A [((ka 0), .inr (8, [.ref (ka 20), .int 12, .int 0, .int 0, .int 0, .int 0, .int (-1)])), ((ka 20), .inl (cy 1, 600, .inl f0))] sz)) 0 0 (va_A [((ka 0), .inr (8, [.ref (ka 20), .int 12, .int 0, .int 0, .int 0, .int 0, .int (-1)])), ((ka 20), .inl (cy 1, 600, .inl f0))] sz) := by
  refine Met.ofW (cc := cX8_add) (maxL := 3) (ret := none) (by decide) rfl ?_
  intro p e s m args below meth c s₁ B hml hv
  obtain ⟨rfl, hsz, hP, hG, hD0, hT⟩ := hv
  have hx := B.exec
  have hb := B.bytes
  have hr := B.returns
  have hts := atoms_spec (ws := vs_c_tadd12) B.pre
  have hown : s.vm.findClass RX8 = some m.cls := findClass_of_methodNamed B.named
  have hlocks := B.notSynchronized
  subst hsz
  have hD := hD0.self (sz := s.heap.size)
  generalize hAe : va_A [((ka 0), .inr (8, [.ref (ka 20), .int 12, .int 0, .int 0, .int 0, .int 0, .int (-1)])), ((ka 20), .inl (cy 1, 600, .inl f0))] s.heap.size = A at hD hT ⊢
  have hA : ∀ q : Nat, s.heap.size ≤ q → A q := fun q h => by rw [← hAe]; exact Or.inr h
  have hS : va_S A s.heap s.heap [] := va_S.rf
  have hl0 := lv_entry ([.ref (ka 0), .int n]) (n := 3) (Nat.le_of_ble_eq_true rfl)
  rw [lg_entry_eq]
  generalize (lg_sl ([.ref (ka 0), .int n]) ++ List.replicate (3 - (lg_sl ([.ref (ka 0), .int n])).length) Slot.unset).toArray = ls at hl0 ⊢
  have hlv : lv_has ls 3 [(0, .ref (ka 0)), (1, .int n)] := hl0
  have lf19 := hts (.fieldLink RX8 19 "KerbSplash$Tape" "fed" "I") (List.mem_of_getElem? (i := 1) rfl)
  have hi8 : ∀ w ∈ wsX80, w ∈ vs_c_tadd12 := fun w h => List.mem_cons_of_mem _ (List.mem_append_right _ (List.mem_append_left _ h))
  have lf11 := hts (.fieldLink RX8 11 "KerbSplash$Tape" "bytes" "[B") (List.mem_of_getElem? (i := 2) rfl)
  refine lv_bipush (v := 24) hx hb dX8_add_0 (by decide) ?_
  refine lv_istore_n (lv' := [(2, .int 24), (0, .ref (ka 0)), (1, .int n)]) hx hb dX8_add_2 rfl hlv (by decide) rfl (fun ls hlv => ?_)
  refine lv_iload_n hx hb dX8_add_3 rfl (lv_at hlv 0 rfl) ?_
  refine lv_if_lt (tgt := 46) hx hb dX8_add_4 (by decide) (fun c => absurd c (by decide)) (fun _ => ?_)
  refine lv_aload_n hx hb dX8_add_7 rfl (lv_at hlv 1 rfl) ?_
  refine va_get (D := D) (ci := 8) (v := .int 12) (C := RX8) (T := TX8) (N := 7) hx hb hts hi8 hown hG.1 hP 0 rfl rfl 1 (by decide) lf19 (fun _ h9 => h9) rfl dX8_add_8 ?_
  refine lv_sipush (v := 600) hx hb dX8_add_11 (by decide) ?_
  refine lv_icmp_ge (tgt := 46) hx hb dX8_add_14 (by decide) (fun c => absurd c (by decide)) (fun _ => ?_)
  refine lv_aload_n hx hb dX8_add_17 rfl (lv_at hlv 1 rfl) ?_
  refine va_get (D := D) (ci := 8) (v := .ref (ka 20)) (C := RX8) (T := TX8) (N := 7) hx hb hts hi8 hown hG.1 hP 0 rfl rfl 0 (by decide) lf11 (fun _ h9 => h9) rfl dX8_add_18 ?_
  refine lv_aload_n hx hb dX8_add_21 rfl (lv_at hlv 1 rfl) ?_
  refine va_get (D := D) (ci := 8) (v := .int 12) (C := RX8) (T := TX8) (N := 7) hx hb hts hi8 hown hG.1 hP 0 rfl rfl 1 (by decide) lf19 (fun _ h9 => h9) rfl dX8_add_22 ?_
  refine lv_iload_n hx hb dX8_add_25 rfl (lv_at hlv 2 rfl) ?_
  refine lv_iload_n hx hb dX8_add_26 rfl (lv_at hlv 0 rfl) ?_
  refine lv_ishr hx hb dX8_add_27 ?_
  refine lv_topi (fun z_1 ez_1 => ?_)
  refine lv_i2b (v := z_1.toInt8.toInt32) hx hb dX8_add_28 rfl ?_
  refine va_bast hx hb hG.1 hP hD hS 1 1 rfl rfl (vpd (by decide)) dX8_add_29 (fun H locs hP hD hS => ?_)
  have ⟨f_3, hP, hD⟩ : ∃ f_3 : Nat → Int32, va_P D vwCl [((ka 0), .inr (8, [.ref (ka 20), .int 12, .int 0, .int 0, .int 0, .int 0, .int (-1)])), ((ka 20), .inl (cy 1, 600, .inl f_3))] H ∧ va_D A [((ka 0), .inr (8, [.ref (ka 20), .int 12, .int 0, .int 0, .int 0, .int 0, .int (-1)])), ((ka 20), .inl (cy 1, 600, .inl f_3))] := ⟨_, hP, hD⟩
  refine lv_aload_n hx hb dX8_add_30 rfl (lv_at hlv 1 rfl) ?_
  refine lv_dup hx hb dX8_add_31 rfl ?_
  refine va_get (D := D) (ci := 8) (v := .int 12) (C := RX8) (T := TX8) (N := 7) hx hb hts hi8 hown hG.1 hP 0 rfl rfl 1 (by decide) lf19 (fun _ h9 => h9) rfl dX8_add_32 ?_
  refine lv_iconst (v := 1) hx hb dX8_add_35 (by decide) ?_
  refine lv_iadd hx hb dX8_add_36 ?_
  refine lt_i (y := 13) (by decide) ?_
  refine va_put (D := D) (ci := 8) (v := .int 13) (ty := .int) (C := RX8) (T := TX8) (N := 7) hx hb hts hi8 tyX8 tyX8_ok nmX8 hown hG.1 hP hD hS 0 rfl rfl 1 (by decide) lf19 (fun _ h9 => h9) rfl (by decide +kernel) rfl rfl (Nat.le_of_ble_eq_true rfl) dX8_add_37 (fun H locs hP hD hS => ?_)
  have hP : va_P D vwCl [((ka 0), .inr (8, [.ref (ka 20), .int 13, .int 0, .int 0, .int 0, .int 0, .int (-1)])), ((ka 20), .inl (cy 1, 600, .inl f_3))] H := hP
  have hD : va_D A [((ka 0), .inr (8, [.ref (ka 20), .int 13, .int 0, .int 0, .int 0, .int 0, .int (-1)])), ((ka 20), .inl (cy 1, 600, .inl f_3))] := hD
  refine lv_iinc (v := 16) (lv' := [(2, .int 16), (0, .ref (ka 0)), (1, .int n)]) hx hb dX8_add_40 hlv (k := 0) rfl (by decide) (by decide) rfl (fun ls hlv => ?_)
  refine lv_goto (tgt := 3) hx hb dX8_add_43 (by decide) ?_
  refine lv_iload_n hx hb dX8_add_3 rfl (lv_at hlv 0 rfl) ?_
  refine lv_if_lt (tgt := 46) hx hb dX8_add_4 (by decide) (fun c => absurd c (by decide)) (fun _ => ?_)
  refine lv_aload_n hx hb dX8_add_7 rfl (lv_at hlv 1 rfl) ?_
  refine va_get (D := D) (ci := 8) (v := .int 13) (C := RX8) (T := TX8) (N := 7) hx hb hts hi8 hown hG.1 hP 0 rfl rfl 1 (by decide) lf19 (fun _ h9 => h9) rfl dX8_add_8 ?_
  refine lv_sipush (v := 600) hx hb dX8_add_11 (by decide) ?_
  refine lv_icmp_ge (tgt := 46) hx hb dX8_add_14 (by decide) (fun c => absurd c (by decide)) (fun _ => ?_)
  refine lv_aload_n hx hb dX8_add_17 rfl (lv_at hlv 1 rfl) ?_
  refine va_get (D := D) (ci := 8) (v := .ref (ka 20)) (C := RX8) (T := TX8) (N := 7) hx hb hts hi8 hown hG.1 hP 0 rfl rfl 0 (by decide) lf11 (fun _ h9 => h9) rfl dX8_add_18 ?_
  refine lv_aload_n hx hb dX8_add_21 rfl (lv_at hlv 1 rfl) ?_
  refine va_get (D := D) (ci := 8) (v := .int 13) (C := RX8) (T := TX8) (N := 7) hx hb hts hi8 hown hG.1 hP 0 rfl rfl 1 (by decide) lf19 (fun _ h9 => h9) rfl dX8_add_22 ?_
  refine lv_iload_n hx hb dX8_add_25 rfl (lv_at hlv 2 rfl) ?_
  refine lv_iload_n hx hb dX8_add_26 rfl (lv_at hlv 0 rfl) ?_
  refine lv_ishr hx hb dX8_add_27 ?_
  refine lv_topi (fun z_4 ez_4 => ?_)
  refine lv_i2b (v := z_4.toInt8.toInt32) hx hb dX8_add_28 rfl ?_
  refine va_bast hx hb hG.1 hP hD hS 1 1 rfl rfl (vpd (by decide)) dX8_add_29 (fun H locs hP hD hS => ?_)
  have ⟨f_6, hP, hD⟩ : ∃ f_6 : Nat → Int32, va_P D vwCl [((ka 0), .inr (8, [.ref (ka 20), .int 13, .int 0, .int 0, .int 0, .int 0, .int (-1)])), ((ka 20), .inl (cy 1, 600, .inl f_6))] H ∧ va_D A [((ka 0), .inr (8, [.ref (ka 20), .int 13, .int 0, .int 0, .int 0, .int 0, .int (-1)])), ((ka 20), .inl (cy 1, 600, .inl f_6))] := ⟨_, hP, hD⟩
  refine lv_aload_n hx hb dX8_add_30 rfl (lv_at hlv 1 rfl) ?_
  refine lv_dup hx hb dX8_add_31 rfl ?_
  refine va_get (D := D) (ci := 8) (v := .int 13) (C := RX8) (T := TX8) (N := 7) hx hb hts hi8 hown hG.1 hP 0 rfl rfl 1 (by decide) lf19 (fun _ h9 => h9) rfl dX8_add_32 ?_
  refine lv_iconst (v := 1) hx hb dX8_add_35 (by decide) ?_
  refine lv_iadd hx hb dX8_add_36 ?_
  refine lt_i (y := 14) (by decide) ?_
  refine va_put (D := D) (ci := 8) (v := .int 14) (ty := .int) (C := RX8) (T := TX8) (N := 7) hx hb hts hi8 tyX8 tyX8_ok nmX8 hown hG.1 hP hD hS 0 rfl rfl 1 (by decide) lf19 (fun _ h9 => h9) rfl (by decide +kernel) rfl rfl (Nat.le_of_ble_eq_true rfl) dX8_add_37 (fun H locs hP hD hS => ?_)
  have hP : va_P D vwCl [((ka 0), .inr (8, [.ref (ka 20), .int 14, .int 0, .int 0, .int 0, .int 0, .int (-1)])), ((ka 20), .inl (cy 1, 600, .inl f_6))] H := hP
  have hD : va_D A [((ka 0), .inr (8, [.ref (ka 20), .int 14, .int 0, .int 0, .int 0, .int 0, .int (-1)])), ((ka 20), .inl (cy 1, 600, .inl f_6))] := hD
  refine lv_iinc (v := 8) (lv' := [(2, .int 8), (0, .ref (ka 0)), (1, .int n)]) hx hb dX8_add_40 hlv (k := 0) rfl (by decide) (by decide) rfl (fun ls hlv => ?_)
  refine lv_goto (tgt := 3) hx hb dX8_add_43 (by decide) ?_
  refine lv_iload_n hx hb dX8_add_3 rfl (lv_at hlv 0 rfl) ?_
  refine lv_if_lt (tgt := 46) hx hb dX8_add_4 (by decide) (fun c => absurd c (by decide)) (fun _ => ?_)
  refine lv_aload_n hx hb dX8_add_7 rfl (lv_at hlv 1 rfl) ?_
  refine va_get (D := D) (ci := 8) (v := .int 14) (C := RX8) (T := TX8) (N := 7) hx hb hts hi8 hown hG.1 hP 0 rfl rfl 1 (by decide) lf19 (fun _ h9 => h9) rfl dX8_add_8 ?_
  refine lv_sipush (v := 600) hx hb dX8_add_11 (by decide) ?_
  refine lv_icmp_ge (tgt := 46) hx hb dX8_add_14 (by decide) (fun c => absurd c (by decide)) (fun _ => ?_)
  refine lv_aload_n hx hb dX8_add_17 rfl (lv_at hlv 1 rfl) ?_
  refine va_get (D := D) (ci := 8) (v := .ref (ka 20)) (C := RX8) (T := TX8) (N := 7) hx hb hts hi8 hown hG.1 hP 0 rfl rfl 0 (by decide) lf11 (fun _ h9 => h9) rfl dX8_add_18 ?_
  refine lv_aload_n hx hb dX8_add_21 rfl (lv_at hlv 1 rfl) ?_
  refine va_get (D := D) (ci := 8) (v := .int 14) (C := RX8) (T := TX8) (N := 7) hx hb hts hi8 hown hG.1 hP 0 rfl rfl 1 (by decide) lf19 (fun _ h9 => h9) rfl dX8_add_22 ?_
  refine lv_iload_n hx hb dX8_add_25 rfl (lv_at hlv 2 rfl) ?_
  refine lv_iload_n hx hb dX8_add_26 rfl (lv_at hlv 0 rfl) ?_
  refine lv_ishr hx hb dX8_add_27 ?_
  refine lv_topi (fun z_7 ez_7 => ?_)
  refine lv_i2b (v := z_7.toInt8.toInt32) hx hb dX8_add_28 rfl ?_
  refine va_bast hx hb hG.1 hP hD hS 1 1 rfl rfl (vpd (by decide)) dX8_add_29 (fun H locs hP hD hS => ?_)
  have ⟨f_9, hP, hD⟩ : ∃ f_9 : Nat → Int32, va_P D vwCl [((ka 0), .inr (8, [.ref (ka 20), .int 14, .int 0, .int 0, .int 0, .int 0, .int (-1)])), ((ka 20), .inl (cy 1, 600, .inl f_9))] H ∧ va_D A [((ka 0), .inr (8, [.ref (ka 20), .int 14, .int 0, .int 0, .int 0, .int 0, .int (-1)])), ((ka 20), .inl (cy 1, 600, .inl f_9))] := ⟨_, hP, hD⟩
  refine lv_aload_n hx hb dX8_add_30 rfl (lv_at hlv 1 rfl) ?_
  refine lv_dup hx hb dX8_add_31 rfl ?_
  refine va_get (D := D) (ci := 8) (v := .int 14) (C := RX8) (T := TX8) (N := 7) hx hb hts hi8 hown hG.1 hP 0 rfl rfl 1 (by decide) lf19 (fun _ h9 => h9) rfl dX8_add_32 ?_
  refine lv_iconst (v := 1) hx hb dX8_add_35 (by decide) ?_
  refine lv_iadd hx hb dX8_add_36 ?_
  refine lt_i (y := 15) (by decide) ?_
  refine va_put (D := D) (ci := 8) (v := .int 15) (ty := .int) (C := RX8) (T := TX8) (N := 7) hx hb hts hi8 tyX8 tyX8_ok nmX8 hown hG.1 hP hD hS 0 rfl rfl 1 (by decide) lf19 (fun _ h9 => h9) rfl (by decide +kernel) rfl rfl (Nat.le_of_ble_eq_true rfl) dX8_add_37 (fun H locs hP hD hS => ?_)
  have hP : va_P D vwCl [((ka 0), .inr (8, [.ref (ka 20), .int 15, .int 0, .int 0, .int 0, .int 0, .int (-1)])), ((ka 20), .inl (cy 1, 600, .inl f_9))] H := hP
  have hD : va_D A [((ka 0), .inr (8, [.ref (ka 20), .int 15, .int 0, .int 0, .int 0, .int 0, .int (-1)])), ((ka 20), .inl (cy 1, 600, .inl f_9))] := hD
  refine lv_iinc (v := 0) (lv' := [(2, .int 0), (0, .ref (ka 0)), (1, .int n)]) hx hb dX8_add_40 hlv (k := 0) rfl (by decide) (by decide) rfl (fun ls hlv => ?_)
  refine lv_goto (tgt := 3) hx hb dX8_add_43 (by decide) ?_
  refine lv_iload_n hx hb dX8_add_3 rfl (lv_at hlv 0 rfl) ?_
  refine lv_if_lt (tgt := 46) hx hb dX8_add_4 (by decide) (fun c => absurd c (by decide)) (fun _ => ?_)
  refine lv_aload_n hx hb dX8_add_7 rfl (lv_at hlv 1 rfl) ?_
  refine va_get (D := D) (ci := 8) (v := .int 15) (C := RX8) (T := TX8) (N := 7) hx hb hts hi8 hown hG.1 hP 0 rfl rfl 1 (by decide) lf19 (fun _ h9 => h9) rfl dX8_add_8 ?_
  refine lv_sipush (v := 600) hx hb dX8_add_11 (by decide) ?_
  refine lv_icmp_ge (tgt := 46) hx hb dX8_add_14 (by decide) (fun c => absurd c (by decide)) (fun _ => ?_)
  refine lv_aload_n hx hb dX8_add_17 rfl (lv_at hlv 1 rfl) ?_
  refine va_get (D := D) (ci := 8) (v := .ref (ka 20)) (C := RX8) (T := TX8) (N := 7) hx hb hts hi8 hown hG.1 hP 0 rfl rfl 0 (by decide) lf11 (fun _ h9 => h9) rfl dX8_add_18 ?_
  refine lv_aload_n hx hb dX8_add_21 rfl (lv_at hlv 1 rfl) ?_
  refine va_get (D := D) (ci := 8) (v := .int 15) (C := RX8) (T := TX8) (N := 7) hx hb hts hi8 hown hG.1 hP 0 rfl rfl 1 (by decide) lf19 (fun _ h9 => h9) rfl dX8_add_22 ?_
  refine lv_iload_n hx hb dX8_add_25 rfl (lv_at hlv 2 rfl) ?_
  refine lv_iload_n hx hb dX8_add_26 rfl (lv_at hlv 0 rfl) ?_
  refine lv_ishr hx hb dX8_add_27 ?_
  refine lv_topi (fun z_10 ez_10 => ?_)
  refine lv_i2b (v := z_10.toInt8.toInt32) hx hb dX8_add_28 rfl ?_
  refine va_bast hx hb hG.1 hP hD hS 1 1 rfl rfl (vpd (by decide)) dX8_add_29 (fun H locs hP hD hS => ?_)
  have ⟨f_12, hP, hD⟩ : ∃ f_12 : Nat → Int32, va_P D vwCl [((ka 0), .inr (8, [.ref (ka 20), .int 15, .int 0, .int 0, .int 0, .int 0, .int (-1)])), ((ka 20), .inl (cy 1, 600, .inl f_12))] H ∧ va_D A [((ka 0), .inr (8, [.ref (ka 20), .int 15, .int 0, .int 0, .int 0, .int 0, .int (-1)])), ((ka 20), .inl (cy 1, 600, .inl f_12))] := ⟨_, hP, hD⟩
  refine lv_aload_n hx hb dX8_add_30 rfl (lv_at hlv 1 rfl) ?_
  refine lv_dup hx hb dX8_add_31 rfl ?_
  refine va_get (D := D) (ci := 8) (v := .int 15) (C := RX8) (T := TX8) (N := 7) hx hb hts hi8 hown hG.1 hP 0 rfl rfl 1 (by decide) lf19 (fun _ h9 => h9) rfl dX8_add_32 ?_
  refine lv_iconst (v := 1) hx hb dX8_add_35 (by decide) ?_
  refine lv_iadd hx hb dX8_add_36 ?_
  refine lt_i (y := 16) (by decide) ?_
  refine va_put (D := D) (ci := 8) (v := .int 16) (ty := .int) (C := RX8) (T := TX8) (N := 7) hx hb hts hi8 tyX8 tyX8_ok nmX8 hown hG.1 hP hD hS 0 rfl rfl 1 (by decide) lf19 (fun _ h9 => h9) rfl (by decide +kernel) rfl rfl (Nat.le_of_ble_eq_true rfl) dX8_add_37 (fun H locs hP hD hS => ?_)
  have hP : va_P D vwCl [((ka 0), .inr (8, [.ref (ka 20), .int 16, .int 0, .int 0, .int 0, .int 0, .int (-1)])), ((ka 20), .inl (cy 1, 600, .inl f_12))] H := hP
  have hD : va_D A [((ka 0), .inr (8, [.ref (ka 20), .int 16, .int 0, .int 0, .int 0, .int 0, .int (-1)])), ((ka 20), .inl (cy 1, 600, .inl f_12))] := hD
  refine lv_iinc (v := (-8)) (lv' := [(2, .int (-8)), (0, .ref (ka 0)), (1, .int n)]) hx hb dX8_add_40 hlv (k := 0) rfl (by decide) (by decide) rfl (fun ls hlv => ?_)
  refine lv_goto (tgt := 3) hx hb dX8_add_43 (by decide) ?_
  refine lv_iload_n hx hb dX8_add_3 rfl (lv_at hlv 0 rfl) ?_
  refine lv_if_lt (tgt := 46) hx hb dX8_add_4 (by decide) (fun _ => ?_) (fun c => absurd (by decide) c)
  refine W.widen (k := 0) (n := 0) (Nat.le_of_ble_eq_true rfl) (Nat.le_of_ble_eq_true rfl) ?_
  exact W.vret hx hb hr (fun t ht hW => ⟨⟨((fun k => ([] : List Nat).getD k 0), (fun k => ([] : List Int32).getD k 0), (fun k => ([f_12] : List (Nat → Int32)).getD k (fun _ => 0))), rfl, (by first | (trivial)), by rw [ht]; exact hP.sub [0, 1] rfl, hD.sub [0, 1] (by decide) rfl⟩, hS.F ht⟩) hS.2.2 dX8_add_46
def vs_c_tadd16 : List Cond := .code yX8_add cX8_add 3 none :: (([.fieldLink RX8 19 "KerbSplash$Tape" "fed" "I", .fieldLink RX8 11 "KerbSplash$Tape" "bytes" "[B"] : List Cond) ++ ((wsX80) ++ ([])))
set_option maxHeartbeats 4000000 in
set_option maxRecDepth 100000 in
theorem c_tadd16 (l : Launch) (hl : l.stackTraces = false) (D : va_G) (cy : Nat → ClassId) (sa : Nat → Nat) (ka : Nat → Nat) (n : Int32) (f0 : Nat → Int32) (sz : Nat) : Met l yX8_add vs_c_tadd16 ({ frames := 0, cells := 0, slots := 0, locals := 0 }) (va_Pc [.ref (ka 0), .int n] (pcW D cy sa sz [((ka 0), .inr (8, [.ref (ka 20), .int 16, .int 0, .int 0, .int 0, .int 0, .int (-1)])), ((ka 20), .inl (cy 1, 600, .inl f0))])) (va_Qv (fun u : SU => (True)) (fun u t => atW D (va_A [((ka 0), .inr (8, [.ref (ka 20), .int 16, .int 0, .int 0, .int 0, .int 0, .int (-1)])), ((ka 20), .inl (cy 1, 600, .inl f0))] sz) [((ka 0), .inr (8, [.ref (ka 20), .int 20, .int 0, .int 0, .int 0, .int 0, .int (-1)])), ((ka 20), .inl (cy 1, 600, .inl (u.2.2 0)))] t) (va_A [((ka 0), .inr (8, [.ref (ka 20), .int 16, .int 0, .int 0, .int 0, .int 0, .int (-1)])), ((ka 20), .inl (cy 1, 600, .inl f0))] sz)) 0 0 (va_A [((ka 0), .inr (8, [.ref (ka 20), .int 16, .int 0, .int 0, .int 0, .int 0, .int (-1)])), ((ka 20), .inl (cy 1, 600, .inl f0))] sz) := by
  refine Met.ofW (cc := cX8_add) (maxL := 3) (ret := none) (by decide) rfl ?_
  intro p e s m args below meth c s₁ B hml hv
  obtain ⟨rfl, hsz, hP, hG, hD0, hT⟩ := hv
  have hx := B.exec
  have hb := B.bytes
  have hr := B.returns
  have hts := atoms_spec (ws := vs_c_tadd16) B.pre
  have hown : s.vm.findClass RX8 = some m.cls := findClass_of_methodNamed B.named
  have hlocks := B.notSynchronized
  subst hsz
  have hD := hD0.self (sz := s.heap.size)
  generalize hAe : va_A [((ka 0), .inr (8, [.ref (ka 20), .int 16, .int 0, .int 0, .int 0, .int 0, .int (-1)])), ((ka 20), .inl (cy 1, 600, .inl f0))] s.heap.size = A at hD hT ⊢
  have hA : ∀ q : Nat, s.heap.size ≤ q → A q := fun q h => by rw [← hAe]; exact Or.inr h
  have hS : va_S A s.heap s.heap [] := va_S.rf
  have hl0 := lv_entry ([.ref (ka 0), .int n]) (n := 3) (Nat.le_of_ble_eq_true rfl)
  rw [lg_entry_eq]
  generalize (lg_sl ([.ref (ka 0), .int n]) ++ List.replicate (3 - (lg_sl ([.ref (ka 0), .int n])).length) Slot.unset).toArray = ls at hl0 ⊢
  have hlv : lv_has ls 3 [(0, .ref (ka 0)), (1, .int n)] := hl0
  have lf19 := hts (.fieldLink RX8 19 "KerbSplash$Tape" "fed" "I") (List.mem_of_getElem? (i := 1) rfl)
  have hi8 : ∀ w ∈ wsX80, w ∈ vs_c_tadd16 := fun w h => List.mem_cons_of_mem _ (List.mem_append_right _ (List.mem_append_left _ h))
  have lf11 := hts (.fieldLink RX8 11 "KerbSplash$Tape" "bytes" "[B") (List.mem_of_getElem? (i := 2) rfl)
  refine lv_bipush (v := 24) hx hb dX8_add_0 (by decide) ?_
  refine lv_istore_n (lv' := [(2, .int 24), (0, .ref (ka 0)), (1, .int n)]) hx hb dX8_add_2 rfl hlv (by decide) rfl (fun ls hlv => ?_)
  refine lv_iload_n hx hb dX8_add_3 rfl (lv_at hlv 0 rfl) ?_
  refine lv_if_lt (tgt := 46) hx hb dX8_add_4 (by decide) (fun c => absurd c (by decide)) (fun _ => ?_)
  refine lv_aload_n hx hb dX8_add_7 rfl (lv_at hlv 1 rfl) ?_
  refine va_get (D := D) (ci := 8) (v := .int 16) (C := RX8) (T := TX8) (N := 7) hx hb hts hi8 hown hG.1 hP 0 rfl rfl 1 (by decide) lf19 (fun _ h9 => h9) rfl dX8_add_8 ?_
  refine lv_sipush (v := 600) hx hb dX8_add_11 (by decide) ?_
  refine lv_icmp_ge (tgt := 46) hx hb dX8_add_14 (by decide) (fun c => absurd c (by decide)) (fun _ => ?_)
  refine lv_aload_n hx hb dX8_add_17 rfl (lv_at hlv 1 rfl) ?_
  refine va_get (D := D) (ci := 8) (v := .ref (ka 20)) (C := RX8) (T := TX8) (N := 7) hx hb hts hi8 hown hG.1 hP 0 rfl rfl 0 (by decide) lf11 (fun _ h9 => h9) rfl dX8_add_18 ?_
  refine lv_aload_n hx hb dX8_add_21 rfl (lv_at hlv 1 rfl) ?_
  refine va_get (D := D) (ci := 8) (v := .int 16) (C := RX8) (T := TX8) (N := 7) hx hb hts hi8 hown hG.1 hP 0 rfl rfl 1 (by decide) lf19 (fun _ h9 => h9) rfl dX8_add_22 ?_
  refine lv_iload_n hx hb dX8_add_25 rfl (lv_at hlv 2 rfl) ?_
  refine lv_iload_n hx hb dX8_add_26 rfl (lv_at hlv 0 rfl) ?_
  refine lv_ishr hx hb dX8_add_27 ?_
  refine lv_topi (fun z_1 ez_1 => ?_)
  refine lv_i2b (v := z_1.toInt8.toInt32) hx hb dX8_add_28 rfl ?_
  refine va_bast hx hb hG.1 hP hD hS 1 1 rfl rfl (vpd (by decide)) dX8_add_29 (fun H locs hP hD hS => ?_)
  have ⟨f_3, hP, hD⟩ : ∃ f_3 : Nat → Int32, va_P D vwCl [((ka 0), .inr (8, [.ref (ka 20), .int 16, .int 0, .int 0, .int 0, .int 0, .int (-1)])), ((ka 20), .inl (cy 1, 600, .inl f_3))] H ∧ va_D A [((ka 0), .inr (8, [.ref (ka 20), .int 16, .int 0, .int 0, .int 0, .int 0, .int (-1)])), ((ka 20), .inl (cy 1, 600, .inl f_3))] := ⟨_, hP, hD⟩
  refine lv_aload_n hx hb dX8_add_30 rfl (lv_at hlv 1 rfl) ?_
  refine lv_dup hx hb dX8_add_31 rfl ?_
  refine va_get (D := D) (ci := 8) (v := .int 16) (C := RX8) (T := TX8) (N := 7) hx hb hts hi8 hown hG.1 hP 0 rfl rfl 1 (by decide) lf19 (fun _ h9 => h9) rfl dX8_add_32 ?_
  refine lv_iconst (v := 1) hx hb dX8_add_35 (by decide) ?_
  refine lv_iadd hx hb dX8_add_36 ?_
  refine lt_i (y := 17) (by decide) ?_
  refine va_put (D := D) (ci := 8) (v := .int 17) (ty := .int) (C := RX8) (T := TX8) (N := 7) hx hb hts hi8 tyX8 tyX8_ok nmX8 hown hG.1 hP hD hS 0 rfl rfl 1 (by decide) lf19 (fun _ h9 => h9) rfl (by decide +kernel) rfl rfl (Nat.le_of_ble_eq_true rfl) dX8_add_37 (fun H locs hP hD hS => ?_)
  have hP : va_P D vwCl [((ka 0), .inr (8, [.ref (ka 20), .int 17, .int 0, .int 0, .int 0, .int 0, .int (-1)])), ((ka 20), .inl (cy 1, 600, .inl f_3))] H := hP
  have hD : va_D A [((ka 0), .inr (8, [.ref (ka 20), .int 17, .int 0, .int 0, .int 0, .int 0, .int (-1)])), ((ka 20), .inl (cy 1, 600, .inl f_3))] := hD
  refine lv_iinc (v := 16) (lv' := [(2, .int 16), (0, .ref (ka 0)), (1, .int n)]) hx hb dX8_add_40 hlv (k := 0) rfl (by decide) (by decide) rfl (fun ls hlv => ?_)
  refine lv_goto (tgt := 3) hx hb dX8_add_43 (by decide) ?_
  refine lv_iload_n hx hb dX8_add_3 rfl (lv_at hlv 0 rfl) ?_
  refine lv_if_lt (tgt := 46) hx hb dX8_add_4 (by decide) (fun c => absurd c (by decide)) (fun _ => ?_)
  refine lv_aload_n hx hb dX8_add_7 rfl (lv_at hlv 1 rfl) ?_
  refine va_get (D := D) (ci := 8) (v := .int 17) (C := RX8) (T := TX8) (N := 7) hx hb hts hi8 hown hG.1 hP 0 rfl rfl 1 (by decide) lf19 (fun _ h9 => h9) rfl dX8_add_8 ?_
  refine lv_sipush (v := 600) hx hb dX8_add_11 (by decide) ?_
  refine lv_icmp_ge (tgt := 46) hx hb dX8_add_14 (by decide) (fun c => absurd c (by decide)) (fun _ => ?_)
  refine lv_aload_n hx hb dX8_add_17 rfl (lv_at hlv 1 rfl) ?_
  refine va_get (D := D) (ci := 8) (v := .ref (ka 20)) (C := RX8) (T := TX8) (N := 7) hx hb hts hi8 hown hG.1 hP 0 rfl rfl 0 (by decide) lf11 (fun _ h9 => h9) rfl dX8_add_18 ?_
  refine lv_aload_n hx hb dX8_add_21 rfl (lv_at hlv 1 rfl) ?_
  refine va_get (D := D) (ci := 8) (v := .int 17) (C := RX8) (T := TX8) (N := 7) hx hb hts hi8 hown hG.1 hP 0 rfl rfl 1 (by decide) lf19 (fun _ h9 => h9) rfl dX8_add_22 ?_
  refine lv_iload_n hx hb dX8_add_25 rfl (lv_at hlv 2 rfl) ?_
  refine lv_iload_n hx hb dX8_add_26 rfl (lv_at hlv 0 rfl) ?_
  refine lv_ishr hx hb dX8_add_27 ?_
  refine lv_topi (fun z_4 ez_4 => ?_)
  refine lv_i2b (v := z_4.toInt8.toInt32) hx hb dX8_add_28 rfl ?_
  refine va_bast hx hb hG.1 hP hD hS 1 1 rfl rfl (vpd (by decide)) dX8_add_29 (fun H locs hP hD hS => ?_)
  have ⟨f_6, hP, hD⟩ : ∃ f_6 : Nat → Int32, va_P D vwCl [((ka 0), .inr (8, [.ref (ka 20), .int 17, .int 0, .int 0, .int 0, .int 0, .int (-1)])), ((ka 20), .inl (cy 1, 600, .inl f_6))] H ∧ va_D A [((ka 0), .inr (8, [.ref (ka 20), .int 17, .int 0, .int 0, .int 0, .int 0, .int (-1)])), ((ka 20), .inl (cy 1, 600, .inl f_6))] := ⟨_, hP, hD⟩
  refine lv_aload_n hx hb dX8_add_30 rfl (lv_at hlv 1 rfl) ?_
  refine lv_dup hx hb dX8_add_31 rfl ?_
  refine va_get (D := D) (ci := 8) (v := .int 17) (C := RX8) (T := TX8) (N := 7) hx hb hts hi8 hown hG.1 hP 0 rfl rfl 1 (by decide) lf19 (fun _ h9 => h9) rfl dX8_add_32 ?_
  refine lv_iconst (v := 1) hx hb dX8_add_35 (by decide) ?_
  refine lv_iadd hx hb dX8_add_36 ?_
  refine lt_i (y := 18) (by decide) ?_
  refine va_put (D := D) (ci := 8) (v := .int 18) (ty := .int) (C := RX8) (T := TX8) (N := 7) hx hb hts hi8 tyX8 tyX8_ok nmX8 hown hG.1 hP hD hS 0 rfl rfl 1 (by decide) lf19 (fun _ h9 => h9) rfl (by decide +kernel) rfl rfl (Nat.le_of_ble_eq_true rfl) dX8_add_37 (fun H locs hP hD hS => ?_)
  have hP : va_P D vwCl [((ka 0), .inr (8, [.ref (ka 20), .int 18, .int 0, .int 0, .int 0, .int 0, .int (-1)])), ((ka 20), .inl (cy 1, 600, .inl f_6))] H := hP
  have hD : va_D A [((ka 0), .inr (8, [.ref (ka 20), .int 18, .int 0, .int 0, .int 0, .int 0, .int (-1)])), ((ka 20), .inl (cy 1, 600, .inl f_6))] := hD
  refine lv_iinc (v := 8) (lv' := [(2, .int 8), (0, .ref (ka 0)), (1, .int n)]) hx hb dX8_add_40 hlv (k := 0) rfl (by decide) (by decide) rfl (fun ls hlv => ?_)
  refine lv_goto (tgt := 3) hx hb dX8_add_43 (by decide) ?_
  refine lv_iload_n hx hb dX8_add_3 rfl (lv_at hlv 0 rfl) ?_
  refine lv_if_lt (tgt := 46) hx hb dX8_add_4 (by decide) (fun c => absurd c (by decide)) (fun _ => ?_)
  refine lv_aload_n hx hb dX8_add_7 rfl (lv_at hlv 1 rfl) ?_
  refine va_get (D := D) (ci := 8) (v := .int 18) (C := RX8) (T := TX8) (N := 7) hx hb hts hi8 hown hG.1 hP 0 rfl rfl 1 (by decide) lf19 (fun _ h9 => h9) rfl dX8_add_8 ?_
  refine lv_sipush (v := 600) hx hb dX8_add_11 (by decide) ?_
  refine lv_icmp_ge (tgt := 46) hx hb dX8_add_14 (by decide) (fun c => absurd c (by decide)) (fun _ => ?_)
  refine lv_aload_n hx hb dX8_add_17 rfl (lv_at hlv 1 rfl) ?_
  refine va_get (D := D) (ci := 8) (v := .ref (ka 20)) (C := RX8) (T := TX8) (N := 7) hx hb hts hi8 hown hG.1 hP 0 rfl rfl 0 (by decide) lf11 (fun _ h9 => h9) rfl dX8_add_18 ?_
  refine lv_aload_n hx hb dX8_add_21 rfl (lv_at hlv 1 rfl) ?_
  refine va_get (D := D) (ci := 8) (v := .int 18) (C := RX8) (T := TX8) (N := 7) hx hb hts hi8 hown hG.1 hP 0 rfl rfl 1 (by decide) lf19 (fun _ h9 => h9) rfl dX8_add_22 ?_
  refine lv_iload_n hx hb dX8_add_25 rfl (lv_at hlv 2 rfl) ?_
  refine lv_iload_n hx hb dX8_add_26 rfl (lv_at hlv 0 rfl) ?_
  refine lv_ishr hx hb dX8_add_27 ?_
  refine lv_topi (fun z_7 ez_7 => ?_)
  refine lv_i2b (v := z_7.toInt8.toInt32) hx hb dX8_add_28 rfl ?_
  refine va_bast hx hb hG.1 hP hD hS 1 1 rfl rfl (vpd (by decide)) dX8_add_29 (fun H locs hP hD hS => ?_)
  have ⟨f_9, hP, hD⟩ : ∃ f_9 : Nat → Int32, va_P D vwCl [((ka 0), .inr (8, [.ref (ka 20), .int 18, .int 0, .int 0, .int 0, .int 0, .int (-1)])), ((ka 20), .inl (cy 1, 600, .inl f_9))] H ∧ va_D A [((ka 0), .inr (8, [.ref (ka 20), .int 18, .int 0, .int 0, .int 0, .int 0, .int (-1)])), ((ka 20), .inl (cy 1, 600, .inl f_9))] := ⟨_, hP, hD⟩
  refine lv_aload_n hx hb dX8_add_30 rfl (lv_at hlv 1 rfl) ?_
  refine lv_dup hx hb dX8_add_31 rfl ?_
  refine va_get (D := D) (ci := 8) (v := .int 18) (C := RX8) (T := TX8) (N := 7) hx hb hts hi8 hown hG.1 hP 0 rfl rfl 1 (by decide) lf19 (fun _ h9 => h9) rfl dX8_add_32 ?_
  refine lv_iconst (v := 1) hx hb dX8_add_35 (by decide) ?_
  refine lv_iadd hx hb dX8_add_36 ?_
  refine lt_i (y := 19) (by decide) ?_
  refine va_put (D := D) (ci := 8) (v := .int 19) (ty := .int) (C := RX8) (T := TX8) (N := 7) hx hb hts hi8 tyX8 tyX8_ok nmX8 hown hG.1 hP hD hS 0 rfl rfl 1 (by decide) lf19 (fun _ h9 => h9) rfl (by decide +kernel) rfl rfl (Nat.le_of_ble_eq_true rfl) dX8_add_37 (fun H locs hP hD hS => ?_)
  have hP : va_P D vwCl [((ka 0), .inr (8, [.ref (ka 20), .int 19, .int 0, .int 0, .int 0, .int 0, .int (-1)])), ((ka 20), .inl (cy 1, 600, .inl f_9))] H := hP
  have hD : va_D A [((ka 0), .inr (8, [.ref (ka 20), .int 19, .int 0, .int 0, .int 0, .int 0, .int (-1)])), ((ka 20), .inl (cy 1, 600, .inl f_9))] := hD
  refine lv_iinc (v := 0) (lv' := [(2, .int 0), (0, .ref (ka 0)), (1, .int n)]) hx hb dX8_add_40 hlv (k := 0) rfl (by decide) (by decide) rfl (fun ls hlv => ?_)
  refine lv_goto (tgt := 3) hx hb dX8_add_43 (by decide) ?_
  refine lv_iload_n hx hb dX8_add_3 rfl (lv_at hlv 0 rfl) ?_
  refine lv_if_lt (tgt := 46) hx hb dX8_add_4 (by decide) (fun c => absurd c (by decide)) (fun _ => ?_)
  refine lv_aload_n hx hb dX8_add_7 rfl (lv_at hlv 1 rfl) ?_
  refine va_get (D := D) (ci := 8) (v := .int 19) (C := RX8) (T := TX8) (N := 7) hx hb hts hi8 hown hG.1 hP 0 rfl rfl 1 (by decide) lf19 (fun _ h9 => h9) rfl dX8_add_8 ?_
  refine lv_sipush (v := 600) hx hb dX8_add_11 (by decide) ?_
  refine lv_icmp_ge (tgt := 46) hx hb dX8_add_14 (by decide) (fun c => absurd c (by decide)) (fun _ => ?_)
  refine lv_aload_n hx hb dX8_add_17 rfl (lv_at hlv 1 rfl) ?_
  refine va_get (D := D) (ci := 8) (v := .ref (ka 20)) (C := RX8) (T := TX8) (N := 7) hx hb hts hi8 hown hG.1 hP 0 rfl rfl 0 (by decide) lf11 (fun _ h9 => h9) rfl dX8_add_18 ?_
  refine lv_aload_n hx hb dX8_add_21 rfl (lv_at hlv 1 rfl) ?_
  refine va_get (D := D) (ci := 8) (v := .int 19) (C := RX8) (T := TX8) (N := 7) hx hb hts hi8 hown hG.1 hP 0 rfl rfl 1 (by decide) lf19 (fun _ h9 => h9) rfl dX8_add_22 ?_
  refine lv_iload_n hx hb dX8_add_25 rfl (lv_at hlv 2 rfl) ?_
  refine lv_iload_n hx hb dX8_add_26 rfl (lv_at hlv 0 rfl) ?_
  refine lv_ishr hx hb dX8_add_27 ?_
  refine lv_topi (fun z_10 ez_10 => ?_)
  refine lv_i2b (v := z_10.toInt8.toInt32) hx hb dX8_add_28 rfl ?_
  refine va_bast hx hb hG.1 hP hD hS 1 1 rfl rfl (vpd (by decide)) dX8_add_29 (fun H locs hP hD hS => ?_)
  have ⟨f_12, hP, hD⟩ : ∃ f_12 : Nat → Int32, va_P D vwCl [((ka 0), .inr (8, [.ref (ka 20), .int 19, .int 0, .int 0, .int 0, .int 0, .int (-1)])), ((ka 20), .inl (cy 1, 600, .inl f_12))] H ∧ va_D A [((ka 0), .inr (8, [.ref (ka 20), .int 19, .int 0, .int 0, .int 0, .int 0, .int (-1)])), ((ka 20), .inl (cy 1, 600, .inl f_12))] := ⟨_, hP, hD⟩
  refine lv_aload_n hx hb dX8_add_30 rfl (lv_at hlv 1 rfl) ?_
  refine lv_dup hx hb dX8_add_31 rfl ?_
  refine va_get (D := D) (ci := 8) (v := .int 19) (C := RX8) (T := TX8) (N := 7) hx hb hts hi8 hown hG.1 hP 0 rfl rfl 1 (by decide) lf19 (fun _ h9 => h9) rfl dX8_add_32 ?_
  refine lv_iconst (v := 1) hx hb dX8_add_35 (by decide) ?_
  refine lv_iadd hx hb dX8_add_36 ?_
  refine lt_i (y := 20) (by decide) ?_
  refine va_put (D := D) (ci := 8) (v := .int 20) (ty := .int) (C := RX8) (T := TX8) (N := 7) hx hb hts hi8 tyX8 tyX8_ok nmX8 hown hG.1 hP hD hS 0 rfl rfl 1 (by decide) lf19 (fun _ h9 => h9) rfl (by decide +kernel) rfl rfl (Nat.le_of_ble_eq_true rfl) dX8_add_37 (fun H locs hP hD hS => ?_)
  have hP : va_P D vwCl [((ka 0), .inr (8, [.ref (ka 20), .int 20, .int 0, .int 0, .int 0, .int 0, .int (-1)])), ((ka 20), .inl (cy 1, 600, .inl f_12))] H := hP
  have hD : va_D A [((ka 0), .inr (8, [.ref (ka 20), .int 20, .int 0, .int 0, .int 0, .int 0, .int (-1)])), ((ka 20), .inl (cy 1, 600, .inl f_12))] := hD
  refine lv_iinc (v := (-8)) (lv' := [(2, .int (-8)), (0, .ref (ka 0)), (1, .int n)]) hx hb dX8_add_40 hlv (k := 0) rfl (by decide) (by decide) rfl (fun ls hlv => ?_)
  refine lv_goto (tgt := 3) hx hb dX8_add_43 (by decide) ?_
  refine lv_iload_n hx hb dX8_add_3 rfl (lv_at hlv 0 rfl) ?_
  refine lv_if_lt (tgt := 46) hx hb dX8_add_4 (by decide) (fun _ => ?_) (fun c => absurd (by decide) c)
  refine W.widen (k := 0) (n := 0) (Nat.le_of_ble_eq_true rfl) (Nat.le_of_ble_eq_true rfl) ?_
  exact W.vret hx hb hr (fun t ht hW => ⟨⟨((fun k => ([] : List Nat).getD k 0), (fun k => ([] : List Int32).getD k 0), (fun k => ([f_12] : List (Nat → Int32)).getD k (fun _ => 0))), rfl, (by first | (trivial)), by rw [ht]; exact hP.sub [0, 1] rfl, hD.sub [0, 1] (by decide) rfl⟩, hS.F ht⟩) hS.2.2 dX8_add_46
def vs_c_feed : List Cond := .code yX11_feed cX11_feed 6 (some .int) :: (([.fieldLink RX11 10 "KerbSplash" "tape" "LKerbSplash$Tape;", .initialized RX8, .instanceMethod yX8_hasRoom, .selects RX8 yX8_hasRoom yX8_hasRoom, .instanceMethod yX8_add, .selects RX8 yX8_add yX8_add] : List Cond) ++ ((wsX110) ++ ((vs_c_hasRoom) ++ ((vs_c_tadd0) ++ ((vs_c_tadd4) ++ ((vs_c_tadd8) ++ ((vs_c_tadd12) ++ ((vs_c_tadd16) ++ ((wsX80) ++ ([]))))))))))
set_option maxHeartbeats 4000000 in
set_option maxRecDepth 100000 in
theorem c_feed (l : Launch) (hl : l.stackTraces = false) (D : va_G) (cy : Nat → ClassId) (sa : Nat → Nat) (ko : Nat) (ka : Nat → Nat) (p0 p1 p2 p3 p4 : Int32) (f0 : Nat → Int32) (sz : Nat) : Met l yX11_feed vs_c_feed ({ frames := 1, cells := 0, slots := 0, locals := 22 }) (va_Pc [.ref ko, .int p0, .int p1, .int p2, .int p3, .int p4] (pcW D cy sa sz [(ko, .inr (11, [.ref (ka 0), .ref (ka 1), .ref (ka 2), .int 0, .int 0, .ref (ka 5), .ref (ka 6), .ref (ka 7), .ref (ka 8), .ref (ka 9), .int 0, .ref (ka 11), .ref (ka 12), .ref (ka 13)])), ((ka 0), .inr (8, [.ref (ka 20), .int 0, .int 0, .int 0, .int 0, .int 0, .int (-1)])), ((ka 20), .inl (cy 1, 600, .inl f0))])) (va_Qi (fun (r : Int32) (u : SU) => (r = 20)) (fun u t => atW D (va_A [(ko, .inr (11, [.ref (ka 0), .ref (ka 1), .ref (ka 2), .int 0, .int 0, .ref (ka 5), .ref (ka 6), .ref (ka 7), .ref (ka 8), .ref (ka 9), .int 0, .ref (ka 11), .ref (ka 12), .ref (ka 13)])), ((ka 0), .inr (8, [.ref (ka 20), .int 0, .int 0, .int 0, .int 0, .int 0, .int (-1)])), ((ka 20), .inl (cy 1, 600, .inl f0))] sz) [] t) (va_A [(ko, .inr (11, [.ref (ka 0), .ref (ka 1), .ref (ka 2), .int 0, .int 0, .ref (ka 5), .ref (ka 6), .ref (ka 7), .ref (ka 8), .ref (ka 9), .int 0, .ref (ka 11), .ref (ka 12), .ref (ka 13)])), ((ka 0), .inr (8, [.ref (ka 20), .int 0, .int 0, .int 0, .int 0, .int 0, .int (-1)])), ((ka 20), .inl (cy 1, 600, .inl f0))] sz)) 0 0 (va_A [(ko, .inr (11, [.ref (ka 0), .ref (ka 1), .ref (ka 2), .int 0, .int 0, .ref (ka 5), .ref (ka 6), .ref (ka 7), .ref (ka 8), .ref (ka 9), .int 0, .ref (ka 11), .ref (ka 12), .ref (ka 13)])), ((ka 0), .inr (8, [.ref (ka 20), .int 0, .int 0, .int 0, .int 0, .int 0, .int (-1)])), ((ka 20), .inl (cy 1, 600, .inl f0))] sz) := by
  refine Met.ofW (cc := cX11_feed) (maxL := 6) (ret := (some .int)) (by decide) rfl ?_
  intro p e s m args below meth c s₁ B hml hv
  obtain ⟨rfl, hsz, hP, hG, hD0, hT⟩ := hv
  have hx := B.exec
  have hb := B.bytes
  have hr := B.returns
  have hts := atoms_spec (ws := vs_c_feed) B.pre
  have hown : s.vm.findClass RX11 = some m.cls := findClass_of_methodNamed B.named
  have hlocks := B.notSynchronized
  subst hsz
  have hD := hD0.self (sz := s.heap.size)
  generalize hAe : va_A [(ko, .inr (11, [.ref (ka 0), .ref (ka 1), .ref (ka 2), .int 0, .int 0, .ref (ka 5), .ref (ka 6), .ref (ka 7), .ref (ka 8), .ref (ka 9), .int 0, .ref (ka 11), .ref (ka 12), .ref (ka 13)])), ((ka 0), .inr (8, [.ref (ka 20), .int 0, .int 0, .int 0, .int 0, .int 0, .int (-1)])), ((ka 20), .inl (cy 1, 600, .inl f0))] s.heap.size = A at hD hT ⊢
  have hA : ∀ q : Nat, s.heap.size ≤ q → A q := fun q h => by rw [← hAe]; exact Or.inr h
  have hS : va_S A s.heap s.heap [] := va_S.rf
  have hl0 := lv_entry ([.ref ko, .int p0, .int p1, .int p2, .int p3, .int p4]) (n := 6) (Nat.le_of_ble_eq_true rfl)
  rw [lg_entry_eq]
  generalize (lg_sl ([.ref ko, .int p0, .int p1, .int p2, .int p3, .int p4]) ++ List.replicate (6 - (lg_sl ([.ref ko, .int p0, .int p1, .int p2, .int p3, .int p4])).length) Slot.unset).toArray = ls at hl0 ⊢
  have hlv : lv_has ls 6 [(0, .ref ko), (1, .int p0), (2, .int p1), (3, .int p2), (4, .int p3), (5, .int p4)] := hl0
  have lf10 := hts (.fieldLink RX11 10 "KerbSplash" "tape" "LKerbSplash$Tape;") (List.mem_of_getElem? (i := 1) rfl)
  have hi11 : ∀ w ∈ wsX110, w ∈ vs_c_feed := fun w h => List.mem_cons_of_mem _ (List.mem_append_right _ (List.mem_append_left _ h))
  have gg_1 : GoodIn vs_c_feed (vs_c_hasRoom) := goodIn_sub (fun w h => List.mem_cons_of_mem _ (List.mem_append_right _ (List.mem_append_right _ (List.mem_append_left _ h)))) (by decide +kernel)
  have ini_RX8 := hts (.initialized RX8) (List.mem_of_getElem? (i := 2) rfl)
  have im_X8_hasRoom := hts (.instanceMethod yX8_hasRoom) (List.mem_of_getElem? (i := 3) rfl)
  have se_X8_hasRoom := hts (.selects RX8 yX8_hasRoom yX8_hasRoom) (List.mem_of_getElem? (i := 4) rfl)
  have gg_2 : GoodIn vs_c_feed (vs_c_tadd0) := goodIn_sub (fun w h => List.mem_cons_of_mem _ (List.mem_append_right _ (List.mem_append_right _ (List.mem_append_right _ (List.mem_append_left _ h))))) (by decide +kernel)
  have im_X8_add := hts (.instanceMethod yX8_add) (List.mem_of_getElem? (i := 5) rfl)
  have se_X8_add := hts (.selects RX8 yX8_add yX8_add) (List.mem_of_getElem? (i := 6) rfl)
  have gg_3 : GoodIn vs_c_feed (vs_c_tadd4) := goodIn_sub (fun w h => List.mem_cons_of_mem _ (List.mem_append_right _ (List.mem_append_right _ (List.mem_append_right _ (List.mem_append_right _ (List.mem_append_left _ h)))))) (by decide +kernel)
  have gg_4 : GoodIn vs_c_feed (vs_c_tadd8) := goodIn_sub (fun w h => List.mem_cons_of_mem _ (List.mem_append_right _ (List.mem_append_right _ (List.mem_append_right _ (List.mem_append_right _ (List.mem_append_right _ (List.mem_append_left _ h))))))) (by decide +kernel)
  have gg_5 : GoodIn vs_c_feed (vs_c_tadd12) := goodIn_sub (fun w h => List.mem_cons_of_mem _ (List.mem_append_right _ (List.mem_append_right _ (List.mem_append_right _ (List.mem_append_right _ (List.mem_append_right _ (List.mem_append_right _ (List.mem_append_left _ h)))))))) (by decide +kernel)
  have gg_6 : GoodIn vs_c_feed (vs_c_tadd16) := goodIn_sub (fun w h => List.mem_cons_of_mem _ (List.mem_append_right _ (List.mem_append_right _ (List.mem_append_right _ (List.mem_append_right _ (List.mem_append_right _ (List.mem_append_right _ (List.mem_append_right _ (List.mem_append_left _ h))))))))) (by decide +kernel)
  have hi8 : ∀ w ∈ wsX80, w ∈ vs_c_feed := fun w h => List.mem_cons_of_mem _ (List.mem_append_right _ (List.mem_append_right _ (List.mem_append_right _ (List.mem_append_right _ (List.mem_append_right _ (List.mem_append_right _ (List.mem_append_right _ (List.mem_append_right _ (List.mem_append_left _ h)))))))))
  refine lv_aload_n hx hb dX11_feed_0 rfl (lv_at hlv 0 rfl) ?_
  refine va_get (D := D) (ci := 11) (v := .ref (ka 0)) (C := RX11) (T := TX11) (N := 14) hx hb hts hi11 hown hG.1 hP 0 rfl rfl 0 (by decide) lf10 (fun _ h9 => h9) rfl dX11_feed_1 ?_
  refine cj_i (wr := [(ko, .inr (11, [.ref (ka 0), .ref (ka 1), .ref (ka 2), .int 0, .int 0, .ref (ka 5), .ref (ka 6), .ref (ka 7), .ref (ka 8), .ref (ka 9), .int 0, .ref (ka 11), .ref (ka 12), .ref (ka 13)])), ((ka 20), .inl (cy 1, 600, .inl f0))]) (va_runVN (host := "KerbSplash") (As := []) (rest := []) ⟨hx, hb, hml, hown, hts⟩ (c_hasRoom l hl D cy sa ka s.heap.size) ⟨va_cnB 0 hts gg_1 rfl rfl rfl (nM_K_73 hG.2.1) ini_RX8 (by decide +kernel) ⟨Nat.le_of_ble_eq_true rfl, Nat.le_of_ble_eq_true rfl⟩, im_X8_hasRoom, se_X8_hasRoom⟩ ⟨pcW.blind, (va_recv hG.1 hP (ci := 8) (q0 := 1) rfl rfl), (pcW.mk hP hD hS hA hG hT [1] rfl (by decide))⟩ rfl rfl hlv.1 rfl (lv_room (Nat.le_of_ble_eq_true rfl)) dX11_feed_4 ⟨Nat.le_of_ble_eq_true rfl, Nat.le_of_ble_eq_true rfl⟩) hP hD hS hA [1] [0, 2] rfl rfl (by decide) (by decide) (fun r1 u1 H locs hw1 hP hD hS => ?_)
  obtain rfl := hw1
  have hP : va_P D vwCl [(ko, .inr (11, [.ref (ka 0), .ref (ka 1), .ref (ka 2), .int 0, .int 0, .ref (ka 5), .ref (ka 6), .ref (ka 7), .ref (ka 8), .ref (ka 9), .int 0, .ref (ka 11), .ref (ka 12), .ref (ka 13)])), ((ka 20), .inl (cy 1, 600, .inl f0)), ((ka 0), .inr (8, [.ref (ka 20), .int 0, .int 0, .int 0, .int 0, .int 0, .int (-1)]))] H := hP
  have hD : va_D A [(ko, .inr (11, [.ref (ka 0), .ref (ka 1), .ref (ka 2), .int 0, .int 0, .ref (ka 5), .ref (ka 6), .ref (ka 7), .ref (ka 8), .ref (ka 9), .int 0, .ref (ka 11), .ref (ka 12), .ref (ka 13)])), ((ka 20), .inl (cy 1, 600, .inl f0)), ((ka 0), .inr (8, [.ref (ka 20), .int 0, .int 0, .int 0, .int 0, .int 0, .int (-1)]))] := hD
  refine lv_if_ne (tgt := 12) hx hb dX11_feed_7 (by decide) (fun _ => ?_) (fun c => absurd c (by decide))
  refine lv_aload_n hx hb dX11_feed_12 rfl (lv_at hlv 0 rfl) ?_
  refine va_get (D := D) (ci := 11) (v := .ref (ka 0)) (C := RX11) (T := TX11) (N := 14) hx hb hts hi11 hown hG.1 hP 0 rfl rfl 0 (by decide) lf10 (fun _ h9 => h9) rfl dX11_feed_13 ?_
  refine lv_iload_n hx hb dX11_feed_16 rfl (lv_at hlv 1 rfl) ?_
  refine cj_v (wr := [(ko, .inr (11, [.ref (ka 0), .ref (ka 1), .ref (ka 2), .int 0, .int 0, .ref (ka 5), .ref (ka 6), .ref (ka 7), .ref (ka 8), .ref (ka 9), .int 0, .ref (ka 11), .ref (ka 12), .ref (ka 13)]))]) (va_runVN (host := "KerbSplash") (As := [.int p0]) (rest := []) ⟨hx, hb, hml, hown, hts⟩ (c_tadd0 l hl D cy sa ka p0 f0 H.size) ⟨va_cnB 1 hts gg_2 rfl rfl rfl (nM_K_77 hG.2.1) ini_RX8 (by decide +kernel) ⟨Nat.le_of_ble_eq_true rfl, Nat.le_of_ble_eq_true rfl⟩, im_X8_add, se_X8_add⟩ ⟨pcW.blind, (va_recv hG.1 hP (ci := 8) (q0 := 2) rfl rfl), (pcW.mk hP hD hS hA hG hT [2, 1] rfl (by decide))⟩ rfl rfl hlv.1 rfl (lv_room (Nat.le_of_ble_eq_true rfl)) dX11_feed_17 ⟨Nat.le_of_ble_eq_true rfl, Nat.le_of_ble_eq_true rfl⟩) hP hD hS hA [2, 1] [0] rfl rfl (by decide) (by decide) (fun u2 H locs hw2 hP hD hS => ?_)
  have hP : va_P D vwCl [(ko, .inr (11, [.ref (ka 0), .ref (ka 1), .ref (ka 2), .int 0, .int 0, .ref (ka 5), .ref (ka 6), .ref (ka 7), .ref (ka 8), .ref (ka 9), .int 0, .ref (ka 11), .ref (ka 12), .ref (ka 13)])), ((ka 0), .inr (8, [.ref (ka 20), .int 4, .int 0, .int 0, .int 0, .int 0, .int (-1)])), ((ka 20), .inl (cy 1, 600, .inl (u2.2.2 0)))] H := hP
  have hD : va_D A [(ko, .inr (11, [.ref (ka 0), .ref (ka 1), .ref (ka 2), .int 0, .int 0, .ref (ka 5), .ref (ka 6), .ref (ka 7), .ref (ka 8), .ref (ka 9), .int 0, .ref (ka 11), .ref (ka 12), .ref (ka 13)])), ((ka 0), .inr (8, [.ref (ka 20), .int 4, .int 0, .int 0, .int 0, .int 0, .int (-1)])), ((ka 20), .inl (cy 1, 600, .inl (u2.2.2 0)))] := hD
  refine lv_aload_n hx hb dX11_feed_20 rfl (lv_at hlv 0 rfl) ?_
  refine va_get (D := D) (ci := 11) (v := .ref (ka 0)) (C := RX11) (T := TX11) (N := 14) hx hb hts hi11 hown hG.1 hP 0 rfl rfl 0 (by decide) lf10 (fun _ h9 => h9) rfl dX11_feed_21 ?_
  refine lv_iload_n hx hb dX11_feed_24 rfl (lv_at hlv 2 rfl) ?_
  refine cj_v (wr := [(ko, .inr (11, [.ref (ka 0), .ref (ka 1), .ref (ka 2), .int 0, .int 0, .ref (ka 5), .ref (ka 6), .ref (ka 7), .ref (ka 8), .ref (ka 9), .int 0, .ref (ka 11), .ref (ka 12), .ref (ka 13)]))]) (va_runVN (host := "KerbSplash") (As := [.int p1]) (rest := []) ⟨hx, hb, hml, hown, hts⟩ (c_tadd4 l hl D cy sa ka p1 (u2.2.2 0) H.size) ⟨va_cnB 1 hts gg_3 rfl rfl rfl (nM_K_77 hG.2.1) ini_RX8 (by decide +kernel) ⟨Nat.le_of_ble_eq_true rfl, Nat.le_of_ble_eq_true rfl⟩, im_X8_add, se_X8_add⟩ ⟨pcW.blind, (va_recv hG.1 hP (ci := 8) (q0 := 1) rfl rfl), (pcW.mk hP hD hS hA hG hT [1, 2] rfl (by decide))⟩ rfl rfl hlv.1 rfl (lv_room (Nat.le_of_ble_eq_true rfl)) dX11_feed_25 ⟨Nat.le_of_ble_eq_true rfl, Nat.le_of_ble_eq_true rfl⟩) hP hD hS hA [1, 2] [0] rfl rfl (by decide) (by decide) (fun u3 H locs hw3 hP hD hS => ?_)
  have hP : va_P D vwCl [(ko, .inr (11, [.ref (ka 0), .ref (ka 1), .ref (ka 2), .int 0, .int 0, .ref (ka 5), .ref (ka 6), .ref (ka 7), .ref (ka 8), .ref (ka 9), .int 0, .ref (ka 11), .ref (ka 12), .ref (ka 13)])), ((ka 0), .inr (8, [.ref (ka 20), .int 8, .int 0, .int 0, .int 0, .int 0, .int (-1)])), ((ka 20), .inl (cy 1, 600, .inl (u3.2.2 0)))] H := hP
  have hD : va_D A [(ko, .inr (11, [.ref (ka 0), .ref (ka 1), .ref (ka 2), .int 0, .int 0, .ref (ka 5), .ref (ka 6), .ref (ka 7), .ref (ka 8), .ref (ka 9), .int 0, .ref (ka 11), .ref (ka 12), .ref (ka 13)])), ((ka 0), .inr (8, [.ref (ka 20), .int 8, .int 0, .int 0, .int 0, .int 0, .int (-1)])), ((ka 20), .inl (cy 1, 600, .inl (u3.2.2 0)))] := hD
  refine lv_aload_n hx hb dX11_feed_28 rfl (lv_at hlv 0 rfl) ?_
  refine va_get (D := D) (ci := 11) (v := .ref (ka 0)) (C := RX11) (T := TX11) (N := 14) hx hb hts hi11 hown hG.1 hP 0 rfl rfl 0 (by decide) lf10 (fun _ h9 => h9) rfl dX11_feed_29 ?_
  refine lv_iload_n hx hb dX11_feed_32 rfl (lv_at hlv 3 rfl) ?_
  refine cj_v (wr := [(ko, .inr (11, [.ref (ka 0), .ref (ka 1), .ref (ka 2), .int 0, .int 0, .ref (ka 5), .ref (ka 6), .ref (ka 7), .ref (ka 8), .ref (ka 9), .int 0, .ref (ka 11), .ref (ka 12), .ref (ka 13)]))]) (va_runVN (host := "KerbSplash") (As := [.int p2]) (rest := []) ⟨hx, hb, hml, hown, hts⟩ (c_tadd8 l hl D cy sa ka p2 (u3.2.2 0) H.size) ⟨va_cnB 1 hts gg_4 rfl rfl rfl (nM_K_77 hG.2.1) ini_RX8 (by decide +kernel) ⟨Nat.le_of_ble_eq_true rfl, Nat.le_of_ble_eq_true rfl⟩, im_X8_add, se_X8_add⟩ ⟨pcW.blind, (va_recv hG.1 hP (ci := 8) (q0 := 1) rfl rfl), (pcW.mk hP hD hS hA hG hT [1, 2] rfl (by decide))⟩ rfl rfl hlv.1 rfl (lv_room (Nat.le_of_ble_eq_true rfl)) dX11_feed_33 ⟨Nat.le_of_ble_eq_true rfl, Nat.le_of_ble_eq_true rfl⟩) hP hD hS hA [1, 2] [0] rfl rfl (by decide) (by decide) (fun u4 H locs hw4 hP hD hS => ?_)
  have hP : va_P D vwCl [(ko, .inr (11, [.ref (ka 0), .ref (ka 1), .ref (ka 2), .int 0, .int 0, .ref (ka 5), .ref (ka 6), .ref (ka 7), .ref (ka 8), .ref (ka 9), .int 0, .ref (ka 11), .ref (ka 12), .ref (ka 13)])), ((ka 0), .inr (8, [.ref (ka 20), .int 12, .int 0, .int 0, .int 0, .int 0, .int (-1)])), ((ka 20), .inl (cy 1, 600, .inl (u4.2.2 0)))] H := hP
  have hD : va_D A [(ko, .inr (11, [.ref (ka 0), .ref (ka 1), .ref (ka 2), .int 0, .int 0, .ref (ka 5), .ref (ka 6), .ref (ka 7), .ref (ka 8), .ref (ka 9), .int 0, .ref (ka 11), .ref (ka 12), .ref (ka 13)])), ((ka 0), .inr (8, [.ref (ka 20), .int 12, .int 0, .int 0, .int 0, .int 0, .int (-1)])), ((ka 20), .inl (cy 1, 600, .inl (u4.2.2 0)))] := hD
  refine lv_aload_n hx hb dX11_feed_36 rfl (lv_at hlv 0 rfl) ?_
  refine va_get (D := D) (ci := 11) (v := .ref (ka 0)) (C := RX11) (T := TX11) (N := 14) hx hb hts hi11 hown hG.1 hP 0 rfl rfl 0 (by decide) lf10 (fun _ h9 => h9) rfl dX11_feed_37 ?_
  refine lv_iload hx hb dX11_feed_40 (lv_at hlv 4 rfl) ?_
  refine cj_v (wr := [(ko, .inr (11, [.ref (ka 0), .ref (ka 1), .ref (ka 2), .int 0, .int 0, .ref (ka 5), .ref (ka 6), .ref (ka 7), .ref (ka 8), .ref (ka 9), .int 0, .ref (ka 11), .ref (ka 12), .ref (ka 13)]))]) (va_runVN (host := "KerbSplash") (As := [.int p3]) (rest := []) ⟨hx, hb, hml, hown, hts⟩ (c_tadd12 l hl D cy sa ka p3 (u4.2.2 0) H.size) ⟨va_cnB 1 hts gg_5 rfl rfl rfl (nM_K_77 hG.2.1) ini_RX8 (by decide +kernel) ⟨Nat.le_of_ble_eq_true rfl, Nat.le_of_ble_eq_true rfl⟩, im_X8_add, se_X8_add⟩ ⟨pcW.blind, (va_recv hG.1 hP (ci := 8) (q0 := 1) rfl rfl), (pcW.mk hP hD hS hA hG hT [1, 2] rfl (by decide))⟩ rfl rfl hlv.1 rfl (lv_room (Nat.le_of_ble_eq_true rfl)) dX11_feed_42 ⟨Nat.le_of_ble_eq_true rfl, Nat.le_of_ble_eq_true rfl⟩) hP hD hS hA [1, 2] [0] rfl rfl (by decide) (by decide) (fun u5 H locs hw5 hP hD hS => ?_)
  have hP : va_P D vwCl [(ko, .inr (11, [.ref (ka 0), .ref (ka 1), .ref (ka 2), .int 0, .int 0, .ref (ka 5), .ref (ka 6), .ref (ka 7), .ref (ka 8), .ref (ka 9), .int 0, .ref (ka 11), .ref (ka 12), .ref (ka 13)])), ((ka 0), .inr (8, [.ref (ka 20), .int 16, .int 0, .int 0, .int 0, .int 0, .int (-1)])), ((ka 20), .inl (cy 1, 600, .inl (u5.2.2 0)))] H := hP
  have hD : va_D A [(ko, .inr (11, [.ref (ka 0), .ref (ka 1), .ref (ka 2), .int 0, .int 0, .ref (ka 5), .ref (ka 6), .ref (ka 7), .ref (ka 8), .ref (ka 9), .int 0, .ref (ka 11), .ref (ka 12), .ref (ka 13)])), ((ka 0), .inr (8, [.ref (ka 20), .int 16, .int 0, .int 0, .int 0, .int 0, .int (-1)])), ((ka 20), .inl (cy 1, 600, .inl (u5.2.2 0)))] := hD
  refine lv_aload_n hx hb dX11_feed_45 rfl (lv_at hlv 0 rfl) ?_
  refine va_get (D := D) (ci := 11) (v := .ref (ka 0)) (C := RX11) (T := TX11) (N := 14) hx hb hts hi11 hown hG.1 hP 0 rfl rfl 0 (by decide) lf10 (fun _ h9 => h9) rfl dX11_feed_46 ?_
  refine lv_iload hx hb dX11_feed_49 (lv_at hlv 5 rfl) ?_
  refine cj_v (wr := [(ko, .inr (11, [.ref (ka 0), .ref (ka 1), .ref (ka 2), .int 0, .int 0, .ref (ka 5), .ref (ka 6), .ref (ka 7), .ref (ka 8), .ref (ka 9), .int 0, .ref (ka 11), .ref (ka 12), .ref (ka 13)]))]) (va_runVN (host := "KerbSplash") (As := [.int p4]) (rest := []) ⟨hx, hb, hml, hown, hts⟩ (c_tadd16 l hl D cy sa ka p4 (u5.2.2 0) H.size) ⟨va_cnB 1 hts gg_6 rfl rfl rfl (nM_K_77 hG.2.1) ini_RX8 (by decide +kernel) ⟨Nat.le_of_ble_eq_true rfl, Nat.le_of_ble_eq_true rfl⟩, im_X8_add, se_X8_add⟩ ⟨pcW.blind, (va_recv hG.1 hP (ci := 8) (q0 := 1) rfl rfl), (pcW.mk hP hD hS hA hG hT [1, 2] rfl (by decide))⟩ rfl rfl hlv.1 rfl (lv_room (Nat.le_of_ble_eq_true rfl)) dX11_feed_51 ⟨Nat.le_of_ble_eq_true rfl, Nat.le_of_ble_eq_true rfl⟩) hP hD hS hA [1, 2] [0] rfl rfl (by decide) (by decide) (fun u6 H locs hw6 hP hD hS => ?_)
  have hP : va_P D vwCl [(ko, .inr (11, [.ref (ka 0), .ref (ka 1), .ref (ka 2), .int 0, .int 0, .ref (ka 5), .ref (ka 6), .ref (ka 7), .ref (ka 8), .ref (ka 9), .int 0, .ref (ka 11), .ref (ka 12), .ref (ka 13)])), ((ka 0), .inr (8, [.ref (ka 20), .int 20, .int 0, .int 0, .int 0, .int 0, .int (-1)])), ((ka 20), .inl (cy 1, 600, .inl (u6.2.2 0)))] H := hP
  have hD : va_D A [(ko, .inr (11, [.ref (ka 0), .ref (ka 1), .ref (ka 2), .int 0, .int 0, .ref (ka 5), .ref (ka 6), .ref (ka 7), .ref (ka 8), .ref (ka 9), .int 0, .ref (ka 11), .ref (ka 12), .ref (ka 13)])), ((ka 0), .inr (8, [.ref (ka 20), .int 20, .int 0, .int 0, .int 0, .int 0, .int (-1)])), ((ka 20), .inl (cy 1, 600, .inl (u6.2.2 0)))] := hD
  refine lv_aload_n hx hb dX11_feed_54 rfl (lv_at hlv 0 rfl) ?_
  refine va_get (D := D) (ci := 11) (v := .ref (ka 0)) (C := RX11) (T := TX11) (N := 14) hx hb hts hi11 hown hG.1 hP 0 rfl rfl 0 (by decide) lf10 (fun _ h9 => h9) rfl dX11_feed_55 ?_
  refine va_getN (D := D) (ci := 8) (v := .int 20) (C := RX8) (T := TX8) (N := 7) hx hb hts hi8 hown hG.1 hP 1 rfl rfl 1 (by decide) (va_Nw.use rfl (nF_K_81 hG.2.1)) (fun _ h9 => h9) rfl dX11_feed_58 ?_
  refine W.widen (k := 0) (n := 0) (Nat.le_of_ble_eq_true rfl) (Nat.le_of_ble_eq_true rfl) ?_
  exact W.iret (v := 20) hx hb hr (fun t ht hW => ⟨⟨20, ((fun k => ([] : List Nat).getD k 0), (fun k => ([] : List Int32).getD k 0), (fun k => ([] : List (Nat → Int32)).getD k (fun _ => 0))), rfl, (by first | (exact (by rfl))), by rw [ht]; exact hP.sub [] rfl, hD.sub [] (by decide) rfl⟩, hS.F ht⟩) hS.2.2 dX11_feed_61
