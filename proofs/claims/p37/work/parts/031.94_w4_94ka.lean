section
theorem dL_dip_0 : decode cL_dip 0 = .ok (.aload 4, 2) := by decide +kernel
theorem dL_dip_10 : decode cL_dip 10 = .ok (.i2l, 1) := by decide +kernel
theorem dL_dip_11 : decode cL_dip 11 = .ok (.lastore, 1) := by decide +kernel
theorem dL_dip_12 : decode cL_dip 12 = .ok (.goto 7, 3) := by decide +kernel
theorem dL_dip_15 : decode cL_dip 15 = .ok (.astore 5, 2) := by decide +kernel
theorem dL_dip_17 : decode cL_dip 17 = .ok (.iconst 1, 1) := by decide +kernel
theorem dL_dip_18 : decode cL_dip 18 = .ok (.ireturn, 1) := by decide +kernel
theorem dL_dip_19 : decode cL_dip 19 = .ok (.iconst 0, 1) := by decide +kernel
theorem dL_dip_2 : decode cL_dip 2 = .ok (.iconst 0, 1) := by decide +kernel
theorem dL_dip_20 : decode cL_dip 20 = .ok (.ireturn, 1) := by decide +kernel
theorem dL_dip_3 : decode cL_dip 3 = .ok (.aload_n 0, 1) := by decide +kernel
theorem dL_dip_4 : decode cL_dip 4 = .ok (.iload_n 1, 1) := by decide +kernel
theorem dL_dip_5 : decode cL_dip 5 = .ok (.iload_n 2, 1) := by decide +kernel
theorem dL_dip_6 : decode cL_dip 6 = .ok (.iload_n 3, 1) := by decide +kernel
theorem dL_dip_7 : decode cL_dip 7 = .ok (.invokevirtual 105, 3) := by decide +kernel
theorem dL_ice_0 : decode cL_ice 0 = .ok (.aload_n 3, 1) := by decide +kernel
theorem dL_ice_1 : decode cL_ice 1 = .ok (.iconst 0, 1) := by decide +kernel
theorem dL_ice_10 : decode cL_ice 10 = .ok (.goto 7, 3) := by decide +kernel
theorem dL_ice_13 : decode cL_ice 13 = .ok (.astore 4, 2) := by decide +kernel
theorem dL_ice_15 : decode cL_ice 15 = .ok (.iconst 1, 1) := by decide +kernel
theorem dL_ice_16 : decode cL_ice 16 = .ok (.ireturn, 1) := by decide +kernel
theorem dL_ice_17 : decode cL_ice 17 = .ok (.iconst 0, 1) := by decide +kernel
theorem dL_ice_18 : decode cL_ice 18 = .ok (.ireturn, 1) := by decide +kernel
theorem dL_ice_2 : decode cL_ice 2 = .ok (.aload_n 0, 1) := by decide +kernel
theorem dL_ice_3 : decode cL_ice 3 = .ok (.iload_n 1, 1) := by decide +kernel
theorem dL_ice_4 : decode cL_ice 4 = .ok (.iload_n 2, 1) := by decide +kernel
theorem dL_ice_5 : decode cL_ice 5 = .ok (.invokevirtual 114, 3) := by decide +kernel
theorem dL_ice_8 : decode cL_ice 8 = .ok (.i2l, 1) := by decide +kernel
theorem dL_ice_9 : decode cL_ice 9 = .ok (.lastore, 1) := by decide +kernel
theorem dL_meant_0 : decode cL_meant 0 = .ok (.aload 8, 2) := by decide +kernel
theorem dL_meant_11 : decode cL_meant 11 = .ok (.iload 6, 2) := by decide +kernel
theorem dL_meant_13 : decode cL_meant 13 = .ok (.iload 7, 2) := by decide +kernel
theorem dL_meant_15 : decode cL_meant 15 = .ok (.invokevirtual 101, 3) := by decide +kernel
theorem dL_meant_18 : decode cL_meant 18 = .ok (.i2l, 1) := by decide +kernel
theorem dL_meant_19 : decode cL_meant 19 = .ok (.lastore, 1) := by decide +kernel
theorem dL_meant_2 : decode cL_meant 2 = .ok (.iconst 0, 1) := by decide +kernel
theorem dL_meant_20 : decode cL_meant 20 = .ok (.goto 19, 3) := by decide +kernel
theorem dL_meant_23 : decode cL_meant 23 = .ok (.astore 9, 2) := by decide +kernel
theorem dL_meant_25 : decode cL_meant 25 = .ok (.iconst 1, 1) := by decide +kernel
theorem dL_meant_26 : decode cL_meant 26 = .ok (.ireturn, 1) := by decide +kernel
theorem dL_meant_27 : decode cL_meant 27 = .ok (.astore 9, 2) := by decide +kernel
theorem dL_meant_29 : decode cL_meant 29 = .ok (.iconst 2, 1) := by decide +kernel
theorem dL_meant_3 : decode cL_meant 3 = .ok (.aload_n 0, 1) := by decide +kernel
theorem dL_meant_30 : decode cL_meant 30 = .ok (.ireturn, 1) := by decide +kernel
theorem dL_meant_31 : decode cL_meant 31 = .ok (.astore 9, 2) := by decide +kernel
theorem dL_meant_33 : decode cL_meant 33 = .ok (.iconst 3, 1) := by decide +kernel
theorem dL_meant_34 : decode cL_meant 34 = .ok (.ireturn, 1) := by decide +kernel
theorem dL_meant_35 : decode cL_meant 35 = .ok (.astore 9, 2) := by decide +kernel
theorem dL_meant_37 : decode cL_meant 37 = .ok (.iconst 4, 1) := by decide +kernel
theorem dL_meant_38 : decode cL_meant 38 = .ok (.ireturn, 1) := by decide +kernel
theorem dL_meant_39 : decode cL_meant 39 = .ok (.iconst 0, 1) := by decide +kernel
theorem dL_meant_4 : decode cL_meant 4 = .ok (.iload_n 1, 1) := by decide +kernel
theorem dL_meant_40 : decode cL_meant 40 = .ok (.ireturn, 1) := by decide +kernel
theorem dL_meant_5 : decode cL_meant 5 = .ok (.iload_n 2, 1) := by decide +kernel
theorem dL_meant_6 : decode cL_meant 6 = .ok (.iload_n 3, 1) := by decide +kernel
theorem dL_meant_7 : decode cL_meant 7 = .ok (.iload 4, 2) := by decide +kernel
theorem dL_meant_9 : decode cL_meant 9 = .ok (.iload 5, 2) := by decide +kernel
theorem dL_mend_0 : decode cL_mend 0 = .ok (.aload 6, 2) := by decide +kernel
theorem dL_mend_11 : decode cL_mend 11 = .ok (.invokevirtual 95, 3) := by decide +kernel
theorem dL_mend_14 : decode cL_mend 14 = .ok (.i2l, 1) := by decide +kernel
theorem dL_mend_15 : decode cL_mend 15 = .ok (.lastore, 1) := by decide +kernel
theorem dL_mend_16 : decode cL_mend 16 = .ok (.goto 19, 3) := by decide +kernel
theorem dL_mend_19 : decode cL_mend 19 = .ok (.astore 7, 2) := by decide +kernel
theorem dL_mend_2 : decode cL_mend 2 = .ok (.iconst 0, 1) := by decide +kernel
theorem dL_mend_21 : decode cL_mend 21 = .ok (.iconst 1, 1) := by decide +kernel
theorem dL_mend_22 : decode cL_mend 22 = .ok (.ireturn, 1) := by decide +kernel
theorem dL_mend_23 : decode cL_mend 23 = .ok (.astore 7, 2) := by decide +kernel
theorem dL_mend_25 : decode cL_mend 25 = .ok (.iconst 2, 1) := by decide +kernel
theorem dL_mend_26 : decode cL_mend 26 = .ok (.ireturn, 1) := by decide +kernel
theorem dL_mend_27 : decode cL_mend 27 = .ok (.astore 7, 2) := by decide +kernel
theorem dL_mend_29 : decode cL_mend 29 = .ok (.iconst 3, 1) := by decide +kernel
theorem dL_mend_3 : decode cL_mend 3 = .ok (.aload_n 0, 1) := by decide +kernel
theorem dL_mend_30 : decode cL_mend 30 = .ok (.ireturn, 1) := by decide +kernel
theorem dL_mend_31 : decode cL_mend 31 = .ok (.astore 7, 2) := by decide +kernel
theorem dL_mend_33 : decode cL_mend 33 = .ok (.iconst 4, 1) := by decide +kernel
theorem dL_mend_34 : decode cL_mend 34 = .ok (.ireturn, 1) := by decide +kernel
theorem dL_mend_35 : decode cL_mend 35 = .ok (.iconst 0, 1) := by decide +kernel
theorem dL_mend_36 : decode cL_mend 36 = .ok (.ireturn, 1) := by decide +kernel
theorem dL_mend_4 : decode cL_mend 4 = .ok (.iload_n 1, 1) := by decide +kernel
theorem dL_mend_5 : decode cL_mend 5 = .ok (.iload_n 2, 1) := by decide +kernel
theorem dL_mend_6 : decode cL_mend 6 = .ok (.iload_n 3, 1) := by decide +kernel
theorem dL_mend_7 : decode cL_mend 7 = .ok (.iload 4, 2) := by decide +kernel
theorem dL_mend_9 : decode cL_mend 9 = .ok (.iload 5, 2) := by decide +kernel
theorem dL_share_0 : decode cL_share 0 = .ok (.aload_n 3, 1) := by decide +kernel
theorem dL_share_1 : decode cL_share 1 = .ok (.iconst 0, 1) := by decide +kernel
theorem dL_share_10 : decode cL_share 10 = .ok (.goto 7, 3) := by decide +kernel
theorem dL_share_13 : decode cL_share 13 = .ok (.astore 4, 2) := by decide +kernel
theorem dL_share_15 : decode cL_share 15 = .ok (.iconst 1, 1) := by decide +kernel
theorem dL_share_16 : decode cL_share 16 = .ok (.ireturn, 1) := by decide +kernel
theorem dL_share_17 : decode cL_share 17 = .ok (.iconst 0, 1) := by decide +kernel
theorem dL_share_18 : decode cL_share 18 = .ok (.ireturn, 1) := by decide +kernel
theorem dL_share_2 : decode cL_share 2 = .ok (.aload_n 0, 1) := by decide +kernel
theorem dL_share_3 : decode cL_share 3 = .ok (.iload_n 1, 1) := by decide +kernel
theorem dL_share_4 : decode cL_share 4 = .ok (.iload_n 2, 1) := by decide +kernel
theorem dL_share_5 : decode cL_share 5 = .ok (.invokevirtual 98, 3) := by decide +kernel
theorem dL_share_8 : decode cL_share 8 = .ok (.i2l, 1) := by decide +kernel
theorem dL_share_9 : decode cL_share 9 = .ok (.lastore, 1) := by decide +kernel
theorem dL_sweep_0 : decode cL_sweep 0 = .ok (.aload_n 2, 1) := by decide +kernel
theorem dL_sweep_1 : decode cL_sweep 1 = .ok (.iconst 0, 1) := by decide +kernel
theorem dL_sweep_12 : decode cL_sweep 12 = .ok (.astore_n 3, 1) := by decide +kernel
theorem dL_sweep_13 : decode cL_sweep 13 = .ok (.iconst 1, 1) := by decide +kernel
theorem dL_sweep_14 : decode cL_sweep 14 = .ok (.ireturn, 1) := by decide +kernel
theorem dL_sweep_15 : decode cL_sweep 15 = .ok (.iconst 0, 1) := by decide +kernel
theorem dL_sweep_16 : decode cL_sweep 16 = .ok (.ireturn, 1) := by decide +kernel
theorem dL_sweep_2 : decode cL_sweep 2 = .ok (.aload_n 0, 1) := by decide +kernel
theorem dL_sweep_3 : decode cL_sweep 3 = .ok (.iload_n 1, 1) := by decide +kernel
theorem dL_sweep_4 : decode cL_sweep 4 = .ok (.invokevirtual 111, 3) := by decide +kernel
theorem dL_sweep_7 : decode cL_sweep 7 = .ok (.i2l, 1) := by decide +kernel
theorem dL_sweep_8 : decode cL_sweep 8 = .ok (.lastore, 1) := by decide +kernel
theorem dL_sweep_9 : decode cL_sweep 9 = .ok (.goto 6, 3) := by decide +kernel
theorem dL_town_0 : decode cL_town 0 = .ok (.aload_n 2, 1) := by decide +kernel
theorem dL_town_1 : decode cL_town 1 = .ok (.iconst 0, 1) := by decide +kernel
theorem dL_town_12 : decode cL_town 12 = .ok (.astore_n 3, 1) := by decide +kernel
theorem dL_town_13 : decode cL_town 13 = .ok (.iconst 1, 1) := by decide +kernel
theorem dL_town_14 : decode cL_town 14 = .ok (.ireturn, 1) := by decide +kernel
theorem dL_town_15 : decode cL_town 15 = .ok (.iconst 0, 1) := by decide +kernel
theorem dL_town_16 : decode cL_town 16 = .ok (.ireturn, 1) := by decide +kernel
theorem dL_town_2 : decode cL_town 2 = .ok (.aload_n 0, 1) := by decide +kernel
theorem dL_town_3 : decode cL_town 3 = .ok (.iload_n 1, 1) := by decide +kernel
theorem dL_town_4 : decode cL_town 4 = .ok (.invokevirtual 108, 3) := by decide +kernel
theorem dL_town_7 : decode cL_town 7 = .ok (.i2l, 1) := by decide +kernel
theorem dL_town_8 : decode cL_town 8 = .ok (.lastore, 1) := by decide +kernel
theorem dL_town_9 : decode cL_town 9 = .ok (.goto 6, 3) := by decide +kernel
def vs_w_mend : List Cond := .codeWith yL_mend cL_mend 8 (some .int) [(0, 16, 19, 28), (0, 16, 23, 34), (0, 16, 27, 13), (0, 16, 31, 51)] :: (([.classLink RL 28 "java/lang/IndexOutOfBoundsException", .classLink RL 34 "java/util/NoSuchElementException", .classLink RL 13 "java/lang/IllegalArgumentException", .classLink RL 51 "java/lang/IllegalStateException"] : List Cond) ++ ((wsV RL 95 RX11 yX11_mend vs_k_mend) ++ ([])))
set_option maxHeartbeats 4000000 in
set_option maxRecDepth 100000 in
theorem w_mend (l : Launch) (hl : l.stackTraces = false) (D : va_G) (cy : Nat → ClassId) (sa : Nat → Nat) (kk ta kr kl sA dA pa ki kp wa or_ rq : Nat) (nr nw im : Int) (qf : Nat → Int32) (krf : Nat → Option Nat) (ra rf : Nat) (rm : Int) (ff : Nat → Int32) (ca se : Nat) (fo wth : Int) (tA t2 t3 t6 t8 t11 t13 : Nat) (twi tro tdr tdt tpe tgu tsh two tdn tmi tfl ttk tgo : Int) (thf twf tdf tpf tsf tkf : Nat → Int32) (s2 s3 s6 s8 s11 s13 : Nat) (swi sro sdr sdt spe sgu ssh swo sdn smi sfl stk sgo : Int) (shf swf sdf spf ssf skf : Nat → Int32) (n x y k w_ : Int) (ao : Nat) (av : Int) (sz : Nat) (hr_nr : 0 ≤ nr ∧ nr ≤ 4) (hr_nw : 0 ≤ nw ∧ nw ≤ 4) (hr_im : 0 ≤ im ∧ im ≤ 3) (hr_fo : (-2147483648) ≤ fo ∧ fo ≤ 2147483647) (hr_wth : (-2147483648) ≤ wth ∧ wth ≤ 2147483647) (hr_twi : 0 ≤ twi ∧ twi ≤ 16) (hr_tro : 0 ≤ tro ∧ tro ≤ 6) (hr_tdr : 0 ≤ tdr ∧ tdr ≤ 14) (hr_tdt : 0 ≤ tdt ∧ tdt ≤ 6) (hr_tpe : 0 ≤ tpe ∧ tpe ≤ 8) (hr_tgu : 0 ≤ tgu ∧ tgu ≤ 20) (hr_tsh : 0 ≤ tsh ∧ tsh ≤ 2) (hr_two : 0 ≤ two ∧ two ≤ 8) (hr_tdn : (-2147483648) ≤ tdn ∧ tdn ≤ 2147483647) (hr_tmi : 0 ≤ tmi ∧ tmi ≤ 600) (hr_tfl : (-2147483648) ≤ tfl ∧ tfl ≤ 2147483647) (hr_ttk : (-2147483648) ≤ ttk ∧ ttk ≤ 2147483647) (hr_tgo : (-2147483648) ≤ tgo ∧ tgo ≤ 2147483647) (hr_swi : 0 ≤ swi ∧ swi ≤ 16) (hr_sro : 0 ≤ sro ∧ sro ≤ 6) (hr_sdr : 0 ≤ sdr ∧ sdr ≤ 14) (hr_sdt : 0 ≤ sdt ∧ sdt ≤ 6) (hr_spe : 0 ≤ spe ∧ spe ≤ 8) (hr_sgu : 0 ≤ sgu ∧ sgu ≤ 20) (hr_ssh : 0 ≤ ssh ∧ ssh ≤ 2) (hr_swo : 0 ≤ swo ∧ swo ≤ 8) (hr_sdn : (-2147483648) ≤ sdn ∧ sdn ≤ 2147483647) (hr_smi : 0 ≤ smi ∧ smi ≤ 600) (hr_sfl : (-2147483648) ≤ sfl ∧ sfl ≤ 2147483647) (hr_stk : (-2147483648) ≤ stk ∧ stk ≤ 2147483647) (hr_sgo : (-2147483648) ≤ sgo ∧ sgo ≤ 2147483647) (hr_rm : 0 ≤ rm ∧ rm ≤ 240) (hr_n : (-2147483648) ≤ n ∧ n ≤ 2147483647) (hr_x : (-2147483648) ≤ x ∧ x ≤ 2147483647) (hr_y : (-2147483648) ≤ y ∧ y ≤ 2147483647) (hr_k : (-2147483648) ≤ k ∧ k ≤ 2147483647) (hr_w_ : (-2147483648) ≤ w_ ∧ w_ ≤ 2147483647) (hr_av : (-2147483648) ≤ av ∧ av ≤ 2147483647) (hp0 : 0 ≤ n ∧ n < 4 → krf n.toNat = some ra) (hff : inv_ 240 0 20 ff) (hthf : inv_ 96 0 99 thf) (htdf : tab_ 4 14 [0, 0, 0, 0] [15, 5, 99, 16] tdf) (htpf : tab_ 4 28 [(-2147483648), 0, (-2147483648), (-2147483648)] [2147483647, 19, 2147483647, 2147483647] tpf) (htkf : tw_ tkf) (hshf : inv_ 96 0 99 shf) (hsdf : tab_ 4 14 [0, 0, 0, 0] [15, 5, 99, 16] sdf) (hspf : tab_ 4 28 [0, 0, (-2147483648), (-2147483648)] [15, 19, 2147483647, 2147483647] spf) (hskf : tw_ skf) : mI9 l yL_mend vs_w_mend ({ frames := 9, cells := 4, slots := 24, locals := 173 }) D cy sa sz [vR kk, vI n, vI x, vI y, vI k, vI w_, vR ao] [zO kk 11 [vR ta, vR kr, vR kl, vI nr, vI nw, vR sA, vR dA, vR pa, vR ki, vR kp, vI im, vR wa, vR or_, vR rq], zI rq (cy 0) 4 qf, zQ kr (cy 4) 4 krf, zO ra 5 [vR rf, vI rm], zI rf (cy 0) 240 ff, zO wa 9 [vR tA, vR ca, vR se, vI fo, vI wth], zO tA 6 [vI twi, vI tro, vR t2, vR t3, vI tdr, vI tdt, vR t6, vI tpe, vR t8, vI tgu, vI tsh, vR t11, vI two, vR t13, vI tdn, vI tmi, vI tfl, vI ttk, vI tgo], zI t2 (cy 0) 96 thf, zI t3 (cy 0) 96 twf, zI t6 (cy 0) 56 tdf, zI t8 (cy 0) 112 tpf, zI t11 (cy 0) 4 tsf, zI t13 (cy 0) 40 tkf, zO sA 6 [vI swi, vI sro, vR s2, vR s3, vI sdr, vI sdt, vR s6, vI spe, vR s8, vI sgu, vI ssh, vR s11, vI swo, vR s13, vI sdn, vI smi, vI sfl, vI stk, vI sgo], zI s2 (cy 0) 96 shf, zI s3 (cy 0) 96 swf, zI s6 (cy 0) 56 sdf, zI s8 (cy 0) 112 spf, zI s11 (cy 0) 4 ssf, zI s13 (cy 0) 40 skf, zL ao (cy 2) 1 (fun _ => (iI av).toInt64)] (fun (r : Int32) (u : SV) => r = iI (u.2.1 16) ∧ ((-2147483648) ≤ u.2.1 14 ∧ u.2.1 14 ≤ 2147483647) ∧ ((-2147483648) ≤ u.2.1 15 ∧ u.2.1 15 ≤ 2147483647) ∧ (0 ≤ u.2.1 1 ∧ u.2.1 1 ≤ 16) ∧ (0 ≤ u.2.1 2 ∧ u.2.1 2 ≤ 6) ∧ (0 ≤ u.2.1 3 ∧ u.2.1 3 ≤ 14) ∧ (0 ≤ u.2.1 4 ∧ u.2.1 4 ≤ 6) ∧ (0 ≤ u.2.1 5 ∧ u.2.1 5 ≤ 8) ∧ (0 ≤ u.2.1 6 ∧ u.2.1 6 ≤ 20) ∧ (0 ≤ u.2.1 7 ∧ u.2.1 7 ≤ 2) ∧ (0 ≤ u.2.1 8 ∧ u.2.1 8 ≤ 8) ∧ ((-2147483648) ≤ u.2.1 9 ∧ u.2.1 9 ≤ 2147483647) ∧ (0 ≤ u.2.1 10 ∧ u.2.1 10 ≤ 600) ∧ ((-2147483648) ≤ u.2.1 11 ∧ u.2.1 11 ≤ 2147483647) ∧ ((-2147483648) ≤ u.2.1 12 ∧ u.2.1 12 ≤ 2147483647) ∧ ((-2147483648) ≤ u.2.1 13 ∧ u.2.1 13 ≤ 2147483647) ∧ (0 ≤ u.2.1 16 ∧ u.2.1 16 ≤ 4) ∧ ((-2147483648) ≤ u.2.1 17 ∧ u.2.1 17 ≤ 2147483647) ∧ inv_ 240 0 20 ff ∧ inv_ 96 0 99 (u.2.2 0) ∧ tab_ 4 14 [0, 0, 0, 0] [15, 5, 99, 16] (u.2.2 2) ∧ tab_ 4 28 [(-2147483648), 0, (-2147483648), (-2147483648)] [2147483647, 19, 2147483647, 2147483647] (u.2.2 3) ∧ tw_ (u.2.2 5) ∧ inv_ 96 0 99 shf ∧ tab_ 4 14 [0, 0, 0, 0] [15, 5, 99, 16] sdf ∧ tab_ 4 28 [0, 0, (-2147483648), (-2147483648)] [15, 19, 2147483647, 2147483647] spf ∧ tw_ skf) (fun u : SV => [zO kk 11 [vR ta, vR kr, vR kl, vI nr, vI nw, vR sA, vR dA, vR pa, vR ki, vR kp, vI im, vR wa, vR or_, vR rq], zI rq (cy 0) 4 (u.2.2 6), zQ kr (cy 4) 4 krf, zO ra 5 [vR rf, vI rm], zI rf (cy 0) 240 ff, zO wa 9 [vR tA, vR ca, vR se, vI (u.2.1 14), vI (u.2.1 15)], zO tA 6 [vI (u.2.1 1), vI (u.2.1 2), vR t2, vR t3, vI (u.2.1 3), vI (u.2.1 4), vR t6, vI (u.2.1 5), vR t8, vI (u.2.1 6), vI (u.2.1 7), vR t11, vI (u.2.1 8), vR t13, vI (u.2.1 9), vI (u.2.1 10), vI (u.2.1 11), vI (u.2.1 12), vI (u.2.1 13)], zI t2 (cy 0) 96 (u.2.2 0), zI t3 (cy 0) 96 (u.2.2 1), zI t6 (cy 0) 56 (u.2.2 2), zI t8 (cy 0) 112 (u.2.2 3), zI t11 (cy 0) 4 (u.2.2 4), zI t13 (cy 0) 40 (u.2.2 5), zO sA 6 [vI swi, vI sro, vR s2, vR s3, vI sdr, vI sdt, vR s6, vI spe, vR s8, vI sgu, vI ssh, vR s11, vI swo, vR s13, vI sdn, vI smi, vI sfl, vI stk, vI sgo], zI s2 (cy 0) 96 shf, zI s3 (cy 0) 96 swf, zI s6 (cy 0) 56 sdf, zI s8 (cy 0) 112 spf, zI s11 (cy 0) 4 ssf, zI s13 (cy 0) 40 skf, zL ao (cy 2) 1 (fun _ => (iI (u.2.1 17)).toInt64)]) 4 24 := by
  refine va_MetW (cc := cL_mend) (maxL := 8) (ret := (some .int)) (by decide) rfl ?_
  intro p e s m args below meth c s₁ B hml hv
  obtain ⟨rfl, hsz, hP, hG, hD0, hT⟩ := hv
  have hx := B.exec
  have hb := B.bytes
  have hr := B.returns
  have hts := atoms_spec (ws := vs_w_mend) B.pre
  have hown : s.vm.findClass RL = some m.cls := findClass_of_methodNamed B.named
  have hlocks := B.notSynchronized
  subst hsz
  have hD := hD0.self (sz := s.heap.size)
  generalize hAe : va_A [zO kk 11 [vR ta, vR kr, vR kl, vI nr, vI nw, vR sA, vR dA, vR pa, vR ki, vR kp, vI im, vR wa, vR or_, vR rq], zI rq (cy 0) 4 qf, zQ kr (cy 4) 4 krf, zO ra 5 [vR rf, vI rm], zI rf (cy 0) 240 ff, zO wa 9 [vR tA, vR ca, vR se, vI fo, vI wth], zO tA 6 [vI twi, vI tro, vR t2, vR t3, vI tdr, vI tdt, vR t6, vI tpe, vR t8, vI tgu, vI tsh, vR t11, vI two, vR t13, vI tdn, vI tmi, vI tfl, vI ttk, vI tgo], zI t2 (cy 0) 96 thf, zI t3 (cy 0) 96 twf, zI t6 (cy 0) 56 tdf, zI t8 (cy 0) 112 tpf, zI t11 (cy 0) 4 tsf, zI t13 (cy 0) 40 tkf, zO sA 6 [vI swi, vI sro, vR s2, vR s3, vI sdr, vI sdt, vR s6, vI spe, vR s8, vI sgu, vI ssh, vR s11, vI swo, vR s13, vI sdn, vI smi, vI sfl, vI stk, vI sgo], zI s2 (cy 0) 96 shf, zI s3 (cy 0) 96 swf, zI s6 (cy 0) 56 sdf, zI s8 (cy 0) 112 spf, zI s11 (cy 0) 4 ssf, zI s13 (cy 0) 40 skf, zL ao (cy 2) 1 (fun _ => (iI av).toInt64)] s.heap.size = A at hD hT ⊢
  have hA : ∀ q : Nat, s.heap.size ≤ q → A q := fun q h => by rw [← hAe]; exact Or.inr h
  have hS : va_S A s.heap s.heap [] := va_S.rf
  have hl0 := lv_entry ([vR kk, vI n, vI x, vI y, vI k, vI w_, vR ao]) (n := 8) (Nat.le_of_ble_eq_true rfl)
  rw [lg_entry_eq]
  generalize (lg_sl ([vR kk, vI n, vI x, vI y, vI k, vI w_, vR ao]) ++ List.replicate (8 - (lg_sl ([vR kk, vI n, vI x, vI y, vI k, vI w_, vR ao])).length) Slot.unset).toArray = ls at hl0 ⊢
  have hlv : lv_has ls 8 [(0, vR kk), (1, vI n), (2, vI x), (3, vI y), (4, vI k), (5, vI w_), (6, vR ao)] := hl0
  have gg_0 : GoodIn vs_w_mend (wsV RL 95 RX11 yX11_mend vs_k_mend) := goodIn_sub (fun w h => List.mem_cons_of_mem _ (List.mem_append_right _ (List.mem_append_left _ h))) (gd_V gd_k_mend (by decide +kernel))
  have xc28 := hts (.classLink RL 28 "java/lang/IndexOutOfBoundsException") (List.mem_of_getElem? (i := 1) rfl)
  have xc34 := hts (.classLink RL 34 "java/util/NoSuchElementException") (List.mem_of_getElem? (i := 2) rfl)
  have xc13 := hts (.classLink RL 13 "java/lang/IllegalArgumentException") (List.mem_of_getElem? (i := 3) rfl)
  have xc51 := hts (.classLink RL 51 "java/lang/IllegalStateException") (List.mem_of_getElem? (i := 4) rfl)
  have htab : c.exceptionTable.toList = [(⟨0, 16, 19, 28⟩ : ExceptionTableEntry), (⟨0, 16, 23, 34⟩ : ExceptionTableEntry), (⟨0, 16, 27, 13⟩ : ExceptionTableEntry), (⟨0, 16, 31, 51⟩ : ExceptionTableEntry)] := vx_table (x := yL_mend) B (hts (.codeWith yL_mend cL_mend 8 (some .int) [(0, 16, 19, 28), (0, 16, 23, 34), (0, 16, 27, 13), (0, 16, 31, 51)]) List.mem_cons_self)
  refine lv_aload hx hb dL_mend_0 (lv_at hlv 6 rfl) ?_
  refine lv_iconst (v := iI 0) hx hb dL_mend_2 (by decide) ?_
  refine lv_aload_n hx hb dL_mend_3 rfl (lv_at hlv 0 rfl) ?_
  refine lv_iload_n hx hb dL_mend_4 rfl (lv_at hlv 1 rfl) ?_
  refine lv_iload_n hx hb dL_mend_5 rfl (lv_at hlv 2 rfl) ?_
  refine lv_iload_n hx hb dL_mend_6 rfl (lv_at hlv 3 rfl) ?_
  refine lv_iload hx hb dL_mend_7 (lv_at hlv 4 rfl) ?_
  refine lv_iload hx hb dL_mend_9 (lv_at hlv 5 rfl) ?_
  refine cjrx_i [false, false, false, false, false, false, false, false, false, false, false, false, false, false, false, false, false, false, false, false, true] (fun pre9 => (vx_runV (As := [vI n, vI x, vI y, vI k, vI w_]) (rest := [vI 0, vR ao]) ⟨hx, hb, hml, hown, hts⟩ (k_mend l hl D cy sa kk ta kr kl sA dA pa ki kp wa or_ rq nr nw im qf krf ra rf rm ff ca se fo wth tA t2 t3 t6 t8 t11 t13 twi tro tdr tdt tpe tgu tsh two tdn tmi tfl ttk tgo thf twf tdf tpf tsf tkf s2 s3 s6 s8 s11 s13 swi sro sdr sdt spe sgu ssh swo sdn smi sfl stk sgo shf swf sdf spf ssf skf n x y k w_ s.heap.size (by first | exact hr_nr | omega) (by first | exact hr_nw | omega) (by first | exact hr_im | omega) (by first | exact hr_fo | omega) (by first | exact hr_wth | omega) (by first | exact hr_twi | omega) (by first | exact hr_tro | omega) (by first | exact hr_tdr | omega) (by first | exact hr_tdt | omega) (by first | exact hr_tpe | omega) (by first | exact hr_tgu | omega) (by first | exact hr_tsh | omega) (by first | exact hr_two | omega) (by first | exact hr_tdn | omega) (by first | exact hr_tmi | omega) (by first | exact hr_tfl | omega) (by first | exact hr_ttk | omega) (by first | exact hr_tgo | omega) (by first | exact hr_swi | omega) (by first | exact hr_sro | omega) (by first | exact hr_sdr | omega) (by first | exact hr_sdt | omega) (by first | exact hr_spe | omega) (by first | exact hr_sgu | omega) (by first | exact hr_ssh | omega) (by first | exact hr_swo | omega) (by first | exact hr_sdn | omega) (by first | exact hr_smi | omega) (by first | exact hr_sfl | omega) (by first | exact hr_stk | omega) (by first | exact hr_sgo | omega) (by first | exact hr_rm | omega) (by first | exact hr_n | omega) (by first | exact hr_x | omega) (by first | exact hr_y | omega) (by first | exact hr_k | omega) (by first | exact hr_w_ | omega) hp0 hff hthf htdf htpf htkf hshf hsdf hspf hskf) (cwV 5 hts gg_0 rfl rfl rfl (by decide +kernel) ⟨Nat.le_of_ble_eq_true rfl, Nat.le_of_ble_eq_true rfl⟩) ⟨pcW.blind, (va_recv hG.1 hP (ci := 11) (q0 := 0) rfl rfl), pre9⟩ rfl rfl hlv.1 rfl (lv_room (Nat.le_of_ble_eq_true rfl)) dL_mend_11 ⟨Nat.le_of_ble_eq_true rfl, Nat.le_of_ble_eq_true rfl⟩)) hP hD hS hA hG hT [0, 1, 2, 3, 4, 5, 6, 7, 8, 9, 10, 11, 12, 13, 14, 15, 16, 17, 18, 19] rfl (by decide +kernel) (fun E ux1 ce q9 H locs hp hq9 hS h1 h2 h3 => ?_) (fun r1 u1 H locs hw1 hq9 hS => ?_)
  · obtain ⟨hP, hD⟩ := pd9 [zL ao (cy 2) 1 (fun _ => (iI av).toInt64), zO kk 11 [vR ta, vR kr, vR kl, vI nr, vI nw, vR sA, vR dA, vR pa, vR ki, vR kp, vI im, vR wa, vR or_, vR rq], zI rq (cy 0) 4 (ux1.2.2 0), zQ kr (cy 4) 4 krf, zO ra 5 [vR rf, vI rm], zI rf (cy 0) 240 ff, zO wa 9 [vR tA, vR ca, vR se, vI fo, vI wth], zO tA 6 [vI twi, vI tro, vR t2, vR t3, vI tdr, vI tdt, vR t6, vI tpe, vR t8, vI tgu, vI tsh, vR t11, vI two, vR t13, vI tdn, vI tmi, vI tfl, vI ttk, vI tgo], zI t2 (cy 0) 96 thf, zI t3 (cy 0) 96 twf, zI t6 (cy 0) 56 tdf, zI t8 (cy 0) 112 tpf, zI t11 (cy 0) 4 tsf, zI t13 (cy 0) 40 tkf, zO sA 6 [vI swi, vI sro, vR s2, vR s3, vI sdr, vI sdt, vR s6, vI spe, vR s8, vI sgu, vI ssh, vR s11, vI swo, vR s13, vI sdn, vI smi, vI sfl, vI stk, vI sgo], zI s2 (cy 0) 96 shf, zI s3 (cy 0) 96 swf, zI s6 (cy 0) 56 sdf, zI s8 (cy 0) 112 spf, zI s11 (cy 0) 4 ssf, zI s13 (cy 0) 40 skf] hq9
    rcases hp with rfl | rfl | rfl | rfl
    · refine vx_catch (name := "java/lang/IndexOutOfBoundsException") hown [] (⟨0, 16, 19, 28⟩ : ExceptionTableEntry) [(⟨0, 16, 23, 34⟩ : ExceptionTableEntry), (⟨0, 16, 27, 13⟩ : ExceptionTableEntry), (⟨0, 16, 31, 51⟩ : ExceptionTableEntry)] htab (fun z hz => absurd hz List.not_mem_nil) (by decide) (by decide) xc28 (va_Nw.use rfl (hG.2.2.2.1 _ (List.mem_of_getElem? (i := 0) rfl))) h1 h2 h3 ?_
      refine lv_astore (lv' := [(7, vR q9), (0, vR kk), (1, vI n), (2, vI x), (3, vI y), (4, vI k), (5, vI w_), (6, vR ao)]) hx hb dL_mend_19 hlv (by decide) rfl (fun ls hlv => ?_)
      refine lv_iconst (v := iI 1) hx hb dL_mend_21 (by decide) ?_
      refine W.widen (k := 4) (n := 24) (Nat.le_of_ble_eq_true rfl) (Nat.le_of_ble_eq_true rfl) ?_
      exact W.iret (v := iI 1) hx hb hr (fun t ht hW => ⟨⟨iI 1, ((fun k => ([] : List Nat).getD k 0), (fun k => ([0, twi, tro, tdr, tdt, tpe, tgu, tsh, two, tdn, tmi, tfl, ttk, tgo, fo, wth, 1, av] : List Int).getD k 0), (fun k => ([thf, twf, tdf, tpf, tsf, tkf, (ux1.2.2 0)] : List (Nat → Int32)).getD k (fun _ => 0))), rfl, ⟨rfl, (by show ((-2147483648) ≤ fo ∧ fo ≤ 2147483647); first | exact hr_fo | omega), (by show ((-2147483648) ≤ wth ∧ wth ≤ 2147483647); first | exact hr_wth | omega), (by show (0 ≤ twi ∧ twi ≤ 16); first | exact hr_twi | omega), (by show (0 ≤ tro ∧ tro ≤ 6); first | exact hr_tro | omega), (by show (0 ≤ tdr ∧ tdr ≤ 14); first | exact hr_tdr | omega), (by show (0 ≤ tdt ∧ tdt ≤ 6); first | exact hr_tdt | omega), (by show (0 ≤ tpe ∧ tpe ≤ 8); first | exact hr_tpe | omega), (by show (0 ≤ tgu ∧ tgu ≤ 20); first | exact hr_tgu | omega), (by show (0 ≤ tsh ∧ tsh ≤ 2); first | exact hr_tsh | omega), (by show (0 ≤ two ∧ two ≤ 8); first | exact hr_two | omega), (by show ((-2147483648) ≤ tdn ∧ tdn ≤ 2147483647); first | exact hr_tdn | omega), (by show (0 ≤ tmi ∧ tmi ≤ 600); first | exact hr_tmi | omega), (by show ((-2147483648) ≤ tfl ∧ tfl ≤ 2147483647); first | exact hr_tfl | omega), (by show ((-2147483648) ≤ ttk ∧ ttk ≤ 2147483647); first | exact hr_ttk | omega), (by show ((-2147483648) ≤ tgo ∧ tgo ≤ 2147483647); first | exact hr_tgo | omega), (by show (0 ≤ 1 ∧ 1 ≤ 4); show (0 : Int) ≤ 1 ∧ (1 : Int) ≤ 4; decide), (by show ((-2147483648) ≤ av ∧ av ≤ 2147483647); first | exact hr_av | omega), hff, hthf, htdf, htpf, htkf, hshf, hsdf, hspf, hskf⟩, at9 ht hP hD [1, 2, 3, 4, 5, 6, 7, 8, 9, 10, 11, 12, 13, 14, 15, 16, 17, 18, 19, 20, 0] (by decide +kernel) rfl⟩, hS.F ht⟩) hS.2.2 dL_mend_22
    · refine vx_catch (name := "java/util/NoSuchElementException") hown [(⟨0, 16, 19, 28⟩ : ExceptionTableEntry)] (⟨0, 16, 23, 34⟩ : ExceptionTableEntry) [(⟨0, 16, 27, 13⟩ : ExceptionTableEntry), (⟨0, 16, 31, 51⟩ : ExceptionTableEntry)] htab (List.forall_mem_cons.mpr ⟨Or.inr ⟨by decide, "java/lang/IndexOutOfBoundsException", xc28, hG.2.2.2.2.1 _ (List.mem_of_getElem? (i := 1) rfl) _ (List.mem_of_getElem? (i := 0) rfl) (by decide)⟩, fun z hz => absurd hz List.not_mem_nil⟩) (by decide) (by decide) xc34 (va_Nw.use rfl (hG.2.2.2.1 _ (List.mem_of_getElem? (i := 1) rfl))) h1 h2 h3 ?_
      refine lv_astore (lv' := [(7, vR q9), (0, vR kk), (1, vI n), (2, vI x), (3, vI y), (4, vI k), (5, vI w_), (6, vR ao)]) hx hb dL_mend_23 hlv (by decide) rfl (fun ls hlv => ?_)
      refine lv_iconst (v := iI 2) hx hb dL_mend_25 (by decide) ?_
      refine W.widen (k := 4) (n := 24) (Nat.le_of_ble_eq_true rfl) (Nat.le_of_ble_eq_true rfl) ?_
      exact W.iret (v := iI 2) hx hb hr (fun t ht hW => ⟨⟨iI 2, ((fun k => ([] : List Nat).getD k 0), (fun k => ([0, twi, tro, tdr, tdt, tpe, tgu, tsh, two, tdn, tmi, tfl, ttk, tgo, fo, wth, 2, av] : List Int).getD k 0), (fun k => ([thf, twf, tdf, tpf, tsf, tkf, (ux1.2.2 0)] : List (Nat → Int32)).getD k (fun _ => 0))), rfl, ⟨rfl, (by show ((-2147483648) ≤ fo ∧ fo ≤ 2147483647); first | exact hr_fo | omega), (by show ((-2147483648) ≤ wth ∧ wth ≤ 2147483647); first | exact hr_wth | omega), (by show (0 ≤ twi ∧ twi ≤ 16); first | exact hr_twi | omega), (by show (0 ≤ tro ∧ tro ≤ 6); first | exact hr_tro | omega), (by show (0 ≤ tdr ∧ tdr ≤ 14); first | exact hr_tdr | omega), (by show (0 ≤ tdt ∧ tdt ≤ 6); first | exact hr_tdt | omega), (by show (0 ≤ tpe ∧ tpe ≤ 8); first | exact hr_tpe | omega), (by show (0 ≤ tgu ∧ tgu ≤ 20); first | exact hr_tgu | omega), (by show (0 ≤ tsh ∧ tsh ≤ 2); first | exact hr_tsh | omega), (by show (0 ≤ two ∧ two ≤ 8); first | exact hr_two | omega), (by show ((-2147483648) ≤ tdn ∧ tdn ≤ 2147483647); first | exact hr_tdn | omega), (by show (0 ≤ tmi ∧ tmi ≤ 600); first | exact hr_tmi | omega), (by show ((-2147483648) ≤ tfl ∧ tfl ≤ 2147483647); first | exact hr_tfl | omega), (by show ((-2147483648) ≤ ttk ∧ ttk ≤ 2147483647); first | exact hr_ttk | omega), (by show ((-2147483648) ≤ tgo ∧ tgo ≤ 2147483647); first | exact hr_tgo | omega), (by show (0 ≤ 2 ∧ 2 ≤ 4); show (0 : Int) ≤ 2 ∧ (2 : Int) ≤ 4; decide), (by show ((-2147483648) ≤ av ∧ av ≤ 2147483647); first | exact hr_av | omega), hff, hthf, htdf, htpf, htkf, hshf, hsdf, hspf, hskf⟩, at9 ht hP hD [1, 2, 3, 4, 5, 6, 7, 8, 9, 10, 11, 12, 13, 14, 15, 16, 17, 18, 19, 20, 0] (by decide +kernel) rfl⟩, hS.F ht⟩) hS.2.2 dL_mend_26
    · refine vx_catch (name := "java/lang/IllegalArgumentException") hown [(⟨0, 16, 19, 28⟩ : ExceptionTableEntry), (⟨0, 16, 23, 34⟩ : ExceptionTableEntry)] (⟨0, 16, 27, 13⟩ : ExceptionTableEntry) [(⟨0, 16, 31, 51⟩ : ExceptionTableEntry)] htab (List.forall_mem_cons.mpr ⟨Or.inr ⟨by decide, "java/lang/IndexOutOfBoundsException", xc28, hG.2.2.2.2.1 _ (List.mem_of_getElem? (i := 2) rfl) _ (List.mem_of_getElem? (i := 0) rfl) (by decide)⟩, List.forall_mem_cons.mpr ⟨Or.inr ⟨by decide, "java/util/NoSuchElementException", xc34, hG.2.2.2.2.1 _ (List.mem_of_getElem? (i := 2) rfl) _ (List.mem_of_getElem? (i := 1) rfl) (by decide)⟩, fun z hz => absurd hz List.not_mem_nil⟩⟩) (by decide) (by decide) xc13 (va_Nw.use rfl (hG.2.2.2.1 _ (List.mem_of_getElem? (i := 2) rfl))) h1 h2 h3 ?_
      refine lv_astore (lv' := [(7, vR q9), (0, vR kk), (1, vI n), (2, vI x), (3, vI y), (4, vI k), (5, vI w_), (6, vR ao)]) hx hb dL_mend_27 hlv (by decide) rfl (fun ls hlv => ?_)
      refine lv_iconst (v := iI 3) hx hb dL_mend_29 (by decide) ?_
      refine W.widen (k := 4) (n := 24) (Nat.le_of_ble_eq_true rfl) (Nat.le_of_ble_eq_true rfl) ?_
      exact W.iret (v := iI 3) hx hb hr (fun t ht hW => ⟨⟨iI 3, ((fun k => ([] : List Nat).getD k 0), (fun k => ([0, twi, tro, tdr, tdt, tpe, tgu, tsh, two, tdn, tmi, tfl, ttk, tgo, fo, wth, 3, av] : List Int).getD k 0), (fun k => ([thf, twf, tdf, tpf, tsf, tkf, (ux1.2.2 0)] : List (Nat → Int32)).getD k (fun _ => 0))), rfl, ⟨rfl, (by show ((-2147483648) ≤ fo ∧ fo ≤ 2147483647); first | exact hr_fo | omega), (by show ((-2147483648) ≤ wth ∧ wth ≤ 2147483647); first | exact hr_wth | omega), (by show (0 ≤ twi ∧ twi ≤ 16); first | exact hr_twi | omega), (by show (0 ≤ tro ∧ tro ≤ 6); first | exact hr_tro | omega), (by show (0 ≤ tdr ∧ tdr ≤ 14); first | exact hr_tdr | omega), (by show (0 ≤ tdt ∧ tdt ≤ 6); first | exact hr_tdt | omega), (by show (0 ≤ tpe ∧ tpe ≤ 8); first | exact hr_tpe | omega), (by show (0 ≤ tgu ∧ tgu ≤ 20); first | exact hr_tgu | omega), (by show (0 ≤ tsh ∧ tsh ≤ 2); first | exact hr_tsh | omega), (by show (0 ≤ two ∧ two ≤ 8); first | exact hr_two | omega), (by show ((-2147483648) ≤ tdn ∧ tdn ≤ 2147483647); first | exact hr_tdn | omega), (by show (0 ≤ tmi ∧ tmi ≤ 600); first | exact hr_tmi | omega), (by show ((-2147483648) ≤ tfl ∧ tfl ≤ 2147483647); first | exact hr_tfl | omega), (by show ((-2147483648) ≤ ttk ∧ ttk ≤ 2147483647); first | exact hr_ttk | omega), (by show ((-2147483648) ≤ tgo ∧ tgo ≤ 2147483647); first | exact hr_tgo | omega), (by show (0 ≤ 3 ∧ 3 ≤ 4); show (0 : Int) ≤ 3 ∧ (3 : Int) ≤ 4; decide), (by show ((-2147483648) ≤ av ∧ av ≤ 2147483647); first | exact hr_av | omega), hff, hthf, htdf, htpf, htkf, hshf, hsdf, hspf, hskf⟩, at9 ht hP hD [1, 2, 3, 4, 5, 6, 7, 8, 9, 10, 11, 12, 13, 14, 15, 16, 17, 18, 19, 20, 0] (by decide +kernel) rfl⟩, hS.F ht⟩) hS.2.2 dL_mend_30
    · refine vx_catch (name := "java/lang/IllegalStateException") hown [(⟨0, 16, 19, 28⟩ : ExceptionTableEntry), (⟨0, 16, 23, 34⟩ : ExceptionTableEntry), (⟨0, 16, 27, 13⟩ : ExceptionTableEntry)] (⟨0, 16, 31, 51⟩ : ExceptionTableEntry) [] htab (List.forall_mem_cons.mpr ⟨Or.inr ⟨by decide, "java/lang/IndexOutOfBoundsException", xc28, hG.2.2.2.2.1 _ (List.mem_of_getElem? (i := 3) rfl) _ (List.mem_of_getElem? (i := 0) rfl) (by decide)⟩, List.forall_mem_cons.mpr ⟨Or.inr ⟨by decide, "java/util/NoSuchElementException", xc34, hG.2.2.2.2.1 _ (List.mem_of_getElem? (i := 3) rfl) _ (List.mem_of_getElem? (i := 1) rfl) (by decide)⟩, List.forall_mem_cons.mpr ⟨Or.inr ⟨by decide, "java/lang/IllegalArgumentException", xc13, hG.2.2.2.2.1 _ (List.mem_of_getElem? (i := 3) rfl) _ (List.mem_of_getElem? (i := 2) rfl) (by decide)⟩, fun z hz => absurd hz List.not_mem_nil⟩⟩⟩) (by decide) (by decide) xc51 (va_Nw.use rfl (hG.2.2.2.1 _ (List.mem_of_getElem? (i := 3) rfl))) h1 h2 h3 ?_
      refine lv_astore (lv' := [(7, vR q9), (0, vR kk), (1, vI n), (2, vI x), (3, vI y), (4, vI k), (5, vI w_), (6, vR ao)]) hx hb dL_mend_31 hlv (by decide) rfl (fun ls hlv => ?_)
      refine lv_iconst (v := iI 4) hx hb dL_mend_33 (by decide) ?_
      refine W.widen (k := 4) (n := 24) (Nat.le_of_ble_eq_true rfl) (Nat.le_of_ble_eq_true rfl) ?_
      exact W.iret (v := iI 4) hx hb hr (fun t ht hW => ⟨⟨iI 4, ((fun k => ([] : List Nat).getD k 0), (fun k => ([0, twi, tro, tdr, tdt, tpe, tgu, tsh, two, tdn, tmi, tfl, ttk, tgo, fo, wth, 4, av] : List Int).getD k 0), (fun k => ([thf, twf, tdf, tpf, tsf, tkf, (ux1.2.2 0)] : List (Nat → Int32)).getD k (fun _ => 0))), rfl, ⟨rfl, (by show ((-2147483648) ≤ fo ∧ fo ≤ 2147483647); first | exact hr_fo | omega), (by show ((-2147483648) ≤ wth ∧ wth ≤ 2147483647); first | exact hr_wth | omega), (by show (0 ≤ twi ∧ twi ≤ 16); first | exact hr_twi | omega), (by show (0 ≤ tro ∧ tro ≤ 6); first | exact hr_tro | omega), (by show (0 ≤ tdr ∧ tdr ≤ 14); first | exact hr_tdr | omega), (by show (0 ≤ tdt ∧ tdt ≤ 6); first | exact hr_tdt | omega), (by show (0 ≤ tpe ∧ tpe ≤ 8); first | exact hr_tpe | omega), (by show (0 ≤ tgu ∧ tgu ≤ 20); first | exact hr_tgu | omega), (by show (0 ≤ tsh ∧ tsh ≤ 2); first | exact hr_tsh | omega), (by show (0 ≤ two ∧ two ≤ 8); first | exact hr_two | omega), (by show ((-2147483648) ≤ tdn ∧ tdn ≤ 2147483647); first | exact hr_tdn | omega), (by show (0 ≤ tmi ∧ tmi ≤ 600); first | exact hr_tmi | omega), (by show ((-2147483648) ≤ tfl ∧ tfl ≤ 2147483647); first | exact hr_tfl | omega), (by show ((-2147483648) ≤ ttk ∧ ttk ≤ 2147483647); first | exact hr_ttk | omega), (by show ((-2147483648) ≤ tgo ∧ tgo ≤ 2147483647); first | exact hr_tgo | omega), (by show (0 ≤ 4 ∧ 4 ≤ 4); show (0 : Int) ≤ 4 ∧ (4 : Int) ≤ 4; decide), (by show ((-2147483648) ≤ av ∧ av ≤ 2147483647); first | exact hr_av | omega), hff, hthf, htdf, htpf, htkf, hshf, hsdf, hspf, hskf⟩, at9 ht hP hD [1, 2, 3, 4, 5, 6, 7, 8, 9, 10, 11, 12, 13, 14, 15, 16, 17, 18, 19, 20, 0] (by decide +kernel) rfl⟩, hS.F ht⟩) hS.2.2 dL_mend_34
  obtain ⟨rfl, hq1_1, hq1_2, hq1_3, hq1_4, hq1_5, hq1_6, hq1_7, hq1_8, hq1_9, hq1_10, hq1_11, hq1_12, hq1_13, hq1_14, hq1_15, hq1_16, hq1_17, hq1_18, hq1_19, hq1_20, hq1_21, hq1_22, hq1_23, hq1_24, hq1_25⟩ := hw1
  obtain ⟨hP, hD⟩ := pd9 [zL ao (cy 2) 1 (fun _ => (iI av).toInt64), zO kk 11 [vR ta, vR kr, vR kl, vI nr, vI nw, vR sA, vR dA, vR pa, vR ki, vR kp, vI im, vR wa, vR or_, vR rq], zI rq (cy 0) 4 qf, zQ kr (cy 4) 4 krf, zO ra 5 [vR rf, vI rm], zI rf (cy 0) 240 ff, zO wa 9 [vR tA, vR ca, vR se, vI (u1.2.1 14), vI (u1.2.1 15)], zO tA 6 [vI (u1.2.1 1), vI (u1.2.1 2), vR t2, vR t3, vI (u1.2.1 3), vI (u1.2.1 4), vR t6, vI (u1.2.1 5), vR t8, vI (u1.2.1 6), vI (u1.2.1 7), vR t11, vI (u1.2.1 8), vR t13, vI (u1.2.1 9), vI (u1.2.1 10), vI (u1.2.1 11), vI (u1.2.1 12), vI (u1.2.1 13)], zI t2 (cy 0) 96 (u1.2.2 0), zI t3 (cy 0) 96 (u1.2.2 1), zI t6 (cy 0) 56 (u1.2.2 2), zI t8 (cy 0) 112 (u1.2.2 3), zI t11 (cy 0) 4 (u1.2.2 4), zI t13 (cy 0) 40 (u1.2.2 5), zO sA 6 [vI swi, vI sro, vR s2, vR s3, vI sdr, vI sdt, vR s6, vI spe, vR s8, vI sgu, vI ssh, vR s11, vI swo, vR s13, vI sdn, vI smi, vI sfl, vI stk, vI sgo], zI s2 (cy 0) 96 shf, zI s3 (cy 0) 96 swf, zI s6 (cy 0) 56 sdf, zI s8 (cy 0) 112 spf, zI s11 (cy 0) 4 ssf, zI s13 (cy 0) 40 skf] hq9
  refine lv_i2l (v := jJ (u1.2.1 0)) hx hb dL_mend_14 (jJ_i (by omega)) ?_
  refine va_last hx hb hG.1 hP hD hS 0 2 rfl rfl (iI_in (by omega) (by decide)) dL_mend_15 (fun H locs hP hD hS => ?_)
  obtain ⟨hP, hD⟩ := arl 0 (fun _ => (iI (u1.2.1 0)).toInt64) hP hD rfl (arl_2 (by omega))
  obtain ⟨hP, hD⟩ := pw9 [zL ao (cy 2) 1 (fun _ => (iI (u1.2.1 0)).toInt64), zO kk 11 [vR ta, vR kr, vR kl, vI nr, vI nw, vR sA, vR dA, vR pa, vR ki, vR kp, vI im, vR wa, vR or_, vR rq], zI rq (cy 0) 4 qf, zQ kr (cy 4) 4 krf, zO ra 5 [vR rf, vI rm], zI rf (cy 0) 240 ff, zO wa 9 [vR tA, vR ca, vR se, vI (u1.2.1 14), vI (u1.2.1 15)], zO tA 6 [vI (u1.2.1 1), vI (u1.2.1 2), vR t2, vR t3, vI (u1.2.1 3), vI (u1.2.1 4), vR t6, vI (u1.2.1 5), vR t8, vI (u1.2.1 6), vI (u1.2.1 7), vR t11, vI (u1.2.1 8), vR t13, vI (u1.2.1 9), vI (u1.2.1 10), vI (u1.2.1 11), vI (u1.2.1 12), vI (u1.2.1 13)], zI t2 (cy 0) 96 (u1.2.2 0), zI t3 (cy 0) 96 (u1.2.2 1), zI t6 (cy 0) 56 (u1.2.2 2), zI t8 (cy 0) 112 (u1.2.2 3), zI t11 (cy 0) 4 (u1.2.2 4), zI t13 (cy 0) 40 (u1.2.2 5), zO sA 6 [vI swi, vI sro, vR s2, vR s3, vI sdr, vI sdt, vR s6, vI spe, vR s8, vI sgu, vI ssh, vR s11, vI swo, vR s13, vI sdn, vI smi, vI sfl, vI stk, vI sgo], zI s2 (cy 0) 96 shf, zI s3 (cy 0) 96 swf, zI s6 (cy 0) 56 sdf, zI s8 (cy 0) 112 spf, zI s11 (cy 0) 4 ssf, zI s13 (cy 0) 40 skf] hP hD
  refine lv_goto (tgt := 35) hx hb dL_mend_16 (by decide) ?_
  refine lv_iconst (v := iI 0) hx hb dL_mend_35 (by decide) ?_
  refine W.widen (k := 4) (n := 24) (Nat.le_of_ble_eq_true rfl) (Nat.le_of_ble_eq_true rfl) ?_
  exact W.iret (v := iI 0) hx hb hr (fun t ht hW => ⟨⟨iI 0, ((fun k => ([] : List Nat).getD k 0), (fun k => ([0, (u1.2.1 1), (u1.2.1 2), (u1.2.1 3), (u1.2.1 4), (u1.2.1 5), (u1.2.1 6), (u1.2.1 7), (u1.2.1 8), (u1.2.1 9), (u1.2.1 10), (u1.2.1 11), (u1.2.1 12), (u1.2.1 13), (u1.2.1 14), (u1.2.1 15), 0, (u1.2.1 0)] : List Int).getD k 0), (fun k => ([(u1.2.2 0), (u1.2.2 1), (u1.2.2 2), (u1.2.2 3), (u1.2.2 4), (u1.2.2 5), qf] : List (Nat → Int32)).getD k (fun _ => 0))), rfl, ⟨rfl, (by show ((-2147483648) ≤ (u1.2.1 14) ∧ (u1.2.1 14) ≤ 2147483647); first | exact hq1_2 | omega), (by show ((-2147483648) ≤ (u1.2.1 15) ∧ (u1.2.1 15) ≤ 2147483647); first | exact hq1_3 | omega), (by show (0 ≤ (u1.2.1 1) ∧ (u1.2.1 1) ≤ 16); first | exact hq1_4 | omega), (by show (0 ≤ (u1.2.1 2) ∧ (u1.2.1 2) ≤ 6); first | exact hq1_5 | omega), (by show (0 ≤ (u1.2.1 3) ∧ (u1.2.1 3) ≤ 14); first | exact hq1_6 | omega), (by show (0 ≤ (u1.2.1 4) ∧ (u1.2.1 4) ≤ 6); first | exact hq1_7 | omega), (by show (0 ≤ (u1.2.1 5) ∧ (u1.2.1 5) ≤ 8); first | exact hq1_8 | omega), (by show (0 ≤ (u1.2.1 6) ∧ (u1.2.1 6) ≤ 20); first | exact hq1_9 | omega), (by show (0 ≤ (u1.2.1 7) ∧ (u1.2.1 7) ≤ 2); first | exact hq1_10 | omega), (by show (0 ≤ (u1.2.1 8) ∧ (u1.2.1 8) ≤ 8); first | exact hq1_11 | omega), (by show ((-2147483648) ≤ (u1.2.1 9) ∧ (u1.2.1 9) ≤ 2147483647); first | exact hq1_12 | omega), (by show (0 ≤ (u1.2.1 10) ∧ (u1.2.1 10) ≤ 600); first | exact hq1_13 | omega), (by show ((-2147483648) ≤ (u1.2.1 11) ∧ (u1.2.1 11) ≤ 2147483647); first | exact hq1_14 | omega), (by show ((-2147483648) ≤ (u1.2.1 12) ∧ (u1.2.1 12) ≤ 2147483647); first | exact hq1_15 | omega), (by show ((-2147483648) ≤ (u1.2.1 13) ∧ (u1.2.1 13) ≤ 2147483647); first | exact hq1_16 | omega), (by show (0 ≤ 0 ∧ 0 ≤ 4); show (0 : Int) ≤ 0 ∧ (0 : Int) ≤ 4; decide), (by show ((-2147483648) ≤ (u1.2.1 0) ∧ (u1.2.1 0) ≤ 2147483647); first | exact hq1_1 | omega), hq1_17, hq1_18, hq1_19, hq1_20, hq1_21, hq1_22, hq1_23, hq1_24, hq1_25⟩, at9 ht hP hD [1, 2, 3, 4, 5, 6, 7, 8, 9, 10, 11, 12, 13, 14, 15, 16, 17, 18, 19, 20, 0] (by decide +kernel) rfl⟩, hS.F ht⟩) hS.2.2 dL_mend_36
def vs_w_meant : List Cond := .codeWith yL_meant cL_meant 10 (some .int) [(0, 20, 23, 28), (0, 20, 27, 34), (0, 20, 31, 13), (0, 20, 35, 51)] :: (([.classLink RL 28 "java/lang/IndexOutOfBoundsException", .classLink RL 34 "java/util/NoSuchElementException", .classLink RL 13 "java/lang/IllegalArgumentException", .classLink RL 51 "java/lang/IllegalStateException"] : List Cond) ++ ((wsV RL 101 RX11 yX11_meant vs_k_meant) ++ ([])))
set_option maxHeartbeats 4000000 in
set_option maxRecDepth 100000 in
theorem w_meant (l : Launch) (hl : l.stackTraces = false) (D : va_G) (cy : Nat → ClassId) (sa : Nat → Nat) (kk ta kr kl sA dA pa ki kp wa or_ rq : Nat) (nr nw im : Int) (qf : Nat → Int32) (klf : Nat → Option Nat) (la l0 l2 l3 : Nat) (size : Int) (st sf vf : Nat → Int32) (se : Nat) (fo wth : Int) (tA : Nat) (ca na : Nat) (crow cpace ctyre ckind crt cpt : Int) (nf : Nat → Int32) (s2 s3 s6 s8 s11 s13 : Nat) (wi ro dr dt pe gu sh wo dn mi fl tk go : Int) (wf pf : Nat → Int32) (pt pd ps : Nat) (cars dips : Int) (shf : Nat → Int32) (n x y p0 p1 p2 p3 : Int) (ao : Nat) (av : Int) (sz : Nat) (hr_nr : 0 ≤ nr ∧ nr ≤ 4) (hr_nw : 0 ≤ nw ∧ nw ≤ 4) (hr_im : 0 ≤ im ∧ im ≤ 3) (hr_size : 0 ≤ size ∧ size ≤ 600) (hr_fo : (-2147483648) ≤ fo ∧ fo ≤ 2147483647) (hr_wth : (-2147483648) ≤ wth ∧ wth ≤ 2147483647) (hr_crow : 0 ≤ crow ∧ crow ≤ 5) (hr_cpace : (-2147483648) ≤ cpace ∧ cpace ≤ 2147483647) (hr_ctyre : (-2147483648) ≤ ctyre ∧ ctyre ≤ 2147483647) (hr_ckind : (-2147483648) ≤ ckind ∧ ckind ≤ 2147483647) (hr_crt : 0 ≤ crt ∧ crt ≤ 5) (hr_cpt : (-2147483648) ≤ cpt ∧ cpt ≤ 2147483647) (hr_wi : 0 ≤ wi ∧ wi ≤ 16) (hr_ro : 0 ≤ ro ∧ ro ≤ 6) (hr_dr : 0 ≤ dr ∧ dr ≤ 14) (hr_dt : 0 ≤ dt ∧ dt ≤ 6) (hr_pe : 0 ≤ pe ∧ pe ≤ 8) (hr_gu : 0 ≤ gu ∧ gu ≤ 20) (hr_sh : 0 ≤ sh ∧ sh ≤ 2) (hr_wo : 0 ≤ wo ∧ wo ≤ 8) (hr_dn : (-2147483648) ≤ dn ∧ dn ≤ 2147483647) (hr_mi : 0 ≤ mi ∧ mi ≤ 600) (hr_fl : (-2147483648) ≤ fl ∧ fl ≤ 2147483647) (hr_tk : (-2147483648) ≤ tk ∧ tk ≤ 2147483647) (hr_go : (-2147483648) ≤ go ∧ go ≤ 2147483647) (hr_cars : 0 ≤ cars ∧ cars ≤ 20) (hr_dips : 0 ≤ dips ∧ dips ≤ 9) (hr_n : (-2147483648) ≤ n ∧ n ≤ 2147483647) (hr_x : (-2147483648) ≤ x ∧ x ≤ 2147483647) (hr_y : (-2147483648) ≤ y ∧ y ≤ 2147483647) (hr_p0 : (-2147483648) ≤ p0 ∧ p0 ≤ 2147483647) (hr_p1 : (-2147483648) ≤ p1 ∧ p1 ≤ 2147483647) (hr_p2 : (-2147483648) ≤ p2 ∧ p2 ≤ 2147483647) (hr_p3 : (-2147483648) ≤ p3 ∧ p3 ≤ 2147483647) (hr_av : (-2147483648) ≤ av ∧ av ≤ 2147483647) (hp0 : 0 ≤ n ∧ n < 4 → klf n.toNat = some la) (hst : inv_ 600 0 2147483647 st) (hpf : tab_ 4 28 [0, 0, (-2147483648), (-2147483648)] [15, 19, 2147483647, 2147483647] pf) : mI9 l yL_meant vs_w_meant ({ frames := 9, cells := 4, slots := 24, locals := 169 }) D cy sa sz [vR kk, vI n, vI x, vI y, vI p0, vI p1, vI p2, vI p3, vR ao] [zO kk 11 [vR ta, vR kr, vR kl, vI nr, vI nw, vR sA, vR dA, vR pa, vR ki, vR kp, vI im, vR wa, vR or_, vR rq], zI rq (cy 0) 4 qf, zQ kl (cy 5) 4 klf, zO la 1 [vR l0, vI size, vR l2, vR l3], zI l0 (cy 0) 600 st, zI l2 (cy 0) 5 sf, zI l3 (cy 0) 40 vf, zO wa 9 [vR tA, vR ca, vR se, vI fo, vI wth], zO ca 0 [vR na, vI crow, vI cpace, vI ctyre, vI ckind, vI crt, vI cpt], zI na (cy 0) 7 nf, zO sA 6 [vI wi, vI ro, vR s2, vR s3, vI dr, vI dt, vR s6, vI pe, vR s8, vI gu, vI sh, vR s11, vI wo, vR s13, vI dn, vI mi, vI fl, vI tk, vI go], zI s3 (cy 0) 96 wf, zI s8 (cy 0) 112 pf, zO pa 4 [vI cars, vR pt, vI dips, vR pd, vR ps], zI ps (cy 0) 4 shf, zL ao (cy 2) 1 (fun _ => (iI av).toInt64)] (fun (r : Int32) (u : SV) => r = iI (u.2.1 7) ∧ (0 ≤ u.2.1 1 ∧ u.2.1 1 ≤ 5) ∧ ((-2147483648) ≤ u.2.1 2 ∧ u.2.1 2 ≤ 2147483647) ∧ ((-2147483648) ≤ u.2.1 3 ∧ u.2.1 3 ≤ 2147483647) ∧ ((-2147483648) ≤ u.2.1 4 ∧ u.2.1 4 ≤ 2147483647) ∧ (0 ≤ u.2.1 5 ∧ u.2.1 5 ≤ 5) ∧ ((-2147483648) ≤ u.2.1 6 ∧ u.2.1 6 ≤ 2147483647) ∧ (0 ≤ u.2.1 7 ∧ u.2.1 7 ≤ 4) ∧ ((-2147483648) ≤ u.2.1 8 ∧ u.2.1 8 ≤ 2147483647) ∧ inv_ 600 0 2147483647 st ∧ tab_ 4 28 [0, 0, (-2147483648), (-2147483648)] [15, 19, 2147483647, 2147483647] pf) (fun u : SV => [zO kk 11 [vR ta, vR kr, vR kl, vI nr, vI nw, vR sA, vR dA, vR pa, vR ki, vR kp, vI im, vR wa, vR or_, vR rq], zI rq (cy 0) 4 (u.2.2 2), zQ kl (cy 5) 4 klf, zO la 1 [vR l0, vI size, vR l2, vR l3], zI l0 (cy 0) 600 st, zI l2 (cy 0) 5 sf, zI l3 (cy 0) 40 (u.2.2 0), zO wa 9 [vR tA, vR ca, vR se, vI fo, vI wth], zO ca 0 [vR na, vI (u.2.1 1), vI (u.2.1 2), vI (u.2.1 3), vI (u.2.1 4), vI (u.2.1 5), vI (u.2.1 6)], zI na (cy 0) 7 (u.2.2 1), zO sA 6 [vI wi, vI ro, vR s2, vR s3, vI dr, vI dt, vR s6, vI pe, vR s8, vI gu, vI sh, vR s11, vI wo, vR s13, vI dn, vI mi, vI fl, vI tk, vI go], zI s3 (cy 0) 96 wf, zI s8 (cy 0) 112 pf, zO pa 4 [vI cars, vR pt, vI dips, vR pd, vR ps], zI ps (cy 0) 4 shf, zL ao (cy 2) 1 (fun _ => (iI (u.2.1 8)).toInt64)]) 4 24 := by
  refine va_MetW (cc := cL_meant) (maxL := 10) (ret := (some .int)) (by decide) rfl ?_
  intro p e s m args below meth c s₁ B hml hv
  obtain ⟨rfl, hsz, hP, hG, hD0, hT⟩ := hv
  have hx := B.exec
  have hb := B.bytes
  have hr := B.returns
  have hts := atoms_spec (ws := vs_w_meant) B.pre
  have hown : s.vm.findClass RL = some m.cls := findClass_of_methodNamed B.named
  have hlocks := B.notSynchronized
  subst hsz
  have hD := hD0.self (sz := s.heap.size)
  generalize hAe : va_A [zO kk 11 [vR ta, vR kr, vR kl, vI nr, vI nw, vR sA, vR dA, vR pa, vR ki, vR kp, vI im, vR wa, vR or_, vR rq], zI rq (cy 0) 4 qf, zQ kl (cy 5) 4 klf, zO la 1 [vR l0, vI size, vR l2, vR l3], zI l0 (cy 0) 600 st, zI l2 (cy 0) 5 sf, zI l3 (cy 0) 40 vf, zO wa 9 [vR tA, vR ca, vR se, vI fo, vI wth], zO ca 0 [vR na, vI crow, vI cpace, vI ctyre, vI ckind, vI crt, vI cpt], zI na (cy 0) 7 nf, zO sA 6 [vI wi, vI ro, vR s2, vR s3, vI dr, vI dt, vR s6, vI pe, vR s8, vI gu, vI sh, vR s11, vI wo, vR s13, vI dn, vI mi, vI fl, vI tk, vI go], zI s3 (cy 0) 96 wf, zI s8 (cy 0) 112 pf, zO pa 4 [vI cars, vR pt, vI dips, vR pd, vR ps], zI ps (cy 0) 4 shf, zL ao (cy 2) 1 (fun _ => (iI av).toInt64)] s.heap.size = A at hD hT ⊢
  have hA : ∀ q : Nat, s.heap.size ≤ q → A q := fun q h => by rw [← hAe]; exact Or.inr h
  have hS : va_S A s.heap s.heap [] := va_S.rf
  have hl0 := lv_entry ([vR kk, vI n, vI x, vI y, vI p0, vI p1, vI p2, vI p3, vR ao]) (n := 10) (Nat.le_of_ble_eq_true rfl)
  rw [lg_entry_eq]
  generalize (lg_sl ([vR kk, vI n, vI x, vI y, vI p0, vI p1, vI p2, vI p3, vR ao]) ++ List.replicate (10 - (lg_sl ([vR kk, vI n, vI x, vI y, vI p0, vI p1, vI p2, vI p3, vR ao])).length) Slot.unset).toArray = ls at hl0 ⊢
  have hlv : lv_has ls 10 [(0, vR kk), (1, vI n), (2, vI x), (3, vI y), (4, vI p0), (5, vI p1), (6, vI p2), (7, vI p3), (8, vR ao)] := hl0
  have gg_0 : GoodIn vs_w_meant (wsV RL 101 RX11 yX11_meant vs_k_meant) := goodIn_sub (fun w h => List.mem_cons_of_mem _ (List.mem_append_right _ (List.mem_append_left _ h))) (gd_V gd_k_meant (by decide +kernel))
  have xc28 := hts (.classLink RL 28 "java/lang/IndexOutOfBoundsException") (List.mem_of_getElem? (i := 1) rfl)
  have xc34 := hts (.classLink RL 34 "java/util/NoSuchElementException") (List.mem_of_getElem? (i := 2) rfl)
  have xc13 := hts (.classLink RL 13 "java/lang/IllegalArgumentException") (List.mem_of_getElem? (i := 3) rfl)
  have xc51 := hts (.classLink RL 51 "java/lang/IllegalStateException") (List.mem_of_getElem? (i := 4) rfl)
  have htab : c.exceptionTable.toList = [(⟨0, 20, 23, 28⟩ : ExceptionTableEntry), (⟨0, 20, 27, 34⟩ : ExceptionTableEntry), (⟨0, 20, 31, 13⟩ : ExceptionTableEntry), (⟨0, 20, 35, 51⟩ : ExceptionTableEntry)] := vx_table (x := yL_meant) B (hts (.codeWith yL_meant cL_meant 10 (some .int) [(0, 20, 23, 28), (0, 20, 27, 34), (0, 20, 31, 13), (0, 20, 35, 51)]) List.mem_cons_self)
  refine lv_aload hx hb dL_meant_0 (lv_at hlv 8 rfl) ?_
  refine lv_iconst (v := iI 0) hx hb dL_meant_2 (by decide) ?_
  refine lv_aload_n hx hb dL_meant_3 rfl (lv_at hlv 0 rfl) ?_
  refine lv_iload_n hx hb dL_meant_4 rfl (lv_at hlv 1 rfl) ?_
  refine lv_iload_n hx hb dL_meant_5 rfl (lv_at hlv 2 rfl) ?_
  refine lv_iload_n hx hb dL_meant_6 rfl (lv_at hlv 3 rfl) ?_
  refine lv_iload hx hb dL_meant_7 (lv_at hlv 4 rfl) ?_
  refine lv_iload hx hb dL_meant_9 (lv_at hlv 5 rfl) ?_
  refine lv_iload hx hb dL_meant_11 (lv_at hlv 6 rfl) ?_
  refine lv_iload hx hb dL_meant_13 (lv_at hlv 7 rfl) ?_
  refine cjrx_i [false, false, false, false, false, false, false, false, false, false, false, false, false, false, false, true] (fun pre9 => (vx_runV (As := [vI n, vI x, vI y, vI p0, vI p1, vI p2, vI p3]) (rest := [vI 0, vR ao]) ⟨hx, hb, hml, hown, hts⟩ (k_meant l hl D cy sa kk ta kr kl sA dA pa ki kp wa or_ rq nr nw im qf klf la l0 l2 l3 size st sf vf se fo wth tA ca na crow cpace ctyre ckind crt cpt nf s2 s3 s6 s8 s11 s13 wi ro dr dt pe gu sh wo dn mi fl tk go wf pf pt pd ps cars dips shf n x y p0 p1 p2 p3 s.heap.size (by first | exact hr_nr | omega) (by first | exact hr_nw | omega) (by first | exact hr_im | omega) (by first | exact hr_size | omega) (by first | exact hr_fo | omega) (by first | exact hr_wth | omega) (by first | exact hr_crow | omega) (by first | exact hr_cpace | omega) (by first | exact hr_ctyre | omega) (by first | exact hr_ckind | omega) (by first | exact hr_crt | omega) (by first | exact hr_cpt | omega) (by first | exact hr_wi | omega) (by first | exact hr_ro | omega) (by first | exact hr_dr | omega) (by first | exact hr_dt | omega) (by first | exact hr_pe | omega) (by first | exact hr_gu | omega) (by first | exact hr_sh | omega) (by first | exact hr_wo | omega) (by first | exact hr_dn | omega) (by first | exact hr_mi | omega) (by first | exact hr_fl | omega) (by first | exact hr_tk | omega) (by first | exact hr_go | omega) (by first | exact hr_cars | omega) (by first | exact hr_dips | omega) (by first | exact hr_n | omega) (by first | exact hr_x | omega) (by first | exact hr_y | omega) (by first | exact hr_p0 | omega) (by first | exact hr_p1 | omega) (by first | exact hr_p2 | omega) (by first | exact hr_p3 | omega) hp0 hst hpf) (cwV 7 hts gg_0 rfl rfl rfl (by decide +kernel) ⟨Nat.le_of_ble_eq_true rfl, Nat.le_of_ble_eq_true rfl⟩) ⟨pcW.blind, (va_recv hG.1 hP (ci := 11) (q0 := 0) rfl rfl), pre9⟩ rfl rfl hlv.1 rfl (lv_room (Nat.le_of_ble_eq_true rfl)) dL_meant_15 ⟨Nat.le_of_ble_eq_true rfl, Nat.le_of_ble_eq_true rfl⟩)) hP hD hS hA hG hT [0, 1, 2, 3, 4, 5, 6, 7, 8, 9, 10, 11, 12, 13, 14] rfl (by decide +kernel) (fun E ux1 ce q9 H locs hp hq9 hS h1 h2 h3 => ?_) (fun r1 u1 H locs hw1 hq9 hS => ?_)
  · obtain ⟨hP, hD⟩ := pd9 [zL ao (cy 2) 1 (fun _ => (iI av).toInt64), zO kk 11 [vR ta, vR kr, vR kl, vI nr, vI nw, vR sA, vR dA, vR pa, vR ki, vR kp, vI im, vR wa, vR or_, vR rq], zI rq (cy 0) 4 (ux1.2.2 0), zQ kl (cy 5) 4 klf, zO la 1 [vR l0, vI size, vR l2, vR l3], zI l0 (cy 0) 600 st, zI l2 (cy 0) 5 sf, zI l3 (cy 0) 40 vf, zO wa 9 [vR tA, vR ca, vR se, vI fo, vI wth], zO ca 0 [vR na, vI crow, vI cpace, vI ctyre, vI ckind, vI crt, vI cpt], zI na (cy 0) 7 nf, zO sA 6 [vI wi, vI ro, vR s2, vR s3, vI dr, vI dt, vR s6, vI pe, vR s8, vI gu, vI sh, vR s11, vI wo, vR s13, vI dn, vI mi, vI fl, vI tk, vI go], zI s3 (cy 0) 96 wf, zI s8 (cy 0) 112 pf, zO pa 4 [vI cars, vR pt, vI dips, vR pd, vR ps], zI ps (cy 0) 4 shf] hq9
    rcases hp with rfl | rfl | rfl | rfl
    · refine vx_catch (name := "java/lang/IndexOutOfBoundsException") hown [] (⟨0, 20, 23, 28⟩ : ExceptionTableEntry) [(⟨0, 20, 27, 34⟩ : ExceptionTableEntry), (⟨0, 20, 31, 13⟩ : ExceptionTableEntry), (⟨0, 20, 35, 51⟩ : ExceptionTableEntry)] htab (fun z hz => absurd hz List.not_mem_nil) (by decide) (by decide) xc28 (va_Nw.use rfl (hG.2.2.2.1 _ (List.mem_of_getElem? (i := 0) rfl))) h1 h2 h3 ?_
      refine lv_astore (lv' := [(9, vR q9), (0, vR kk), (1, vI n), (2, vI x), (3, vI y), (4, vI p0), (5, vI p1), (6, vI p2), (7, vI p3), (8, vR ao)]) hx hb dL_meant_23 hlv (by decide) rfl (fun ls hlv => ?_)
      refine lv_iconst (v := iI 1) hx hb dL_meant_25 (by decide) ?_
      refine W.widen (k := 4) (n := 24) (Nat.le_of_ble_eq_true rfl) (Nat.le_of_ble_eq_true rfl) ?_
      exact W.iret (v := iI 1) hx hb hr (fun t ht hW => ⟨⟨iI 1, ((fun k => ([] : List Nat).getD k 0), (fun k => ([0, crow, cpace, ctyre, ckind, crt, cpt, 1, av] : List Int).getD k 0), (fun k => ([vf, nf, (ux1.2.2 0)] : List (Nat → Int32)).getD k (fun _ => 0))), rfl, ⟨rfl, (by show (0 ≤ crow ∧ crow ≤ 5); first | exact hr_crow | omega), (by show ((-2147483648) ≤ cpace ∧ cpace ≤ 2147483647); first | exact hr_cpace | omega), (by show ((-2147483648) ≤ ctyre ∧ ctyre ≤ 2147483647); first | exact hr_ctyre | omega), (by show ((-2147483648) ≤ ckind ∧ ckind ≤ 2147483647); first | exact hr_ckind | omega), (by show (0 ≤ crt ∧ crt ≤ 5); first | exact hr_crt | omega), (by show ((-2147483648) ≤ cpt ∧ cpt ≤ 2147483647); first | exact hr_cpt | omega), (by show (0 ≤ 1 ∧ 1 ≤ 4); show (0 : Int) ≤ 1 ∧ (1 : Int) ≤ 4; decide), (by show ((-2147483648) ≤ av ∧ av ≤ 2147483647); first | exact hr_av | omega), hst, hpf⟩, at9 ht hP hD [1, 2, 3, 4, 5, 6, 7, 8, 9, 10, 11, 12, 13, 14, 15, 0] (by decide +kernel) rfl⟩, hS.F ht⟩) hS.2.2 dL_meant_26
    · refine vx_catch (name := "java/util/NoSuchElementException") hown [(⟨0, 20, 23, 28⟩ : ExceptionTableEntry)] (⟨0, 20, 27, 34⟩ : ExceptionTableEntry) [(⟨0, 20, 31, 13⟩ : ExceptionTableEntry), (⟨0, 20, 35, 51⟩ : ExceptionTableEntry)] htab (List.forall_mem_cons.mpr ⟨Or.inr ⟨by decide, "java/lang/IndexOutOfBoundsException", xc28, hG.2.2.2.2.1 _ (List.mem_of_getElem? (i := 1) rfl) _ (List.mem_of_getElem? (i := 0) rfl) (by decide)⟩, fun z hz => absurd hz List.not_mem_nil⟩) (by decide) (by decide) xc34 (va_Nw.use rfl (hG.2.2.2.1 _ (List.mem_of_getElem? (i := 1) rfl))) h1 h2 h3 ?_
      refine lv_astore (lv' := [(9, vR q9), (0, vR kk), (1, vI n), (2, vI x), (3, vI y), (4, vI p0), (5, vI p1), (6, vI p2), (7, vI p3), (8, vR ao)]) hx hb dL_meant_27 hlv (by decide) rfl (fun ls hlv => ?_)
      refine lv_iconst (v := iI 2) hx hb dL_meant_29 (by decide) ?_
      refine W.widen (k := 4) (n := 24) (Nat.le_of_ble_eq_true rfl) (Nat.le_of_ble_eq_true rfl) ?_
      exact W.iret (v := iI 2) hx hb hr (fun t ht hW => ⟨⟨iI 2, ((fun k => ([] : List Nat).getD k 0), (fun k => ([0, crow, cpace, ctyre, ckind, crt, cpt, 2, av] : List Int).getD k 0), (fun k => ([vf, nf, (ux1.2.2 0)] : List (Nat → Int32)).getD k (fun _ => 0))), rfl, ⟨rfl, (by show (0 ≤ crow ∧ crow ≤ 5); first | exact hr_crow | omega), (by show ((-2147483648) ≤ cpace ∧ cpace ≤ 2147483647); first | exact hr_cpace | omega), (by show ((-2147483648) ≤ ctyre ∧ ctyre ≤ 2147483647); first | exact hr_ctyre | omega), (by show ((-2147483648) ≤ ckind ∧ ckind ≤ 2147483647); first | exact hr_ckind | omega), (by show (0 ≤ crt ∧ crt ≤ 5); first | exact hr_crt | omega), (by show ((-2147483648) ≤ cpt ∧ cpt ≤ 2147483647); first | exact hr_cpt | omega), (by show (0 ≤ 2 ∧ 2 ≤ 4); show (0 : Int) ≤ 2 ∧ (2 : Int) ≤ 4; decide), (by show ((-2147483648) ≤ av ∧ av ≤ 2147483647); first | exact hr_av | omega), hst, hpf⟩, at9 ht hP hD [1, 2, 3, 4, 5, 6, 7, 8, 9, 10, 11, 12, 13, 14, 15, 0] (by decide +kernel) rfl⟩, hS.F ht⟩) hS.2.2 dL_meant_30
    · refine vx_catch (name := "java/lang/IllegalArgumentException") hown [(⟨0, 20, 23, 28⟩ : ExceptionTableEntry), (⟨0, 20, 27, 34⟩ : ExceptionTableEntry)] (⟨0, 20, 31, 13⟩ : ExceptionTableEntry) [(⟨0, 20, 35, 51⟩ : ExceptionTableEntry)] htab (List.forall_mem_cons.mpr ⟨Or.inr ⟨by decide, "java/lang/IndexOutOfBoundsException", xc28, hG.2.2.2.2.1 _ (List.mem_of_getElem? (i := 2) rfl) _ (List.mem_of_getElem? (i := 0) rfl) (by decide)⟩, List.forall_mem_cons.mpr ⟨Or.inr ⟨by decide, "java/util/NoSuchElementException", xc34, hG.2.2.2.2.1 _ (List.mem_of_getElem? (i := 2) rfl) _ (List.mem_of_getElem? (i := 1) rfl) (by decide)⟩, fun z hz => absurd hz List.not_mem_nil⟩⟩) (by decide) (by decide) xc13 (va_Nw.use rfl (hG.2.2.2.1 _ (List.mem_of_getElem? (i := 2) rfl))) h1 h2 h3 ?_
      refine lv_astore (lv' := [(9, vR q9), (0, vR kk), (1, vI n), (2, vI x), (3, vI y), (4, vI p0), (5, vI p1), (6, vI p2), (7, vI p3), (8, vR ao)]) hx hb dL_meant_31 hlv (by decide) rfl (fun ls hlv => ?_)
      refine lv_iconst (v := iI 3) hx hb dL_meant_33 (by decide) ?_
      refine W.widen (k := 4) (n := 24) (Nat.le_of_ble_eq_true rfl) (Nat.le_of_ble_eq_true rfl) ?_
      exact W.iret (v := iI 3) hx hb hr (fun t ht hW => ⟨⟨iI 3, ((fun k => ([] : List Nat).getD k 0), (fun k => ([0, crow, cpace, ctyre, ckind, crt, cpt, 3, av] : List Int).getD k 0), (fun k => ([vf, nf, (ux1.2.2 0)] : List (Nat → Int32)).getD k (fun _ => 0))), rfl, ⟨rfl, (by show (0 ≤ crow ∧ crow ≤ 5); first | exact hr_crow | omega), (by show ((-2147483648) ≤ cpace ∧ cpace ≤ 2147483647); first | exact hr_cpace | omega), (by show ((-2147483648) ≤ ctyre ∧ ctyre ≤ 2147483647); first | exact hr_ctyre | omega), (by show ((-2147483648) ≤ ckind ∧ ckind ≤ 2147483647); first | exact hr_ckind | omega), (by show (0 ≤ crt ∧ crt ≤ 5); first | exact hr_crt | omega), (by show ((-2147483648) ≤ cpt ∧ cpt ≤ 2147483647); first | exact hr_cpt | omega), (by show (0 ≤ 3 ∧ 3 ≤ 4); show (0 : Int) ≤ 3 ∧ (3 : Int) ≤ 4; decide), (by show ((-2147483648) ≤ av ∧ av ≤ 2147483647); first | exact hr_av | omega), hst, hpf⟩, at9 ht hP hD [1, 2, 3, 4, 5, 6, 7, 8, 9, 10, 11, 12, 13, 14, 15, 0] (by decide +kernel) rfl⟩, hS.F ht⟩) hS.2.2 dL_meant_34
    · refine vx_catch (name := "java/lang/IllegalStateException") hown [(⟨0, 20, 23, 28⟩ : ExceptionTableEntry), (⟨0, 20, 27, 34⟩ : ExceptionTableEntry), (⟨0, 20, 31, 13⟩ : ExceptionTableEntry)] (⟨0, 20, 35, 51⟩ : ExceptionTableEntry) [] htab (List.forall_mem_cons.mpr ⟨Or.inr ⟨by decide, "java/lang/IndexOutOfBoundsException", xc28, hG.2.2.2.2.1 _ (List.mem_of_getElem? (i := 3) rfl) _ (List.mem_of_getElem? (i := 0) rfl) (by decide)⟩, List.forall_mem_cons.mpr ⟨Or.inr ⟨by decide, "java/util/NoSuchElementException", xc34, hG.2.2.2.2.1 _ (List.mem_of_getElem? (i := 3) rfl) _ (List.mem_of_getElem? (i := 1) rfl) (by decide)⟩, List.forall_mem_cons.mpr ⟨Or.inr ⟨by decide, "java/lang/IllegalArgumentException", xc13, hG.2.2.2.2.1 _ (List.mem_of_getElem? (i := 3) rfl) _ (List.mem_of_getElem? (i := 2) rfl) (by decide)⟩, fun z hz => absurd hz List.not_mem_nil⟩⟩⟩) (by decide) (by decide) xc51 (va_Nw.use rfl (hG.2.2.2.1 _ (List.mem_of_getElem? (i := 3) rfl))) h1 h2 h3 ?_
      refine lv_astore (lv' := [(9, vR q9), (0, vR kk), (1, vI n), (2, vI x), (3, vI y), (4, vI p0), (5, vI p1), (6, vI p2), (7, vI p3), (8, vR ao)]) hx hb dL_meant_35 hlv (by decide) rfl (fun ls hlv => ?_)
      refine lv_iconst (v := iI 4) hx hb dL_meant_37 (by decide) ?_
      refine W.widen (k := 4) (n := 24) (Nat.le_of_ble_eq_true rfl) (Nat.le_of_ble_eq_true rfl) ?_
      exact W.iret (v := iI 4) hx hb hr (fun t ht hW => ⟨⟨iI 4, ((fun k => ([] : List Nat).getD k 0), (fun k => ([0, crow, cpace, ctyre, ckind, crt, cpt, 4, av] : List Int).getD k 0), (fun k => ([vf, nf, (ux1.2.2 0)] : List (Nat → Int32)).getD k (fun _ => 0))), rfl, ⟨rfl, (by show (0 ≤ crow ∧ crow ≤ 5); first | exact hr_crow | omega), (by show ((-2147483648) ≤ cpace ∧ cpace ≤ 2147483647); first | exact hr_cpace | omega), (by show ((-2147483648) ≤ ctyre ∧ ctyre ≤ 2147483647); first | exact hr_ctyre | omega), (by show ((-2147483648) ≤ ckind ∧ ckind ≤ 2147483647); first | exact hr_ckind | omega), (by show (0 ≤ crt ∧ crt ≤ 5); first | exact hr_crt | omega), (by show ((-2147483648) ≤ cpt ∧ cpt ≤ 2147483647); first | exact hr_cpt | omega), (by show (0 ≤ 4 ∧ 4 ≤ 4); show (0 : Int) ≤ 4 ∧ (4 : Int) ≤ 4; decide), (by show ((-2147483648) ≤ av ∧ av ≤ 2147483647); first | exact hr_av | omega), hst, hpf⟩, at9 ht hP hD [1, 2, 3, 4, 5, 6, 7, 8, 9, 10, 11, 12, 13, 14, 15, 0] (by decide +kernel) rfl⟩, hS.F ht⟩) hS.2.2 dL_meant_38
  obtain ⟨rfl, hq1_1, hq1_2, hq1_3, hq1_4, hq1_5, hq1_6, hq1_7, hq1_8, hq1_9⟩ := hw1
  obtain ⟨hP, hD⟩ := pd9 [zL ao (cy 2) 1 (fun _ => (iI av).toInt64), zO kk 11 [vR ta, vR kr, vR kl, vI nr, vI nw, vR sA, vR dA, vR pa, vR ki, vR kp, vI im, vR wa, vR or_, vR rq], zI rq (cy 0) 4 qf, zQ kl (cy 5) 4 klf, zO la 1 [vR l0, vI size, vR l2, vR l3], zI l0 (cy 0) 600 st, zI l2 (cy 0) 5 sf, zI l3 (cy 0) 40 (u1.2.2 0), zO wa 9 [vR tA, vR ca, vR se, vI fo, vI wth], zO ca 0 [vR na, vI (u1.2.1 1), vI (u1.2.1 2), vI (u1.2.1 3), vI (u1.2.1 4), vI (u1.2.1 5), vI (u1.2.1 6)], zI na (cy 0) 7 (u1.2.2 1), zO sA 6 [vI wi, vI ro, vR s2, vR s3, vI dr, vI dt, vR s6, vI pe, vR s8, vI gu, vI sh, vR s11, vI wo, vR s13, vI dn, vI mi, vI fl, vI tk, vI go], zI s3 (cy 0) 96 wf, zI s8 (cy 0) 112 pf, zO pa 4 [vI cars, vR pt, vI dips, vR pd, vR ps], zI ps (cy 0) 4 shf] hq9
  refine lv_i2l (v := jJ (u1.2.1 0)) hx hb dL_meant_18 (jJ_i (by omega)) ?_
  refine va_last hx hb hG.1 hP hD hS 0 2 rfl rfl (iI_in (by omega) (by decide)) dL_meant_19 (fun H locs hP hD hS => ?_)
  obtain ⟨hP, hD⟩ := arl 0 (fun _ => (iI (u1.2.1 0)).toInt64) hP hD rfl (arl_2 (by omega))
  obtain ⟨hP, hD⟩ := pw9 [zL ao (cy 2) 1 (fun _ => (iI (u1.2.1 0)).toInt64), zO kk 11 [vR ta, vR kr, vR kl, vI nr, vI nw, vR sA, vR dA, vR pa, vR ki, vR kp, vI im, vR wa, vR or_, vR rq], zI rq (cy 0) 4 qf, zQ kl (cy 5) 4 klf, zO la 1 [vR l0, vI size, vR l2, vR l3], zI l0 (cy 0) 600 st, zI l2 (cy 0) 5 sf, zI l3 (cy 0) 40 (u1.2.2 0), zO wa 9 [vR tA, vR ca, vR se, vI fo, vI wth], zO ca 0 [vR na, vI (u1.2.1 1), vI (u1.2.1 2), vI (u1.2.1 3), vI (u1.2.1 4), vI (u1.2.1 5), vI (u1.2.1 6)], zI na (cy 0) 7 (u1.2.2 1), zO sA 6 [vI wi, vI ro, vR s2, vR s3, vI dr, vI dt, vR s6, vI pe, vR s8, vI gu, vI sh, vR s11, vI wo, vR s13, vI dn, vI mi, vI fl, vI tk, vI go], zI s3 (cy 0) 96 wf, zI s8 (cy 0) 112 pf, zO pa 4 [vI cars, vR pt, vI dips, vR pd, vR ps], zI ps (cy 0) 4 shf] hP hD
  refine lv_goto (tgt := 39) hx hb dL_meant_20 (by decide) ?_
  refine lv_iconst (v := iI 0) hx hb dL_meant_39 (by decide) ?_
  refine W.widen (k := 4) (n := 24) (Nat.le_of_ble_eq_true rfl) (Nat.le_of_ble_eq_true rfl) ?_
  exact W.iret (v := iI 0) hx hb hr (fun t ht hW => ⟨⟨iI 0, ((fun k => ([] : List Nat).getD k 0), (fun k => ([0, (u1.2.1 1), (u1.2.1 2), (u1.2.1 3), (u1.2.1 4), (u1.2.1 5), (u1.2.1 6), 0, (u1.2.1 0)] : List Int).getD k 0), (fun k => ([(u1.2.2 0), (u1.2.2 1), qf] : List (Nat → Int32)).getD k (fun _ => 0))), rfl, ⟨rfl, (by show (0 ≤ (u1.2.1 1) ∧ (u1.2.1 1) ≤ 5); first | exact hq1_2 | omega), (by show ((-2147483648) ≤ (u1.2.1 2) ∧ (u1.2.1 2) ≤ 2147483647); first | exact hq1_3 | omega), (by show ((-2147483648) ≤ (u1.2.1 3) ∧ (u1.2.1 3) ≤ 2147483647); first | exact hq1_4 | omega), (by show ((-2147483648) ≤ (u1.2.1 4) ∧ (u1.2.1 4) ≤ 2147483647); first | exact hq1_5 | omega), (by show (0 ≤ (u1.2.1 5) ∧ (u1.2.1 5) ≤ 5); first | exact hq1_6 | omega), (by show ((-2147483648) ≤ (u1.2.1 6) ∧ (u1.2.1 6) ≤ 2147483647); first | exact hq1_7 | omega), (by show (0 ≤ 0 ∧ 0 ≤ 4); show (0 : Int) ≤ 0 ∧ (0 : Int) ≤ 4; decide), (by show ((-2147483648) ≤ (u1.2.1 0) ∧ (u1.2.1 0) ≤ 2147483647); first | exact hq1_1 | omega), hq1_8, hq1_9⟩, at9 ht hP hD [1, 2, 3, 4, 5, 6, 7, 8, 9, 10, 11, 12, 13, 14, 15, 0] (by decide +kernel) rfl⟩, hS.F ht⟩) hS.2.2 dL_meant_40
def vs_w_town : List Cond := .codeWith yL_town cL_town 4 (some .int) [(0, 9, 12, 13)] :: (([.classLink RL 13 "java/lang/IllegalArgumentException"] : List Cond) ++ ((wsV RL 108 RX11 yX11_town vs_k_town) ++ ([])))
set_option maxHeartbeats 4000000 in
set_option maxRecDepth 100000 in
theorem w_town (l : Launch) (hl : l.stackTraces = false) (D : va_G) (cy : Nat → ClassId) (sa : Nat → Nat) (kk ta kr kl sA dA pa ki kp wa or_ rq : Nat) (nr nw im : Int) (qf : Nat → Int32) (pt pd ps : Nat) (cars dips : Int) (df : Nat → Int32) (be : Nat) (late lea ord : Int) (bf : Nat → Int32) (n : Int) (ao : Nat) (av : Int) (sz : Nat) (hr_nr : 0 ≤ nr ∧ nr ≤ 4) (hr_nw : 0 ≤ nw ∧ nw ≤ 4) (hr_im : 0 ≤ im ∧ im ≤ 3) (hr_cars : 0 ≤ cars ∧ cars ≤ 20) (hr_dips : 0 ≤ dips ∧ dips ≤ 9) (hr_late : (-2147483648) ≤ late ∧ late ≤ 2147483647) (hr_lea : (-2147483648) ≤ lea ∧ lea ≤ 2147483647) (hr_ord : (-2147483648) ≤ ord ∧ ord ≤ 2147483647) (hr_n : (-2147483648) ≤ n ∧ n ≤ 2147483647) (hr_av : (-2147483648) ≤ av ∧ av ≤ 2147483647) : mI9 l yL_town vs_w_town ({ frames := 8, cells := 1, slots := 6, locals := 142 }) D cy sa sz [vR kk, vI n, vR ao] [zO kk 11 [vR ta, vR kr, vR kl, vI nr, vI nw, vR sA, vR dA, vR pa, vR ki, vR kp, vI im, vR wa, vR or_, vR rq], zI rq (cy 0) 4 qf, zO pa 4 [vI cars, vR pt, vI dips, vR pd, vR ps], zI pd (cy 0) 27 df, zO or_ 3 [vI late, vI lea, vI ord, vR be], zI be (cy 0) 512 bf, zL ao (cy 2) 1 (fun _ => (iI av).toInt64)] (fun (r : Int32) (u : SV) => r = iI (u.2.1 4) ∧ ((-2147483648) ≤ u.2.1 1 ∧ u.2.1 1 ≤ 2147483647) ∧ ((-2147483648) ≤ u.2.1 2 ∧ u.2.1 2 ≤ 2147483647) ∧ ((-2147483648) ≤ u.2.1 3 ∧ u.2.1 3 ≤ 2147483647) ∧ (0 ≤ u.2.1 4 ∧ u.2.1 4 ≤ 1) ∧ ((-2147483648) ≤ u.2.1 5 ∧ u.2.1 5 ≤ 2147483647)) (fun u : SV => [zO kk 11 [vR ta, vR kr, vR kl, vI nr, vI nw, vR sA, vR dA, vR pa, vR ki, vR kp, vI im, vR wa, vR or_, vR rq], zI rq (cy 0) 4 (u.2.2 1), zO pa 4 [vI cars, vR pt, vI dips, vR pd, vR ps], zI pd (cy 0) 27 df, zO or_ 3 [vI (u.2.1 1), vI (u.2.1 2), vI (u.2.1 3), vR be], zI be (cy 0) 512 (u.2.2 0), zL ao (cy 2) 1 (fun _ => (iI (u.2.1 5)).toInt64)]) 1 6 := by
  refine va_MetW (cc := cL_town) (maxL := 4) (ret := (some .int)) (by decide) rfl ?_
  intro p e s m args below meth c s₁ B hml hv
  obtain ⟨rfl, hsz, hP, hG, hD0, hT⟩ := hv
  have hx := B.exec
  have hb := B.bytes
  have hr := B.returns
  have hts := atoms_spec (ws := vs_w_town) B.pre
  have hown : s.vm.findClass RL = some m.cls := findClass_of_methodNamed B.named
  have hlocks := B.notSynchronized
  subst hsz
  have hD := hD0.self (sz := s.heap.size)
  generalize hAe : va_A [zO kk 11 [vR ta, vR kr, vR kl, vI nr, vI nw, vR sA, vR dA, vR pa, vR ki, vR kp, vI im, vR wa, vR or_, vR rq], zI rq (cy 0) 4 qf, zO pa 4 [vI cars, vR pt, vI dips, vR pd, vR ps], zI pd (cy 0) 27 df, zO or_ 3 [vI late, vI lea, vI ord, vR be], zI be (cy 0) 512 bf, zL ao (cy 2) 1 (fun _ => (iI av).toInt64)] s.heap.size = A at hD hT ⊢
  have hA : ∀ q : Nat, s.heap.size ≤ q → A q := fun q h => by rw [← hAe]; exact Or.inr h
  have hS : va_S A s.heap s.heap [] := va_S.rf
  have hl0 := lv_entry ([vR kk, vI n, vR ao]) (n := 4) (Nat.le_of_ble_eq_true rfl)
  rw [lg_entry_eq]
  generalize (lg_sl ([vR kk, vI n, vR ao]) ++ List.replicate (4 - (lg_sl ([vR kk, vI n, vR ao])).length) Slot.unset).toArray = ls at hl0 ⊢
  have hlv : lv_has ls 4 [(0, vR kk), (1, vI n), (2, vR ao)] := hl0
  have gg_0 : GoodIn vs_w_town (wsV RL 108 RX11 yX11_town vs_k_town) := goodIn_sub (fun w h => List.mem_cons_of_mem _ (List.mem_append_right _ (List.mem_append_left _ h))) (gd_V gd_k_town (by decide +kernel))
  have xc13 := hts (.classLink RL 13 "java/lang/IllegalArgumentException") (List.mem_of_getElem? (i := 1) rfl)
  have htab : c.exceptionTable.toList = [(⟨0, 9, 12, 13⟩ : ExceptionTableEntry)] := vx_table (x := yL_town) B (hts (.codeWith yL_town cL_town 4 (some .int) [(0, 9, 12, 13)]) List.mem_cons_self)
  refine lv_aload_n hx hb dL_town_0 rfl (lv_at hlv 2 rfl) ?_
  refine lv_iconst (v := iI 0) hx hb dL_town_1 (by decide) ?_
  refine lv_aload_n hx hb dL_town_2 rfl (lv_at hlv 0 rfl) ?_
  refine lv_iload_n hx hb dL_town_3 rfl (lv_at hlv 1 rfl) ?_
  refine cjrx_i [false, false, false, false, false, false, true] (fun pre9 => (vx_runV (As := [vI n]) (rest := [vI 0, vR ao]) ⟨hx, hb, hml, hown, hts⟩ (k_town l hl D cy sa kk ta kr kl sA dA pa ki kp wa or_ rq nr nw im qf pt pd ps cars dips df be late lea ord bf n s.heap.size (by first | exact hr_nr | omega) (by first | exact hr_nw | omega) (by first | exact hr_im | omega) (by first | exact hr_cars | omega) (by first | exact hr_dips | omega) (by first | exact hr_late | omega) (by first | exact hr_lea | omega) (by first | exact hr_ord | omega) (by first | exact hr_n | omega)) (cwV 1 hts gg_0 rfl rfl rfl (by decide +kernel) ⟨Nat.le_of_ble_eq_true rfl, Nat.le_of_ble_eq_true rfl⟩) ⟨pcW.blind, (va_recv hG.1 hP (ci := 11) (q0 := 0) rfl rfl), pre9⟩ rfl rfl hlv.1 rfl (lv_room (Nat.le_of_ble_eq_true rfl)) dL_town_4 ⟨Nat.le_of_ble_eq_true rfl, Nat.le_of_ble_eq_true rfl⟩)) hP hD hS hA hG hT [0, 1, 2, 3, 4, 5] rfl (by decide +kernel) (fun E ux1 ce q9 H locs hp hq9 hS h1 h2 h3 => ?_) (fun r1 u1 H locs hw1 hq9 hS => ?_)
  · obtain ⟨hP, hD⟩ := pd9 [zL ao (cy 2) 1 (fun _ => (iI av).toInt64), zO kk 11 [vR ta, vR kr, vR kl, vI nr, vI nw, vR sA, vR dA, vR pa, vR ki, vR kp, vI im, vR wa, vR or_, vR rq], zI rq (cy 0) 4 (ux1.2.2 0), zO pa 4 [vI cars, vR pt, vI dips, vR pd, vR ps], zI pd (cy 0) 27 df, zO or_ 3 [vI late, vI lea, vI ord, vR be], zI be (cy 0) 512 bf] hq9
    obtain rfl := hp
    refine vx_catch (name := "java/lang/IllegalArgumentException") hown [] (⟨0, 9, 12, 13⟩ : ExceptionTableEntry) [] htab (fun z hz => absurd hz List.not_mem_nil) (by decide) (by decide) xc13 (va_Nw.use rfl (hG.2.2.2.1 _ (List.mem_of_getElem? (i := 2) rfl))) h1 h2 h3 ?_
    refine lv_astore_n (lv' := [(3, vR q9), (0, vR kk), (1, vI n), (2, vR ao)]) hx hb dL_town_12 rfl hlv (by decide) rfl (fun ls hlv => ?_)
    refine lv_iconst (v := iI 1) hx hb dL_town_13 (by decide) ?_
    refine W.widen (k := 1) (n := 6) (Nat.le_of_ble_eq_true rfl) (Nat.le_of_ble_eq_true rfl) ?_
    exact W.iret (v := iI 1) hx hb hr (fun t ht hW => ⟨⟨iI 1, ((fun k => ([] : List Nat).getD k 0), (fun k => ([0, late, lea, ord, 1, av] : List Int).getD k 0), (fun k => ([bf, (ux1.2.2 0)] : List (Nat → Int32)).getD k (fun _ => 0))), rfl, ⟨rfl, (by show ((-2147483648) ≤ late ∧ late ≤ 2147483647); first | exact hr_late | omega), (by show ((-2147483648) ≤ lea ∧ lea ≤ 2147483647); first | exact hr_lea | omega), (by show ((-2147483648) ≤ ord ∧ ord ≤ 2147483647); first | exact hr_ord | omega), (by show (0 ≤ 1 ∧ 1 ≤ 1); show (0 : Int) ≤ 1 ∧ (1 : Int) ≤ 1; decide), (by show ((-2147483648) ≤ av ∧ av ≤ 2147483647); first | exact hr_av | omega)⟩, at9 ht hP hD [1, 2, 3, 4, 5, 6, 0] (by decide +kernel) rfl⟩, hS.F ht⟩) hS.2.2 dL_town_14
  obtain ⟨rfl, hq1_1, hq1_2, hq1_3, hq1_4⟩ := hw1
  obtain ⟨hP, hD⟩ := pd9 [zL ao (cy 2) 1 (fun _ => (iI av).toInt64), zO kk 11 [vR ta, vR kr, vR kl, vI nr, vI nw, vR sA, vR dA, vR pa, vR ki, vR kp, vI im, vR wa, vR or_, vR rq], zI rq (cy 0) 4 qf, zO pa 4 [vI cars, vR pt, vI dips, vR pd, vR ps], zI pd (cy 0) 27 df, zO or_ 3 [vI (u1.2.1 1), vI (u1.2.1 2), vI (u1.2.1 3), vR be], zI be (cy 0) 512 (u1.2.2 0)] hq9
  refine lv_i2l (v := jJ (u1.2.1 0)) hx hb dL_town_7 (jJ_i (by omega)) ?_
  refine va_last hx hb hG.1 hP hD hS 0 2 rfl rfl (iI_in (by omega) (by decide)) dL_town_8 (fun H locs hP hD hS => ?_)
  obtain ⟨hP, hD⟩ := arl 0 (fun _ => (iI (u1.2.1 0)).toInt64) hP hD rfl (arl_2 (by omega))
  obtain ⟨hP, hD⟩ := pw9 [zL ao (cy 2) 1 (fun _ => (iI (u1.2.1 0)).toInt64), zO kk 11 [vR ta, vR kr, vR kl, vI nr, vI nw, vR sA, vR dA, vR pa, vR ki, vR kp, vI im, vR wa, vR or_, vR rq], zI rq (cy 0) 4 qf, zO pa 4 [vI cars, vR pt, vI dips, vR pd, vR ps], zI pd (cy 0) 27 df, zO or_ 3 [vI (u1.2.1 1), vI (u1.2.1 2), vI (u1.2.1 3), vR be], zI be (cy 0) 512 (u1.2.2 0)] hP hD
  refine lv_goto (tgt := 15) hx hb dL_town_9 (by decide) ?_
  refine lv_iconst (v := iI 0) hx hb dL_town_15 (by decide) ?_
  refine W.widen (k := 1) (n := 6) (Nat.le_of_ble_eq_true rfl) (Nat.le_of_ble_eq_true rfl) ?_
  exact W.iret (v := iI 0) hx hb hr (fun t ht hW => ⟨⟨iI 0, ((fun k => ([] : List Nat).getD k 0), (fun k => ([0, (u1.2.1 1), (u1.2.1 2), (u1.2.1 3), 0, (u1.2.1 0)] : List Int).getD k 0), (fun k => ([(u1.2.2 0), qf] : List (Nat → Int32)).getD k (fun _ => 0))), rfl, ⟨rfl, (by show ((-2147483648) ≤ (u1.2.1 1) ∧ (u1.2.1 1) ≤ 2147483647); first | exact hq1_2 | omega), (by show ((-2147483648) ≤ (u1.2.1 2) ∧ (u1.2.1 2) ≤ 2147483647); first | exact hq1_3 | omega), (by show ((-2147483648) ≤ (u1.2.1 3) ∧ (u1.2.1 3) ≤ 2147483647); first | exact hq1_4 | omega), (by show (0 ≤ 0 ∧ 0 ≤ 1); show (0 : Int) ≤ 0 ∧ (0 : Int) ≤ 1; decide), (by show ((-2147483648) ≤ (u1.2.1 0) ∧ (u1.2.1 0) ≤ 2147483647); first | exact hq1_1 | omega)⟩, at9 ht hP hD [1, 2, 3, 4, 5, 6, 0] (by decide +kernel) rfl⟩, hS.F ht⟩) hS.2.2 dL_town_16
def vs_w_sweep : List Cond := .codeWith yL_sweep cL_sweep 4 (some .int) [(0, 9, 12, 13)] :: (([.classLink RL 13 "java/lang/IllegalArgumentException"] : List Cond) ++ ((wsV RL 111 RX11 yX11_sweep vs_k_sweep) ++ ([])))
set_option maxHeartbeats 4000000 in
set_option maxRecDepth 100000 in
theorem w_sweep (l : Launch) (hl : l.stackTraces = false) (D : va_G) (cy : Nat → ClassId) (sa : Nat → Nat) (kk ta kr kl sA dA pa ki kp wa or_ rq : Nat) (nr nw im : Int) (qf : Nat → Int32) (s2 s3 s6 s8 s11 s13 : Nat) (wi ro dr dt pe gu sh wo dn mi fl tk go : Int) (df : Nat → Int32) (be : Nat) (late lea ord : Int) (n : Int) (ao : Nat) (av : Int) (sz : Nat) (hr_nr : 0 ≤ nr ∧ nr ≤ 4) (hr_nw : 0 ≤ nw ∧ nw ≤ 4) (hr_im : 0 ≤ im ∧ im ≤ 3) (hr_wi : 0 ≤ wi ∧ wi ≤ 16) (hr_ro : 0 ≤ ro ∧ ro ≤ 6) (hr_dr : 0 ≤ dr ∧ dr ≤ 14) (hr_dt : 0 ≤ dt ∧ dt ≤ 6) (hr_pe : 0 ≤ pe ∧ pe ≤ 8) (hr_gu : 0 ≤ gu ∧ gu ≤ 20) (hr_sh : 0 ≤ sh ∧ sh ≤ 2) (hr_wo : 0 ≤ wo ∧ wo ≤ 8) (hr_dn : (-2147483648) ≤ dn ∧ dn ≤ 2147483647) (hr_mi : 0 ≤ mi ∧ mi ≤ 600) (hr_fl : (-2147483648) ≤ fl ∧ fl ≤ 2147483647) (hr_tk : (-2147483648) ≤ tk ∧ tk ≤ 2147483647) (hr_go : (-2147483648) ≤ go ∧ go ≤ 2147483647) (hr_late : (-2147483648) ≤ late ∧ late ≤ 2147483647) (hr_lea : (-2147483648) ≤ lea ∧ lea ≤ 2147483647) (hr_ord : (-2147483648) ≤ ord ∧ ord ≤ 2147483647) (hr_n : (-2147483648) ≤ n ∧ n ≤ 2147483647) (hr_av : (-2147483648) ≤ av ∧ av ≤ 2147483647) (hdf : tab_ 4 14 [0, 0, 0, 0] [15, 5, 99, 16] df) : mI9 l yL_sweep vs_w_sweep ({ frames := 195, cells := 1, slots := 6, locals := 9670 }) D cy sa sz [vR kk, vI n, vR ao] [zO kk 11 [vR ta, vR kr, vR kl, vI nr, vI nw, vR sA, vR dA, vR pa, vR ki, vR kp, vI im, vR wa, vR or_, vR rq], zI rq (cy 0) 4 qf, zO sA 6 [vI wi, vI ro, vR s2, vR s3, vI dr, vI dt, vR s6, vI pe, vR s8, vI gu, vI sh, vR s11, vI wo, vR s13, vI dn, vI mi, vI fl, vI tk, vI go], zI s6 (cy 0) 56 df, zO or_ 3 [vI late, vI lea, vI ord, vR be], zL ao (cy 2) 1 (fun _ => (iI av).toInt64)] (fun (r : Int32) (u : SV) => r = iI (u.2.1 3) ∧ ((-2147483648) ≤ u.2.1 1 ∧ u.2.1 1 ≤ 2147483647) ∧ ((-2147483648) ≤ u.2.1 2 ∧ u.2.1 2 ≤ 2147483647) ∧ (0 ≤ u.2.1 3 ∧ u.2.1 3 ≤ 1) ∧ ((-2147483648) ≤ u.2.1 4 ∧ u.2.1 4 ≤ 2147483647) ∧ tab_ 4 14 [0, 0, 0, 0] [15, 5, 99, 16] df) (fun u : SV => [zO kk 11 [vR ta, vR kr, vR kl, vI nr, vI nw, vR sA, vR dA, vR pa, vR ki, vR kp, vI im, vR wa, vR or_, vR rq], zI rq (cy 0) 4 (u.2.2 0), zO sA 6 [vI wi, vI ro, vR s2, vR s3, vI dr, vI dt, vR s6, vI pe, vR s8, vI gu, vI sh, vR s11, vI wo, vR s13, vI dn, vI mi, vI fl, vI tk, vI go], zI s6 (cy 0) 56 df, zO or_ 3 [vI late, vI (u.2.1 1), vI (u.2.1 2), vR be], zL ao (cy 2) 1 (fun _ => (iI (u.2.1 4)).toInt64)]) 1 6 := by
  refine va_MetW (cc := cL_sweep) (maxL := 4) (ret := (some .int)) (by decide) rfl ?_
  intro p e s m args below meth c s₁ B hml hv
  obtain ⟨rfl, hsz, hP, hG, hD0, hT⟩ := hv
  have hx := B.exec
  have hb := B.bytes
  have hr := B.returns
  have hts := atoms_spec (ws := vs_w_sweep) B.pre
  have hown : s.vm.findClass RL = some m.cls := findClass_of_methodNamed B.named
  have hlocks := B.notSynchronized
  subst hsz
  have hD := hD0.self (sz := s.heap.size)
  generalize hAe : va_A [zO kk 11 [vR ta, vR kr, vR kl, vI nr, vI nw, vR sA, vR dA, vR pa, vR ki, vR kp, vI im, vR wa, vR or_, vR rq], zI rq (cy 0) 4 qf, zO sA 6 [vI wi, vI ro, vR s2, vR s3, vI dr, vI dt, vR s6, vI pe, vR s8, vI gu, vI sh, vR s11, vI wo, vR s13, vI dn, vI mi, vI fl, vI tk, vI go], zI s6 (cy 0) 56 df, zO or_ 3 [vI late, vI lea, vI ord, vR be], zL ao (cy 2) 1 (fun _ => (iI av).toInt64)] s.heap.size = A at hD hT ⊢
  have hA : ∀ q : Nat, s.heap.size ≤ q → A q := fun q h => by rw [← hAe]; exact Or.inr h
  have hS : va_S A s.heap s.heap [] := va_S.rf
  have hl0 := lv_entry ([vR kk, vI n, vR ao]) (n := 4) (Nat.le_of_ble_eq_true rfl)
  rw [lg_entry_eq]
  generalize (lg_sl ([vR kk, vI n, vR ao]) ++ List.replicate (4 - (lg_sl ([vR kk, vI n, vR ao])).length) Slot.unset).toArray = ls at hl0 ⊢
  have hlv : lv_has ls 4 [(0, vR kk), (1, vI n), (2, vR ao)] := hl0
  have gg_0 : GoodIn vs_w_sweep (wsV RL 111 RX11 yX11_sweep vs_k_sweep) := goodIn_sub (fun w h => List.mem_cons_of_mem _ (List.mem_append_right _ (List.mem_append_left _ h))) (gd_V gd_k_sweep (by decide +kernel))
  have xc13 := hts (.classLink RL 13 "java/lang/IllegalArgumentException") (List.mem_of_getElem? (i := 1) rfl)
  have htab : c.exceptionTable.toList = [(⟨0, 9, 12, 13⟩ : ExceptionTableEntry)] := vx_table (x := yL_sweep) B (hts (.codeWith yL_sweep cL_sweep 4 (some .int) [(0, 9, 12, 13)]) List.mem_cons_self)
  refine lv_aload_n hx hb dL_sweep_0 rfl (lv_at hlv 2 rfl) ?_
  refine lv_iconst (v := iI 0) hx hb dL_sweep_1 (by decide) ?_
  refine lv_aload_n hx hb dL_sweep_2 rfl (lv_at hlv 0 rfl) ?_
  refine lv_iload_n hx hb dL_sweep_3 rfl (lv_at hlv 1 rfl) ?_
  refine cjrx_i [false, false, false, false, false, true] (fun pre9 => (vx_runV (As := [vI n]) (rest := [vI 0, vR ao]) ⟨hx, hb, hml, hown, hts⟩ (k_sweep l hl D cy sa kk ta kr kl sA dA pa ki kp wa or_ rq nr nw im qf s2 s3 s6 s8 s11 s13 wi ro dr dt pe gu sh wo dn mi fl tk go df be late lea ord n s.heap.size (by first | exact hr_nr | omega) (by first | exact hr_nw | omega) (by first | exact hr_im | omega) (by first | exact hr_wi | omega) (by first | exact hr_ro | omega) (by first | exact hr_dr | omega) (by first | exact hr_dt | omega) (by first | exact hr_pe | omega) (by first | exact hr_gu | omega) (by first | exact hr_sh | omega) (by first | exact hr_wo | omega) (by first | exact hr_dn | omega) (by first | exact hr_mi | omega) (by first | exact hr_fl | omega) (by first | exact hr_tk | omega) (by first | exact hr_go | omega) (by first | exact hr_late | omega) (by first | exact hr_lea | omega) (by first | exact hr_ord | omega) (by first | exact hr_n | omega) hdf) (cwV 1 hts gg_0 rfl rfl rfl (by decide +kernel) ⟨Nat.le_of_ble_eq_true rfl, Nat.le_of_ble_eq_true rfl⟩) ⟨pcW.blind, (va_recv hG.1 hP (ci := 11) (q0 := 0) rfl rfl), pre9⟩ rfl rfl hlv.1 rfl (lv_room (Nat.le_of_ble_eq_true rfl)) dL_sweep_4 ⟨Nat.le_of_ble_eq_true rfl, Nat.le_of_ble_eq_true rfl⟩)) hP hD hS hA hG hT [0, 1, 2, 3, 4] rfl (by decide +kernel) (fun E ux1 ce q9 H locs hp hq9 hS h1 h2 h3 => ?_) (fun r1 u1 H locs hw1 hq9 hS => ?_)
  · obtain ⟨hP, hD⟩ := pd9 [zL ao (cy 2) 1 (fun _ => (iI av).toInt64), zO kk 11 [vR ta, vR kr, vR kl, vI nr, vI nw, vR sA, vR dA, vR pa, vR ki, vR kp, vI im, vR wa, vR or_, vR rq], zI rq (cy 0) 4 (ux1.2.2 0), zO sA 6 [vI wi, vI ro, vR s2, vR s3, vI dr, vI dt, vR s6, vI pe, vR s8, vI gu, vI sh, vR s11, vI wo, vR s13, vI dn, vI mi, vI fl, vI tk, vI go], zI s6 (cy 0) 56 df, zO or_ 3 [vI late, vI lea, vI ord, vR be]] hq9
    obtain rfl := hp
    refine vx_catch (name := "java/lang/IllegalArgumentException") hown [] (⟨0, 9, 12, 13⟩ : ExceptionTableEntry) [] htab (fun z hz => absurd hz List.not_mem_nil) (by decide) (by decide) xc13 (va_Nw.use rfl (hG.2.2.2.1 _ (List.mem_of_getElem? (i := 2) rfl))) h1 h2 h3 ?_
    refine lv_astore_n (lv' := [(3, vR q9), (0, vR kk), (1, vI n), (2, vR ao)]) hx hb dL_sweep_12 rfl hlv (by decide) rfl (fun ls hlv => ?_)
    refine lv_iconst (v := iI 1) hx hb dL_sweep_13 (by decide) ?_
    refine W.widen (k := 1) (n := 6) (Nat.le_of_ble_eq_true rfl) (Nat.le_of_ble_eq_true rfl) ?_
    exact W.iret (v := iI 1) hx hb hr (fun t ht hW => ⟨⟨iI 1, ((fun k => ([] : List Nat).getD k 0), (fun k => ([0, lea, ord, 1, av] : List Int).getD k 0), (fun k => ([(ux1.2.2 0)] : List (Nat → Int32)).getD k (fun _ => 0))), rfl, ⟨rfl, (by show ((-2147483648) ≤ lea ∧ lea ≤ 2147483647); first | exact hr_lea | omega), (by show ((-2147483648) ≤ ord ∧ ord ≤ 2147483647); first | exact hr_ord | omega), (by show (0 ≤ 1 ∧ 1 ≤ 1); show (0 : Int) ≤ 1 ∧ (1 : Int) ≤ 1; decide), (by show ((-2147483648) ≤ av ∧ av ≤ 2147483647); first | exact hr_av | omega), hdf⟩, at9 ht hP hD [1, 2, 3, 4, 5, 0] (by decide +kernel) rfl⟩, hS.F ht⟩) hS.2.2 dL_sweep_14
  obtain ⟨rfl, hq1_1, hq1_2, hq1_3, hq1_4⟩ := hw1
  obtain ⟨hP, hD⟩ := pd9 [zL ao (cy 2) 1 (fun _ => (iI av).toInt64), zO kk 11 [vR ta, vR kr, vR kl, vI nr, vI nw, vR sA, vR dA, vR pa, vR ki, vR kp, vI im, vR wa, vR or_, vR rq], zI rq (cy 0) 4 qf, zO sA 6 [vI wi, vI ro, vR s2, vR s3, vI dr, vI dt, vR s6, vI pe, vR s8, vI gu, vI sh, vR s11, vI wo, vR s13, vI dn, vI mi, vI fl, vI tk, vI go], zI s6 (cy 0) 56 df, zO or_ 3 [vI late, vI (u1.2.1 1), vI (u1.2.1 2), vR be]] hq9
  refine lv_i2l (v := jJ (u1.2.1 0)) hx hb dL_sweep_7 (jJ_i (by omega)) ?_
  refine va_last hx hb hG.1 hP hD hS 0 2 rfl rfl (iI_in (by omega) (by decide)) dL_sweep_8 (fun H locs hP hD hS => ?_)
  obtain ⟨hP, hD⟩ := arl 0 (fun _ => (iI (u1.2.1 0)).toInt64) hP hD rfl (arl_2 (by omega))
  obtain ⟨hP, hD⟩ := pw9 [zL ao (cy 2) 1 (fun _ => (iI (u1.2.1 0)).toInt64), zO kk 11 [vR ta, vR kr, vR kl, vI nr, vI nw, vR sA, vR dA, vR pa, vR ki, vR kp, vI im, vR wa, vR or_, vR rq], zI rq (cy 0) 4 qf, zO sA 6 [vI wi, vI ro, vR s2, vR s3, vI dr, vI dt, vR s6, vI pe, vR s8, vI gu, vI sh, vR s11, vI wo, vR s13, vI dn, vI mi, vI fl, vI tk, vI go], zI s6 (cy 0) 56 df, zO or_ 3 [vI late, vI (u1.2.1 1), vI (u1.2.1 2), vR be]] hP hD
  refine lv_goto (tgt := 15) hx hb dL_sweep_9 (by decide) ?_
  refine lv_iconst (v := iI 0) hx hb dL_sweep_15 (by decide) ?_
  refine W.widen (k := 1) (n := 6) (Nat.le_of_ble_eq_true rfl) (Nat.le_of_ble_eq_true rfl) ?_
  exact W.iret (v := iI 0) hx hb hr (fun t ht hW => ⟨⟨iI 0, ((fun k => ([] : List Nat).getD k 0), (fun k => ([0, (u1.2.1 1), (u1.2.1 2), 0, (u1.2.1 0)] : List Int).getD k 0), (fun k => ([qf] : List (Nat → Int32)).getD k (fun _ => 0))), rfl, ⟨rfl, (by show ((-2147483648) ≤ (u1.2.1 1) ∧ (u1.2.1 1) ≤ 2147483647); first | exact hq1_2 | omega), (by show ((-2147483648) ≤ (u1.2.1 2) ∧ (u1.2.1 2) ≤ 2147483647); first | exact hq1_3 | omega), (by show (0 ≤ 0 ∧ 0 ≤ 1); show (0 : Int) ≤ 0 ∧ (0 : Int) ≤ 1; decide), (by show ((-2147483648) ≤ (u1.2.1 0) ∧ (u1.2.1 0) ≤ 2147483647); first | exact hq1_1 | omega), hq1_4⟩, at9 ht hP hD [1, 2, 3, 4, 5, 0] (by decide +kernel) rfl⟩, hS.F ht⟩) hS.2.2 dL_sweep_16
def vs_w_ice : List Cond := .codeWith yL_ice cL_ice 5 (some .int) [(0, 10, 13, 13)] :: (([.classLink RL 13 "java/lang/IllegalArgumentException"] : List Cond) ++ ((wsV RL 114 RX11 yX11_ice vs_k_ice) ++ ([])))
set_option maxHeartbeats 4000000 in
set_option maxRecDepth 100000 in
theorem w_ice (l : Launch) (hl : l.stackTraces = false) (D : va_G) (cy : Nat → ClassId) (sa : Nat → Nat) (kk ta kr kl sA dA pa ki kp wa or_ rq : Nat) (nr nw im : Int) (qf : Nat → Int32) (s2 s3 s6 s8 s11 s13 : Nat) (wi ro dr dt pe gu sh wo dn mi fl tk go : Int) (wf pf : Nat → Int32) (n k : Int) (ao : Nat) (av : Int) (sz : Nat) (hr_nr : 0 ≤ nr ∧ nr ≤ 4) (hr_nw : 0 ≤ nw ∧ nw ≤ 4) (hr_im : 0 ≤ im ∧ im ≤ 3) (hr_wi : 0 ≤ wi ∧ wi ≤ 16) (hr_ro : 0 ≤ ro ∧ ro ≤ 6) (hr_dr : 0 ≤ dr ∧ dr ≤ 14) (hr_dt : 0 ≤ dt ∧ dt ≤ 6) (hr_pe : 0 ≤ pe ∧ pe ≤ 8) (hr_gu : 0 ≤ gu ∧ gu ≤ 20) (hr_sh : 0 ≤ sh ∧ sh ≤ 2) (hr_wo : 0 ≤ wo ∧ wo ≤ 8) (hr_dn : (-2147483648) ≤ dn ∧ dn ≤ 2147483647) (hr_mi : 0 ≤ mi ∧ mi ≤ 600) (hr_fl : (-2147483648) ≤ fl ∧ fl ≤ 2147483647) (hr_tk : (-2147483648) ≤ tk ∧ tk ≤ 2147483647) (hr_go : (-2147483648) ≤ go ∧ go ≤ 2147483647) (hr_n : (-2147483648) ≤ n ∧ n ≤ 2147483647) (hr_k : (-2147483648) ≤ k ∧ k ≤ 2147483647) (hr_av : (-2147483648) ≤ av ∧ av ≤ 2147483647) (hpf : tab_ 4 28 [0, 0, (-2147483648), (-2147483648)] [15, 19, 2147483647, 2147483647] pf) : mI9 l yL_ice vs_w_ice ({ frames := 8, cells := 1, slots := 6, locals := 143 }) D cy sa sz [vR kk, vI n, vI k, vR ao] [zO kk 11 [vR ta, vR kr, vR kl, vI nr, vI nw, vR sA, vR dA, vR pa, vR ki, vR kp, vI im, vR wa, vR or_, vR rq], zI rq (cy 0) 4 qf, zO sA 6 [vI wi, vI ro, vR s2, vR s3, vI dr, vI dt, vR s6, vI pe, vR s8, vI gu, vI sh, vR s11, vI wo, vR s13, vI dn, vI mi, vI fl, vI tk, vI go], zI s3 (cy 0) 96 wf, zI s8 (cy 0) 112 pf, zL ao (cy 2) 1 (fun _ => (iI av).toInt64)] (fun (r : Int32) (u : SV) => r = iI (u.2.1 1) ∧ (0 ≤ u.2.1 1 ∧ u.2.1 1 ≤ 1) ∧ ((-2147483648) ≤ u.2.1 2 ∧ u.2.1 2 ≤ 2147483647) ∧ tab_ 4 28 [0, 0, (-2147483648), (-2147483648)] [15, 19, 2147483647, 2147483647] pf) (fun u : SV => [zO kk 11 [vR ta, vR kr, vR kl, vI nr, vI nw, vR sA, vR dA, vR pa, vR ki, vR kp, vI im, vR wa, vR or_, vR rq], zI rq (cy 0) 4 (u.2.2 0), zO sA 6 [vI wi, vI ro, vR s2, vR s3, vI dr, vI dt, vR s6, vI pe, vR s8, vI gu, vI sh, vR s11, vI wo, vR s13, vI dn, vI mi, vI fl, vI tk, vI go], zI s3 (cy 0) 96 wf, zI s8 (cy 0) 112 pf, zL ao (cy 2) 1 (fun _ => (iI (u.2.1 2)).toInt64)]) 1 6 := by
  refine va_MetW (cc := cL_ice) (maxL := 5) (ret := (some .int)) (by decide) rfl ?_
  intro p e s m args below meth c s₁ B hml hv
  obtain ⟨rfl, hsz, hP, hG, hD0, hT⟩ := hv
  have hx := B.exec
  have hb := B.bytes
  have hr := B.returns
  have hts := atoms_spec (ws := vs_w_ice) B.pre
  have hown : s.vm.findClass RL = some m.cls := findClass_of_methodNamed B.named
  have hlocks := B.notSynchronized
  subst hsz
  have hD := hD0.self (sz := s.heap.size)
  generalize hAe : va_A [zO kk 11 [vR ta, vR kr, vR kl, vI nr, vI nw, vR sA, vR dA, vR pa, vR ki, vR kp, vI im, vR wa, vR or_, vR rq], zI rq (cy 0) 4 qf, zO sA 6 [vI wi, vI ro, vR s2, vR s3, vI dr, vI dt, vR s6, vI pe, vR s8, vI gu, vI sh, vR s11, vI wo, vR s13, vI dn, vI mi, vI fl, vI tk, vI go], zI s3 (cy 0) 96 wf, zI s8 (cy 0) 112 pf, zL ao (cy 2) 1 (fun _ => (iI av).toInt64)] s.heap.size = A at hD hT ⊢
  have hA : ∀ q : Nat, s.heap.size ≤ q → A q := fun q h => by rw [← hAe]; exact Or.inr h
  have hS : va_S A s.heap s.heap [] := va_S.rf
  have hl0 := lv_entry ([vR kk, vI n, vI k, vR ao]) (n := 5) (Nat.le_of_ble_eq_true rfl)
  rw [lg_entry_eq]
  generalize (lg_sl ([vR kk, vI n, vI k, vR ao]) ++ List.replicate (5 - (lg_sl ([vR kk, vI n, vI k, vR ao])).length) Slot.unset).toArray = ls at hl0 ⊢
  have hlv : lv_has ls 5 [(0, vR kk), (1, vI n), (2, vI k), (3, vR ao)] := hl0
  have gg_0 : GoodIn vs_w_ice (wsV RL 114 RX11 yX11_ice vs_k_ice) := goodIn_sub (fun w h => List.mem_cons_of_mem _ (List.mem_append_right _ (List.mem_append_left _ h))) (gd_V gd_k_ice (by decide +kernel))
  have xc13 := hts (.classLink RL 13 "java/lang/IllegalArgumentException") (List.mem_of_getElem? (i := 1) rfl)
  have htab : c.exceptionTable.toList = [(⟨0, 10, 13, 13⟩ : ExceptionTableEntry)] := vx_table (x := yL_ice) B (hts (.codeWith yL_ice cL_ice 5 (some .int) [(0, 10, 13, 13)]) List.mem_cons_self)
  refine lv_aload_n hx hb dL_ice_0 rfl (lv_at hlv 3 rfl) ?_
  refine lv_iconst (v := iI 0) hx hb dL_ice_1 (by decide) ?_
  refine lv_aload_n hx hb dL_ice_2 rfl (lv_at hlv 0 rfl) ?_
  refine lv_iload_n hx hb dL_ice_3 rfl (lv_at hlv 1 rfl) ?_
  refine lv_iload_n hx hb dL_ice_4 rfl (lv_at hlv 2 rfl) ?_
  refine cjrx_i [false, false, false, false, false, true] (fun pre9 => (vx_runV (As := [vI n, vI k]) (rest := [vI 0, vR ao]) ⟨hx, hb, hml, hown, hts⟩ (k_ice l hl D cy sa kk ta kr kl sA dA pa ki kp wa or_ rq nr nw im qf s2 s3 s6 s8 s11 s13 wi ro dr dt pe gu sh wo dn mi fl tk go wf pf n k s.heap.size (by first | exact hr_nr | omega) (by first | exact hr_nw | omega) (by first | exact hr_im | omega) (by first | exact hr_wi | omega) (by first | exact hr_ro | omega) (by first | exact hr_dr | omega) (by first | exact hr_dt | omega) (by first | exact hr_pe | omega) (by first | exact hr_gu | omega) (by first | exact hr_sh | omega) (by first | exact hr_wo | omega) (by first | exact hr_dn | omega) (by first | exact hr_mi | omega) (by first | exact hr_fl | omega) (by first | exact hr_tk | omega) (by first | exact hr_go | omega) (by first | exact hr_n | omega) (by first | exact hr_k | omega) hpf) (cwV 2 hts gg_0 rfl rfl rfl (by decide +kernel) ⟨Nat.le_of_ble_eq_true rfl, Nat.le_of_ble_eq_true rfl⟩) ⟨pcW.blind, (va_recv hG.1 hP (ci := 11) (q0 := 0) rfl rfl), pre9⟩ rfl rfl hlv.1 rfl (lv_room (Nat.le_of_ble_eq_true rfl)) dL_ice_5 ⟨Nat.le_of_ble_eq_true rfl, Nat.le_of_ble_eq_true rfl⟩)) hP hD hS hA hG hT [0, 1, 2, 3, 4] rfl (by decide +kernel) (fun E ux1 ce q9 H locs hp hq9 hS h1 h2 h3 => ?_) (fun r1 u1 H locs hw1 hq9 hS => ?_)
  · obtain ⟨hP, hD⟩ := pd9 [zL ao (cy 2) 1 (fun _ => (iI av).toInt64), zO kk 11 [vR ta, vR kr, vR kl, vI nr, vI nw, vR sA, vR dA, vR pa, vR ki, vR kp, vI im, vR wa, vR or_, vR rq], zI rq (cy 0) 4 (ux1.2.2 0), zO sA 6 [vI wi, vI ro, vR s2, vR s3, vI dr, vI dt, vR s6, vI pe, vR s8, vI gu, vI sh, vR s11, vI wo, vR s13, vI dn, vI mi, vI fl, vI tk, vI go], zI s3 (cy 0) 96 wf, zI s8 (cy 0) 112 pf] hq9
    obtain rfl := hp
    refine vx_catch (name := "java/lang/IllegalArgumentException") hown [] (⟨0, 10, 13, 13⟩ : ExceptionTableEntry) [] htab (fun z hz => absurd hz List.not_mem_nil) (by decide) (by decide) xc13 (va_Nw.use rfl (hG.2.2.2.1 _ (List.mem_of_getElem? (i := 2) rfl))) h1 h2 h3 ?_
    refine lv_astore (lv' := [(4, vR q9), (0, vR kk), (1, vI n), (2, vI k), (3, vR ao)]) hx hb dL_ice_13 hlv (by decide) rfl (fun ls hlv => ?_)
    refine lv_iconst (v := iI 1) hx hb dL_ice_15 (by decide) ?_
    refine W.widen (k := 1) (n := 6) (Nat.le_of_ble_eq_true rfl) (Nat.le_of_ble_eq_true rfl) ?_
    exact W.iret (v := iI 1) hx hb hr (fun t ht hW => ⟨⟨iI 1, ((fun k => ([] : List Nat).getD k 0), (fun k => ([0, 1, av] : List Int).getD k 0), (fun k => ([(ux1.2.2 0)] : List (Nat → Int32)).getD k (fun _ => 0))), rfl, ⟨rfl, (by show (0 ≤ 1 ∧ 1 ≤ 1); show (0 : Int) ≤ 1 ∧ (1 : Int) ≤ 1; decide), (by show ((-2147483648) ≤ av ∧ av ≤ 2147483647); first | exact hr_av | omega), hpf⟩, at9 ht hP hD [1, 2, 3, 4, 5, 0] (by decide +kernel) rfl⟩, hS.F ht⟩) hS.2.2 dL_ice_16
  obtain ⟨rfl, hq1_1, hq1_2⟩ := hw1
  obtain ⟨hP, hD⟩ := pd9 [zL ao (cy 2) 1 (fun _ => (iI av).toInt64), zO kk 11 [vR ta, vR kr, vR kl, vI nr, vI nw, vR sA, vR dA, vR pa, vR ki, vR kp, vI im, vR wa, vR or_, vR rq], zI rq (cy 0) 4 qf, zO sA 6 [vI wi, vI ro, vR s2, vR s3, vI dr, vI dt, vR s6, vI pe, vR s8, vI gu, vI sh, vR s11, vI wo, vR s13, vI dn, vI mi, vI fl, vI tk, vI go], zI s3 (cy 0) 96 wf, zI s8 (cy 0) 112 pf] hq9
  refine lv_i2l (v := jJ (u1.2.1 0)) hx hb dL_ice_8 (jJ_i (by omega)) ?_
  refine va_last hx hb hG.1 hP hD hS 0 2 rfl rfl (iI_in (by omega) (by decide)) dL_ice_9 (fun H locs hP hD hS => ?_)
  obtain ⟨hP, hD⟩ := arl 0 (fun _ => (iI (u1.2.1 0)).toInt64) hP hD rfl (arl_2 (by omega))
  obtain ⟨hP, hD⟩ := pw9 [zL ao (cy 2) 1 (fun _ => (iI (u1.2.1 0)).toInt64), zO kk 11 [vR ta, vR kr, vR kl, vI nr, vI nw, vR sA, vR dA, vR pa, vR ki, vR kp, vI im, vR wa, vR or_, vR rq], zI rq (cy 0) 4 qf, zO sA 6 [vI wi, vI ro, vR s2, vR s3, vI dr, vI dt, vR s6, vI pe, vR s8, vI gu, vI sh, vR s11, vI wo, vR s13, vI dn, vI mi, vI fl, vI tk, vI go], zI s3 (cy 0) 96 wf, zI s8 (cy 0) 112 pf] hP hD
  refine lv_goto (tgt := 17) hx hb dL_ice_10 (by decide) ?_
  refine lv_iconst (v := iI 0) hx hb dL_ice_17 (by decide) ?_
  refine W.widen (k := 1) (n := 6) (Nat.le_of_ble_eq_true rfl) (Nat.le_of_ble_eq_true rfl) ?_
  exact W.iret (v := iI 0) hx hb hr (fun t ht hW => ⟨⟨iI 0, ((fun k => ([] : List Nat).getD k 0), (fun k => ([0, 0, (u1.2.1 0)] : List Int).getD k 0), (fun k => ([qf] : List (Nat → Int32)).getD k (fun _ => 0))), rfl, ⟨rfl, (by show (0 ≤ 0 ∧ 0 ≤ 1); show (0 : Int) ≤ 0 ∧ (0 : Int) ≤ 1; decide), (by show ((-2147483648) ≤ (u1.2.1 0) ∧ (u1.2.1 0) ≤ 2147483647); first | exact hq1_1 | omega), hq1_2⟩, at9 ht hP hD [1, 2, 3, 4, 5, 0] (by decide +kernel) rfl⟩, hS.F ht⟩) hS.2.2 dL_ice_18
end
section
theorem dL_law_0 : decode cL_law 0 = .ok (.aload_n 2, 1) := by decide +kernel
theorem dL_law_1 : decode cL_law 1 = .ok (.iconst 0, 1) := by decide +kernel
theorem dL_law_12 : decode cL_law 12 = .ok (.astore_n 3, 1) := by decide +kernel
theorem dL_law_13 : decode cL_law 13 = .ok (.iconst 1, 1) := by decide +kernel
theorem dL_law_14 : decode cL_law 14 = .ok (.ireturn, 1) := by decide +kernel
theorem dL_law_15 : decode cL_law 15 = .ok (.iconst 0, 1) := by decide +kernel
theorem dL_law_16 : decode cL_law 16 = .ok (.ireturn, 1) := by decide +kernel
theorem dL_law_2 : decode cL_law 2 = .ok (.aload_n 0, 1) := by decide +kernel
theorem dL_law_3 : decode cL_law 3 = .ok (.iload_n 1, 1) := by decide +kernel
theorem dL_law_4 : decode cL_law 4 = .ok (.invokevirtual 18, 3) := by decide +kernel
theorem dL_law_7 : decode cL_law 7 = .ok (.i2l, 1) := by decide +kernel
theorem dL_law_8 : decode cL_law 8 = .ok (.lastore, 1) := by decide +kernel
theorem dL_law_9 : decode cL_law 9 = .ok (.goto 6, 3) := by decide +kernel
theorem dL_rain_0 : decode cL_rain 0 = .ok (.aload_n 2, 1) := by decide +kernel
theorem dL_rain_1 : decode cL_rain 1 = .ok (.iconst 0, 1) := by decide +kernel
theorem dL_rain_12 : decode cL_rain 12 = .ok (.astore_n 3, 1) := by decide +kernel
theorem dL_rain_13 : decode cL_rain 13 = .ok (.iconst 1, 1) := by decide +kernel
theorem dL_rain_14 : decode cL_rain 14 = .ok (.ireturn, 1) := by decide +kernel
theorem dL_rain_15 : decode cL_rain 15 = .ok (.iconst 0, 1) := by decide +kernel
theorem dL_rain_16 : decode cL_rain 16 = .ok (.ireturn, 1) := by decide +kernel
theorem dL_rain_2 : decode cL_rain 2 = .ok (.aload_n 0, 1) := by decide +kernel
theorem dL_rain_3 : decode cL_rain 3 = .ok (.iload_n 1, 1) := by decide +kernel
theorem dL_rain_4 : decode cL_rain 4 = .ok (.invokevirtual 15, 3) := by decide +kernel
theorem dL_rain_7 : decode cL_rain 7 = .ok (.i2l, 1) := by decide +kernel
theorem dL_rain_8 : decode cL_rain 8 = .ok (.lastore, 1) := by decide +kernel
theorem dL_rain_9 : decode cL_rain 9 = .ok (.goto 6, 3) := by decide +kernel
theorem dL_street_0 : decode cL_street 0 = .ok (.aload_n 2, 1) := by decide +kernel
theorem dL_street_1 : decode cL_street 1 = .ok (.iconst 0, 1) := by decide +kernel
theorem dL_street_12 : decode cL_street 12 = .ok (.astore_n 3, 1) := by decide +kernel
theorem dL_street_13 : decode cL_street 13 = .ok (.iconst 1, 1) := by decide +kernel
theorem dL_street_14 : decode cL_street 14 = .ok (.ireturn, 1) := by decide +kernel
theorem dL_street_15 : decode cL_street 15 = .ok (.iconst 0, 1) := by decide +kernel
theorem dL_street_16 : decode cL_street 16 = .ok (.ireturn, 1) := by decide +kernel
theorem dL_street_2 : decode cL_street 2 = .ok (.aload_n 0, 1) := by decide +kernel
theorem dL_street_3 : decode cL_street 3 = .ok (.iload_n 1, 1) := by decide +kernel
theorem dL_street_4 : decode cL_street 4 = .ok (.invokevirtual 7, 3) := by decide +kernel
theorem dL_street_7 : decode cL_street 7 = .ok (.i2l, 1) := by decide +kernel
theorem dL_street_8 : decode cL_street 8 = .ok (.lastore, 1) := by decide +kernel
theorem dL_street_9 : decode cL_street 9 = .ok (.goto 6, 3) := by decide +kernel
def vs_w_rain : List Cond := .codeWith yL_rain cL_rain 4 (some .int) [(0, 9, 12, 13)] :: (([.classLink RL 13 "java/lang/IllegalArgumentException"] : List Cond) ++ ((wsV RL 15 RX11 yX11_rain vs_k_rain) ++ ([])))
set_option maxHeartbeats 4000000 in
set_option maxRecDepth 100000 in
theorem w_rain (l : Launch) (hl : l.stackTraces = false) (D : va_G) (cy : Nat → ClassId) (sa : Nat → Nat) (kk ta kr kl sA dA pa ki kp wa or_ rq : Nat) (nr nw im : Int) (qf : Nat → Int32) (tb : Nat) (fed len at_ we fa fp : Int) (bf : Nat → Int32) (krf : Nat → Option Nat) (ra rf : Nat) (rm : Int) (ff : Nat → Int32) (n : Int) (ao : Nat) (av : Int) (sz : Nat) (hr_nr : 0 ≤ nr ∧ nr ≤ 4) (hr_nw : 0 ≤ nw ∧ nw ≤ 4) (hr_im : 0 ≤ im ∧ im ≤ 3) (hr_fed : 0 ≤ fed ∧ fed ≤ 600) (hr_len : 0 ≤ len ∧ len ≤ 600) (hr_at_ : 0 ≤ at_ ∧ at_ ≤ 600) (hr_we : 0 ≤ we ∧ we ≤ 600) (hr_fa : 0 ≤ fa ∧ fa ≤ 4) (hr_fp : (-1) ≤ fp ∧ fp ≤ 600) (hr_rm : 0 ≤ rm ∧ rm ≤ 240) (hr_n : (-2147483648) ≤ n ∧ n ≤ 2147483647) (hr_av : (-2147483648) ≤ av ∧ av ≤ 2147483647) (hp0 : nr < 4 → krf nr.toNat = some ra) (hff : inv_ 240 0 20 ff) : mI9 l yL_rain vs_w_rain ({ frames := 10, cells := 1, slots := 6, locals := 218 }) D cy sa sz [vR kk, vI n, vR ao] [zO kk 11 [vR ta, vR kr, vR kl, vI nr, vI nw, vR sA, vR dA, vR pa, vR ki, vR kp, vI im, vR wa, vR or_, vR rq], zI rq (cy 0) 4 qf, zO ta 8 [vR tb, vI fed, vI len, vI at_, vI we, vI fa, vI fp], zI tb (cy 1) 600 bf, zQ kr (cy 4) 4 krf, zO ra 5 [vR rf, vI rm], zI rf (cy 0) 240 ff, zL ao (cy 2) 1 (fun _ => (iI av).toInt64)] (fun (r : Int32) (u : SV) => r = iI (u.2.1 9) ∧ (0 ≤ u.2.1 1 ∧ u.2.1 1 ≤ 600) ∧ (0 ≤ u.2.1 2 ∧ u.2.1 2 ≤ 600) ∧ (0 ≤ u.2.1 3 ∧ u.2.1 3 ≤ 600) ∧ (0 ≤ u.2.1 4 ∧ u.2.1 4 ≤ 600) ∧ (0 ≤ u.2.1 5 ∧ u.2.1 5 ≤ 4) ∧ ((-1) ≤ u.2.1 6 ∧ u.2.1 6 ≤ 600) ∧ (0 ≤ u.2.1 7 ∧ u.2.1 7 ≤ 4) ∧ (0 ≤ u.2.1 8 ∧ u.2.1 8 ≤ 240) ∧ (0 ≤ u.2.1 9 ∧ u.2.1 9 ≤ 1) ∧ ((-2147483648) ≤ u.2.1 10 ∧ u.2.1 10 ≤ 2147483647) ∧ (0 ≤ n ∧ n ≤ fed → u.2.1 1 = 0) ∧ (¬ (0 ≤ n ∧ n ≤ fed) → u.2.1 1 = fed) ∧ inv_ 240 0 20 (u.2.2 0)) (fun u : SV => [zO kk 11 [vR ta, vR kr, vR kl, vI (u.2.1 7), vI nw, vR sA, vR dA, vR pa, vR ki, vR kp, vI im, vR wa, vR or_, vR rq], zI rq (cy 0) 4 (u.2.2 1), zO ta 8 [vR tb, vI (u.2.1 1), vI (u.2.1 2), vI (u.2.1 3), vI (u.2.1 4), vI (u.2.1 5), vI (u.2.1 6)], zI tb (cy 1) 600 bf, zQ kr (cy 4) 4 krf, zO ra 5 [vR rf, vI (u.2.1 8)], zI rf (cy 0) 240 (u.2.2 0), zL ao (cy 2) 1 (fun _ => (iI (u.2.1 10)).toInt64)]) 1 6 := by
  refine va_MetW (cc := cL_rain) (maxL := 4) (ret := (some .int)) (by decide) rfl ?_
  intro p e s m args below meth c s₁ B hml hv
  obtain ⟨rfl, hsz, hP, hG, hD0, hT⟩ := hv
  have hx := B.exec
  have hb := B.bytes
  have hr := B.returns
  have hts := atoms_spec (ws := vs_w_rain) B.pre
  have hown : s.vm.findClass RL = some m.cls := findClass_of_methodNamed B.named
  have hlocks := B.notSynchronized
  subst hsz
  have hD := hD0.self (sz := s.heap.size)
  generalize hAe : va_A [zO kk 11 [vR ta, vR kr, vR kl, vI nr, vI nw, vR sA, vR dA, vR pa, vR ki, vR kp, vI im, vR wa, vR or_, vR rq], zI rq (cy 0) 4 qf, zO ta 8 [vR tb, vI fed, vI len, vI at_, vI we, vI fa, vI fp], zI tb (cy 1) 600 bf, zQ kr (cy 4) 4 krf, zO ra 5 [vR rf, vI rm], zI rf (cy 0) 240 ff, zL ao (cy 2) 1 (fun _ => (iI av).toInt64)] s.heap.size = A at hD hT ⊢
  have hA : ∀ q : Nat, s.heap.size ≤ q → A q := fun q h => by rw [← hAe]; exact Or.inr h
  have hS : va_S A s.heap s.heap [] := va_S.rf
  have hl0 := lv_entry ([vR kk, vI n, vR ao]) (n := 4) (Nat.le_of_ble_eq_true rfl)
  rw [lg_entry_eq]
  generalize (lg_sl ([vR kk, vI n, vR ao]) ++ List.replicate (4 - (lg_sl ([vR kk, vI n, vR ao])).length) Slot.unset).toArray = ls at hl0 ⊢
  have hlv : lv_has ls 4 [(0, vR kk), (1, vI n), (2, vR ao)] := hl0
  have gg_0 : GoodIn vs_w_rain (wsV RL 15 RX11 yX11_rain vs_k_rain) := goodIn_sub (fun w h => List.mem_cons_of_mem _ (List.mem_append_right _ (List.mem_append_left _ h))) (gd_V gd_k_rain (by decide +kernel))
  have xc13 := hts (.classLink RL 13 "java/lang/IllegalArgumentException") (List.mem_of_getElem? (i := 1) rfl)
  have htab : c.exceptionTable.toList = [(⟨0, 9, 12, 13⟩ : ExceptionTableEntry)] := vx_table (x := yL_rain) B (hts (.codeWith yL_rain cL_rain 4 (some .int) [(0, 9, 12, 13)]) List.mem_cons_self)
  refine lv_aload_n hx hb dL_rain_0 rfl (lv_at hlv 2 rfl) ?_
  refine lv_iconst (v := iI 0) hx hb dL_rain_1 (by decide) ?_
  refine lv_aload_n hx hb dL_rain_2 rfl (lv_at hlv 0 rfl) ?_
  refine lv_iload_n hx hb dL_rain_3 rfl (lv_at hlv 1 rfl) ?_
  refine cjrx_i [false, false, false, false, false, false, false, true] (fun pre9 => (vx_runV (As := [vI n]) (rest := [vI 0, vR ao]) ⟨hx, hb, hml, hown, hts⟩ (k_rain l hl D cy sa kk ta kr kl sA dA pa ki kp wa or_ rq nr nw im qf tb fed len at_ we fa fp bf krf ra rf rm ff n s.heap.size (by first | exact hr_nr | omega) (by first | exact hr_nw | omega) (by first | exact hr_im | omega) (by first | exact hr_fed | omega) (by first | exact hr_len | omega) (by first | exact hr_at_ | omega) (by first | exact hr_we | omega) (by first | exact hr_fa | omega) (by first | exact hr_fp | omega) (by first | exact hr_rm | omega) (by first | exact hr_n | omega) hp0 hff) (cwV 1 hts gg_0 rfl rfl rfl (by decide +kernel) ⟨Nat.le_of_ble_eq_true rfl, Nat.le_of_ble_eq_true rfl⟩) ⟨pcW.blind, (va_recv hG.1 hP (ci := 11) (q0 := 0) rfl rfl), pre9⟩ rfl rfl hlv.1 rfl (lv_room (Nat.le_of_ble_eq_true rfl)) dL_rain_4 ⟨Nat.le_of_ble_eq_true rfl, Nat.le_of_ble_eq_true rfl⟩)) hP hD hS hA hG hT [0, 1, 2, 3, 4, 5, 6] rfl (by decide +kernel) (fun E ux1 ce q9 H locs hp hq9 hS h1 h2 h3 => ?_) (fun r1 u1 H locs hw1 hq9 hS => ?_)
  · obtain ⟨hP, hD⟩ := pd9 [zL ao (cy 2) 1 (fun _ => (iI av).toInt64), zO kk 11 [vR ta, vR kr, vR kl, vI nr, vI nw, vR sA, vR dA, vR pa, vR ki, vR kp, vI im, vR wa, vR or_, vR rq], zI rq (cy 0) 4 (ux1.2.2 0), zO ta 8 [vR tb, vI fed, vI len, vI at_, vI we, vI fa, vI fp], zI tb (cy 1) 600 bf, zQ kr (cy 4) 4 krf, zO ra 5 [vR rf, vI rm], zI rf (cy 0) 240 ff] hq9
    obtain ⟨hp, hxg1⟩ := hp
    obtain rfl := hp
    refine vx_catch (name := "java/lang/IllegalArgumentException") hown [] (⟨0, 9, 12, 13⟩ : ExceptionTableEntry) [] htab (fun z hz => absurd hz List.not_mem_nil) (by decide) (by decide) xc13 (va_Nw.use rfl (hG.2.2.2.1 _ (List.mem_of_getElem? (i := 2) rfl))) h1 h2 h3 ?_
    refine lv_astore_n (lv' := [(3, vR q9), (0, vR kk), (1, vI n), (2, vR ao)]) hx hb dL_rain_12 rfl hlv (by decide) rfl (fun ls hlv => ?_)
    refine lv_iconst (v := iI 1) hx hb dL_rain_13 (by decide) ?_
    refine W.widen (k := 1) (n := 6) (Nat.le_of_ble_eq_true rfl) (Nat.le_of_ble_eq_true rfl) ?_
    exact W.iret (v := iI 1) hx hb hr (fun t ht hW => ⟨⟨iI 1, ((fun k => ([] : List Nat).getD k 0), (fun k => ([0, fed, len, at_, we, fa, fp, nr, rm, 1, av] : List Int).getD k 0), (fun k => ([ff, (ux1.2.2 0)] : List (Nat → Int32)).getD k (fun _ => 0))), rfl, ⟨rfl, (by show (0 ≤ fed ∧ fed ≤ 600); first | exact hr_fed | omega), (by show (0 ≤ len ∧ len ≤ 600); first | exact hr_len | omega), (by show (0 ≤ at_ ∧ at_ ≤ 600); first | exact hr_at_ | omega), (by show (0 ≤ we ∧ we ≤ 600); first | exact hr_we | omega), (by show (0 ≤ fa ∧ fa ≤ 4); first | exact hr_fa | omega), (by show ((-1) ≤ fp ∧ fp ≤ 600); first | exact hr_fp | omega), (by show (0 ≤ nr ∧ nr ≤ 4); first | exact hr_nr | omega), (by show (0 ≤ rm ∧ rm ≤ 240); first | exact hr_rm | omega), (by show (0 ≤ 1 ∧ 1 ≤ 1); show (0 : Int) ≤ 1 ∧ (1 : Int) ≤ 1; decide), (by show ((-2147483648) ≤ av ∧ av ≤ 2147483647); first | exact hr_av | omega), (by show (0 ≤ n ∧ n ≤ fed → fed = 0); omega), (by show (¬ (0 ≤ n ∧ n ≤ fed) → fed = fed); omega), hff⟩, at9 ht hP hD [1, 2, 3, 4, 5, 6, 7, 0] (by decide +kernel) rfl⟩, hS.F ht⟩) hS.2.2 dL_rain_14
  obtain ⟨rfl, hq1_1, hq1_2, hq1_3, hq1_4, hq1_5, hq1_6, hq1_7, hq1_8, hq1_9, hq1_10, hq1_11⟩ := hw1
  obtain ⟨hP, hD⟩ := pd9 [zL ao (cy 2) 1 (fun _ => (iI av).toInt64), zO kk 11 [vR ta, vR kr, vR kl, vI (u1.2.1 7), vI nw, vR sA, vR dA, vR pa, vR ki, vR kp, vI im, vR wa, vR or_, vR rq], zI rq (cy 0) 4 qf, zO ta 8 [vR tb, vI (u1.2.1 1), vI (u1.2.1 2), vI (u1.2.1 3), vI (u1.2.1 4), vI (u1.2.1 5), vI (u1.2.1 6)], zI tb (cy 1) 600 bf, zQ kr (cy 4) 4 krf, zO ra 5 [vR rf, vI (u1.2.1 8)], zI rf (cy 0) 240 (u1.2.2 0)] hq9
  refine lv_i2l (v := jJ (u1.2.1 0)) hx hb dL_rain_7 (jJ_i (by omega)) ?_
  refine va_last hx hb hG.1 hP hD hS 0 2 rfl rfl (iI_in (by omega) (by decide)) dL_rain_8 (fun H locs hP hD hS => ?_)
  obtain ⟨hP, hD⟩ := arl 0 (fun _ => (iI (u1.2.1 0)).toInt64) hP hD rfl (arl_2 (by omega))
  obtain ⟨hP, hD⟩ := pw9 [zL ao (cy 2) 1 (fun _ => (iI (u1.2.1 0)).toInt64), zO kk 11 [vR ta, vR kr, vR kl, vI (u1.2.1 7), vI nw, vR sA, vR dA, vR pa, vR ki, vR kp, vI im, vR wa, vR or_, vR rq], zI rq (cy 0) 4 qf, zO ta 8 [vR tb, vI (u1.2.1 1), vI (u1.2.1 2), vI (u1.2.1 3), vI (u1.2.1 4), vI (u1.2.1 5), vI (u1.2.1 6)], zI tb (cy 1) 600 bf, zQ kr (cy 4) 4 krf, zO ra 5 [vR rf, vI (u1.2.1 8)], zI rf (cy 0) 240 (u1.2.2 0)] hP hD
  refine lv_goto (tgt := 15) hx hb dL_rain_9 (by decide) ?_
  refine lv_iconst (v := iI 0) hx hb dL_rain_15 (by decide) ?_
  refine W.widen (k := 1) (n := 6) (Nat.le_of_ble_eq_true rfl) (Nat.le_of_ble_eq_true rfl) ?_
  exact W.iret (v := iI 0) hx hb hr (fun t ht hW => ⟨⟨iI 0, ((fun k => ([] : List Nat).getD k 0), (fun k => ([0, (u1.2.1 1), (u1.2.1 2), (u1.2.1 3), (u1.2.1 4), (u1.2.1 5), (u1.2.1 6), (u1.2.1 7), (u1.2.1 8), 0, (u1.2.1 0)] : List Int).getD k 0), (fun k => ([(u1.2.2 0), qf] : List (Nat → Int32)).getD k (fun _ => 0))), rfl, ⟨rfl, (by show (0 ≤ (u1.2.1 1) ∧ (u1.2.1 1) ≤ 600); first | exact hq1_2 | omega), (by show (0 ≤ (u1.2.1 2) ∧ (u1.2.1 2) ≤ 600); first | exact hq1_3 | omega), (by show (0 ≤ (u1.2.1 3) ∧ (u1.2.1 3) ≤ 600); first | exact hq1_4 | omega), (by show (0 ≤ (u1.2.1 4) ∧ (u1.2.1 4) ≤ 600); first | exact hq1_5 | omega), (by show (0 ≤ (u1.2.1 5) ∧ (u1.2.1 5) ≤ 4); first | exact hq1_6 | omega), (by show ((-1) ≤ (u1.2.1 6) ∧ (u1.2.1 6) ≤ 600); first | exact hq1_7 | omega), (by show (0 ≤ (u1.2.1 7) ∧ (u1.2.1 7) ≤ 4); first | exact hq1_8 | omega), (by show (0 ≤ (u1.2.1 8) ∧ (u1.2.1 8) ≤ 240); first | exact hq1_9 | omega), (by show (0 ≤ 0 ∧ 0 ≤ 1); show (0 : Int) ≤ 0 ∧ (0 : Int) ≤ 1; decide), (by show ((-2147483648) ≤ (u1.2.1 0) ∧ (u1.2.1 0) ≤ 2147483647); first | exact hq1_1 | omega), (by show (0 ≤ n ∧ n ≤ fed → (u1.2.1 1) = 0); omega), (by show (¬ (0 ≤ n ∧ n ≤ fed) → (u1.2.1 1) = fed); omega), hq1_11⟩, at9 ht hP hD [1, 2, 3, 4, 5, 6, 7, 0] (by decide +kernel) rfl⟩, hS.F ht⟩) hS.2.2 dL_rain_16
def vs_w_law : List Cond := .codeWith yL_law cL_law 4 (some .int) [(0, 9, 12, 13)] :: (([.classLink RL 13 "java/lang/IllegalArgumentException"] : List Cond) ++ ((wsV RL 18 RX11 yX11_law vs_k_law) ++ ([])))
set_option maxHeartbeats 4000000 in
set_option maxRecDepth 100000 in
theorem w_law (l : Launch) (hl : l.stackTraces = false) (D : va_G) (cy : Nat → ClassId) (sa : Nat → Nat) (kk ta kr kl sA dA pa ki kp wa or_ rq : Nat) (nr nw im : Int) (qf : Nat → Int32) (tb : Nat) (fed len at_ we fa fp : Int) (bf : Nat → Int32) (klf : Nat → Option Nat) (la l0 l2 l3 : Nat) (size : Int) (st sf : Nat → Int32) (n : Int) (ao : Nat) (av : Int) (sz : Nat) (hr_nr : 0 ≤ nr ∧ nr ≤ 4) (hr_nw : 0 ≤ nw ∧ nw ≤ 4) (hr_im : 0 ≤ im ∧ im ≤ 3) (hr_fed : 0 ≤ fed ∧ fed ≤ 600) (hr_len : 0 ≤ len ∧ len ≤ 600) (hr_at_ : 0 ≤ at_ ∧ at_ ≤ 600) (hr_we : 0 ≤ we ∧ we ≤ 600) (hr_fa : 0 ≤ fa ∧ fa ≤ 4) (hr_fp : (-1) ≤ fp ∧ fp ≤ 600) (hr_size : 0 ≤ size ∧ size ≤ 600) (hr_n : (-2147483648) ≤ n ∧ n ≤ 2147483647) (hr_av : (-2147483648) ≤ av ∧ av ≤ 2147483647) (hp0 : nw < 4 → klf nw.toNat = some la) (hst : inv_ 600 0 2147483647 st) : mI9 l yL_law vs_w_law ({ frames := 90, cells := 2, slots := 9, locals := 6464 }) D cy sa sz [vR kk, vI n, vR ao] [zO kk 11 [vR ta, vR kr, vR kl, vI nr, vI nw, vR sA, vR dA, vR pa, vR ki, vR kp, vI im, vR wa, vR or_, vR rq], zI rq (cy 0) 4 qf, zO ta 8 [vR tb, vI fed, vI len, vI at_, vI we, vI fa, vI fp], zI tb (cy 1) 600 bf, zQ kl (cy 5) 4 klf, zO la 1 [vR l0, vI size, vR l2, vR l3], zI l0 (cy 0) 600 st, zI l2 (cy 0) 5 sf, zL ao (cy 2) 1 (fun _ => (iI av).toInt64)] (fun (r : Int32) (u : SV) => r = iI (u.2.1 9) ∧ (0 ≤ u.2.1 1 ∧ u.2.1 1 ≤ 600) ∧ (0 ≤ u.2.1 2 ∧ u.2.1 2 ≤ 600) ∧ (0 ≤ u.2.1 3 ∧ u.2.1 3 ≤ 600) ∧ (0 ≤ u.2.1 4 ∧ u.2.1 4 ≤ 600) ∧ (0 ≤ u.2.1 5 ∧ u.2.1 5 ≤ 4) ∧ ((-1) ≤ u.2.1 6 ∧ u.2.1 6 ≤ 600) ∧ (0 ≤ u.2.1 7 ∧ u.2.1 7 ≤ 4) ∧ (0 ≤ u.2.1 8 ∧ u.2.1 8 ≤ 600) ∧ (0 ≤ u.2.1 9 ∧ u.2.1 9 ≤ 1) ∧ ((-2147483648) ≤ u.2.1 10 ∧ u.2.1 10 ≤ 2147483647) ∧ (0 ≤ n ∧ n ≤ fed → u.2.1 1 = 0) ∧ (¬ (0 ≤ n ∧ n ≤ fed) → u.2.1 1 = fed) ∧ inv_ 600 0 2147483647 (u.2.2 0)) (fun u : SV => [zO kk 11 [vR ta, vR kr, vR kl, vI nr, vI (u.2.1 7), vR sA, vR dA, vR pa, vR ki, vR kp, vI im, vR wa, vR or_, vR rq], zI rq (cy 0) 4 (u.2.2 2), zO ta 8 [vR tb, vI (u.2.1 1), vI (u.2.1 2), vI (u.2.1 3), vI (u.2.1 4), vI (u.2.1 5), vI (u.2.1 6)], zI tb (cy 1) 600 bf, zQ kl (cy 5) 4 klf, zO la 1 [vR l0, vI (u.2.1 8), vR l2, vR l3], zI l0 (cy 0) 600 (u.2.2 0), zI l2 (cy 0) 5 (u.2.2 1), zL ao (cy 2) 1 (fun _ => (iI (u.2.1 10)).toInt64)]) 2 9 := by
  refine va_MetW (cc := cL_law) (maxL := 4) (ret := (some .int)) (by decide) rfl ?_
  intro p e s m args below meth c s₁ B hml hv
  obtain ⟨rfl, hsz, hP, hG, hD0, hT⟩ := hv
  have hx := B.exec
  have hb := B.bytes
  have hr := B.returns
  have hts := atoms_spec (ws := vs_w_law) B.pre
  have hown : s.vm.findClass RL = some m.cls := findClass_of_methodNamed B.named
  have hlocks := B.notSynchronized
  subst hsz
  have hD := hD0.self (sz := s.heap.size)
  generalize hAe : va_A [zO kk 11 [vR ta, vR kr, vR kl, vI nr, vI nw, vR sA, vR dA, vR pa, vR ki, vR kp, vI im, vR wa, vR or_, vR rq], zI rq (cy 0) 4 qf, zO ta 8 [vR tb, vI fed, vI len, vI at_, vI we, vI fa, vI fp], zI tb (cy 1) 600 bf, zQ kl (cy 5) 4 klf, zO la 1 [vR l0, vI size, vR l2, vR l3], zI l0 (cy 0) 600 st, zI l2 (cy 0) 5 sf, zL ao (cy 2) 1 (fun _ => (iI av).toInt64)] s.heap.size = A at hD hT ⊢
  have hA : ∀ q : Nat, s.heap.size ≤ q → A q := fun q h => by rw [← hAe]; exact Or.inr h
  have hS : va_S A s.heap s.heap [] := va_S.rf
  have hl0 := lv_entry ([vR kk, vI n, vR ao]) (n := 4) (Nat.le_of_ble_eq_true rfl)
  rw [lg_entry_eq]
  generalize (lg_sl ([vR kk, vI n, vR ao]) ++ List.replicate (4 - (lg_sl ([vR kk, vI n, vR ao])).length) Slot.unset).toArray = ls at hl0 ⊢
  have hlv : lv_has ls 4 [(0, vR kk), (1, vI n), (2, vR ao)] := hl0
  have gg_0 : GoodIn vs_w_law (wsV RL 18 RX11 yX11_law vs_k_law) := goodIn_sub (fun w h => List.mem_cons_of_mem _ (List.mem_append_right _ (List.mem_append_left _ h))) (gd_V gd_k_law (by decide +kernel))
  have xc13 := hts (.classLink RL 13 "java/lang/IllegalArgumentException") (List.mem_of_getElem? (i := 1) rfl)
  have htab : c.exceptionTable.toList = [(⟨0, 9, 12, 13⟩ : ExceptionTableEntry)] := vx_table (x := yL_law) B (hts (.codeWith yL_law cL_law 4 (some .int) [(0, 9, 12, 13)]) List.mem_cons_self)
  refine lv_aload_n hx hb dL_law_0 rfl (lv_at hlv 2 rfl) ?_
  refine lv_iconst (v := iI 0) hx hb dL_law_1 (by decide) ?_
  refine lv_aload_n hx hb dL_law_2 rfl (lv_at hlv 0 rfl) ?_
  refine lv_iload_n hx hb dL_law_3 rfl (lv_at hlv 1 rfl) ?_
  refine cjrx_i [false, false, false, false, false, false, false, false, true] (fun pre9 => (vx_runV (As := [vI n]) (rest := [vI 0, vR ao]) ⟨hx, hb, hml, hown, hts⟩ (k_law l hl D cy sa kk ta kr kl sA dA pa ki kp wa or_ rq nr nw im qf tb fed len at_ we fa fp bf klf la l0 l2 l3 size st sf n s.heap.size (by first | exact hr_nr | omega) (by first | exact hr_nw | omega) (by first | exact hr_im | omega) (by first | exact hr_fed | omega) (by first | exact hr_len | omega) (by first | exact hr_at_ | omega) (by first | exact hr_we | omega) (by first | exact hr_fa | omega) (by first | exact hr_fp | omega) (by first | exact hr_size | omega) (by first | exact hr_n | omega) hp0 hst) (cwV 1 hts gg_0 rfl rfl rfl (by decide +kernel) ⟨Nat.le_of_ble_eq_true rfl, Nat.le_of_ble_eq_true rfl⟩) ⟨pcW.blind, (va_recv hG.1 hP (ci := 11) (q0 := 0) rfl rfl), pre9⟩ rfl rfl hlv.1 rfl (lv_room (Nat.le_of_ble_eq_true rfl)) dL_law_4 ⟨Nat.le_of_ble_eq_true rfl, Nat.le_of_ble_eq_true rfl⟩)) hP hD hS hA hG hT [0, 1, 2, 3, 4, 5, 6, 7] rfl (by decide +kernel) (fun E ux1 ce q9 H locs hp hq9 hS h1 h2 h3 => ?_) (fun r1 u1 H locs hw1 hq9 hS => ?_)
  · obtain ⟨hP, hD⟩ := pd9 [zL ao (cy 2) 1 (fun _ => (iI av).toInt64), zO kk 11 [vR ta, vR kr, vR kl, vI nr, vI nw, vR sA, vR dA, vR pa, vR ki, vR kp, vI im, vR wa, vR or_, vR rq], zI rq (cy 0) 4 (ux1.2.2 0), zO ta 8 [vR tb, vI fed, vI len, vI at_, vI we, vI fa, vI fp], zI tb (cy 1) 600 bf, zQ kl (cy 5) 4 klf, zO la 1 [vR l0, vI size, vR l2, vR l3], zI l0 (cy 0) 600 st, zI l2 (cy 0) 5 sf] hq9
    obtain ⟨hp, hxg1⟩ := hp
    obtain rfl := hp
    refine vx_catch (name := "java/lang/IllegalArgumentException") hown [] (⟨0, 9, 12, 13⟩ : ExceptionTableEntry) [] htab (fun z hz => absurd hz List.not_mem_nil) (by decide) (by decide) xc13 (va_Nw.use rfl (hG.2.2.2.1 _ (List.mem_of_getElem? (i := 2) rfl))) h1 h2 h3 ?_
    refine lv_astore_n (lv' := [(3, vR q9), (0, vR kk), (1, vI n), (2, vR ao)]) hx hb dL_law_12 rfl hlv (by decide) rfl (fun ls hlv => ?_)
    refine lv_iconst (v := iI 1) hx hb dL_law_13 (by decide) ?_
    refine W.widen (k := 2) (n := 9) (Nat.le_of_ble_eq_true rfl) (Nat.le_of_ble_eq_true rfl) ?_
    exact W.iret (v := iI 1) hx hb hr (fun t ht hW => ⟨⟨iI 1, ((fun k => ([] : List Nat).getD k 0), (fun k => ([0, fed, len, at_, we, fa, fp, nw, size, 1, av] : List Int).getD k 0), (fun k => ([st, sf, (ux1.2.2 0)] : List (Nat → Int32)).getD k (fun _ => 0))), rfl, ⟨rfl, (by show (0 ≤ fed ∧ fed ≤ 600); first | exact hr_fed | omega), (by show (0 ≤ len ∧ len ≤ 600); first | exact hr_len | omega), (by show (0 ≤ at_ ∧ at_ ≤ 600); first | exact hr_at_ | omega), (by show (0 ≤ we ∧ we ≤ 600); first | exact hr_we | omega), (by show (0 ≤ fa ∧ fa ≤ 4); first | exact hr_fa | omega), (by show ((-1) ≤ fp ∧ fp ≤ 600); first | exact hr_fp | omega), (by show (0 ≤ nw ∧ nw ≤ 4); first | exact hr_nw | omega), (by show (0 ≤ size ∧ size ≤ 600); first | exact hr_size | omega), (by show (0 ≤ 1 ∧ 1 ≤ 1); show (0 : Int) ≤ 1 ∧ (1 : Int) ≤ 1; decide), (by show ((-2147483648) ≤ av ∧ av ≤ 2147483647); first | exact hr_av | omega), (by show (0 ≤ n ∧ n ≤ fed → fed = 0); omega), (by show (¬ (0 ≤ n ∧ n ≤ fed) → fed = fed); omega), hst⟩, at9 ht hP hD [1, 2, 3, 4, 5, 6, 7, 8, 0] (by decide +kernel) rfl⟩, hS.F ht⟩) hS.2.2 dL_law_14
  obtain ⟨rfl, hq1_1, hq1_2, hq1_3, hq1_4, hq1_5, hq1_6, hq1_7, hq1_8, hq1_9, hq1_10, hq1_11⟩ := hw1
  obtain ⟨hP, hD⟩ := pd9 [zL ao (cy 2) 1 (fun _ => (iI av).toInt64), zO kk 11 [vR ta, vR kr, vR kl, vI nr, vI (u1.2.1 7), vR sA, vR dA, vR pa, vR ki, vR kp, vI im, vR wa, vR or_, vR rq], zI rq (cy 0) 4 qf, zO ta 8 [vR tb, vI (u1.2.1 1), vI (u1.2.1 2), vI (u1.2.1 3), vI (u1.2.1 4), vI (u1.2.1 5), vI (u1.2.1 6)], zI tb (cy 1) 600 bf, zQ kl (cy 5) 4 klf, zO la 1 [vR l0, vI (u1.2.1 8), vR l2, vR l3], zI l0 (cy 0) 600 (u1.2.2 0), zI l2 (cy 0) 5 (u1.2.2 1)] hq9
  refine lv_i2l (v := jJ (u1.2.1 0)) hx hb dL_law_7 (jJ_i (by omega)) ?_
  refine va_last hx hb hG.1 hP hD hS 0 2 rfl rfl (iI_in (by omega) (by decide)) dL_law_8 (fun H locs hP hD hS => ?_)
  obtain ⟨hP, hD⟩ := arl 0 (fun _ => (iI (u1.2.1 0)).toInt64) hP hD rfl (arl_2 (by omega))
  obtain ⟨hP, hD⟩ := pw9 [zL ao (cy 2) 1 (fun _ => (iI (u1.2.1 0)).toInt64), zO kk 11 [vR ta, vR kr, vR kl, vI nr, vI (u1.2.1 7), vR sA, vR dA, vR pa, vR ki, vR kp, vI im, vR wa, vR or_, vR rq], zI rq (cy 0) 4 qf, zO ta 8 [vR tb, vI (u1.2.1 1), vI (u1.2.1 2), vI (u1.2.1 3), vI (u1.2.1 4), vI (u1.2.1 5), vI (u1.2.1 6)], zI tb (cy 1) 600 bf, zQ kl (cy 5) 4 klf, zO la 1 [vR l0, vI (u1.2.1 8), vR l2, vR l3], zI l0 (cy 0) 600 (u1.2.2 0), zI l2 (cy 0) 5 (u1.2.2 1)] hP hD
  refine lv_goto (tgt := 15) hx hb dL_law_9 (by decide) ?_
  refine lv_iconst (v := iI 0) hx hb dL_law_15 (by decide) ?_
  refine W.widen (k := 2) (n := 9) (Nat.le_of_ble_eq_true rfl) (Nat.le_of_ble_eq_true rfl) ?_
  exact W.iret (v := iI 0) hx hb hr (fun t ht hW => ⟨⟨iI 0, ((fun k => ([] : List Nat).getD k 0), (fun k => ([0, (u1.2.1 1), (u1.2.1 2), (u1.2.1 3), (u1.2.1 4), (u1.2.1 5), (u1.2.1 6), (u1.2.1 7), (u1.2.1 8), 0, (u1.2.1 0)] : List Int).getD k 0), (fun k => ([(u1.2.2 0), (u1.2.2 1), qf] : List (Nat → Int32)).getD k (fun _ => 0))), rfl, ⟨rfl, (by show (0 ≤ (u1.2.1 1) ∧ (u1.2.1 1) ≤ 600); first | exact hq1_2 | omega), (by show (0 ≤ (u1.2.1 2) ∧ (u1.2.1 2) ≤ 600); first | exact hq1_3 | omega), (by show (0 ≤ (u1.2.1 3) ∧ (u1.2.1 3) ≤ 600); first | exact hq1_4 | omega), (by show (0 ≤ (u1.2.1 4) ∧ (u1.2.1 4) ≤ 600); first | exact hq1_5 | omega), (by show (0 ≤ (u1.2.1 5) ∧ (u1.2.1 5) ≤ 4); first | exact hq1_6 | omega), (by show ((-1) ≤ (u1.2.1 6) ∧ (u1.2.1 6) ≤ 600); first | exact hq1_7 | omega), (by show (0 ≤ (u1.2.1 7) ∧ (u1.2.1 7) ≤ 4); first | exact hq1_8 | omega), (by show (0 ≤ (u1.2.1 8) ∧ (u1.2.1 8) ≤ 600); first | exact hq1_9 | omega), (by show (0 ≤ 0 ∧ 0 ≤ 1); show (0 : Int) ≤ 0 ∧ (0 : Int) ≤ 1; decide), (by show ((-2147483648) ≤ (u1.2.1 0) ∧ (u1.2.1 0) ≤ 2147483647); first | exact hq1_1 | omega), (by show (0 ≤ n ∧ n ≤ fed → (u1.2.1 1) = 0); omega), (by show (¬ (0 ≤ n ∧ n ≤ fed) → (u1.2.1 1) = fed); omega), hq1_11⟩, at9 ht hP hD [1, 2, 3, 4, 5, 6, 7, 8, 0] (by decide +kernel) rfl⟩, hS.F ht⟩) hS.2.2 dL_law_16
end
section

/-- how far a run of letters goes -/
def rnN (p : Int → Bool) (g : Nat → Int) (n : Nat) : Nat → Nat → Nat
  | 0, a => a
  | d + 1, a => if a < n ∧ p (g a) = true then rnN p g n d (a + 1) else a
def rnI (p : Int → Bool) (g : Nat → Int) (n a : Int) : Int := ((rnN p g n.toNat (n.toNat - a.toNat) a.toNat : Nat) : Int)
theorem rnI_go {p : Int → Bool} {g : Nat → Int} {n a b : Int} (h0 : 0 ≤ a) (h1 : a < n) (h2 : p (g a.toNat) = true) (hb : b = a + 1) : rnI p g n b = rnI p g n a := by
  subst hb
  unfold rnI
  have e1 : n.toNat - a.toNat = (n.toNat - (a + 1).toNat) + 1 := by omega
  have e2 : (a + 1).toNat = a.toNat + 1 := by omega
  rw [e1, show rnN p g n.toNat ((n.toNat - (a + 1).toNat) + 1) a.toNat = if a.toNat < n.toNat ∧ p (g a.toNat) = true then rnN p g n.toNat (n.toNat - (a + 1).toNat) (a.toNat + 1) else a.toNat from rfl, if_pos ⟨by omega, h2⟩, e2]
theorem rnI_stop {p : Int → Bool} {g : Nat → Int} {n a : Int} (h0 : 0 ≤ a) (h : ¬ (a < n ∧ p (g a.toNat) = true)) : rnI p g n a = a := by
  unfold rnI
  cases n.toNat - a.toNat with
  | zero => show ((a.toNat : Nat) : Int) = a; omega
  | succ d =>
    rw [show rnN p g n.toNat (d + 1) a.toNat = if a.toNat < n.toNat ∧ p (g a.toNat) = true then rnN p g n.toNat d (a.toNat + 1) else a.toNat from rfl, if_neg (fun q => h ⟨by omega, q.2⟩)]
    omega
theorem rnN_le (p : Int → Bool) (g : Nat → Int) (n : Nat) : ∀ d a : Nat, a ≤ rnN p g n d a ∧ (rnN p g n d a ≤ n ∨ rnN p g n d a = a) ∧ (n ≤ a + d → ¬ (rnN p g n d a < n ∧ p (g (rnN p g n d a)) = true))
  | 0, a => ⟨Nat.le_refl a, Or.inr rfl, fun q h => by have h1 : a < n := h.1; omega⟩
  | d + 1, a => by
    by_cases h : a < n ∧ p (g a) = true
    · have e : rnN p g n (d + 1) a = rnN p g n d (a + 1) := by
        show (if a < n ∧ p (g a) = true then rnN p g n d (a + 1) else a) = _
        rw [if_pos h]
      rw [e]
      have ih := rnN_le p g n d (a + 1)
      refine ⟨by omega, ?_, fun q => ih.2.2 (by omega)⟩
      rcases ih.2.1 with q | q
      · exact Or.inl q
      · exact Or.inl (by omega)
    · have e : rnN p g n (d + 1) a = a := by
        show (if a < n ∧ p (g a) = true then rnN p g n d (a + 1) else a) = _
        rw [if_neg h]
      rw [e]
      exact ⟨Nat.le_refl a, Or.inr rfl, fun _ => h⟩
theorem rnI_le (p : Int → Bool) (g : Nat → Int) {n a : Int} (h0 : 0 ≤ a) : a ≤ rnI p g n a ∧ (rnI p g n a ≤ n ∨ rnI p g n a = a) := by
  have h := rnN_le p g n.toNat (n.toNat - a.toNat) a.toNat
  unfold rnI
  refine ⟨by omega, ?_⟩
  rcases h.2.1 with q | q
  · by_cases hn : 0 ≤ n
    · exact Or.inl (by omega)
    · exact Or.inr (by omega)
  · exact Or.inr (by omega)
theorem rnI_end (p : Int → Bool) (g : Nat → Int) {n a : Int} (h0 : 0 ≤ a) : ¬ (rnI p g n a < n ∧ p (g (rnI p g n a).toNat) = true) := by
  have h := (rnN_le p g n.toNat (n.toNat - a.toNat) a.toNat).2.2 (by omega)
  unfold rnI
  exact fun q => h ⟨by omega, by simpa using q.2⟩
theorem rnI_id (p : Int → Bool) (g : Nat → Int) {n a : Int} (h0 : 0 ≤ a) : rnI p g n (rnI p g n a) = rnI p g n a :=
  rnI_stop (Int.le_trans h0 (rnI_le p g h0).1) (rnI_end p g h0)
def pSp (c : Int) : Bool := decide (c = 32)
def pSm (c : Int) : Bool := decide (97 ≤ c ∧ c ≤ 122)
def pDg (c : Int) : Bool := decide (48 ≤ c ∧ c ≤ 57)
theorem pSp_t {c : Int} (h : c = 32) : pSp c = true := decide_eq_true h
theorem pSm_t {c : Int} (h : 97 ≤ c ∧ c ≤ 122) : pSm c = true := decide_eq_true h
theorem pDg_t {c : Int} (h : 48 ≤ c ∧ c ≤ 57) : pDg c = true := decide_eq_true h
theorem pSp_i {c : Int} (h : pSp c = true) : c = 32 := of_decide_eq_true h
theorem pSm_i {c : Int} (h : pSm c = true) : 97 ≤ c ∧ c ≤ 122 := of_decide_eq_true h
theorem pDg_i {c : Int} (h : pDg c = true) : 48 ≤ c ∧ c ≤ 57 := of_decide_eq_true h
/-- the number that stands at a, no more than 10000 -/
def vlN (g : Nat → Int) (n : Nat) : Nat → Nat → Int → Int
  | 0, _, v => v
  | d + 1, a, v => if a < n ∧ pDg (g a) = true then vlN g n d (a + 1) (min (v * 10 + g a - 48) 10000) else v
def vlI (g : Nat → Int) (n a v : Int) : Int := vlN g n.toNat (n.toNat - a.toNat) a.toNat v
theorem vlI_go {g : Nat → Int} {n a b v w : Int} (h0 : 0 ≤ a) (h1 : a < n) (h2 : 48 ≤ g a.toNat ∧ g a.toNat ≤ 57) (hb : b = a + 1) (hw : w = min (v * 10 + g a.toNat - 48) 10000) : vlI g n b w = vlI g n a v := by
  subst hb hw
  unfold vlI
  have e1 : n.toNat - a.toNat = (n.toNat - (a + 1).toNat) + 1 := by omega
  have e2 : (a + 1).toNat = a.toNat + 1 := by omega
  rw [e1, show vlN g n.toNat ((n.toNat - (a + 1).toNat) + 1) a.toNat v = if a.toNat < n.toNat ∧ pDg (g a.toNat) = true then vlN g n.toNat (n.toNat - (a + 1).toNat) (a.toNat + 1) (min (v * 10 + g a.toNat - 48) 10000) else v from rfl, if_pos ⟨by omega, pDg_t h2⟩, e2]
theorem vlI_stop {g : Nat → Int} {n a v : Int} (h0 : 0 ≤ a) (h : ¬ (a < n ∧ 48 ≤ g a.toNat ∧ g a.toNat ≤ 57)) : vlI g n a v = v := by
  unfold vlI
  cases n.toNat - a.toNat with
  | zero => rfl
  | succ d => rw [show vlN g n.toNat (d + 1) a.toNat v = if a.toNat < n.toNat ∧ pDg (g a.toNat) = true then vlN g n.toNat d (a.toNat + 1) (min (v * 10 + g a.toNat - 48) 10000) else v from rfl, if_neg (fun q => h ⟨by omega, pDg_i q.2⟩)]
/-- a number's fault (0: none), and where it ends -/
def nF (g : Nat → Int) (n a lo hi : Int) : Int := if rnI pSp g n a < n ∧ pDg (g (rnI pSp g n a).toNat) = true then (if lo ≤ vlI g n (rnI pSp g n a) 0 ∧ vlI g n (rnI pSp g n a) 0 ≤ hi then 0 else 2) else 1
def nA (g : Nat → Int) (n a : Int) : Int := rnI pDg g n (rnI pSp g n a)
def nV (g : Nat → Int) (n a : Int) : Int := vlI g n (rnI pSp g n a) 0
theorem rn_sp {g : Nat → Int} {n x : Int} (h0 : 0 ≤ x) (h : ¬ (x < n ∧ g x.toNat = 32)) : rnI pSp g n x = x := rnI_stop h0 (fun q => h ⟨q.1, pSp_i q.2⟩)
theorem rn_sm {g : Nat → Int} {n x : Int} (h0 : 0 ≤ x) (h : ¬ (x < n ∧ 97 ≤ g x.toNat ∧ g x.toNat ≤ 122)) : rnI pSm g n x = x := rnI_stop h0 (fun q => h ⟨q.1, pSm_i q.2⟩)
theorem rn_dg {g : Nat → Int} {n x : Int} (h0 : 0 ≤ x) (h : ¬ (x < n ∧ 48 ≤ g x.toNat ∧ g x.toNat ≤ 57)) : rnI pDg g n x = x := rnI_stop h0 (fun q => h ⟨q.1, pDg_i q.2⟩)
theorem rn_nn {p : Int → Bool} {g : Nat → Int} {n a : Int} (h0 : 0 ≤ a) : 0 ≤ rnI p g n a := Int.le_trans h0 (rnI_le p g h0).1
/-- a step of reading: F its fault (0: none), P the fault's place, A its end; f, p, a ahead of it, f', p', a' behind -/
def RdS (F P A f p a' f' p' : Int) : Prop := (f ≠ 0 → f' = f ∧ p' = p) ∧ (f = 0 → f' = F ∧ (F = 0 → a' = A) ∧ (F ≠ 0 → p' = P))
def thF (F1 F2 : Int) : Int := if F1 = 0 then F2 else F1
def thP (F1 P1 P2 : Int) : Int := if F1 = 0 then P2 else P1
theorem RdS.nil {f p a : Int} : RdS 0 0 a f p a f p := ⟨fun _ => ⟨rfl, rfl⟩, fun q => ⟨q, fun _ => rfl, fun w => absurd rfl w⟩⟩
theorem RdS.ok {F P A f p a' f' p' : Int} (h : RdS F P A f p a' f' p') (hf : f' = 0) : f = 0 ∧ F = 0 ∧ a' = A := by
  by_cases q : f = 0
  · obtain ⟨e1, e2, e3⟩ := h.2 q
    exact ⟨q, by omega, e2 (by omega)⟩
  · have := h.1 q
    omega
theorem RdS.seq {F1 P1 A1 f p a1 f1 p1 a2 f2 p2 : Int} (F2 P2 A2 : Int → Int) (h1 : RdS F1 P1 A1 f p a1 f1 p1) (h2 : RdS (F2 a1) (P2 a1) (A2 a1) f1 p1 a2 f2 p2) : RdS (thF F1 (F2 A1)) (thP F1 P1 (P2 A1)) (A2 A1) f p a2 f2 p2 := by
  unfold thF thP
  refine ⟨fun q => ?_, fun q => ?_⟩
  · obtain ⟨e1, e2⟩ := h1.1 q
    have h3 := h2.1 (by omega)
    exact ⟨by omega, by omega⟩
  · obtain ⟨e1, e2, e3⟩ := h1.2 q
    by_cases hF : F1 = 0
    · have ea := e2 hF
      subst ea
      rw [if_pos hF, if_pos hF]
      exact h2.2 (by omega)
    · rw [if_neg hF, if_neg hF]
      have h3 := h2.1 (by omega)
      have h4 := e3 hF
      exact ⟨by omega, fun w => absurd w hF, fun _ => by omega⟩
/-- numbers one behind another -/
def chF (g : Nat → Int) (n : Int) : List (Int × Int) → Int → Int
  | [], _ => 0
  | q :: r, a => thF (nF g n a q.1 q.2) (chF g n r (nA g n a))
def chP (g : Nat → Int) (n : Int) : List (Int × Int) → Int → Int
  | [], _ => 0
  | q :: r, a => thP (nF g n a q.1 q.2) (rnI pSp g n a) (chP g n r (nA g n a))
def chA (g : Nat → Int) (n : Int) : List (Int × Int) → Int → Int
  | [], a => a
  | _ :: r, a => chA g n r (nA g n a)
def NuP (g : Nat → Int) (n lo hi a f p v a' f' p' : Int) : Prop := RdS (nF g n a lo hi) (rnI pSp g n a) (nA g n a) f p a' f' p' ∧ (f' = 0 → v = nV g n a)
theorem ch_c {g : Nat → Int} {n lo hi a f p v a1 f1 p1 a' f' p' : Int} {r : List (Int × Int)} (h : NuP g n lo hi a f p v a1 f1 p1) (k : RdS (chF g n r a1) (chP g n r a1) (chA g n r a1) f1 p1 a' f' p') : RdS (chF g n ((lo, hi) :: r) a) (chP g n ((lo, hi) :: r) a) (chA g n ((lo, hi) :: r) a) f p a' f' p' :=
  RdS.seq (chF g n r) (chP g n r) (chA g n r) h.1 k
theorem ch_n {g : Nat → Int} {n a f p : Int} : RdS (chF g n [] a) (chP g n [] a) (chA g n [] a) f p a f p := RdS.nil
def sgF (g : Nat → Int) (n c a : Int) : Int := if rnI pSp g n a < n ∧ g (rnI pSp g n a).toNat = c then 0 else 1
def SgP (g : Nat → Int) (n c a f p a' f' p' : Int) : Prop := RdS (sgF g n c a) (rnI pSp g n a) (rnI pSp g n a + 1) f p a' f' p'
/-- sign: what stands there (or -1), the place behind the blanks -/
def SiS (g : Nat → Int) (n a f r a' : Int) : Prop := (f ≠ 0 → r = -1 ∧ a' = a) ∧ (f = 0 → a' = rnI pSp g n a ∧ (a' < n → r = g a'.toNat) ∧ (¬ a' < n → r = -1))
theorem SiS_1 {g : Nat → Int} {n a f : Int} (h : f ≠ 0) : SiS g n a f (-1) a := ⟨fun _ => ⟨rfl, rfl⟩, fun q => absurd q h⟩
theorem SiS_2 {g : Nat → Int} {n a f x : Int} (hf : f = 0) (hl : rnI pSp g n x = rnI pSp g n a) (h0 : 0 ≤ x) (hx : ¬ x < n) : SiS g n a f (-1) x :=
  ⟨fun q => absurd hf q, fun _ => ⟨by rw [← hl, rn_sp h0 (fun q => hx q.1)], fun q => absurd q hx, fun _ => rfl⟩⟩
theorem SiS_3 {g : Nat → Int} {n a f x r : Int} (hf : f = 0) (hl : rnI pSp g n x = rnI pSp g n a) (h0 : 0 ≤ x) (hx : x < n) (hg : g x.toNat ≠ 32) (hr : r = g x.toNat) : SiS g n a f r x :=
  ⟨fun q => absurd hf q, fun _ => ⟨by rw [← hl, rn_sp h0 (fun q => hg q.2)], fun _ => hr, fun q => absurd hx q⟩⟩
def HmS (g : Nat → Int) (n a f r a' : Int) : Prop := (f ≠ 0 → r = 0 ∧ a' = a) ∧ (f = 0 → a' = rnI pSp g n a ∧ (r = 1 → a' < n) ∧ (r = 0 → ¬ a' < n))
theorem HmS_of {g : Nat → Int} {n a f x r b : Int} (hg : ∀ k : Nat, (k : Int) < n → 0 ≤ g k) (h : SiS g n a f x b) (h0 : 0 ≤ b) (hr : (x ≠ -1 ∧ r = 1) ∨ (x = -1 ∧ r = 0)) : HmS g n a f r b := by
  refine ⟨fun q => ?_, fun q => ?_⟩
  · have := h.1 q
    exact ⟨by omega, this.2⟩
  · obtain ⟨h1, h2, h3⟩ := h.2 q
    refine ⟨h1, fun w => ?_, fun w w1 => ?_⟩
    · by_cases hb : b < n
      · exact hb
      · have := h3 hb; omega
    · have := h2 w1
      have := hg b.toNat (by omega)
      omega
theorem NuP_1 {g : Nat → Int} {n lo hi a f p r b v a' f' p' : Int} (h : SiS g n a f r b) (hr : ¬ (48 ≤ r ∧ r ≤ 57)) (h1 : f ≠ 0 → f' = f ∧ p' = p) (h2 : f = 0 → f' = 1 ∧ p' = b) : NuP g n lo hi a f p v a' f' p' := by
  refine ⟨⟨h1, fun q => ?_⟩, fun q => ?_⟩
  · obtain ⟨e1, e2, e3⟩ := h.2 q
    obtain ⟨w1, w2⟩ := h2 q
    have e4 : nF g n a lo hi = 1 := by
      unfold nF
      rw [if_neg (fun w => hr ?_)]
      rw [← e1] at w
      rw [e2 w.1]
      exact pDg_i w.2
    rw [e4]
    exact ⟨w1, fun w => absurd w (by decide), fun _ => by omega⟩
  · by_cases w : f = 0
    · have := h2 w; omega
    · have := h1 w; omega
theorem NuP_2 {g : Nat → Int} {n lo hi a f p r b x v a' f' p' : Int} (h : SiS g n a f r b) (hr : 48 ≤ r ∧ r ≤ 57) (hl : rnI pDg g n x = rnI pDg g n b) (hv : vlI g n x v = vlI g n b 0) (hx : 0 ≤ x) (hs : ¬ (x < n ∧ 48 ≤ g x.toNat ∧ g x.toNat ≤ 57)) (h1 : (lo ≤ v ∧ v ≤ hi ∧ f' = f ∧ a' = x) ∨ (¬ (lo ≤ v ∧ v ≤ hi) ∧ (f = 0 → f' = 2 ∧ p' = b))) : NuP g n lo hi a f p v a' f' p' := by
  have hf : f = 0 := by
    by_cases q : f = 0
    · exact q
    · have := (h.1 q).1; omega
  obtain ⟨e1, e2, e3⟩ := h.2 hf
  have hb : b < n := by
    by_cases q : b < n
    · exact q
    · have := e3 q; omega
  have e4 := e2 hb
  have ev : vlI g n (rnI pSp g n a) 0 = v := by rw [← e1, ← hv]; exact vlI_stop hx hs
  have ex : nA g n a = x := by unfold nA; rw [← e1, ← hl]; exact rn_dg hx hs
  have ec : rnI pSp g n a < n ∧ pDg (g (rnI pSp g n a).toNat) = true := by rw [← e1]; exact ⟨hb, pDg_t (by rw [← e4]; exact hr)⟩
  have eF : nF g n a lo hi = if lo ≤ v ∧ v ≤ hi then 0 else 2 := by unfold nF; rw [if_pos ec, ev]
  refine ⟨⟨fun q => absurd hf q, fun _ => ?_⟩, fun _ => ev.symm⟩
  rw [eF, ex]
  rcases h1 with ⟨w1, w2, w3, w4⟩ | ⟨w1, w2⟩
  · rw [if_pos ⟨w1, w2⟩]
    exact ⟨by omega, fun _ => w4, fun w => absurd rfl w⟩
  · rw [if_neg w1]
    obtain ⟨q1, q2⟩ := w2 hf
    exact ⟨q1, fun w => absurd w (by decide), fun _ => by omega⟩
theorem SgP_1 {g : Nat → Int} {n c a f p r b a' f' p' : Int} (h : SiS g n a f r b) (hc : 0 ≤ c) (hr : r = c) (hf : f' = f) (ha : a' = b + 1) : SgP g n c a f p a' f' p' := by
  have q : f = 0 := by
    by_cases q : f = 0
    · exact q
    · have := (h.1 q).1; omega
  obtain ⟨e1, e2, e3⟩ := h.2 q
  have hb : b < n := by
    by_cases w : b < n
    · exact w
    · have := e3 w; omega
  have e4 := e2 hb
  have eF : sgF g n c a = 0 := by
    unfold sgF
    rw [← e1, if_pos ⟨hb, by omega⟩]
  refine ⟨fun w => absurd q w, fun _ => ?_⟩
  rw [eF, ← e1]
  exact ⟨by omega, fun _ => ha, fun w => absurd rfl w⟩
theorem SgP_2 {g : Nat → Int} {n c a f p r b a' f' p' : Int} (h : SiS g n a f r b) (hr : r ≠ c) (h1 : f ≠ 0 → f' = f ∧ p' = p) (h2 : f = 0 → f' = 1 ∧ p' = b) : SgP g n c a f p a' f' p' := by
  refine ⟨h1, fun q => ?_⟩
  obtain ⟨e1, e2, e3⟩ := h.2 q
  obtain ⟨w1, w2⟩ := h2 q
  have eF : sgF g n c a = 1 := by
    unfold sgF
    rw [if_neg (fun w => hr ?_)]
    rw [← e1] at w
    rw [e2 w.1]
    exact w.2
  rw [eF]
  exact ⟨w1, fun w => absurd w (by decide), fun _ => by omega⟩
/-- a word of the table stands at p -/
def isW (g : Nat → Int) (n p k : Int) : Prop := rnI pSm g n p = p + slen k ∧ ∀ t : Int, 0 ≤ t → t < slen k → g (p + t).toNat = sch k t
def isWb (g : Nat → Int) (n p k : Int) : Bool := (rnI pSm g n p == p + slen k) && (List.range (slen k).toNat).all (fun t => g (p + (t : Int)).toNat == sch k (t : Int))
theorem isWb_iff {g : Nat → Int} {n p k : Int} : isWb g n p k = true ↔ isW g n p k := by
  unfold isWb isW
  rw [Bool.and_eq_true, List.all_eq_true]
  constructor
  · intro h
    refine ⟨by simpa using h.1, fun t h0 h1 => ?_⟩
    have := h.2 t.toNat (List.mem_range.mpr (by omega))
    rw [show ((t.toNat : Nat) : Int) = t by omega] at this
    simpa using this
  · intro h
    refine ⟨by simpa using h.1, fun t ht => ?_⟩
    have := h.2 (t : Int) (by omega) (by have := List.mem_range.mp ht; omega)
    simpa using this
/-- which word stands at p (0: none) -/
def wk (g : Nat → Int) (n p : Int) : Int := (([1, 2, 3, 4, 5, 6, 7, 8, 9, 10, 11, 12, 13, 14, 15, 16, 17, 18, 19, 20, 21, 22, 23, 24, 25, 26, 27] : List Int).find? (isWb g n p)).getD 0
theorem gD_ {l : List Int} {i : Nat} (h : i < l.length) : l.getD i 0 = l[i] := by rw [List.getD_eq_getElem?_getD, List.getElem?_eq_getElem h, Option.getD_some]
theorem wdT_inj : ∀ k : Nat, k < 28 → ∀ j : Nat, j < 28 → wdT.getD k [] = wdT.getD j [] → k = j := by decide +kernel
theorem isW_uniq {g : Nat → Int} {n p k j : Int} (hk : 0 ≤ k ∧ k ≤ 27) (hj : 0 ≤ j ∧ j ≤ 27) (h1 : isW g n p k) (h2 : isW g n p j) : k = j := by
  have e1 : slen k = slen j := by have a := h1.1; have b := h2.1; omega
  have e2 : wdT.getD k.toNat [] = wdT.getD j.toNat [] := by
    refine List.ext_getElem (by unfold slen at e1; omega) (fun i a b => ?_)
    have q1 := h1.2 (i : Int) (by omega) (by unfold slen; omega)
    have q2 := h2.2 (i : Int) (by omega) (by unfold slen; omega)
    rw [q1] at q2
    unfold sch at q2
    rw [show ((i : Int)).toNat = i by omega, gD_ a, gD_ b] at q2
    exact q2
  have := wdT_inj k.toNat (by omega) j.toNat (by omega) e2
  omega
theorem wk_of {g : Nat → Int} {n p k : Int} (hk : 1 ≤ k ∧ k ≤ 27) (h : isW g n p k) : wk g n p = k := by
  unfold wk
  cases hf : (([1, 2, 3, 4, 5, 6, 7, 8, 9, 10, 11, 12, 13, 14, 15, 16, 17, 18, 19, 20, 21, 22, 23, 24, 25, 26, 27] : List Int).find? (isWb g n p)) with
  | none =>
    have := List.find?_eq_none.mp hf k (by simp; omega)
    exact absurd (isWb_iff.mpr h) this
  | some j =>
    have h1 := isWb_iff.mp (List.find?_some hf)
    have h2 := List.mem_of_find?_eq_some hf
    have h3 : 0 ≤ j ∧ j ≤ 27 := by simp at h2; omega
    exact (isW_uniq ⟨by omega, by omega⟩ h3 h h1).symm
theorem wk_no {g : Nat → Int} {n p : Int} (h : ∀ j : Int, 1 ≤ j → j ≤ 27 → ¬ isW g n p j) : wk g n p = 0 := by
  unfold wk
  rw [List.find?_eq_none.mpr (fun j hj => fun w => ?_)]
  · rfl
  · exact h j (by simp at hj; omega) (by simp at hj; omega) (isWb_iff.mp w)
theorem wk_r (g : Nat → Int) (n p : Int) : 0 ≤ wk g n p ∧ wk g n p ≤ 27 ∧ (1 ≤ wk g n p → isW g n p (wk g n p)) := by
  unfold wk
  cases hf : (([1, 2, 3, 4, 5, 6, 7, 8, 9, 10, 11, 12, 13, 14, 15, 16, 17, 18, 19, 20, 21, 22, 23, 24, 25, 26, 27] : List Int).find? (isWb g n p)) with
  | none => exact ⟨by decide, by decide, fun q => absurd q (by decide)⟩
  | some j =>
    have h2 := List.mem_of_find?_eq_some hf
    show 0 ≤ j ∧ j ≤ 27 ∧ (1 ≤ j → isW g n p j)
    exact ⟨by simp at h2; omega, by simp at h2; omega, fun _ => isWb_iff.mp (List.find?_some hf)⟩
theorem wk_iff {g : Nat → Int} {n p k : Int} (hk : 1 ≤ k ∧ k ≤ 27) : wk g n p = k ↔ isW g n p k := by
  constructor
  · intro h
    have := (wk_r g n p).2.2 (by omega)
    rw [h] at this
    exact this
  · exact wk_of hk
theorem wk_end {g : Nat → Int} {n p : Int} (h0 : 0 ≤ p) (h : ¬ p < n) : wk g n p = 0 := by
  have e : rnI pSm g n p = p := rnI_stop h0 (fun q => h q.1)
  have hr := wk_r g n p
  by_cases q : 1 ≤ wk g n p
  · have h1 := (hr.2.2 q).1
    have h2 : ∀ k : Nat, k < 28 → 1 ≤ k → 1 ≤ slen (k : Int) := by decide
    have h3 := h2 (wk g n p).toNat (by omega) (by omega)
    rw [show (((wk g n p).toNat : Nat) : Int) = wk g n p by omega] at h3
    omega
  · omega
/-- word: which one, the place behind the blanks, its end -/
def WoP (g : Nat → Int) (n a f k a' w : Int) : Prop := (f ≠ 0 → k = 0 ∧ a' = a) ∧ (f = 0 → a' = rnI pSp g n a ∧ k = wk g n a' ∧ (a' < n → w = rnI pSm g n a'))
/-- an array's numbers, one of them anew -/
def upz (F : Nat → Int) (e v : Int) : Nat → Int := fun j => if (j : Int) = e then v else F j
theorem upz_s {F : Nat → Int} {e v : Int} {j : Nat} (h : (j : Int) = e) : upz F e v j = v := if_pos h
theorem upz_n {F : Nat → Int} {e v : Int} {j : Nat} (h : (j : Int) ≠ e) : upz F e v j = F j := if_neg h
theorem upz_c {f f1 : Nat → Int32} {F : Nat → Int} {e v e' v' : Int} (h : nz f = F) (hd : f1 = upd f (iI e).toNatClampNeg (iI v)) (he : 0 ≤ e ∧ e ≤ 2147483647) (hv : -2147483648 ≤ v ∧ v ≤ 2147483647) (ee : e = e') (ev : v = v') : nz f1 = upz F e' v' := by
  subst ee ev h
  funext j
  by_cases q : (j : Int) = e
  · rw [upz_s q]; exact nz_us hd he hv q
  · rw [upz_n q]; exact nz_un hd he q
/-- a byte of the class's tape, as the document counts it -/
def gz (f : Nat → Int32) (k : Nat) : Int := nz f k % 256
theorem nz_rd {f : Nat → Int32} {z i : Int} (hz : z = nz f i.toNat) (he : 0 ≤ i ∧ i ≤ 2147483647) : f (iI i).toNatClampNeg = iI z := by
  rw [iI_cl he.1 he.2, hz]
  exact nz_e f i.toNat
/-- the class's tape holds bytes -/
def BR (f : Nat → Int32) : Prop := ∀ k : Nat, k < 600 → -128 ≤ nz f k ∧ nz f k ≤ 127
theorem am_eq {z w : Int} {mk : Int32} (h : iI z &&& mk = iI w) (hm : mk.toBitVec.toNat = 2 ^ 8 - 1) (hw : 0 ≤ w ∧ w ≤ 255) : w = z % 256 := by
  have h1 : ((iI z &&& mk).toBitVec).toNat = ((iI w).toBitVec).toNat := by rw [h]
  rw [Int32.toBitVec_and, BitVec.toNat_and, hm, Nat.and_two_pow_sub_one_eq_mod] at h1
  have e1 : ((iI z).toBitVec).toNat = (z % 4294967296).toNat := by
    show (BitVec.ofInt 32 z).toNat = _
    rw [BitVec.toNat_ofInt]; rfl
  have e2 : ((iI w).toBitVec).toNat = (w % 4294967296).toNat := by
    show (BitVec.ofInt 32 w).toNat = _
    rw [BitVec.toNat_ofInt]; rfl
  rw [e1, e2] at h1
  omega
/-- the class's tape tells the letters g -/
def TPg (f : Nat → Int32) (g : Nat → Int) : Prop := BR f ∧ ∀ k : Nat, k < 600 → gz f k = g k
theorem TPg.at {f : Nat → Int32} {g : Nat → Int} (h : TPg f g) {x : Int} (hx : 0 ≤ x ∧ x < 600) : nz f x.toNat % 256 = g x.toNat ∧ -128 ≤ nz f x.toNat ∧ nz f x.toNat ≤ 127 := ⟨h.2 x.toNat (by omega), h.1 x.toNat (by omega)⟩
theorem TPg.nn {f : Nat → Int32} {g : Nat → Int} (h : TPg f g) {n : Int} (hn : n ≤ 600) (k : Nat) (hk : (k : Int) < n) : 0 ≤ g k := by
  have := h.2 k (by omega)
  unfold gz at this
  omega
/-- a word of the table stands from fr to en -/
def FM (f : Nat → Int32) (fr en k : Int) : Prop := en = fr + slen k ∧ ∀ t : Int, 0 ≤ t → t < slen k → nz f (fr + t).toNat = sch k t
def FMn (f : Nat → Int32) (fr en q : Int) : Prop := ∀ j : Int, 0 ≤ j → j < q → ¬ FM f fr en j
theorem FMn_0 {f : Nat → Int32} {fr en : Int} : FMn f fr en 0 := fun j h0 h1 => absurd h1 (by omega)
theorem FMn_s {f : Nat → Int32} {fr en q q1 : Int} (h : FMn f fr en q) (hn : ¬ FM f fr en q) (e : q1 = q + 1) : FMn f fr en q1 := by
  intro j h0 h1
  by_cases w : j = q
  · rw [w]; exact hn
  · exact h j h0 (by omega)
theorem sl_pos : ∀ k : Nat, k < 28 → 1 ≤ k → 1 ≤ slen (k : Int) := by decide
theorem sl_0 : slen 0 = 0 := by decide
def FMr (f : Nat → Int32) (fr en k : Int) : Prop := (1 ≤ k → FM f fr en k) ∧ (k = 0 → ∀ j : Int, 1 ≤ j → j ≤ 27 → ¬ FM f fr en j)
theorem FMr_f {f : Nat → Int32} {fr en q : Int} (hq : 0 ≤ q ∧ q ≤ 27) (h : FM f fr en q) : FMr f fr en q := by
  refine ⟨fun _ => h, fun e j h1 h2 w => ?_⟩
  have a := h.1
  have b := w.1
  rw [e, sl_0] at a
  have c := sl_pos j.toNat (by omega) (by omega)
  rw [show ((j.toNat : Nat) : Int) = j by omega] at c
  omega
theorem FMr_n {f : Nat → Int32} {fr en q : Int} (h : FMn f fr en q) (hq : ¬ q < 28) : FMr f fr en 0 := ⟨fun w => absurd w (by decide), fun _ j h1 h2 => h j (by omega) (by omega)⟩
theorem sch_lo : ∀ k : Nat, k < 28 → ∀ i : Nat, i < (wdT.getD k []).length → 97 ≤ (wdT.getD k []).getD i 0 ∧ (wdT.getD k []).getD i 0 ≤ 122 := fun k hk i hi => sch_r k (by omega) i hi
theorem FM_W {f : Nat → Int32} {g : Nat → Int} {n b x k : Int} (hT : TPg f g) (hn : n ≤ 600) (hb : 0 ≤ b) (hx : x ≤ 600) (hk : 0 ≤ k ∧ k ≤ 27) (e : rnI pSm g n b = x) : FM f b x k ↔ isW g n b k := by
  constructor
  · intro h
    refine ⟨by rw [e]; exact h.1, fun t h0 h1 => ?_⟩
    have a := h.2 t h0 h1
    have q := TPg.at hT (x := b + t) (by have := h.1; omega)
    have r := sch_lo k.toNat (by omega) t.toNat (by unfold slen at h1; omega)
    have r2 : sch k t = (wdT.getD k.toNat []).getD t.toNat 0 := rfl
    omega
  · intro h
    have e2 : x = b + slen k := by rw [← e]; exact h.1
    refine ⟨e2, fun t h0 h1 => ?_⟩
    have a := h.2 t h0 h1
    have q := TPg.at hT (x := b + t) (by omega)
    have r := sch_lo k.toNat (by omega) t.toNat (by unfold slen at h1; omega)
    have r2 : sch k t = (wdT.getD k.toNat []).getD t.toNat 0 := rfl
    omega
theorem WoP_1 {g : Nat → Int} {n a f r b w : Int} (hg : ∀ k : Nat, (k : Int) < n → 0 ≤ g k) (h : SiS g n a f r b) (h0 : 0 ≤ b) (hr : r = -1) : WoP g n a f 0 b w := by
  refine ⟨fun q => ⟨rfl, (h.1 q).2⟩, fun q => ?_⟩
  obtain ⟨h1, h2, h3⟩ := h.2 q
  have hb : ¬ b < n := by
    intro w
    have := h2 w
    have := hg b.toNat (by omega)
    omega
  exact ⟨h1, (wk_end h0 hb).symm, fun w => absurd w hb⟩
theorem WoP_2 {f0 : Nat → Int32} {g : Nat → Int} {n a f r b x k : Int} (hT : TPg f0 g) (hn : n ≤ 600) (h : SiS g n a f r b) (hr : r ≠ -1) (hb : 0 ≤ b) (hl : rnI pSm g n x = rnI pSm g n b) (hx : 0 ≤ x ∧ x ≤ 600) (hs : ¬ (x < n ∧ 97 ≤ g x.toNat ∧ g x.toNat ≤ 122)) (hk : 0 ≤ k ∧ k ≤ 27) (hm : FMr f0 b x k) : WoP g n a f k b x := by
  have hf : f = 0 := by
    by_cases q : f = 0
    · exact q
    · exact absurd (h.1 q).1 hr
  refine ⟨fun q => absurd hf q, fun _ => ?_⟩
  obtain ⟨h1, h2, h3⟩ := h.2 hf
  have e : rnI pSm g n b = x := by rw [← hl]; exact rn_sm hx.1 hs
  refine ⟨h1, ?_, fun _ => e.symm⟩
  by_cases q : k = 0
  · rw [q]
    exact (wk_no (fun j j1 j2 w => hm.2 q j j1 j2 ((FM_W hT hn hb hx.2 ⟨by omega, j2⟩ e).mpr w))).symm
  · exact (wk_of ⟨by omega, hk.2⟩ ((FM_W hT hn hb hx.2 hk e).mp (hm.1 (by omega)))).symm
theorem WoP_e {g : Nat → Int} {n a f k b w : Int} (h : WoP g n a f k b w) (hf : f = 0) : b = rnI pSp g n a ∧ k = wk g n (rnI pSp g n a) ∧ (rnI pSp g n a < n → w = rnI pSm g n (rnI pSp g n a)) := by
  obtain ⟨h1, h2, h3⟩ := h.2 hf
  rw [← h1]
  exact ⟨rfl, h2, h3⟩
theorem NuP.hi {g : Nat → Int} {n lo hi lo' hi' a f p v a' f' p' : Int} (h : NuP g n lo hi a f p v a' f' p') (e1 : lo = lo') (e2 : hi = hi') : NuP g n lo' hi' a f p v a' f' p' := by
  subst e1 e2
  exact h
/-- what the words of a clause ask for -/
def clL (nb : Nat → Int) (k : Int) (g : Nat → Int) (n a : Int) : List (Int × Int) :=
  if k = 1 then [(2, 16), (1, 6)]
  else if k = 2 then [(0, nb 0 - 1), (0, nb 1 - 1), (0, 99)]
  else if k = 3 then [(0, nb 0 - 1), (0, nb 1 - 1), (1, 99), (0, 16)]
  else if k = 4 then [(0, nb 0 - 1), (0, 19)]
  else if k = 5 then [(0, nb 0 - 1), (nV g n a, nb 0 - 1)]
  else if k = 6 then [(0, nb 2 - 1), (1, 99)]
  else if k = 9 then [(0, nb 0 - 1), (0, nb 1 - 1), (1, 99), (1, 99)]
  else [(0, nb 0 - 1), (0, nb 1 - 1), (1, 50), (1, 99)]
abbrev v1 (g : Nat → Int) (n a : Int) : Int := nV g n a
abbrev v2 (g : Nat → Int) (n a : Int) : Int := nV g n (nA g n a)
abbrev v3 (g : Nat → Int) (n a : Int) : Int := nV g n (nA g n (nA g n a))
abbrev v4 (g : Nat → Int) (n a : Int) : Int := nV g n (nA g n (nA g n (nA g n a)))
def wkB (nb : Nat → Int) (kd x y b c : Int) : Nat → Int := upz (upz (upz (upz (upz (upz nb (28 + 5 * nb 5) kd) (29 + 5 * nb 5) x) (30 + 5 * nb 5) y) (31 + 5 * nb 5) b) (32 + 5 * nb 5) c) 5 (nb 5 + 1)
/-- the street behind a clause: its counts and what it is told (as the reference keeps them) -/
def clB (nb : Nat → Int) (k : Int) (g : Nat → Int) (n a : Int) : Nat → Int :=
  if k = 1 then upz (upz nb 0 (v1 g n a)) 1 (v2 g n a)
  else if k = 2 then nb
  else if k = 3 then upz (upz (upz (upz nb (6 + 3 * nb 2) (v1 g n a)) (7 + 3 * nb 2) (v2 g n a)) (8 + 3 * nb 2) (v3 g n a)) 2 (nb 2 + 1)
  else if k = 4 then upz nb 3 (nb 3 + 1)
  else if k = 5 then upz (upz (upz nb (24 + 2 * nb 4) (v1 g n a)) (25 + 2 * nb 4) (v2 g n a)) 4 (nb 4 + 1)
  else if k = 6 then wkB nb 0 (v1 g n a) 0 0 (v2 g n a)
  else wkB nb (k - 6) (v1 g n a) (v2 g n a) (v3 g n a) (v4 g n a)
def clT (nb ns : Nat → Int) (k : Int) (g : Nat → Int) (n a : Int) : Nat → Int :=
  if k = 2 then upz ns (16 * v2 g n a + v1 g n a) (v3 g n a)
  else if k = 3 then upz ns (192 + nb 2) (v4 g n a)
  else if k = 4 then upz (upz ns (216 + nb 3) (v1 g n a)) (225 + nb 3) (v2 g n a)
  else ns
/-- a count is full -/
def isFl (nb : Nat → Int) (k : Int) : Prop := (k = 3 ∧ nb 2 = 6) ∨ (k = 4 ∧ nb 3 = 8) ∨ (k = 5 ∧ nb 4 = 2) ∨ (6 ≤ k ∧ k ≤ 9 ∧ nb 5 = 8)
def isFb (nb : Nat → Int) (k : Int) : Bool := decide ((k = 3 ∧ nb 2 = 6) ∨ (k = 4 ∧ nb 3 = 8) ∨ (k = 5 ∧ nb 4 = 2) ∨ (6 ≤ k ∧ k ≤ 9 ∧ nb 5 = 8))
/-- a clause whose word k stands at p: its fault, the fault's place, its end -/
def kF (g : Nat → Int) (n m k p : Int) (nb : Nat → Int) : Int :=
  if ¬ (1 ≤ k ∧ k ≤ 9) then 1 else if m = 60 ∨ isFb nb k = true then 3 else if k = 1 ∧ 0 < m then 4
  else thF (chF g n (clL nb k g n (rnI pSm g n p)) (rnI pSm g n p)) (sgF g n 59 (chA g n (clL nb k g n (rnI pSm g n p)) (rnI pSm g n p)))
def kP (g : Nat → Int) (n m k p : Int) (nb : Nat → Int) : Int :=
  if ¬ (1 ≤ k ∧ k ≤ 9) then p else if m = 60 ∨ isFb nb k = true then p else if k = 1 ∧ 0 < m then p
  else thP (chF g n (clL nb k g n (rnI pSm g n p)) (rnI pSm g n p)) (chP g n (clL nb k g n (rnI pSm g n p)) (rnI pSm g n p)) (rnI pSp g n (chA g n (clL nb k g n (rnI pSm g n p)) (rnI pSm g n p)))
def kA (g : Nat → Int) (n k p : Int) (nb : Nat → Int) : Int := rnI pSp g n (chA g n (clL nb k g n (rnI pSm g n p)) (rnI pSm g n p)) + 1
def cF (g : Nat → Int) (n m a : Int) (nb : Nat → Int) : Int := kF g n m (wk g n (rnI pSp g n a)) (rnI pSp g n a) nb
def cP (g : Nat → Int) (n m a : Int) (nb : Nat → Int) : Int := kP g n m (wk g n (rnI pSp g n a)) (rnI pSp g n a) nb
def cA (g : Nat → Int) (n a : Int) (nb : Nat → Int) : Int := kA g n (wk g n (rnI pSp g n a)) (rnI pSp g n a) nb
def cB (g : Nat → Int) (n a : Int) (nb : Nat → Int) : Nat → Int := clB nb (wk g n (rnI pSp g n a)) g n (rnI pSm g n (rnI pSp g n a))
def cT (g : Nat → Int) (n a : Int) (nb ns : Nat → Int) : Nat → Int := clT nb ns (wk g n (rnI pSp g n a)) g n (rnI pSm g n (rnI pSp g n a))
/-- the street behind m clauses, at a: fault, place, the street -/
def stN (g : Nat → Int) (n : Int) : Nat → Int → Int → (Nat → Int) → (Nat → Int) → (Int × Int) × (Nat → Int) × (Nat → Int)
  | 0, _, _, nb, ns => ((0, -1), nb, ns)
  | d + 1, m, a, nb, ns => if rnI pSp g n a < n then (if cF g n m a nb = 0 then stN g n d (m + 1) (cA g n a nb) (cB g n a nb) (cT g n a nb ns) else ((cF g n m a nb, cP g n m a nb), nb, ns)) else ((0, -1), nb, ns)
def stI (g : Nat → Int) (n m a : Int) (nb ns : Nat → Int) : (Int × Int) × (Nat → Int) × (Nat → Int) := stN g n (61 - m).toNat m a nb ns
def nb0 : Nat → Int := fun j => if j = 0 then 8 else if j = 1 then 3 else 0
def ns0 : Nat → Int := fun j => if j < 96 then 50 else if 353 ≤ j ∧ j < 357 then 1 else 0
/-- what a text says of a street -/
def STV (g : Nat → Int) (n : Int) : (Int × Int) × (Nat → Int) × (Nat → Int) := stI g n 0 0 nb0 ns0
theorem c_id {g : Nat → Int} {n m a : Int} {nb ns : Nat → Int} (h0 : 0 ≤ a) : cF g n m (rnI pSp g n a) nb = cF g n m a nb ∧ cP g n m (rnI pSp g n a) nb = cP g n m a nb ∧ cA g n (rnI pSp g n a) nb = cA g n a nb ∧ cB g n (rnI pSp g n a) nb = cB g n a nb ∧ cT g n (rnI pSp g n a) nb ns = cT g n a nb ns := by
  unfold cF cP cA cB cT
  rw [rnI_id pSp g h0]
  exact ⟨rfl, rfl, rfl, rfl, rfl⟩
theorem kF_60 {g : Nat → Int} {n k p : Int} {nb : Nat → Int} : kF g n 60 k p nb ≠ 0 := by
  unfold kF
  by_cases h : ¬ (1 ≤ k ∧ k ≤ 9)
  · rw [if_pos h]; decide
  · rw [if_neg h, if_pos (Or.inl rfl)]; decide
theorem stI_end {g : Nat → Int} {n m a : Int} {nb ns : Nat → Int} (h : ¬ rnI pSp g n a < n) : stI g n m a nb ns = ((0, -1), nb, ns) := by
  unfold stI
  cases (61 - m).toNat with
  | zero => rfl
  | succ d =>
    show (if rnI pSp g n a < n then _ else _) = _
    rw [if_neg h]
theorem stI_go {g : Nat → Int} {n m a : Int} {nb ns : Nat → Int} (hm : m ≤ 60) (h : rnI pSp g n a < n) : (cF g n m a nb = 0 → stI g n m a nb ns = stI g n (m + 1) (cA g n a nb) (cB g n a nb) (cT g n a nb ns)) ∧ (cF g n m a nb ≠ 0 → stI g n m a nb ns = ((cF g n m a nb, cP g n m a nb), nb, ns)) := by
  unfold stI
  rw [show (61 - m).toNat = (60 - m).toNat + 1 by omega, show (61 - (m + 1)).toNat = (60 - m).toNat by omega]
  constructor
  · intro q
    show (if rnI pSp g n a < n then (if cF g n m a nb = 0 then _ else _) else _) = _
    rw [if_pos h, if_pos q]
  · intro q
    show (if rnI pSp g n a < n then (if cF g n m a nb = 0 then _ else _) else _) = _
    rw [if_pos h, if_neg q]
/-- ahead of clause m: the fault f (at p), or the street so far, tell what the whole text says -/
def StL (g : Nat → Int) (n m a f p : Int) (nb ns : Nat → Int) (V : (Int × Int) × (Nat → Int) × (Nat → Int)) : Prop := (f ≠ 0 → V.1 = (f, p)) ∧ (f = 0 → V = stI g n m a nb ns)
theorem StL_0 {g : Nat → Int} {n : Int} : StL g n 0 0 0 (-1) nb0 ns0 (STV g n) := ⟨fun h => absurd rfl h, fun _ => rfl⟩
theorem StL_go {g : Nat → Int} {n m a f p a1 a2 f2 p2 m1 : Int} {nb ns : Nat → Int} {V : (Int × Int) × (Nat → Int) × (Nat → Int)} (h : StL g n m a f p nb ns V) (hm : 0 ≤ m ∧ m ≤ 60) (h0 : 0 ≤ a) (hf : f = 0) (ha : a1 = rnI pSp g n a) (hn : a1 < n) (hp : RdS (cF g n m a1 nb) (cP g n m a1 nb) (cA g n a1 nb) f p a2 f2 p2) (e : m1 = m + 1) : StL g n m1 a2 f2 p2 (cB g n a1 nb) (cT g n a1 nb ns) V := by
  subst ha e
  obtain ⟨i1, i2, i3, i4, i5⟩ := c_id (g := g) (n := n) (m := m) (nb := nb) (ns := ns) h0
  rw [i1, i2, i3] at hp
  rw [i4, i5]
  have q := stI_go (g := g) (n := n) (m := m) (a := a) (nb := nb) (ns := ns) hm.2 hn
  have hV := h.2 hf
  obtain ⟨e1, e2, e3⟩ := hp.2 hf
  refine ⟨fun w => ?_, fun w => ?_⟩
  · have hc : cF g n m a nb ≠ 0 := by omega
    rw [hV, q.2 hc, e1, e3 hc]
  · have hc : cF g n m a nb = 0 := by omega
    rw [hV, q.1 hc, e2 hc]
theorem StL_end {g : Nat → Int} {n m a f p : Int} {nb ns : Nat → Int} {V : (Int × Int) × (Nat → Int) × (Nat → Int)} (h : StL g n m a f p nb ns V) (hf : f ≠ 0 ∨ ¬ rnI pSp g n a < n) : (f ≠ 0 → V.1 = (f, p)) ∧ (f = 0 → V = ((0, -1), nb, ns)) := by
  refine ⟨h.1, fun q => ?_⟩
  rw [h.2 q, stI_end (hf.resolve_left (fun w => w q))]
/-- the class's street tells what nb, ns tell -/
def DZ (nb : Nat → Int) (wi ro dr dt pe sh wo : Int) : Prop := wi = nb 0 ∧ ro = nb 1 ∧ dr = nb 2 ∧ dt = nb 2 ∧ pe = nb 3 ∧ sh = nb 4 ∧ wo = nb 5
def DH (nb ns : Nat → Int) (hf : Nat → Int32) : Prop := ∀ x y : Int, 0 ≤ x → x < nb 0 → 0 ≤ y → y < nb 1 → nz hf (y * nb 0 + x).toNat = ns (16 * y + x).toNat
def DD (nb ns : Nat → Int) (df : Nat → Int32) : Prop := ∀ k : Int, 0 ≤ k → k < nb 2 → nz df (4 * k).toNat = nb (6 + 3 * k).toNat ∧ nz df (4 * k + 1).toNat = nb (7 + 3 * k).toNat ∧ nz df (4 * k + 2).toNat = nb (8 + 3 * k).toNat ∧ nz df (4 * k + 3).toNat = ns (192 + k).toNat
def DP (nb ns : Nat → Int) (pf : Nat → Int32) : Prop := (∀ k : Int, 0 ≤ k → k < nb 3 → nz pf (4 * k).toNat = ns (216 + k).toNat ∧ nz pf (4 * k + 1).toNat = ns (225 + k).toNat ∧ nz pf (4 * k + 2).toNat = 0 ∧ nz pf (4 * k + 3).toNat = 0)
def DS (nb : Nat → Int) (sf : Nat → Int32) : Prop := ∀ k : Int, 0 ≤ k → k < nb 4 → nz sf (2 * k).toNat = nb (24 + 2 * k).toNat ∧ nz sf (2 * k + 1).toNat = nb (25 + 2 * k).toNat
def DK (nb : Nat → Int) (kf : Nat → Int32) : Prop := ∀ k : Int, 0 ≤ k → k < nb 5 → nz kf (5 * k).toNat = nb (28 + 5 * k).toNat ∧ nz kf (5 * k + 1).toNat = nb (32 + 5 * k).toNat ∧ nz kf (5 * k + 2).toNat = nb (29 + 5 * k).toNat ∧ nz kf (5 * k + 3).toNat = nb (30 + 5 * k).toNat ∧ nz kf (5 * k + 4).toNat = nb (31 + 5 * k).toNat
/-- the reference's counts, and places that no clause touches -/
def DN (nb ns : Nat → Int) : Prop := (2 ≤ nb 0 ∧ nb 0 ≤ 16) ∧ (1 ≤ nb 1 ∧ nb 1 ≤ 6) ∧ (0 ≤ nb 2 ∧ nb 2 ≤ 6) ∧ (0 ≤ nb 3 ∧ nb 3 ≤ 8) ∧ (0 ≤ nb 4 ∧ nb 4 ≤ 2) ∧ (0 ≤ nb 5 ∧ nb 5 ≤ 8) ∧ ∀ j : Nat, (96 ≤ j ∧ j < 192) ∨ (198 ≤ j ∧ j < 216) ∨ 234 ≤ j → ns j = ns0 j
def DRL (nb ns : Nat → Int) (wi ro dr dt pe sh wo : Int) (hf df pf sf kf : Nat → Int32) : Prop := DZ nb wi ro dr dt pe sh wo ∧ DN nb ns ∧ DH nb ns hf ∧ DD nb ns df ∧ DP nb ns pf ∧ DS nb sf ∧ DK nb kf
/-- ahead of the first clause all cells are of one height -/
def DF (ns : Nat → Int) (hf : Nat → Int32) : Prop := (∀ j : Nat, j < 96 → nz hf j = 50) ∧ ∀ j : Nat, j < 96 → ns j = 50
theorem DRL_0 {hf df pf sf kf : Nat → Int32} (h : ∀ j : Nat, j < 96 → nz hf j = 50) : DRL nb0 ns0 8 3 0 0 0 0 0 hf df pf sf kf ∧ DF ns0 hf := by
  have hs : ∀ j : Nat, j < 96 → ns0 j = 50 := fun j hj => if_pos hj
  refine ⟨⟨⟨rfl, rfl, rfl, rfl, rfl, rfl, rfl⟩, ⟨by decide, by decide, by decide, by decide, by decide, by decide, fun j _ => rfl⟩, fun x y hx hx1 hy hy1 => ?_, fun k h0 h1 => absurd h1 (by show ¬ k < 0; omega), fun k h0 h1 => absurd h1 (by show ¬ k < 0; omega), fun k h0 h1 => absurd h1 (by show ¬ k < 0; omega), fun k h0 h1 => absurd h1 (by show ¬ k < 0; omega)⟩, h, hs⟩
  have a : x < 8 := hx1
  have b : y < 3 := hy1
  rw [show nb0 0 = 8 from rfl, h _ (by omega), hs _ (by omega)]
theorem DN_n {nb ns : Nat → Int} (h : DN nb ns) {e v : Int} (he : (0 ≤ e ∧ e < 96) ∨ (192 ≤ e ∧ e < 198) ∨ (216 ≤ e ∧ e < 234)) : ∀ j : Nat, (96 ≤ j ∧ j < 192) ∨ (198 ≤ j ∧ j < 216) ∨ 234 ≤ j → upz ns e v j = ns0 j := fun j hj => by rw [upz_n (by omega)]; exact h.2.2.2.2.2.2 j hj
theorem DRL_size {nb ns : Nat → Int} {wi ro dr dt pe sh wo : Int} {hf df pf sf kf : Nat → Int32} {w d : Int} (h : DRL nb ns wi ro dr dt pe sh wo hf df pf sf kf) (hF : DF ns hf) (hw : 2 ≤ w ∧ w ≤ 16) (hd : 1 ≤ d ∧ d ≤ 6) : DRL (upz (upz nb 0 w) 1 d) ns w d dr dt pe sh wo hf df pf sf kf := by
  obtain ⟨⟨z0, z1, z2, z3, z4, z5, z6⟩, ⟨n0, n1, n2, n3, n4, n5, n6⟩, hH, hD, hP, hS, hK⟩ := h
  have e0 : upz (upz nb 0 w) 1 d 0 = w := by rw [upz_n (by decide), upz_s (by decide)]
  have e1 : upz (upz nb 0 w) 1 d 1 = d := upz_s (by decide)
  have en : ∀ j : Nat, 2 ≤ j → upz (upz nb 0 w) 1 d j = nb j := fun j hj => by rw [upz_n (by omega), upz_n (by omega)]
  refine ⟨⟨e0.symm, e1.symm, by rw [en 2 (by decide)]; exact z2, by rw [en 2 (by decide)]; exact z3, by rw [en 3 (by decide)]; exact z4, by rw [en 4 (by decide)]; exact z5, by rw [en 5 (by decide)]; exact z6⟩, ⟨by rw [e0]; exact hw, by rw [e1]; exact hd, by rw [en 2 (by decide)]; exact n2, by rw [en 3 (by decide)]; exact n3, by rw [en 4 (by decide)]; exact n4, by rw [en 5 (by decide)]; exact n5, n6⟩, ?_, ?_, ?_, ?_, ?_⟩
  · intro x y hx hx1 hy hy1
    rw [e0] at hx1 ⊢
    rw [e1] at hy1
    have hb : y * w ≤ 80 := by
      have a1 : y * w ≤ 5 * w := Int.mul_le_mul_of_nonneg_right (by omega) (by omega)
      omega
    have hb0 : 0 ≤ y * w := Int.mul_nonneg hy (by omega)
    rw [hF.1 _ (by omega), hF.2 _ (by omega)]
  · intro k h0 h1
    rw [en 2 (by decide)] at h1
    rw [en _ (by omega), en _ (by omega), en _ (by omega)]
    exact hD k h0 h1
  · intro k h0 h1
    rw [en 3 (by decide)] at h1
    exact hP k h0 h1
  · intro k h0 h1
    rw [en 4 (by decide)] at h1
    rw [en _ (by omega), en _ (by omega)]
    exact hS k h0 h1
  · intro k h0 h1
    rw [en 5 (by decide)] at h1
    rw [en _ (by omega), en _ (by omega), en _ (by omega), en _ (by omega), en _ (by omega)]
    exact hK k h0 h1
theorem ij_eq {x y a b w : Int} (hx : 0 ≤ x ∧ x < w) (ha : 0 ≤ a ∧ a < w) (h : y * w + x = b * w + a) : x = a ∧ y = b := by
  have h1 : (y * w + x) % w = x := by rw [Int.add_comm, Int.add_mul_emod_self_right]; exact Int.emod_eq_of_lt hx.1 hx.2
  have h2 : (b * w + a) % w = a := by rw [Int.add_comm, Int.add_mul_emod_self_right]; exact Int.emod_eq_of_lt ha.1 ha.2
  rw [h, h2] at h1
  refine ⟨h1.symm, ?_⟩
  have h3 : y * w = b * w := by omega
  exact Int.eq_of_mul_eq_mul_right (by omega) h3
theorem DRL_high {nb ns : Nat → Int} {wi ro dr dt pe sh wo : Int} {hf df pf sf kf : Nat → Int32} {a b c i : Int} {hf1 : Nat → Int32} (h : DRL nb ns wi ro dr dt pe sh wo hf df pf sf kf) (ha : 0 ≤ a ∧ a ≤ nb 0 - 1) (hb : 0 ≤ b ∧ b ≤ nb 1 - 1) (hi : i = b * wi + a) (h1 : nz hf1 = upz (nz hf) i c) : DRL nb (upz ns (16 * b + a) c) wi ro dr dt pe sh wo hf1 df pf sf kf := by
  obtain ⟨hZ, hN, hH, hD, hP, hS, hK⟩ := h
  obtain ⟨n0, n1, n2, n3, n4, n5, n6⟩ := id hN
  have hw : wi = nb 0 := hZ.1
  refine ⟨hZ, ⟨n0, n1, n2, n3, n4, n5, DN_n hN (by omega)⟩, ?_, ?_, ?_, hS, hK⟩
  · intro x y hx hx1 hy hy1
    have p0 : 0 ≤ y * nb 0 := Int.mul_nonneg hy (by omega)
    have p1 : 0 ≤ b * nb 0 := Int.mul_nonneg hb.1 (by omega)
    rw [h1]
    rw [hw] at hi
    by_cases q : x = a ∧ y = b
    · obtain ⟨q1, q2⟩ := q
      subst q1 q2
      rw [upz_s (by omega), upz_s (by omega)]
    · have : y * nb 0 + x ≠ b * nb 0 + a := fun w => q (ij_eq ⟨hx, hx1⟩ ⟨ha.1, by omega⟩ w)
      rw [upz_n (by omega), upz_n (by omega)]
      exact hH x y hx hx1 hy hy1
  · intro k h0 h2
    rw [upz_n (by omega)]
    exact hD k h0 h2
  · intro k h0 h2
    rw [upz_n (by omega), upz_n (by omega)]
    exact hP k h0 h2
theorem DRL_drain {nb ns : Nat → Int} {wi ro dr dt pe sh wo : Int} {hf df pf sf kf : Nat → Int32} {x y r l : Int} {df1 : Nat → Int32} (h : DRL nb ns wi ro dr dt pe sh wo hf df pf sf kf) (h6 : dr < 6) (h1 : nz df1 = upz (upz (upz (upz (nz df) (4 * dr) x) (4 * dr + 1) y) (4 * dr + 2) r) (4 * dr + 3) l) {dr1 dt1 : Int} (e1 : dr1 = dr + 1) (e2 : dt1 = dr + 1) : DRL (upz (upz (upz (upz nb (6 + 3 * nb 2) x) (7 + 3 * nb 2) y) (8 + 3 * nb 2) r) 2 (nb 2 + 1)) (upz ns (192 + nb 2) l) wi ro dr1 dt1 pe sh wo hf df1 pf sf kf := by
  obtain ⟨⟨z0, z1, z2, z3, z4, z5, z6⟩, hN, hH, hD, hP, hS, hK⟩ := h
  obtain ⟨n0, n1, n2, n3, n4, n5, n6⟩ := id hN
  obtain ⟨B, hB⟩ : ∃ B, B = upz (upz (upz (upz nb (6 + 3 * nb 2) x) (7 + 3 * nb 2) y) (8 + 3 * nb 2) r) 2 (nb 2 + 1) := ⟨_, rfl⟩
  rw [← hB]
  have b2 : B 2 = nb 2 + 1 := by rw [hB]; exact upz_s (by decide)
  have bn : ∀ j : Nat, j ≠ 2 → ((j : Int) < 6 + 3 * nb 2 ∨ 8 + 3 * nb 2 < (j : Int)) → B j = nb j := fun j hj hk => by rw [hB, upz_n (by omega), upz_n (by omega), upz_n (by omega), upz_n (by omega)]
  have bx : ∀ j : Nat, (j : Int) = 6 + 3 * nb 2 → B j = x := fun j hj => by rw [hB, upz_n (by omega), upz_n (by omega), upz_n (by omega), upz_s (by omega)]
  have by_ : ∀ j : Nat, (j : Int) = 7 + 3 * nb 2 → B j = y := fun j hj => by rw [hB, upz_n (by omega), upz_n (by omega), upz_s (by omega)]
  have br : ∀ j : Nat, (j : Int) = 8 + 3 * nb 2 → B j = r := fun j hj => by rw [hB, upz_n (by omega), upz_s (by omega)]
  rw [z2] at h1 h6
  have dn : ∀ j : Nat, ((j : Int) < 4 * nb 2 ∨ 4 * nb 2 + 3 < (j : Int)) → nz df1 j = nz df j := fun j hj => by rw [h1, upz_n (by omega), upz_n (by omega), upz_n (by omega), upz_n (by omega)]
  have d0 : ∀ j : Nat, (j : Int) = 4 * nb 2 → nz df1 j = x := fun j hj => by rw [h1, upz_n (by omega), upz_n (by omega), upz_n (by omega), upz_s (by omega)]
  have d1 : ∀ j : Nat, (j : Int) = 4 * nb 2 + 1 → nz df1 j = y := fun j hj => by rw [h1, upz_n (by omega), upz_n (by omega), upz_s (by omega)]
  have d2 : ∀ j : Nat, (j : Int) = 4 * nb 2 + 2 → nz df1 j = r := fun j hj => by rw [h1, upz_n (by omega), upz_s (by omega)]
  have d3 : ∀ j : Nat, (j : Int) = 4 * nb 2 + 3 → nz df1 j = l := fun j hj => by rw [h1, upz_s (by omega)]
  have c0 := bn 0 (by decide) (by omega)
  have c1 := bn 1 (by decide) (by omega)
  have c3 := bn 3 (by decide) (by omega)
  have c4 := bn 4 (by decide) (by omega)
  have c5 := bn 5 (by decide) (by omega)
  refine ⟨⟨by omega, by omega, by omega, by omega, by omega, by omega, by omega⟩, ⟨by omega, by omega, by omega, by omega, by omega, by omega, DN_n hN (by omega)⟩, ?_, ?_, ?_, ?_, ?_⟩
  · intro x' y' hx hx1 hy hy1
    rw [c0] at hx1 ⊢
    rw [c1] at hy1
    rw [upz_n (by omega)]
    exact hH x' y' hx hx1 hy hy1
  · intro k h0 h2
    rw [b2] at h2
    by_cases q : k = nb 2
    · subst q
      rw [d0 _ (by omega), d1 _ (by omega), d2 _ (by omega), d3 _ (by omega), bx _ (by omega), by_ _ (by omega), br _ (by omega), upz_s (by omega)]
      exact ⟨rfl, rfl, rfl, rfl⟩
    · rw [dn _ (by omega), dn _ (by omega), dn _ (by omega), dn _ (by omega), bn _ (by omega) (by omega), bn _ (by omega) (by omega), bn _ (by omega) (by omega), upz_n (by omega)]
      exact hD k h0 (by omega)
  · intro k h0 h2
    rw [c3] at h2
    rw [upz_n (by omega), upz_n (by omega)]
    exact hP k h0 h2
  · intro k h0 h2
    rw [c4] at h2
    rw [bn _ (by omega) (by omega), bn _ (by omega) (by omega)]
    exact hS k h0 h2
  · intro k h0 h2
    rw [c5] at h2
    rw [bn _ (by omega) (by omega), bn _ (by omega) (by omega), bn _ (by omega) (by omega), bn _ (by omega) (by omega), bn _ (by omega) (by omega)]
    exact hK k h0 h2
theorem DRL_person {nb ns : Nat → Int} {wi ro dr dt pe sh wo : Int} {hf df pf sf kf : Nat → Int32} {x f : Int} {pf1 : Nat → Int32} (h : DRL nb ns wi ro dr dt pe sh wo hf df pf sf kf) (h8 : pe < 8) (h1 : nz pf1 = upz (upz (upz (upz (nz pf) (4 * pe) x) (4 * pe + 1) f) (4 * pe + 2) 0) (4 * pe + 3) 0) {pe1 : Int} (e1 : pe1 = pe + 1) : DRL (upz nb 3 (nb 3 + 1)) (upz (upz ns (216 + nb 3) x) (225 + nb 3) f) wi ro dr dt pe1 sh wo hf df pf1 sf kf := by
  obtain ⟨⟨z0, z1, z2, z3, z4, z5, z6⟩, hN, hH, hD, hP, hS, hK⟩ := h
  obtain ⟨n0, n1, n2, n3, n4, n5, n6⟩ := id hN
  have b3 : upz nb 3 (nb 3 + 1) 3 = nb 3 + 1 := upz_s (by decide)
  have bn : ∀ j : Nat, j ≠ 3 → upz nb 3 (nb 3 + 1) j = nb j := fun j hj => upz_n (by omega)
  rw [z4] at h1 h8
  have dn : ∀ j : Nat, ((j : Int) < 4 * nb 3 ∨ 4 * nb 3 + 3 < (j : Int)) → nz pf1 j = nz pf j := fun j hj => by rw [h1, upz_n (by omega), upz_n (by omega), upz_n (by omega), upz_n (by omega)]
  have d0 : ∀ j : Nat, (j : Int) = 4 * nb 3 → nz pf1 j = x := fun j hj => by rw [h1, upz_n (by omega), upz_n (by omega), upz_n (by omega), upz_s (by omega)]
  have d1 : ∀ j : Nat, (j : Int) = 4 * nb 3 + 1 → nz pf1 j = f := fun j hj => by rw [h1, upz_n (by omega), upz_n (by omega), upz_s (by omega)]
  have d2 : ∀ j : Nat, (j : Int) = 4 * nb 3 + 2 → nz pf1 j = 0 := fun j hj => by rw [h1, upz_n (by omega), upz_s (by omega)]
  have d3 : ∀ j : Nat, (j : Int) = 4 * nb 3 + 3 → nz pf1 j = 0 := fun j hj => by rw [h1, upz_s (by omega)]
  have c0 := bn 0 (by decide)
  have c1 := bn 1 (by decide)
  have c2 := bn 2 (by decide)
  have c4 := bn 4 (by decide)
  have c5 := bn 5 (by decide)
  have hN2 : DN nb (upz ns (216 + nb 3) x) := ⟨n0, n1, n2, n3, n4, n5, DN_n hN (by omega)⟩
  refine ⟨⟨by omega, by omega, by omega, by omega, by omega, by omega, by omega⟩, ⟨by omega, by omega, by omega, by omega, by omega, by omega, DN_n hN2 (by omega)⟩, ?_, ?_, ?_, ?_, ?_⟩
  · intro x' y' hx hx1 hy hy1
    rw [c0] at hx1 ⊢
    rw [c1] at hy1
    rw [upz_n (by omega), upz_n (by omega)]
    exact hH x' y' hx hx1 hy hy1
  · intro k h0 h2
    rw [c2] at h2
    rw [bn _ (by omega), bn _ (by omega), bn _ (by omega), upz_n (by omega), upz_n (by omega)]
    exact hD k h0 h2
  · intro k h0 h2
    rw [b3] at h2
    by_cases q : k = nb 3
    · subst q
      rw [d0 _ (by omega), d1 _ (by omega), d2 _ (by omega), d3 _ (by omega), upz_n (by omega), upz_s (by omega), upz_s (by omega)]
      exact ⟨rfl, rfl, rfl, rfl⟩
    · rw [dn _ (by omega), dn _ (by omega), dn _ (by omega), dn _ (by omega), upz_n (by omega), upz_n (by omega), upz_n (by omega), upz_n (by omega)]
      exact hP k h0 (by omega)
  · intro k h0 h2
    rw [c4] at h2
    rw [bn _ (by omega), bn _ (by omega)]
    exact hS k h0 h2
  · intro k h0 h2
    rw [c5] at h2
    rw [bn _ (by omega), bn _ (by omega), bn _ (by omega), bn _ (by omega), bn _ (by omega)]
    exact hK k h0 h2
theorem DRL_shelter {nb ns : Nat → Int} {wi ro dr dt pe sh wo : Int} {hf df pf sf kf : Nat → Int32} {x y : Int} {sf1 : Nat → Int32} (h : DRL nb ns wi ro dr dt pe sh wo hf df pf sf kf) (h2 : sh < 2) (h1 : nz sf1 = upz (upz (nz sf) (2 * sh) x) (2 * sh + 1) y) {sh1 : Int} (e1 : sh1 = sh + 1) : DRL (upz (upz (upz nb (24 + 2 * nb 4) x) (25 + 2 * nb 4) y) 4 (nb 4 + 1)) ns wi ro dr dt pe sh1 wo hf df pf sf1 kf := by
  obtain ⟨⟨z0, z1, z2, z3, z4, z5, z6⟩, hN, hH, hD, hP, hS, hK⟩ := h
  obtain ⟨n0, n1, n2, n3, n4, n5, n6⟩ := id hN
  obtain ⟨B, hB⟩ : ∃ B, B = upz (upz (upz nb (24 + 2 * nb 4) x) (25 + 2 * nb 4) y) 4 (nb 4 + 1) := ⟨_, rfl⟩
  rw [← hB]
  have b4 : B 4 = nb 4 + 1 := by rw [hB]; exact upz_s (by decide)
  have bn : ∀ j : Nat, j ≠ 4 → ((j : Int) < 24 + 2 * nb 4 ∨ 25 + 2 * nb 4 < (j : Int)) → B j = nb j := fun j hj hk => by rw [hB, upz_n (by omega), upz_n (by omega), upz_n (by omega)]
  have bx : ∀ j : Nat, (j : Int) = 24 + 2 * nb 4 → B j = x := fun j hj => by rw [hB, upz_n (by omega), upz_n (by omega), upz_s (by omega)]
  have by_ : ∀ j : Nat, (j : Int) = 25 + 2 * nb 4 → B j = y := fun j hj => by rw [hB, upz_n (by omega), upz_s (by omega)]
  rw [z5] at h1 h2
  have dn : ∀ j : Nat, ((j : Int) < 2 * nb 4 ∨ 2 * nb 4 + 1 < (j : Int)) → nz sf1 j = nz sf j := fun j hj => by rw [h1, upz_n (by omega), upz_n (by omega)]
  have d0 : ∀ j : Nat, (j : Int) = 2 * nb 4 → nz sf1 j = x := fun j hj => by rw [h1, upz_n (by omega), upz_s (by omega)]
  have d1 : ∀ j : Nat, (j : Int) = 2 * nb 4 + 1 → nz sf1 j = y := fun j hj => by rw [h1, upz_s (by omega)]
  have c0 := bn 0 (by decide) (by omega)
  have c1 := bn 1 (by decide) (by omega)
  have c2 := bn 2 (by decide) (by omega)
  have c3 := bn 3 (by decide) (by omega)
  have c5 := bn 5 (by decide) (by omega)
  refine ⟨⟨by omega, by omega, by omega, by omega, by omega, by omega, by omega⟩, ⟨by omega, by omega, by omega, by omega, by omega, by omega, n6⟩, ?_, ?_, ?_, ?_, ?_⟩
  · intro x' y' hx hx1 hy hy1
    rw [c0] at hx1 ⊢
    rw [c1] at hy1
    exact hH x' y' hx hx1 hy hy1
  · intro k h0 h3
    rw [c2] at h3
    rw [bn _ (by omega) (by omega), bn _ (by omega) (by omega), bn _ (by omega) (by omega)]
    exact hD k h0 h3
  · intro k h0 h3
    rw [c3] at h3
    exact hP k h0 h3
  · intro k h0 h3
    rw [b4] at h3
    by_cases q : k = nb 4
    · subst q
      rw [d0 _ (by omega), d1 _ (by omega), bx _ (by omega), by_ _ (by omega)]
      exact ⟨rfl, rfl⟩
    · rw [dn _ (by omega), dn _ (by omega), bn _ (by omega) (by omega), bn _ (by omega) (by omega)]
      exact hS k h0 (by omega)
  · intro k h0 h3
    rw [c5] at h3
    rw [bn _ (by omega) (by omega), bn _ (by omega) (by omega), bn _ (by omega) (by omega), bn _ (by omega) (by omega), bn _ (by omega) (by omega)]
    exact hK k h0 h3
theorem DRL_work {nb ns : Nat → Int} {wi ro dr dt pe sh wo : Int} {hf df pf sf kf : Nat → Int32} {kd x y b c : Int} {kf1 : Nat → Int32} (h : DRL nb ns wi ro dr dt pe sh wo hf df pf sf kf) (h8 : wo < 8) (h1 : nz kf1 = upz (upz (upz (upz (upz (nz kf) (5 * wo) kd) (5 * wo + 1) c) (5 * wo + 2) x) (5 * wo + 3) y) (5 * wo + 4) b) {wo1 : Int} (e1 : wo1 = wo + 1) : DRL (wkB nb kd x y b c) ns wi ro dr dt pe sh wo1 hf df pf sf kf1 := by
  obtain ⟨⟨z0, z1, z2, z3, z4, z5, z6⟩, hN, hH, hD, hP, hS, hK⟩ := h
  obtain ⟨n0, n1, n2, n3, n4, n5, n6⟩ := id hN
  obtain ⟨B, hB⟩ : ∃ B, B = wkB nb kd x y b c := ⟨_, rfl⟩
  rw [← hB]
  unfold wkB at hB
  have b5 : B 5 = nb 5 + 1 := by rw [hB]; exact upz_s (by decide)
  have bn : ∀ j : Nat, j ≠ 5 → ((j : Int) < 28 + 5 * nb 5 ∨ 32 + 5 * nb 5 < (j : Int)) → B j = nb j := fun j hj hk => by rw [hB, upz_n (by omega), upz_n (by omega), upz_n (by omega), upz_n (by omega), upz_n (by omega), upz_n (by omega)]
  have bk : ∀ j : Nat, (j : Int) = 28 + 5 * nb 5 → B j = kd := fun j hj => by rw [hB, upz_n (by omega), upz_n (by omega), upz_n (by omega), upz_n (by omega), upz_n (by omega), upz_s (by omega)]
  have bx : ∀ j : Nat, (j : Int) = 29 + 5 * nb 5 → B j = x := fun j hj => by rw [hB, upz_n (by omega), upz_n (by omega), upz_n (by omega), upz_n (by omega), upz_s (by omega)]
  have by_ : ∀ j : Nat, (j : Int) = 30 + 5 * nb 5 → B j = y := fun j hj => by rw [hB, upz_n (by omega), upz_n (by omega), upz_n (by omega), upz_s (by omega)]
  have bb : ∀ j : Nat, (j : Int) = 31 + 5 * nb 5 → B j = b := fun j hj => by rw [hB, upz_n (by omega), upz_n (by omega), upz_s (by omega)]
  have bc : ∀ j : Nat, (j : Int) = 32 + 5 * nb 5 → B j = c := fun j hj => by rw [hB, upz_n (by omega), upz_s (by omega)]
  rw [z6] at h1 h8
  have dn : ∀ j : Nat, ((j : Int) < 5 * nb 5 ∨ 5 * nb 5 + 4 < (j : Int)) → nz kf1 j = nz kf j := fun j hj => by rw [h1, upz_n (by omega), upz_n (by omega), upz_n (by omega), upz_n (by omega), upz_n (by omega)]
  have d0 : ∀ j : Nat, (j : Int) = 5 * nb 5 → nz kf1 j = kd := fun j hj => by rw [h1, upz_n (by omega), upz_n (by omega), upz_n (by omega), upz_n (by omega), upz_s (by omega)]
  have d1 : ∀ j : Nat, (j : Int) = 5 * nb 5 + 1 → nz kf1 j = c := fun j hj => by rw [h1, upz_n (by omega), upz_n (by omega), upz_n (by omega), upz_s (by omega)]
  have d2 : ∀ j : Nat, (j : Int) = 5 * nb 5 + 2 → nz kf1 j = x := fun j hj => by rw [h1, upz_n (by omega), upz_n (by omega), upz_s (by omega)]
  have d3 : ∀ j : Nat, (j : Int) = 5 * nb 5 + 3 → nz kf1 j = y := fun j hj => by rw [h1, upz_n (by omega), upz_s (by omega)]
  have d4 : ∀ j : Nat, (j : Int) = 5 * nb 5 + 4 → nz kf1 j = b := fun j hj => by rw [h1, upz_s (by omega)]
  have c0 := bn 0 (by decide) (by omega)
  have c1 := bn 1 (by decide) (by omega)
  have c2 := bn 2 (by decide) (by omega)
  have c3 := bn 3 (by decide) (by omega)
  have c4 := bn 4 (by decide) (by omega)
  refine ⟨⟨by omega, by omega, by omega, by omega, by omega, by omega, by omega⟩, ⟨by omega, by omega, by omega, by omega, by omega, by omega, n6⟩, ?_, ?_, ?_, ?_, ?_⟩
  · intro x' y' hx hx1 hy hy1
    rw [c0] at hx1 ⊢
    rw [c1] at hy1
    exact hH x' y' hx hx1 hy hy1
  · intro k h0 h3
    rw [c2] at h3
    rw [bn _ (by omega) (by omega), bn _ (by omega) (by omega), bn _ (by omega) (by omega)]
    exact hD k h0 h3
  · intro k h0 h3
    rw [c3] at h3
    exact hP k h0 h3
  · intro k h0 h3
    rw [c4] at h3
    rw [bn _ (by omega) (by omega), bn _ (by omega) (by omega)]
    exact hS k h0 h3
  · intro k h0 h3
    rw [b5] at h3
    by_cases q : k = nb 5
    · subst q
      rw [d0 _ (by omega), d1 _ (by omega), d2 _ (by omega), d3 _ (by omega), d4 _ (by omega), bk _ (by omega), bc _ (by omega), bx _ (by omega), by_ _ (by omega), bb _ (by omega)]
      exact ⟨rfl, rfl, rfl, rfl, rfl⟩
    · rw [dn _ (by omega), dn _ (by omega), dn _ (by omega), dn _ (by omega), dn _ (by omega), bn _ (by omega) (by omega), bn _ (by omega) (by omega), bn _ (by omega) (by omega), bn _ (by omega) (by omega), bn _ (by omega) (by omega)]
      exact hK k h0 (by omega)
end
section

def vs_e_refuse : List Cond := .code yX8_refuse cX8_refuse 2 none :: (([.fieldLink RX8 31 "KerbSplash$Tape" "fault" "I", .fieldLink RX8 25 "KerbSplash$Tape" "at" "I", .fieldLink RX8 15 "KerbSplash$Tape" "faultAt" "I"] : List Cond) ++ ((wsX80) ++ ([])))
theorem gd_e_refuse : vs_e_refuse.all goodWord = true := gd_C (by decide +kernel) (gd_A (by decide +kernel) (gd_A (by decide +kernel) rfl))
set_option maxHeartbeats 4000000 in
set_option maxRecDepth 100000 in
theorem e_refuse (l : Launch) (hl : l.stackTraces = false) (D : va_G) (cy : Nat → ClassId) (sa : Nat → Nat) (ta tb : Nat) (fed len at_ we fa fp : Int) (n : Int) (sz : Nat) (hr_fed : 0 ≤ fed ∧ fed ≤ 600) (hr_len : 0 ≤ len ∧ len ≤ 600) (hr_at_ : 0 ≤ at_ ∧ at_ ≤ 600) (hr_we : 0 ≤ we ∧ we ≤ 600) (hr_fa : 0 ≤ fa ∧ fa ≤ 4) (hr_fp : (-1) ≤ fp ∧ fp ≤ 600) (hr_n : 1 ≤ n ∧ n ≤ 4) : mV9 l yX8_refuse vs_e_refuse ({ frames := 0, cells := 0, slots := 0, locals := 0 }) D cy sa sz [vR ta, vI n] [zO ta 8 [vR tb, vI fed, vI len, vI at_, vI we, vI fa, vI fp]] (fun u : SV => (1 ≤ u.2.1 0 ∧ u.2.1 0 ≤ 4) ∧ ((-1) ≤ u.2.1 1 ∧ u.2.1 1 ≤ 600) ∧ (fa ≠ 0 → u.2.1 0 = fa ∧ u.2.1 1 = fp) ∧ (fa = 0 → u.2.1 0 = n ∧ u.2.1 1 = at_)) (fun u : SV => [zO ta 8 [vR tb, vI fed, vI len, vI at_, vI we, vI (u.2.1 0), vI (u.2.1 1)]]) 0 0 := by
  refine Met.ofW (cc := cX8_refuse) (maxL := 2) (ret := none) (by decide) rfl ?_
  intro p e s m args below meth c s₁ B hml hv
  obtain ⟨rfl, hsz, hP, hG, hD0, hT⟩ := hv
  have hx := B.exec
  have hb := B.bytes
  have hr := B.returns
  have hts := atoms_spec (ws := vs_e_refuse) B.pre
  have hown : s.vm.findClass RX8 = some m.cls := findClass_of_methodNamed B.named
  have hlocks := B.notSynchronized
  subst hsz
  have hD := hD0.self (sz := s.heap.size)
  generalize hAe : va_A [zO ta 8 [vR tb, vI fed, vI len, vI at_, vI we, vI fa, vI fp]] s.heap.size = A at hD hT ⊢
  have hA : ∀ q : Nat, s.heap.size ≤ q → A q := fun q h => by rw [← hAe]; exact Or.inr h
  have hS : va_S A s.heap s.heap [] := va_S.rf
  have hl0 := lv_entry ([vR ta, vI n]) (n := 2) (Nat.le_of_ble_eq_true rfl)
  rw [lg_entry_eq]
  generalize (lg_sl ([vR ta, vI n]) ++ List.replicate (2 - (lg_sl ([vR ta, vI n])).length) Slot.unset).toArray = ls at hl0 ⊢
  have hlv : lv_has ls 2 [(0, vR ta), (1, vI n)] := hl0
  have lf31 := hts (.fieldLink RX8 31 "KerbSplash$Tape" "fault" "I") (List.mem_of_getElem? (i := 1) rfl)
  have hi8 : ∀ w ∈ wsX80, w ∈ vs_e_refuse := fun w h => List.mem_cons_of_mem _ (List.mem_append_right _ (List.mem_append_left _ h))
  have lf25 := hts (.fieldLink RX8 25 "KerbSplash$Tape" "at" "I") (List.mem_of_getElem? (i := 2) rfl)
  have lf15 := hts (.fieldLink RX8 15 "KerbSplash$Tape" "faultAt" "I") (List.mem_of_getElem? (i := 3) rfl)
  refine lv_aload_n hx hb dX8_refuse_0 rfl (lv_at hlv 0 rfl) ?_
  refine va_get (D := D) (ci := 8) (v := vI fa) (C := RX8) (T := TX8) (N := 7) hx hb hts hi8 hown hG.1 hP 0 rfl rfl 5 (by decide) lf31 (fun _ h9 => h9) rfl dX8_refuse_1 ?_
  refine iz_ne (tgt := 20) hx hb dX8_refuse_4 (by decide) (by first | exact rgw hr_fa (by decide) (by decide) | omega) (fun c_1 => ?_) (fun c_1 => ?_)
  · refine W.widen (k := 0) (n := 0) (Nat.le_of_ble_eq_true rfl) (Nat.le_of_ble_eq_true rfl) ?_
    exact W.vret hx hb hr (fun t ht hW => ⟨⟨((fun k => ([] : List Nat).getD k 0), (fun k => ([fa, fp] : List Int).getD k 0), (fun k => ([] : List (Nat → Int32)).getD k (fun _ => 0))), rfl, ⟨(by show (1 ≤ fa ∧ fa ≤ 4); omega), (by show ((-1) ≤ fp ∧ fp ≤ 600); first | exact hr_fp | omega), (by show (fa ≠ 0 → fa = fa ∧ fp = fp); omega), (by show (fa = 0 → fa = n ∧ fp = at_); omega)⟩, at9 ht hP hD [0] (by decide +kernel) rfl⟩, hS.F ht⟩) hS.2.2 dX8_refuse_20
  · refine lv_aload_n hx hb dX8_refuse_7 rfl (lv_at hlv 0 rfl) ?_
    refine lv_iload_n hx hb dX8_refuse_8 rfl (lv_at hlv 1 rfl) ?_
    refine va_put (D := D) (ci := 8) (v := vI n) (ty := .int) (C := RX8) (T := TX8) (N := 7) hx hb hts hi8 tyX8 tyX8_ok nmX8 hown hG.1 hP hD hS 0 rfl rfl 5 (by decide) lf31 (fun _ h9 => h9) rfl (by decide +kernel) rfl rfl (Nat.le_of_ble_eq_true rfl) dX8_refuse_9 (fun H locs hP hD hS => ?_)
    obtain ⟨hP, hD⟩ := pw9 [zO ta 8 [vR tb, vI fed, vI len, vI at_, vI we, vI n, vI fp]] hP hD
    refine lv_aload_n hx hb dX8_refuse_12 rfl (lv_at hlv 0 rfl) ?_
    refine lv_aload_n hx hb dX8_refuse_13 rfl (lv_at hlv 0 rfl) ?_
    refine va_get (D := D) (ci := 8) (v := vI at_) (C := RX8) (T := TX8) (N := 7) hx hb hts hi8 hown hG.1 hP 0 rfl rfl 3 (by decide) lf25 (fun _ h9 => h9) rfl dX8_refuse_14 ?_
    refine va_put (D := D) (ci := 8) (v := vI at_) (ty := .int) (C := RX8) (T := TX8) (N := 7) hx hb hts hi8 tyX8 tyX8_ok nmX8 hown hG.1 hP hD hS 0 rfl rfl 6 (by decide) lf15 (fun _ h9 => h9) rfl (by decide +kernel) rfl rfl (Nat.le_of_ble_eq_true rfl) dX8_refuse_17 (fun H locs hP hD hS => ?_)
    obtain ⟨hP, hD⟩ := pw9 [zO ta 8 [vR tb, vI fed, vI len, vI at_, vI we, vI n, vI at_]] hP hD
    refine W.widen (k := 0) (n := 0) (Nat.le_of_ble_eq_true rfl) (Nat.le_of_ble_eq_true rfl) ?_
    exact W.vret hx hb hr (fun t ht hW => ⟨⟨((fun k => ([] : List Nat).getD k 0), (fun k => ([n, at_] : List Int).getD k 0), (fun k => ([] : List (Nat → Int32)).getD k (fun _ => 0))), rfl, ⟨(by show (1 ≤ n ∧ n ≤ 4); first | exact hr_n | omega), (by show ((-1) ≤ at_ ∧ at_ ≤ 600); first | exact rgw hr_at_ (by decide) (by decide) | omega), (by show (fa ≠ 0 → n = fa ∧ at_ = fp); omega), (by show (fa = 0 → n = n ∧ at_ = at_); omega)⟩, at9 ht hP hD [0] (by decide +kernel) rfl⟩, hS.F ht⟩) hS.2.2 dX8_refuse_20
def vs_e_sign : List Cond := .code yX8_sign cX8_sign 1 (some .int) :: (([.fieldLink RX8 31 "KerbSplash$Tape" "fault" "I", .fieldLink RX8 25 "KerbSplash$Tape" "at" "I", .fieldLink RX8 22 "KerbSplash$Tape" "length" "I", .fieldLink RX8 11 "KerbSplash$Tape" "bytes" "[B"] : List Cond) ++ ((wsX80) ++ ([])))
theorem gd_e_sign : vs_e_sign.all goodWord = true := gd_C (by decide +kernel) (gd_A (by decide +kernel) (gd_A (by decide +kernel) rfl))
set_option maxHeartbeats 4000000 in
set_option maxRecDepth 100000 in
theorem e_sign (l : Launch) (hl : l.stackTraces = false) (D : va_G) (cy : Nat → ClassId) (sa : Nat → Nat) (ta tb : Nat) (fed len at_ we fa fp : Int) (bf : Nat → Int32) (gq : Nat → Int) (sz : Nat) (hr_fed : 0 ≤ fed ∧ fed ≤ 600) (hr_len : 0 ≤ len ∧ len ≤ 600) (hr_at_ : 0 ≤ at_ ∧ at_ ≤ 600) (hr_we : 0 ≤ we ∧ we ≤ 600) (hr_fa : 0 ≤ fa ∧ fa ≤ 4) (hr_fp : (-1) ≤ fp ∧ fp ≤ 600) (hn_br : TPg bf gq) : mI9 l yX8_sign vs_e_sign ({ frames := 0, cells := 0, slots := 0, locals := 0 }) D cy sa sz [vR ta] [zO ta 8 [vR tb, vI fed, vI len, vI at_, vI we, vI fa, vI fp], zI tb (cy 1) 600 bf] (fun (r : Int32) (u : SV) => r = iI (u.2.1 0) ∧ ((-1) ≤ u.2.1 0 ∧ u.2.1 0 ≤ 255) ∧ (0 ≤ u.2.1 1 ∧ u.2.1 1 ≤ 600) ∧ (at_ ≤ u.2.1 1) ∧ (fa ≠ 0 → u.2.1 0 = -1) ∧ (u.2.1 0 ≠ -1 → u.2.1 1 < len) ∧ (SiS gq len at_ fa (u.2.1 0) (u.2.1 1))) (fun u : SV => [zO ta 8 [vR tb, vI fed, vI len, vI (u.2.1 1), vI we, vI fa, vI fp], zI tb (cy 1) 600 bf]) 0 0 := by
  refine Met.ofW (cc := cX8_sign) (maxL := 1) (ret := (some .int)) (by decide) rfl ?_
  intro p e s m args below meth c s₁ B hml hv
  obtain ⟨rfl, hsz, hP, hG, hD0, hT⟩ := hv
  have hx := B.exec
  have hb := B.bytes
  have hr := B.returns
  have hts := atoms_spec (ws := vs_e_sign) B.pre
  have hown : s.vm.findClass RX8 = some m.cls := findClass_of_methodNamed B.named
  have hlocks := B.notSynchronized
  subst hsz
  have hD := hD0.self (sz := s.heap.size)
  generalize hAe : va_A [zO ta 8 [vR tb, vI fed, vI len, vI at_, vI we, vI fa, vI fp], zI tb (cy 1) 600 bf] s.heap.size = A at hD hT ⊢
  have hA : ∀ q : Nat, s.heap.size ≤ q → A q := fun q h => by rw [← hAe]; exact Or.inr h
  have hS : va_S A s.heap s.heap [] := va_S.rf
  have hl0 := lv_entry ([vR ta]) (n := 1) (Nat.le_of_ble_eq_true rfl)
  rw [lg_entry_eq]
  generalize (lg_sl ([vR ta]) ++ List.replicate (1 - (lg_sl ([vR ta])).length) Slot.unset).toArray = ls at hl0 ⊢
  have hlv : lv_has ls 1 [(0, vR ta)] := hl0
  have lf31 := hts (.fieldLink RX8 31 "KerbSplash$Tape" "fault" "I") (List.mem_of_getElem? (i := 1) rfl)
  have hi8 : ∀ w ∈ wsX80, w ∈ vs_e_sign := fun w h => List.mem_cons_of_mem _ (List.mem_append_right _ (List.mem_append_left _ h))
  have lf25 := hts (.fieldLink RX8 25 "KerbSplash$Tape" "at" "I") (List.mem_of_getElem? (i := 2) rfl)
  have lf22 := hts (.fieldLink RX8 22 "KerbSplash$Tape" "length" "I") (List.mem_of_getElem? (i := 3) rfl)
  have lf11 := hts (.fieldLink RX8 11 "KerbSplash$Tape" "bytes" "[B") (List.mem_of_getElem? (i := 4) rfl)
  refine lv_aload_n hx hb dX8_sign_0 rfl (lv_at hlv 0 rfl) ?_
  refine va_get (D := D) (ci := 8) (v := vI fa) (C := RX8) (T := TX8) (N := 7) hx hb hts hi8 hown hG.1 hP 0 rfl rfl 5 (by decide) lf31 (fun _ h9 => h9) rfl dX8_sign_1 ?_
  refine iz_eq (tgt := 9) hx hb dX8_sign_4 (by decide) (by first | exact rgw hr_fa (by decide) (by decide) | omega) (fun c_1 => ?_) (fun c_1 => ?_)
  · refine (?_ : ∀ (fu : Nat) (x : Int) (H : Heap) (locs : List Loc) (ls : Array Slot), 600 - x < (fu : Int) → (0 ≤ x ∧ x ≤ 600) → (at_ ≤ x) → (rnI pSp gq len x = rnI pSp gq len at_) → va_P D vwCl [zO ta 8 [vR tb, vI fed, vI len, vI x, vI we, vI fa, vI fp], zI tb (cy 1) 600 bf] H → va_D A [zO ta 8 [vR tb, vI fed, vI len, vI x, vI we, vI fa, vI fp], zI tb (cy 1) 600 bf] → va_S A s.heap H locs → lv_has ls 1 [(0, vR ta)] → W p l e _ s m _ below meth c H locs _ _ _ (F0 m 9 ls [])) (((600 - at_) + 1 : Int)).toNat at_ _ _ _ (by omega) (by first | exact hr_at_ | omega) (by omega) rfl  hP hD hS hlv
    clear hP hD hS hlv
    intro fu
    induction fu with
    | zero => intro x H locs ls hm9 hl9_0 hl9_1 hl9_2  hP hD hS hlv; omega
    | succ fu ih9 =>
      intro x H locs ls hm9 hl9_0 hl9_1 hl9_2  hP hD hS hlv
      refine lv_aload_n hx hb dX8_sign_9 rfl (lv_at hlv 0 rfl) ?_
      refine va_get (D := D) (ci := 8) (v := vI x) (C := RX8) (T := TX8) (N := 7) hx hb hts hi8 hown hG.1 hP 0 rfl rfl 3 (by decide) lf25 (fun _ h9 => h9) rfl dX8_sign_10 ?_
      refine lv_aload_n hx hb dX8_sign_13 rfl (lv_at hlv 0 rfl) ?_
      refine va_get (D := D) (ci := 8) (v := vI len) (C := RX8) (T := TX8) (N := 7) hx hb hts hi8 hown hG.1 hP 0 rfl rfl 2 (by decide) lf22 (fun _ h9 => h9) rfl dX8_sign_14 ?_
      refine ir_ge (tgt := 47) hx hb dX8_sign_17 (by decide) (by first | exact rgw hl9_0 (by decide) (by decide) | omega) (by first | exact rgw hr_len (by decide) (by decide) | omega) (fun c_2 => ?_) (fun c_2 => ?_)
      · refine lv_aload_n hx hb dX8_sign_47 rfl (lv_at hlv 0 rfl) ?_
        refine va_get (D := D) (ci := 8) (v := vI x) (C := RX8) (T := TX8) (N := 7) hx hb hts hi8 hown hG.1 hP 0 rfl rfl 3 (by decide) lf25 (fun _ h9 => h9) rfl dX8_sign_48 ?_
        refine lv_aload_n hx hb dX8_sign_51 rfl (lv_at hlv 0 rfl) ?_
        refine va_get (D := D) (ci := 8) (v := vI len) (C := RX8) (T := TX8) (N := 7) hx hb hts hi8 hown hG.1 hP 0 rfl rfl 2 (by decide) lf22 (fun _ h9 => h9) rfl dX8_sign_52 ?_
        refine ir_ge (tgt := 74) hx hb dX8_sign_55 (by decide) (by first | exact rgw hl9_0 (by decide) (by decide) | omega) (by first | exact rgw hr_len (by decide) (by decide) | omega) (fun c_3 => ?_) (fun c_3 => ?_)
        · refine lv_iconst (v := iI (-1)) hx hb dX8_sign_74 (by decide) ?_
          refine W.widen (k := 0) (n := 0) (Nat.le_of_ble_eq_true rfl) (Nat.le_of_ble_eq_true rfl) ?_
          exact W.iret (v := iI (-1)) hx hb hr (fun t ht hW => ⟨⟨iI (-1), ((fun k => ([] : List Nat).getD k 0), (fun k => ([(-1), x] : List Int).getD k 0), (fun k => ([] : List (Nat → Int32)).getD k (fun _ => 0))), rfl, ⟨rfl, (by show ((-1) ≤ (-1) ∧ (-1) ≤ 255); show ((-1) : Int) ≤ (-1) ∧ ((-1) : Int) ≤ 255; decide), (by show (0 ≤ x ∧ x ≤ 600); first | exact hl9_0 | omega), (by show (at_ ≤ x); omega), (by show (fa ≠ 0 → (-1) = -1); omega), (by show ((-1) ≠ -1 → x < len); omega), (by show (SiS gq len at_ fa ((-1)) (x)); exact (by first | exact (SiS_2 (by omega) hl9_2 (by omega) (by omega)) | (exfalso; omega)))⟩, at9 ht hP hD [0, 1] (by decide +kernel) rfl⟩, hS.F ht⟩) hS.2.2 dX8_sign_75
        · refine lv_aload_n hx hb dX8_sign_58 rfl (lv_at hlv 0 rfl) ?_
          refine va_get (D := D) (ci := 8) (v := vR tb) (C := RX8) (T := TX8) (N := 7) hx hb hts hi8 hown hG.1 hP 0 rfl rfl 0 (by decide) lf11 (fun _ h9 => h9) rfl dX8_sign_59 ?_
          refine lv_aload_n hx hb dX8_sign_62 rfl (lv_at hlv 0 rfl) ?_
          refine va_get (D := D) (ci := 8) (v := vI x) (C := RX8) (T := TX8) (N := 7) hx hb hts hi8 hown hG.1 hP 0 rfl rfl 3 (by decide) lf25 (fun _ h9 => h9) rfl dX8_sign_63 ?_
          refine va_bald hx hb hG.1 hP 1 1 rfl rfl (iI_in (by omega) (by decide)) dX8_sign_66 ?_
          refine lt_nz (i := x) (by omega) (fun z_4 hz_4 lz_4 uz_4 => ?_)
          refine lv_sipush (v := iI 255) hx hb dX8_sign_67 (by decide) ?_
          refine lv_iand hx hb dX8_sign_70 ?_
          refine lt_aE 8 (by decide) (by decide) (hi := 255) (by decide) (fun z_5 ez_5 lz_5 hz_5 => ?_)
          refine lv_goto (tgt := 75) hx hb dX8_sign_71 (by decide) ?_
          refine W.widen (k := 0) (n := 0) (Nat.le_of_ble_eq_true rfl) (Nat.le_of_ble_eq_true rfl) ?_
          exact W.iret (v := iI z_5) hx hb hr (fun t ht hW => ⟨⟨iI z_5, ((fun k => ([] : List Nat).getD k 0), (fun k => ([z_5, x] : List Int).getD k 0), (fun k => ([] : List (Nat → Int32)).getD k (fun _ => 0))), rfl, ⟨rfl, (by show ((-1) ≤ z_5 ∧ z_5 ≤ 255); omega), (by show (0 ≤ x ∧ x ≤ 600); first | exact hl9_0 | omega), (by show (at_ ≤ x); omega), (by show (fa ≠ 0 → z_5 = -1); omega), (by show (z_5 ≠ -1 → x < len); omega), (by show (SiS gq len at_ fa (z_5) (x)); exact (by first | exact SiS_3 (by omega) hl9_2 (by omega) (by omega) (by have q3 := TPg.at hn_br (x := x) (by omega); omega) (by have q3 := TPg.at hn_br (x := x) (by omega); have q4 := am_eq ez_5 (by decide) (by omega); omega) | (exfalso; omega)))⟩, at9 ht hP hD [0, 1] (by decide +kernel) rfl⟩, hS.F ht⟩) hS.2.2 dX8_sign_75
      · refine lv_aload_n hx hb dX8_sign_20 rfl (lv_at hlv 0 rfl) ?_
        refine va_get (D := D) (ci := 8) (v := vR tb) (C := RX8) (T := TX8) (N := 7) hx hb hts hi8 hown hG.1 hP 0 rfl rfl 0 (by decide) lf11 (fun _ h9 => h9) rfl dX8_sign_21 ?_
        refine lv_aload_n hx hb dX8_sign_24 rfl (lv_at hlv 0 rfl) ?_
        refine va_get (D := D) (ci := 8) (v := vI x) (C := RX8) (T := TX8) (N := 7) hx hb hts hi8 hown hG.1 hP 0 rfl rfl 3 (by decide) lf25 (fun _ h9 => h9) rfl dX8_sign_25 ?_
        refine va_bald hx hb hG.1 hP 1 1 rfl rfl (iI_in (by omega) (by decide)) dX8_sign_28 ?_
        refine lt_nz (i := x) (by omega) (fun z_6 hz_6 lz_6 uz_6 => ?_)
        refine lv_bipush (v := iI 32) hx hb dX8_sign_29 (by decide) ?_
        refine ir_ne (tgt := 47) hx hb dX8_sign_31 (by decide) (by omega) (by show ((-2147483648) : Int) ≤ 32 ∧ (32 : Int) ≤ 2147483647; decide) (fun c_7 => ?_) (fun c_7 => ?_)
        · refine lv_aload_n hx hb dX8_sign_47 rfl (lv_at hlv 0 rfl) ?_
          refine va_get (D := D) (ci := 8) (v := vI x) (C := RX8) (T := TX8) (N := 7) hx hb hts hi8 hown hG.1 hP 0 rfl rfl 3 (by decide) lf25 (fun _ h9 => h9) rfl dX8_sign_48 ?_
          refine lv_aload_n hx hb dX8_sign_51 rfl (lv_at hlv 0 rfl) ?_
          refine va_get (D := D) (ci := 8) (v := vI len) (C := RX8) (T := TX8) (N := 7) hx hb hts hi8 hown hG.1 hP 0 rfl rfl 2 (by decide) lf22 (fun _ h9 => h9) rfl dX8_sign_52 ?_
          refine ir_ge (tgt := 74) hx hb dX8_sign_55 (by decide) (by first | exact rgw hl9_0 (by decide) (by decide) | omega) (by first | exact rgw hr_len (by decide) (by decide) | omega) (fun c_8 => ?_) (fun c_8 => ?_)
          · refine lv_iconst (v := iI (-1)) hx hb dX8_sign_74 (by decide) ?_
            refine W.widen (k := 0) (n := 0) (Nat.le_of_ble_eq_true rfl) (Nat.le_of_ble_eq_true rfl) ?_
            exact W.iret (v := iI (-1)) hx hb hr (fun t ht hW => ⟨⟨iI (-1), ((fun k => ([] : List Nat).getD k 0), (fun k => ([(-1), x] : List Int).getD k 0), (fun k => ([] : List (Nat → Int32)).getD k (fun _ => 0))), rfl, ⟨rfl, (by show ((-1) ≤ (-1) ∧ (-1) ≤ 255); show ((-1) : Int) ≤ (-1) ∧ ((-1) : Int) ≤ 255; decide), (by show (0 ≤ x ∧ x ≤ 600); first | exact hl9_0 | omega), (by show (at_ ≤ x); omega), (by show (fa ≠ 0 → (-1) = -1); omega), (by show ((-1) ≠ -1 → x < len); omega), (by show (SiS gq len at_ fa ((-1)) (x)); exact (by first | exact (SiS_2 (by omega) hl9_2 (by omega) (by omega)) | (exfalso; omega)))⟩, at9 ht hP hD [0, 1] (by decide +kernel) rfl⟩, hS.F ht⟩) hS.2.2 dX8_sign_75
          · refine lv_aload_n hx hb dX8_sign_58 rfl (lv_at hlv 0 rfl) ?_
            refine va_get (D := D) (ci := 8) (v := vR tb) (C := RX8) (T := TX8) (N := 7) hx hb hts hi8 hown hG.1 hP 0 rfl rfl 0 (by decide) lf11 (fun _ h9 => h9) rfl dX8_sign_59 ?_
            refine lv_aload_n hx hb dX8_sign_62 rfl (lv_at hlv 0 rfl) ?_
            refine va_get (D := D) (ci := 8) (v := vI x) (C := RX8) (T := TX8) (N := 7) hx hb hts hi8 hown hG.1 hP 0 rfl rfl 3 (by decide) lf25 (fun _ h9 => h9) rfl dX8_sign_63 ?_
            refine va_bald hx hb hG.1 hP 1 1 rfl rfl (iI_in (by omega) (by decide)) dX8_sign_66 ?_
            refine lt_i (y := iI z_6) (nz_rd hz_6 (by omega)) ?_
            refine lv_sipush (v := iI 255) hx hb dX8_sign_67 (by decide) ?_
            refine lv_iand hx hb dX8_sign_70 ?_
            refine lt_aE 8 (by decide) (by decide) (hi := 255) (by decide) (fun z_9 ez_9 lz_9 hz_9 => ?_)
            refine lv_goto (tgt := 75) hx hb dX8_sign_71 (by decide) ?_
            refine W.widen (k := 0) (n := 0) (Nat.le_of_ble_eq_true rfl) (Nat.le_of_ble_eq_true rfl) ?_
            exact W.iret (v := iI z_9) hx hb hr (fun t ht hW => ⟨⟨iI z_9, ((fun k => ([] : List Nat).getD k 0), (fun k => ([z_9, x] : List Int).getD k 0), (fun k => ([] : List (Nat → Int32)).getD k (fun _ => 0))), rfl, ⟨rfl, (by show ((-1) ≤ z_9 ∧ z_9 ≤ 255); omega), (by show (0 ≤ x ∧ x ≤ 600); first | exact hl9_0 | omega), (by show (at_ ≤ x); omega), (by show (fa ≠ 0 → z_9 = -1); omega), (by show (z_9 ≠ -1 → x < len); omega), (by show (SiS gq len at_ fa (z_9) (x)); exact (by first | exact SiS_3 (by omega) hl9_2 (by omega) (by omega) (by have q3 := TPg.at hn_br (x := x) (by omega); omega) (by have q3 := TPg.at hn_br (x := x) (by omega); have q4 := am_eq ez_9 (by decide) (by omega); omega) | (exfalso; omega)))⟩, at9 ht hP hD [0, 1] (by decide +kernel) rfl⟩, hS.F ht⟩) hS.2.2 dX8_sign_75
        · refine lv_aload_n hx hb dX8_sign_34 rfl (lv_at hlv 0 rfl) ?_
          refine lv_dup hx hb dX8_sign_35 rfl ?_
          refine va_get (D := D) (ci := 8) (v := vI x) (C := RX8) (T := TX8) (N := 7) hx hb hts hi8 hown hG.1 hP 0 rfl rfl 3 (by decide) lf25 (fun _ h9 => h9) rfl dX8_sign_36 ?_
          refine lv_iconst (v := iI 1) hx hb dX8_sign_39 (by decide) ?_
          refine lv_iadd hx hb dX8_sign_40 ?_
          refine lt_e (e0 := x + 1) (Int32.ofInt_add _ _).symm (fun z_10 hz_10 => ?_)
          refine va_put (D := D) (ci := 8) (v := vI z_10) (ty := .int) (C := RX8) (T := TX8) (N := 7) hx hb hts hi8 tyX8 tyX8_ok nmX8 hown hG.1 hP hD hS 0 rfl rfl 3 (by decide) lf25 (fun _ h9 => h9) rfl (by decide +kernel) rfl rfl (Nat.le_of_ble_eq_true rfl) dX8_sign_41 (fun H locs hP hD hS => ?_)
          obtain ⟨hP, hD⟩ := pw9 [zO ta 8 [vR tb, vI fed, vI len, vI z_10, vI we, vI fa, vI fp], zI tb (cy 1) 600 bf] hP hD
          refine lv_goto (tgt := 9) hx hb dX8_sign_44 (by decide) ?_
          exact ih9 z_10 H locs ls (by omega) (by omega) (by omega) ((rnI_go (a := x) (by omega) (by omega) (pSp_t (by have q3 := TPg.at hn_br (x := x) (by omega); omega)) (by omega)).trans hl9_2)  (hP.sub [0, 1] rfl) (hD.sub [0, 1] (by decide) rfl) hS (lv_sub hlv [0] rfl)
  · refine lv_iconst (v := iI (-1)) hx hb dX8_sign_7 (by decide) ?_
    refine W.widen (k := 0) (n := 0) (Nat.le_of_ble_eq_true rfl) (Nat.le_of_ble_eq_true rfl) ?_
    exact W.iret (v := iI (-1)) hx hb hr (fun t ht hW => ⟨⟨iI (-1), ((fun k => ([] : List Nat).getD k 0), (fun k => ([(-1), at_] : List Int).getD k 0), (fun k => ([] : List (Nat → Int32)).getD k (fun _ => 0))), rfl, ⟨rfl, (by show ((-1) ≤ (-1) ∧ (-1) ≤ 255); show ((-1) : Int) ≤ (-1) ∧ ((-1) : Int) ≤ 255; decide), (by show (0 ≤ at_ ∧ at_ ≤ 600); first | exact hr_at_ | omega), (by show (at_ ≤ at_); omega), (by show (fa ≠ 0 → (-1) = -1); omega), (by show ((-1) ≠ -1 → at_ < len); omega), (by show (SiS gq len at_ fa ((-1)) (at_)); exact (SiS_1 (by omega)))⟩, at9 ht hP hD [0, 1] (by decide +kernel) rfl⟩, hS.F ht⟩) hS.2.2 dX8_sign_8
def vs_e_hasMore : List Cond := .code yX8_hasMore cX8_hasMore 1 (some .boolean) :: (([] : List Cond) ++ ((wsV RX8 34 RX8 yX8_sign vs_e_sign) ++ ([])))
theorem gd_e_hasMore : vs_e_hasMore.all goodWord = true := gd_C (by decide +kernel) (gd_A (by decide +kernel) (gd_A (gd_V gd_e_sign (by decide +kernel)) rfl))
set_option maxHeartbeats 4000000 in
set_option maxRecDepth 100000 in
theorem e_hasMore (l : Launch) (hl : l.stackTraces = false) (D : va_G) (cy : Nat → ClassId) (sa : Nat → Nat) (ta tb : Nat) (fed len at_ we fa fp : Int) (bf : Nat → Int32) (gq : Nat → Int) (sz : Nat) (hr_fed : 0 ≤ fed ∧ fed ≤ 600) (hr_len : 0 ≤ len ∧ len ≤ 600) (hr_at_ : 0 ≤ at_ ∧ at_ ≤ 600) (hr_we : 0 ≤ we ∧ we ≤ 600) (hr_fa : 0 ≤ fa ∧ fa ≤ 4) (hr_fp : (-1) ≤ fp ∧ fp ≤ 600) (hn_br : TPg bf gq) : mI9 l yX8_hasMore vs_e_hasMore ({ frames := 1, cells := 0, slots := 0, locals := 20 }) D cy sa sz [vR ta] [zO ta 8 [vR tb, vI fed, vI len, vI at_, vI we, vI fa, vI fp], zI tb (cy 1) 600 bf] (fun (r : Int32) (u : SV) => r = iI (u.2.1 0) ∧ (0 ≤ u.2.1 0 ∧ u.2.1 0 ≤ 1) ∧ (0 ≤ u.2.1 1 ∧ u.2.1 1 ≤ 600) ∧ (at_ ≤ u.2.1 1) ∧ (fa ≠ 0 → u.2.1 0 = 0) ∧ (u.2.1 0 = 1 → u.2.1 1 < len) ∧ (HmS gq len at_ fa (u.2.1 0) (u.2.1 1))) (fun u : SV => [zO ta 8 [vR tb, vI fed, vI len, vI (u.2.1 1), vI we, vI fa, vI fp], zI tb (cy 1) 600 bf]) 0 0 := by
  refine Met.ofW (cc := cX8_hasMore) (maxL := 1) (ret := (some .boolean)) (by decide) rfl ?_
  intro p e s m args below meth c s₁ B hml hv
  obtain ⟨rfl, hsz, hP, hG, hD0, hT⟩ := hv
  have hx := B.exec
  have hb := B.bytes
  have hr := B.returns
  have hts := atoms_spec (ws := vs_e_hasMore) B.pre
  have hown : s.vm.findClass RX8 = some m.cls := findClass_of_methodNamed B.named
  have hlocks := B.notSynchronized
  subst hsz
  have hD := hD0.self (sz := s.heap.size)
  generalize hAe : va_A [zO ta 8 [vR tb, vI fed, vI len, vI at_, vI we, vI fa, vI fp], zI tb (cy 1) 600 bf] s.heap.size = A at hD hT ⊢
  have hA : ∀ q : Nat, s.heap.size ≤ q → A q := fun q h => by rw [← hAe]; exact Or.inr h
  have hS : va_S A s.heap s.heap [] := va_S.rf
  have hl0 := lv_entry ([vR ta]) (n := 1) (Nat.le_of_ble_eq_true rfl)
  rw [lg_entry_eq]
  generalize (lg_sl ([vR ta]) ++ List.replicate (1 - (lg_sl ([vR ta])).length) Slot.unset).toArray = ls at hl0 ⊢
  have hlv : lv_has ls 1 [(0, vR ta)] := hl0
  have gg_0 : GoodIn vs_e_hasMore (wsV RX8 34 RX8 yX8_sign vs_e_sign) := goodIn_sub (fun w h => List.mem_cons_of_mem _ (List.mem_append_right _ (List.mem_append_left _ h))) (gd_V gd_e_sign (by decide +kernel))
  refine lv_aload_n hx hb dX8_hasMore_0 rfl (lv_at hlv 0 rfl) ?_
  refine cjr_i [false, false] (fun pre9 => (va_runV (As := []) (rest := []) ⟨hx, hb, hml, hown, hts⟩ (e_sign l hl D cy sa ta tb fed len at_ we fa fp bf gq s.heap.size (by first | exact hr_fed | omega) (by first | exact hr_len | omega) (by first | exact hr_at_ | omega) (by first | exact hr_we | omega) (by first | exact hr_fa | omega) (by first | exact hr_fp | omega) hn_br) (cwV 0 hts gg_0 rfl rfl rfl (by decide +kernel) ⟨Nat.le_of_ble_eq_true rfl, Nat.le_of_ble_eq_true rfl⟩) ⟨pcW.blind, (va_recv hG.1 hP (ci := 8) (q0 := 0) rfl rfl), pre9⟩ rfl rfl hlv.1 rfl (lv_room (Nat.le_of_ble_eq_true rfl)) dX8_hasMore_1 ⟨Nat.le_of_ble_eq_true rfl, Nat.le_of_ble_eq_true rfl⟩)) hP hD hS hA hG hT [0, 1] rfl (by decide +kernel) (fun r1 u1 H locs hw1 hq9 hS => ?_)
  obtain ⟨rfl, hq1_1, hq1_2, hq1_3, hq1_4, hq1_5, hq1_6⟩ := hw1
  obtain ⟨hP, hD⟩ := pd9 [zO ta 8 [vR tb, vI fed, vI len, vI (u1.2.1 1), vI we, vI fa, vI fp], zI tb (cy 1) 600 bf] hq9
  refine lv_iconst (v := iI (-1)) hx hb dX8_hasMore_4 (by decide) ?_
  refine ir_eq (tgt := 12) hx hb dX8_hasMore_5 (by decide) (by first | exact rgw hq1_1 (by decide) (by decide) | omega) (by show ((-2147483648) : Int) ≤ (-1) ∧ ((-1) : Int) ≤ 2147483647; decide) (fun c_1 => ?_) (fun c_1 => ?_)
  · refine lv_iconst (v := iI 0) hx hb dX8_hasMore_12 (by decide) ?_
    refine W.widen (k := 0) (n := 0) (Nat.le_of_ble_eq_true rfl) (Nat.le_of_ble_eq_true rfl) ?_
    exact W.zret (v := iI 0) hx hb hr (by first | rfl | decide) (fun t ht hW => ⟨⟨iI 0, ((fun k => ([] : List Nat).getD k 0), (fun k => ([0, (u1.2.1 1)] : List Int).getD k 0), (fun k => ([] : List (Nat → Int32)).getD k (fun _ => 0))), rfl, ⟨rfl, (by show (0 ≤ 0 ∧ 0 ≤ 1); show (0 : Int) ≤ 0 ∧ (0 : Int) ≤ 1; decide), (by show (0 ≤ (u1.2.1 1) ∧ (u1.2.1 1) ≤ 600); first | exact hq1_2 | omega), (by show (at_ ≤ (u1.2.1 1)); omega), (by show (fa ≠ 0 → 0 = 0); omega), (by show (0 = 1 → (u1.2.1 1) < len); omega), (by show (HmS gq len at_ fa (0) ((u1.2.1 1))); exact (HmS_of (TPg.nn hn_br (by omega)) hq1_6 (by omega) (by omega)))⟩, at9 ht hP hD [0, 1] (by decide +kernel) rfl⟩, hS.F ht⟩) hS.2.2 dX8_hasMore_13
  · refine lv_iconst (v := iI 1) hx hb dX8_hasMore_8 (by decide) ?_
    refine lv_goto (tgt := 13) hx hb dX8_hasMore_9 (by decide) ?_
    refine W.widen (k := 0) (n := 0) (Nat.le_of_ble_eq_true rfl) (Nat.le_of_ble_eq_true rfl) ?_
    exact W.zret (v := iI 1) hx hb hr (by first | rfl | decide) (fun t ht hW => ⟨⟨iI 1, ((fun k => ([] : List Nat).getD k 0), (fun k => ([1, (u1.2.1 1)] : List Int).getD k 0), (fun k => ([] : List (Nat → Int32)).getD k (fun _ => 0))), rfl, ⟨rfl, (by show (0 ≤ 1 ∧ 1 ≤ 1); show (0 : Int) ≤ 1 ∧ (1 : Int) ≤ 1; decide), (by show (0 ≤ (u1.2.1 1) ∧ (u1.2.1 1) ≤ 600); first | exact hq1_2 | omega), (by show (at_ ≤ (u1.2.1 1)); omega), (by show (fa ≠ 0 → 1 = 0); omega), (by show (1 = 1 → (u1.2.1 1) < len); omega), (by show (HmS gq len at_ fa (1) ((u1.2.1 1))); exact (HmS_of (TPg.nn hn_br (by omega)) hq1_6 (by omega) (by omega)))⟩, at9 ht hP hD [0, 1] (by decide +kernel) rfl⟩, hS.F ht⟩) hS.2.2 dX8_hasMore_13
end
