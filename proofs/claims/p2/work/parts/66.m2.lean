theorem dX12_readDrain_0 : decode cX12_readDrain 0 = .ok (.bipush 6, 2) := by decide +kernel
theorem dX12_readDrain_10 : decode cX12_readDrain 10 = .ok (.iadd, 1) := by decide +kernel
theorem dX12_readDrain_100 : decode cX12_readDrain 100 = .ok (.iastore, 1) := by decide +kernel
theorem dX12_readDrain_101 : decode cX12_readDrain 101 = .ok (.return_, 1) := by decide +kernel
theorem dX12_readDrain_11 : decode cX12_readDrain 11 = .ok (.istore_n 1, 1) := by decide +kernel
theorem dX12_readDrain_12 : decode cX12_readDrain 12 = .ok (.aload_n 0, 1) := by decide +kernel
theorem dX12_readDrain_13 : decode cX12_readDrain 13 = .ok (.invokevirtual 127, 3) := by decide +kernel
theorem dX12_readDrain_16 : decode cX12_readDrain 16 = .ok (.istore_n 2, 1) := by decide +kernel
theorem dX12_readDrain_17 : decode cX12_readDrain 17 = .ok (.aload_n 0, 1) := by decide +kernel
theorem dX12_readDrain_18 : decode cX12_readDrain 18 = .ok (.invokevirtual 130, 3) := by decide +kernel
theorem dX12_readDrain_2 : decode cX12_readDrain 2 = .ok (.iconst 3, 1) := by decide +kernel
theorem dX12_readDrain_21 : decode cX12_readDrain 21 = .ok (.istore_n 3, 1) := by decide +kernel
theorem dX12_readDrain_22 : decode cX12_readDrain 22 = .ok (.aload_n 0, 1) := by decide +kernel
theorem dX12_readDrain_23 : decode cX12_readDrain 23 = .ok (.iconst 1, 1) := by decide +kernel
theorem dX12_readDrain_24 : decode cX12_readDrain 24 = .ok (.bipush 99, 2) := by decide +kernel
theorem dX12_readDrain_26 : decode cX12_readDrain 26 = .ok (.invokevirtual 123, 3) := by decide +kernel
theorem dX12_readDrain_29 : decode cX12_readDrain 29 = .ok (.istore 4, 2) := by decide +kernel
theorem dX12_readDrain_3 : decode cX12_readDrain 3 = .ok (.aload_n 0, 1) := by decide +kernel
theorem dX12_readDrain_31 : decode cX12_readDrain 31 = .ok (.aload_n 0, 1) := by decide +kernel
theorem dX12_readDrain_32 : decode cX12_readDrain 32 = .ok (.iconst 0, 1) := by decide +kernel
theorem dX12_readDrain_33 : decode cX12_readDrain 33 = .ok (.bipush 16, 2) := by decide +kernel
theorem dX12_readDrain_35 : decode cX12_readDrain 35 = .ok (.invokevirtual 123, 3) := by decide +kernel
theorem dX12_readDrain_38 : decode cX12_readDrain 38 = .ok (.istore 5, 2) := by decide +kernel
theorem dX12_readDrain_4 : decode cX12_readDrain 4 = .ok (.getfield 26, 3) := by decide +kernel
theorem dX12_readDrain_40 : decode cX12_readDrain 40 = .ok (.aload_n 0, 1) := by decide +kernel
theorem dX12_readDrain_41 : decode cX12_readDrain 41 = .ok (.invokevirtual 109, 3) := by decide +kernel
theorem dX12_readDrain_44 : decode cX12_readDrain 44 = .ok (.ifCond .ne 4, 3) := by decide +kernel
theorem dX12_readDrain_47 : decode cX12_readDrain 47 = .ok (.return_, 1) := by decide +kernel
theorem dX12_readDrain_48 : decode cX12_readDrain 48 = .ok (.aload_n 0, 1) := by decide +kernel
theorem dX12_readDrain_49 : decode cX12_readDrain 49 = .ok (.getfield 26, 3) := by decide +kernel
theorem dX12_readDrain_52 : decode cX12_readDrain 52 = .ok (.iload_n 1, 1) := by decide +kernel
theorem dX12_readDrain_53 : decode cX12_readDrain 53 = .ok (.iload_n 2, 1) := by decide +kernel
theorem dX12_readDrain_54 : decode cX12_readDrain 54 = .ok (.iastore, 1) := by decide +kernel
theorem dX12_readDrain_55 : decode cX12_readDrain 55 = .ok (.aload_n 0, 1) := by decide +kernel
theorem dX12_readDrain_56 : decode cX12_readDrain 56 = .ok (.getfield 26, 3) := by decide +kernel
theorem dX12_readDrain_59 : decode cX12_readDrain 59 = .ok (.iload_n 1, 1) := by decide +kernel
theorem dX12_readDrain_60 : decode cX12_readDrain 60 = .ok (.iconst 1, 1) := by decide +kernel
theorem dX12_readDrain_61 : decode cX12_readDrain 61 = .ok (.iadd, 1) := by decide +kernel
theorem dX12_readDrain_62 : decode cX12_readDrain 62 = .ok (.iload_n 3, 1) := by decide +kernel
theorem dX12_readDrain_63 : decode cX12_readDrain 63 = .ok (.iastore, 1) := by decide +kernel
theorem dX12_readDrain_64 : decode cX12_readDrain 64 = .ok (.aload_n 0, 1) := by decide +kernel
theorem dX12_readDrain_65 : decode cX12_readDrain 65 = .ok (.getfield 26, 3) := by decide +kernel
theorem dX12_readDrain_68 : decode cX12_readDrain 68 = .ok (.iload_n 1, 1) := by decide +kernel
theorem dX12_readDrain_69 : decode cX12_readDrain 69 = .ok (.iconst 2, 1) := by decide +kernel
theorem dX12_readDrain_7 : decode cX12_readDrain 7 = .ok (.iconst 2, 1) := by decide +kernel
theorem dX12_readDrain_70 : decode cX12_readDrain 70 = .ok (.iadd, 1) := by decide +kernel
theorem dX12_readDrain_71 : decode cX12_readDrain 71 = .ok (.iload 4, 2) := by decide +kernel
theorem dX12_readDrain_73 : decode cX12_readDrain 73 = .ok (.iastore, 1) := by decide +kernel
theorem dX12_readDrain_74 : decode cX12_readDrain 74 = .ok (.aload_n 0, 1) := by decide +kernel
theorem dX12_readDrain_75 : decode cX12_readDrain 75 = .ok (.getfield 32, 3) := by decide +kernel
theorem dX12_readDrain_78 : decode cX12_readDrain 78 = .ok (.sipush 192, 3) := by decide +kernel
theorem dX12_readDrain_8 : decode cX12_readDrain 8 = .ok (.iaload, 1) := by decide +kernel
theorem dX12_readDrain_81 : decode cX12_readDrain 81 = .ok (.aload_n 0, 1) := by decide +kernel
theorem dX12_readDrain_82 : decode cX12_readDrain 82 = .ok (.getfield 26, 3) := by decide +kernel
theorem dX12_readDrain_85 : decode cX12_readDrain 85 = .ok (.iconst 2, 1) := by decide +kernel
theorem dX12_readDrain_86 : decode cX12_readDrain 86 = .ok (.iaload, 1) := by decide +kernel
theorem dX12_readDrain_87 : decode cX12_readDrain 87 = .ok (.iadd, 1) := by decide +kernel
theorem dX12_readDrain_88 : decode cX12_readDrain 88 = .ok (.iload 5, 2) := by decide +kernel
theorem dX12_readDrain_9 : decode cX12_readDrain 9 = .ok (.imul, 1) := by decide +kernel
theorem dX12_readDrain_90 : decode cX12_readDrain 90 = .ok (.iastore, 1) := by decide +kernel
theorem dX12_readDrain_91 : decode cX12_readDrain 91 = .ok (.aload_n 0, 1) := by decide +kernel
theorem dX12_readDrain_92 : decode cX12_readDrain 92 = .ok (.getfield 26, 3) := by decide +kernel
theorem dX12_readDrain_95 : decode cX12_readDrain 95 = .ok (.iconst 2, 1) := by decide +kernel
theorem dX12_readDrain_96 : decode cX12_readDrain 96 = .ok (.dup2, 1) := by decide +kernel
theorem dX12_readDrain_97 : decode cX12_readDrain 97 = .ok (.iaload, 1) := by decide +kernel
theorem dX12_readDrain_98 : decode cX12_readDrain 98 = .ok (.iconst 1, 1) := by decide +kernel
theorem dX12_readDrain_99 : decode cX12_readDrain 99 = .ok (.iadd, 1) := by decide +kernel
theorem dX12_readPerson_0 : decode cX12_readPerson 0 = .ok (.aload_n 0, 1) := by decide +kernel
theorem dX12_readPerson_1 : decode cX12_readPerson 1 = .ok (.invokevirtual 127, 3) := by decide +kernel
theorem dX12_readPerson_12 : decode cX12_readPerson 12 = .ok (.istore_n 2, 1) := by decide +kernel
theorem dX12_readPerson_13 : decode cX12_readPerson 13 = .ok (.aload_n 0, 1) := by decide +kernel
theorem dX12_readPerson_14 : decode cX12_readPerson 14 = .ok (.invokevirtual 109, 3) := by decide +kernel
theorem dX12_readPerson_17 : decode cX12_readPerson 17 = .ok (.ifCond .ne 4, 3) := by decide +kernel
theorem dX12_readPerson_20 : decode cX12_readPerson 20 = .ok (.return_, 1) := by decide +kernel
theorem dX12_readPerson_21 : decode cX12_readPerson 21 = .ok (.aload_n 0, 1) := by decide +kernel
theorem dX12_readPerson_22 : decode cX12_readPerson 22 = .ok (.getfield 32, 3) := by decide +kernel
theorem dX12_readPerson_25 : decode cX12_readPerson 25 = .ok (.sipush 216, 3) := by decide +kernel
theorem dX12_readPerson_28 : decode cX12_readPerson 28 = .ok (.aload_n 0, 1) := by decide +kernel
theorem dX12_readPerson_29 : decode cX12_readPerson 29 = .ok (.getfield 26, 3) := by decide +kernel
theorem dX12_readPerson_32 : decode cX12_readPerson 32 = .ok (.iconst 3, 1) := by decide +kernel
theorem dX12_readPerson_33 : decode cX12_readPerson 33 = .ok (.iaload, 1) := by decide +kernel
theorem dX12_readPerson_34 : decode cX12_readPerson 34 = .ok (.iadd, 1) := by decide +kernel
theorem dX12_readPerson_35 : decode cX12_readPerson 35 = .ok (.iload_n 1, 1) := by decide +kernel
theorem dX12_readPerson_36 : decode cX12_readPerson 36 = .ok (.iastore, 1) := by decide +kernel
theorem dX12_readPerson_37 : decode cX12_readPerson 37 = .ok (.aload_n 0, 1) := by decide +kernel
theorem dX12_readPerson_38 : decode cX12_readPerson 38 = .ok (.getfield 32, 3) := by decide +kernel
theorem dX12_readPerson_4 : decode cX12_readPerson 4 = .ok (.istore_n 1, 1) := by decide +kernel
theorem dX12_readPerson_41 : decode cX12_readPerson 41 = .ok (.sipush 225, 3) := by decide +kernel
theorem dX12_readPerson_44 : decode cX12_readPerson 44 = .ok (.aload_n 0, 1) := by decide +kernel
theorem dX12_readPerson_45 : decode cX12_readPerson 45 = .ok (.getfield 26, 3) := by decide +kernel
theorem dX12_readPerson_48 : decode cX12_readPerson 48 = .ok (.iconst 3, 1) := by decide +kernel
theorem dX12_readPerson_49 : decode cX12_readPerson 49 = .ok (.iaload, 1) := by decide +kernel
theorem dX12_readPerson_5 : decode cX12_readPerson 5 = .ok (.aload_n 0, 1) := by decide +kernel
theorem dX12_readPerson_50 : decode cX12_readPerson 50 = .ok (.iadd, 1) := by decide +kernel
theorem dX12_readPerson_51 : decode cX12_readPerson 51 = .ok (.iload_n 2, 1) := by decide +kernel
theorem dX12_readPerson_52 : decode cX12_readPerson 52 = .ok (.iastore, 1) := by decide +kernel
theorem dX12_readPerson_53 : decode cX12_readPerson 53 = .ok (.aload_n 0, 1) := by decide +kernel
theorem dX12_readPerson_54 : decode cX12_readPerson 54 = .ok (.getfield 26, 3) := by decide +kernel
theorem dX12_readPerson_57 : decode cX12_readPerson 57 = .ok (.iconst 3, 1) := by decide +kernel
theorem dX12_readPerson_58 : decode cX12_readPerson 58 = .ok (.dup2, 1) := by decide +kernel
theorem dX12_readPerson_59 : decode cX12_readPerson 59 = .ok (.iaload, 1) := by decide +kernel
theorem dX12_readPerson_6 : decode cX12_readPerson 6 = .ok (.iconst 0, 1) := by decide +kernel
theorem dX12_readPerson_60 : decode cX12_readPerson 60 = .ok (.iconst 1, 1) := by decide +kernel
theorem dX12_readPerson_61 : decode cX12_readPerson 61 = .ok (.iadd, 1) := by decide +kernel
theorem dX12_readPerson_62 : decode cX12_readPerson 62 = .ok (.iastore, 1) := by decide +kernel
theorem dX12_readPerson_63 : decode cX12_readPerson 63 = .ok (.return_, 1) := by decide +kernel
theorem dX12_readPerson_7 : decode cX12_readPerson 7 = .ok (.bipush 19, 2) := by decide +kernel
theorem dX12_readPerson_9 : decode cX12_readPerson 9 = .ok (.invokevirtual 123, 3) := by decide +kernel
theorem dX12_readShelter_0 : decode cX12_readShelter 0 = .ok (.aload_n 0, 1) := by decide +kernel
theorem dX12_readShelter_1 : decode cX12_readShelter 1 = .ok (.invokevirtual 127, 3) := by decide +kernel
theorem dX12_readShelter_11 : decode cX12_readShelter 11 = .ok (.iconst 0, 1) := by decide +kernel
theorem dX12_readShelter_12 : decode cX12_readShelter 12 = .ok (.iaload, 1) := by decide +kernel
theorem dX12_readShelter_13 : decode cX12_readShelter 13 = .ok (.iconst 1, 1) := by decide +kernel
theorem dX12_readShelter_14 : decode cX12_readShelter 14 = .ok (.isub, 1) := by decide +kernel
theorem dX12_readShelter_15 : decode cX12_readShelter 15 = .ok (.invokevirtual 123, 3) := by decide +kernel
theorem dX12_readShelter_18 : decode cX12_readShelter 18 = .ok (.istore_n 2, 1) := by decide +kernel
theorem dX12_readShelter_19 : decode cX12_readShelter 19 = .ok (.aload_n 0, 1) := by decide +kernel
theorem dX12_readShelter_20 : decode cX12_readShelter 20 = .ok (.invokevirtual 109, 3) := by decide +kernel
theorem dX12_readShelter_23 : decode cX12_readShelter 23 = .ok (.ifCond .ne 4, 3) := by decide +kernel
theorem dX12_readShelter_26 : decode cX12_readShelter 26 = .ok (.return_, 1) := by decide +kernel
theorem dX12_readShelter_27 : decode cX12_readShelter 27 = .ok (.aload_n 0, 1) := by decide +kernel
theorem dX12_readShelter_28 : decode cX12_readShelter 28 = .ok (.getfield 26, 3) := by decide +kernel
theorem dX12_readShelter_31 : decode cX12_readShelter 31 = .ok (.bipush 24, 2) := by decide +kernel
theorem dX12_readShelter_33 : decode cX12_readShelter 33 = .ok (.iconst 2, 1) := by decide +kernel
theorem dX12_readShelter_34 : decode cX12_readShelter 34 = .ok (.aload_n 0, 1) := by decide +kernel
theorem dX12_readShelter_35 : decode cX12_readShelter 35 = .ok (.getfield 26, 3) := by decide +kernel
theorem dX12_readShelter_38 : decode cX12_readShelter 38 = .ok (.iconst 4, 1) := by decide +kernel
theorem dX12_readShelter_39 : decode cX12_readShelter 39 = .ok (.iaload, 1) := by decide +kernel
theorem dX12_readShelter_4 : decode cX12_readShelter 4 = .ok (.istore_n 1, 1) := by decide +kernel
theorem dX12_readShelter_40 : decode cX12_readShelter 40 = .ok (.imul, 1) := by decide +kernel
theorem dX12_readShelter_41 : decode cX12_readShelter 41 = .ok (.iadd, 1) := by decide +kernel
theorem dX12_readShelter_42 : decode cX12_readShelter 42 = .ok (.iload_n 1, 1) := by decide +kernel
theorem dX12_readShelter_43 : decode cX12_readShelter 43 = .ok (.iastore, 1) := by decide +kernel
theorem dX12_readShelter_44 : decode cX12_readShelter 44 = .ok (.aload_n 0, 1) := by decide +kernel
theorem dX12_readShelter_45 : decode cX12_readShelter 45 = .ok (.getfield 26, 3) := by decide +kernel
theorem dX12_readShelter_48 : decode cX12_readShelter 48 = .ok (.bipush 24, 2) := by decide +kernel
theorem dX12_readShelter_5 : decode cX12_readShelter 5 = .ok (.aload_n 0, 1) := by decide +kernel
theorem dX12_readShelter_50 : decode cX12_readShelter 50 = .ok (.iconst 2, 1) := by decide +kernel
theorem dX12_readShelter_51 : decode cX12_readShelter 51 = .ok (.aload_n 0, 1) := by decide +kernel
theorem dX12_readShelter_52 : decode cX12_readShelter 52 = .ok (.getfield 26, 3) := by decide +kernel
theorem dX12_readShelter_55 : decode cX12_readShelter 55 = .ok (.iconst 4, 1) := by decide +kernel
theorem dX12_readShelter_56 : decode cX12_readShelter 56 = .ok (.iaload, 1) := by decide +kernel
theorem dX12_readShelter_57 : decode cX12_readShelter 57 = .ok (.imul, 1) := by decide +kernel
theorem dX12_readShelter_58 : decode cX12_readShelter 58 = .ok (.iadd, 1) := by decide +kernel
theorem dX12_readShelter_59 : decode cX12_readShelter 59 = .ok (.iconst 1, 1) := by decide +kernel
theorem dX12_readShelter_6 : decode cX12_readShelter 6 = .ok (.iload_n 1, 1) := by decide +kernel
theorem dX12_readShelter_60 : decode cX12_readShelter 60 = .ok (.iadd, 1) := by decide +kernel
theorem dX12_readShelter_61 : decode cX12_readShelter 61 = .ok (.iload_n 2, 1) := by decide +kernel
theorem dX12_readShelter_62 : decode cX12_readShelter 62 = .ok (.iastore, 1) := by decide +kernel
theorem dX12_readShelter_63 : decode cX12_readShelter 63 = .ok (.aload_n 0, 1) := by decide +kernel
theorem dX12_readShelter_64 : decode cX12_readShelter 64 = .ok (.getfield 26, 3) := by decide +kernel
theorem dX12_readShelter_67 : decode cX12_readShelter 67 = .ok (.iconst 4, 1) := by decide +kernel
theorem dX12_readShelter_68 : decode cX12_readShelter 68 = .ok (.dup2, 1) := by decide +kernel
theorem dX12_readShelter_69 : decode cX12_readShelter 69 = .ok (.iaload, 1) := by decide +kernel
theorem dX12_readShelter_7 : decode cX12_readShelter 7 = .ok (.aload_n 0, 1) := by decide +kernel
theorem dX12_readShelter_70 : decode cX12_readShelter 70 = .ok (.iconst 1, 1) := by decide +kernel
theorem dX12_readShelter_71 : decode cX12_readShelter 71 = .ok (.iadd, 1) := by decide +kernel
theorem dX12_readShelter_72 : decode cX12_readShelter 72 = .ok (.iastore, 1) := by decide +kernel
theorem dX12_readShelter_73 : decode cX12_readShelter 73 = .ok (.return_, 1) := by decide +kernel
theorem dX12_readShelter_8 : decode cX12_readShelter 8 = .ok (.getfield 26, 3) := by decide +kernel
theorem dX12_readX_0 : decode cX12_readX 0 = .ok (.aload_n 0, 1) := by decide +kernel
theorem dX12_readX_1 : decode cX12_readX 1 = .ok (.iconst 0, 1) := by decide +kernel
theorem dX12_readX_10 : decode cX12_readX 10 = .ok (.invokevirtual 123, 3) := by decide +kernel
theorem dX12_readX_13 : decode cX12_readX 13 = .ok (.ireturn, 1) := by decide +kernel
theorem dX12_readX_2 : decode cX12_readX 2 = .ok (.aload_n 0, 1) := by decide +kernel
theorem dX12_readX_3 : decode cX12_readX 3 = .ok (.getfield 26, 3) := by decide +kernel
theorem dX12_readX_6 : decode cX12_readX 6 = .ok (.iconst 0, 1) := by decide +kernel
theorem dX12_readX_7 : decode cX12_readX 7 = .ok (.iaload, 1) := by decide +kernel
theorem dX12_readX_8 : decode cX12_readX 8 = .ok (.iconst 1, 1) := by decide +kernel
theorem dX12_readX_9 : decode cX12_readX 9 = .ok (.isub, 1) := by decide +kernel
theorem dX12_readY_0 : decode cX12_readY 0 = .ok (.aload_n 0, 1) := by decide +kernel
theorem dX12_readY_1 : decode cX12_readY 1 = .ok (.iconst 0, 1) := by decide +kernel
theorem dX12_readY_10 : decode cX12_readY 10 = .ok (.invokevirtual 123, 3) := by decide +kernel
theorem dX12_readY_13 : decode cX12_readY 13 = .ok (.ireturn, 1) := by decide +kernel
theorem dX12_readY_2 : decode cX12_readY 2 = .ok (.aload_n 0, 1) := by decide +kernel
theorem dX12_readY_3 : decode cX12_readY 3 = .ok (.getfield 26, 3) := by decide +kernel
theorem dX12_readY_6 : decode cX12_readY 6 = .ok (.iconst 1, 1) := by decide +kernel
theorem dX12_readY_7 : decode cX12_readY 7 = .ok (.iaload, 1) := by decide +kernel
theorem dX12_readY_8 : decode cX12_readY 8 = .ok (.iconst 1, 1) := by decide +kernel
theorem dX12_readY_9 : decode cX12_readY 9 = .ok (.isub, 1) := by decide +kernel
def vs_m_readX : List Cond := .code yX12_readX cX12_readX 1 (some .int) :: (([.fieldLink RX12 26 "KerbSplashModel" "newStreet" "[I"] : List Cond) ++ ((wsX120) ++ ((wsV RX12 123 RX12 yX12_readNumber vs_m_number) ++ ([]))))
theorem gd_m_readX : vs_m_readX.all goodWord = true := gd_C (by decide +kernel) (gd_A (by decide +kernel) (gd_A (by decide +kernel) (gd_A (gd_V gd_m_number (by decide +kernel)) rfl)))
set_option maxHeartbeats 4000000 in
set_option maxRecDepth 100000 in
theorem m_readX (l : Launch) (hl : l.stackTraces = false) (D : va_G) (cy : Nat → ClassId) (sa : Nat → Nat) (mm m1 m9 m10 m11 m12 m13 m14 m15 m19 m20 m21 m23 m24 m25 m26 m27 m28 m33 m35 : Nat) (th tp sz_ ap bad bk opn fp im nr nl sp_ wtc wcl ir ip shu sfa swr : Int) (f9 f11 : Nat → Int32) (sz : Nat) (hr_th : (-2147483648) ≤ th ∧ th ≤ 2147483647) (hr_tp : 0 ≤ tp ∧ tp ≤ 600) (hr_sz_ : 0 ≤ sz_ ∧ sz_ ≤ 600) (hr_ap : 0 ≤ ap ∧ ap ≤ 602) (hr_bad : (-1) ≤ bad ∧ bad ≤ 602) (hr_bk : 0 ≤ bk ∧ bk ≤ 4) (hr_opn : 0 ≤ opn ∧ opn ≤ 7) (hr_fp : (-2147483648) ≤ fp ∧ fp ≤ 2147483647) (hr_im : 0 ≤ im ∧ im ≤ 3) (hr_nr : 0 ≤ nr ∧ nr ≤ 4) (hr_nl : 0 ≤ nl ∧ nl ≤ 4) (hr_sp_ : 0 ≤ sp_ ∧ sp_ ≤ 602) (hr_wtc : (-2147483648) ≤ wtc ∧ wtc ≤ 2147483647) (hr_wcl : 0 ≤ wcl ∧ wcl ≤ 95) (hr_ir : 0 ≤ ir ∧ ir ≤ 5) (hr_ip : (-2147483648) ≤ ip ∧ ip ≤ 2147483647) (hr_shu : (-2147483648) ≤ shu ∧ shu ≤ 2147483647) (hr_sfa : (-2147483648) ≤ sfa ∧ sfa ≤ 2147483647) (hr_swr : (-2147483648) ≤ swr ∧ swr ≤ 2147483647) (hf9 : inv_ 600 0 255 f9) (hf11 : NI f11) : Met l yX12_readX vs_m_readX ({ frames := 2, cells := 0, slots := 0, locals := 47 }) (va_Pc [.ref mm] (pcW D cy sa sz [(mm, .inr (12, [.int (iI th), .ref m1, .int (iI tp), .int (iI sz_), .int (iI ap), .int (iI bad), .int (iI bk), .int (iI opn), .int (iI fp), .ref m9, .ref m10, .ref m11, .ref m12, .ref m13, .ref m14, .ref m15, .int (iI im), .int (iI nr), .int (iI nl), .ref m19, .ref m20, .ref m21, .int (iI sp_), .ref m23, .ref m24, .ref m25, .ref m26, .ref m27, .ref m28, .int (iI wtc), .int (iI wcl), .int (iI ir), .int (iI ip), .ref m33, .int (iI shu), .ref m35, .int (iI sfa), .int (iI swr)])), (m9, .inl (cy 0, 600, .inl f9)), (m11, .inl (cy 0, 68, .inl f11))])) (va_Qi (fun (r : Int32) (u : SV) => r = iI (u.2.1 0) ∧ (0 ≤ u.2.1 1 ∧ u.2.1 1 ≤ 602) ∧ ((-1) ≤ u.2.1 2 ∧ u.2.1 2 ≤ 602) ∧ (0 ≤ u.2.1 3 ∧ u.2.1 3 ≤ 4) ∧ (0 ≤ u.2.1 0 ∧ u.2.1 0 ≤ 99999) ∧ (ap ≤ u.2.1 1) ∧ (ap ≤ sz_ → u.2.1 1 ≤ sz_) ∧ (u.2.1 2 = -1 → bad = -1 ∧ 0 ≤ u.2.1 0 ∧ u.2.1 0 ≤ nz f11 0 - 1) ∧ (bad ≠ -1 → u.2.1 2 = bad) ∧ inv_ 600 0 255 f9 ∧ NI f11) (fun u t => atW D (va_A [(mm, .inr (12, [.int (iI th), .ref m1, .int (iI tp), .int (iI sz_), .int (iI ap), .int (iI bad), .int (iI bk), .int (iI opn), .int (iI fp), .ref m9, .ref m10, .ref m11, .ref m12, .ref m13, .ref m14, .ref m15, .int (iI im), .int (iI nr), .int (iI nl), .ref m19, .ref m20, .ref m21, .int (iI sp_), .ref m23, .ref m24, .ref m25, .ref m26, .ref m27, .ref m28, .int (iI wtc), .int (iI wcl), .int (iI ir), .int (iI ip), .ref m33, .int (iI shu), .ref m35, .int (iI sfa), .int (iI swr)])), (m9, .inl (cy 0, 600, .inl f9)), (m11, .inl (cy 0, 68, .inl f11))] sz) [(mm, .inr (12, [.int (iI th), .ref m1, .int (iI tp), .int (iI sz_), .int (iI (u.2.1 1)), .int (iI (u.2.1 2)), .int (iI (u.2.1 3)), .int (iI opn), .int (iI fp), .ref m9, .ref m10, .ref m11, .ref m12, .ref m13, .ref m14, .ref m15, .int (iI im), .int (iI nr), .int (iI nl), .ref m19, .ref m20, .ref m21, .int (iI sp_), .ref m23, .ref m24, .ref m25, .ref m26, .ref m27, .ref m28, .int (iI wtc), .int (iI wcl), .int (iI ir), .int (iI ip), .ref m33, .int (iI shu), .ref m35, .int (iI sfa), .int (iI swr)])), (m9, .inl (cy 0, 600, .inl f9)), (m11, .inl (cy 0, 68, .inl f11))] t) (va_A [(mm, .inr (12, [.int (iI th), .ref m1, .int (iI tp), .int (iI sz_), .int (iI ap), .int (iI bad), .int (iI bk), .int (iI opn), .int (iI fp), .ref m9, .ref m10, .ref m11, .ref m12, .ref m13, .ref m14, .ref m15, .int (iI im), .int (iI nr), .int (iI nl), .ref m19, .ref m20, .ref m21, .int (iI sp_), .ref m23, .ref m24, .ref m25, .ref m26, .ref m27, .ref m28, .int (iI wtc), .int (iI wcl), .int (iI ir), .int (iI ip), .ref m33, .int (iI shu), .ref m35, .int (iI sfa), .int (iI swr)])), (m9, .inl (cy 0, 600, .inl f9)), (m11, .inl (cy 0, 68, .inl f11))] sz)) 0 0 (va_A [(mm, .inr (12, [.int (iI th), .ref m1, .int (iI tp), .int (iI sz_), .int (iI ap), .int (iI bad), .int (iI bk), .int (iI opn), .int (iI fp), .ref m9, .ref m10, .ref m11, .ref m12, .ref m13, .ref m14, .ref m15, .int (iI im), .int (iI nr), .int (iI nl), .ref m19, .ref m20, .ref m21, .int (iI sp_), .ref m23, .ref m24, .ref m25, .ref m26, .ref m27, .ref m28, .int (iI wtc), .int (iI wcl), .int (iI ir), .int (iI ip), .ref m33, .int (iI shu), .ref m35, .int (iI sfa), .int (iI swr)])), (m9, .inl (cy 0, 600, .inl f9)), (m11, .inl (cy 0, 68, .inl f11))] sz) := by
  refine Met.ofW (cc := cX12_readX) (maxL := 1) (ret := (some .int)) (by decide) rfl ?_
  intro p e s m args below meth c s₁ B hml hv
  obtain ⟨rfl, hsz, hP, hG, hD0, hT⟩ := hv
  have hx := B.exec
  have hb := B.bytes
  have hr := B.returns
  have hts := atoms_spec (ws := vs_m_readX) B.pre
  have hown : s.vm.findClass RX12 = some m.cls := findClass_of_methodNamed B.named
  have hlocks := B.notSynchronized
  subst hsz
  have hD := hD0.self (sz := s.heap.size)
  generalize hAe : va_A [(mm, .inr (12, [.int (iI th), .ref m1, .int (iI tp), .int (iI sz_), .int (iI ap), .int (iI bad), .int (iI bk), .int (iI opn), .int (iI fp), .ref m9, .ref m10, .ref m11, .ref m12, .ref m13, .ref m14, .ref m15, .int (iI im), .int (iI nr), .int (iI nl), .ref m19, .ref m20, .ref m21, .int (iI sp_), .ref m23, .ref m24, .ref m25, .ref m26, .ref m27, .ref m28, .int (iI wtc), .int (iI wcl), .int (iI ir), .int (iI ip), .ref m33, .int (iI shu), .ref m35, .int (iI sfa), .int (iI swr)])), (m9, .inl (cy 0, 600, .inl f9)), (m11, .inl (cy 0, 68, .inl f11))] s.heap.size = A at hD hT ⊢
  have hA : ∀ q : Nat, s.heap.size ≤ q → A q := fun q h => by rw [← hAe]; exact Or.inr h
  have hS : va_S A s.heap s.heap [] := va_S.rf
  have hl0 := lv_entry ([.ref mm]) (n := 1) (Nat.le_of_ble_eq_true rfl)
  rw [lg_entry_eq]
  generalize (lg_sl ([.ref mm]) ++ List.replicate (1 - (lg_sl ([.ref mm])).length) Slot.unset).toArray = ls at hl0 ⊢
  have hlv : lv_has ls 1 [(0, .ref mm)] := hl0
  have lf26 := hts (.fieldLink RX12 26 "KerbSplashModel" "newStreet" "[I") (List.mem_of_getElem? (i := 1) rfl)
  have hi12 : ∀ w ∈ wsX120, w ∈ vs_m_readX := fun w h => List.mem_cons_of_mem _ (List.mem_append_right _ (List.mem_append_left _ h))
  have gg_1 : GoodIn vs_m_readX (wsV RX12 123 RX12 yX12_readNumber vs_m_number) := goodIn_sub (fun w h => List.mem_cons_of_mem _ (List.mem_append_right _ (List.mem_append_right _ (List.mem_append_left _ h)))) (gd_V gd_m_number (by decide +kernel))
  refine lv_aload_n hx hb dX12_readX_0 rfl (lv_at hlv 0 rfl) ?_
  refine lv_iconst (v := iI 0) hx hb dX12_readX_1 (by decide) ?_
  refine lv_aload_n hx hb dX12_readX_2 rfl (lv_at hlv 0 rfl) ?_
  refine va_get (D := D) (ci := 12) (v := .ref m11) (C := RX12) (T := TX12) (N := 38) hx hb hts hi12 hown hG.1 hP 0 rfl rfl 11 (by decide) lf26 (fun _ h9 => h9) rfl dX12_readX_3 ?_
  refine lv_iconst (v := iI 0) hx hb dX12_readX_6 (by decide) ?_
  refine va_iald hx hb hG.1 hP 2 0 rfl rfl (iI_in (by omega) (by decide)) dX12_readX_7 ?_
  refine lt_nz (i := 0) (by omega) (fun z_1 hz_1 lz_1 uz_1 => ?_)
  have hz_1 : z_1 = nz f11 0 := hz_1
  have hbz_1_8 := hf11.1
  refine lv_iconst (v := iI 1) hx hb dX12_readX_8 (by decide) ?_
  refine lv_isub hx hb dX12_readX_9 ?_
  refine lt_e (e0 := z_1 - 1) (Int32.ofInt_sub _ _).symm (fun z_2 hz_2 => ?_)
  refine cj_i (wr := [(m11, .inl (cy 0, 68, .inl f11))]) (va_runV (As := [.int (iI 0), .int (iI z_2)]) (rest := []) ⟨hx, hb, hml, hown, hts⟩ (m_number l hl D cy sa mm m1 m9 m10 m11 m12 m13 m14 m15 m19 m20 m21 m23 m24 m25 m26 m27 m28 m33 m35 th tp sz_ ap bad bk opn fp im nr nl sp_ wtc wcl ir ip shu sfa swr f9 0 z_2 s.heap.size (by omega) (by omega) (by omega) (by omega) (by omega) (by omega) (by omega) (by omega) (by omega) (by omega) (by omega) (by omega) (by omega) (by omega) (by omega) (by omega) (by omega) (by omega) (by omega) (by omega) (by omega) hf9) (cwV 2 hts gg_1 rfl rfl rfl (by decide +kernel) ⟨Nat.le_of_ble_eq_true rfl, Nat.le_of_ble_eq_true rfl⟩) ⟨pcW.blind, (va_recv hG.1 hP (ci := 12) (q0 := 0) rfl rfl), (pcW.mk hP hD hS hA hG hT [0, 1] rfl (by decide))⟩ rfl rfl hlv.1 rfl (lv_room (Nat.le_of_ble_eq_true rfl)) dX12_readX_10 ⟨Nat.le_of_ble_eq_true rfl, Nat.le_of_ble_eq_true rfl⟩) hP hD hS hA [0, 1] [2] rfl rfl (by decide) (by decide) (fun r1 u1 H locs hw1 hP hD hS => ?_)
  obtain ⟨rfl, hq1_1, hq1_2, hq1_3, hq1_4, hq1_5, hq1_6, hq1_7, hq1_8, hq1_9, hq1_10⟩ := hw1
  have hP : va_P D vwCl [(m11, .inl (cy 0, 68, .inl f11)), (mm, .inr (12, [.int (iI th), .ref m1, .int (iI tp), .int (iI sz_), .int (iI (u1.2.1 1)), .int (iI (u1.2.1 2)), .int (iI (u1.2.1 3)), .int (iI opn), .int (iI fp), .ref m9, .ref m10, .ref m11, .ref m12, .ref m13, .ref m14, .ref m15, .int (iI im), .int (iI nr), .int (iI nl), .ref m19, .ref m20, .ref m21, .int (iI sp_), .ref m23, .ref m24, .ref m25, .ref m26, .ref m27, .ref m28, .int (iI wtc), .int (iI wcl), .int (iI ir), .int (iI ip), .ref m33, .int (iI shu), .ref m35, .int (iI sfa), .int (iI swr)])), (m9, .inl (cy 0, 600, .inl f9))] H := hP
  have hD : va_D A [(m11, .inl (cy 0, 68, .inl f11)), (mm, .inr (12, [.int (iI th), .ref m1, .int (iI tp), .int (iI sz_), .int (iI (u1.2.1 1)), .int (iI (u1.2.1 2)), .int (iI (u1.2.1 3)), .int (iI opn), .int (iI fp), .ref m9, .ref m10, .ref m11, .ref m12, .ref m13, .ref m14, .ref m15, .int (iI im), .int (iI nr), .int (iI nl), .ref m19, .ref m20, .ref m21, .int (iI sp_), .ref m23, .ref m24, .ref m25, .ref m26, .ref m27, .ref m28, .int (iI wtc), .int (iI wcl), .int (iI ir), .int (iI ip), .ref m33, .int (iI shu), .ref m35, .int (iI sfa), .int (iI swr)])), (m9, .inl (cy 0, 600, .inl f9))] := hD
  refine W.widen (k := 0) (n := 0) (Nat.le_of_ble_eq_true rfl) (Nat.le_of_ble_eq_true rfl) ?_
  exact W.iret (v := iI (u1.2.1 0)) hx hb hr (fun t ht hW => ⟨⟨iI (u1.2.1 0), ((fun k => ([] : List Nat).getD k 0), (fun k => ([(u1.2.1 0), (u1.2.1 1), (u1.2.1 2), (u1.2.1 3)] : List Int).getD k 0), (fun k => ([] : List (Nat → Int32)).getD k (fun _ => 0))), rfl, ⟨rfl, (by show (0 ≤ (u1.2.1 1) ∧ (u1.2.1 1) ≤ 602); omega), (by show ((-1) ≤ (u1.2.1 2) ∧ (u1.2.1 2) ≤ 602); omega), (by show (0 ≤ (u1.2.1 3) ∧ (u1.2.1 3) ≤ 4); omega), (by show (0 ≤ (u1.2.1 0) ∧ (u1.2.1 0) ≤ 99999); omega), (by show (ap ≤ (u1.2.1 1)); omega), (by show (ap ≤ sz_ → (u1.2.1 1) ≤ sz_); omega), (by show ((u1.2.1 2) = -1 → bad = -1 ∧ 0 ≤ (u1.2.1 0) ∧ (u1.2.1 0) ≤ nz f11 0 - 1); omega), (by show (bad ≠ -1 → (u1.2.1 2) = bad); omega), hq1_10, hf11⟩, by rw [ht]; exact hP.sub [1, 2, 0] rfl, hD.sub [1, 2, 0] (by decide) rfl⟩, hS.F ht⟩) hS.2.2 dX12_readX_13
def vs_m_readY : List Cond := .code yX12_readY cX12_readY 1 (some .int) :: (([.fieldLink RX12 26 "KerbSplashModel" "newStreet" "[I"] : List Cond) ++ ((wsX120) ++ ((wsV RX12 123 RX12 yX12_readNumber vs_m_number) ++ ([]))))
theorem gd_m_readY : vs_m_readY.all goodWord = true := gd_C (by decide +kernel) (gd_A (by decide +kernel) (gd_A (by decide +kernel) (gd_A (gd_V gd_m_number (by decide +kernel)) rfl)))
set_option maxHeartbeats 4000000 in
set_option maxRecDepth 100000 in
theorem m_readY (l : Launch) (hl : l.stackTraces = false) (D : va_G) (cy : Nat → ClassId) (sa : Nat → Nat) (mm m1 m9 m10 m11 m12 m13 m14 m15 m19 m20 m21 m23 m24 m25 m26 m27 m28 m33 m35 : Nat) (th tp sz_ ap bad bk opn fp im nr nl sp_ wtc wcl ir ip shu sfa swr : Int) (f9 f11 : Nat → Int32) (sz : Nat) (hr_th : (-2147483648) ≤ th ∧ th ≤ 2147483647) (hr_tp : 0 ≤ tp ∧ tp ≤ 600) (hr_sz_ : 0 ≤ sz_ ∧ sz_ ≤ 600) (hr_ap : 0 ≤ ap ∧ ap ≤ 602) (hr_bad : (-1) ≤ bad ∧ bad ≤ 602) (hr_bk : 0 ≤ bk ∧ bk ≤ 4) (hr_opn : 0 ≤ opn ∧ opn ≤ 7) (hr_fp : (-2147483648) ≤ fp ∧ fp ≤ 2147483647) (hr_im : 0 ≤ im ∧ im ≤ 3) (hr_nr : 0 ≤ nr ∧ nr ≤ 4) (hr_nl : 0 ≤ nl ∧ nl ≤ 4) (hr_sp_ : 0 ≤ sp_ ∧ sp_ ≤ 602) (hr_wtc : (-2147483648) ≤ wtc ∧ wtc ≤ 2147483647) (hr_wcl : 0 ≤ wcl ∧ wcl ≤ 95) (hr_ir : 0 ≤ ir ∧ ir ≤ 5) (hr_ip : (-2147483648) ≤ ip ∧ ip ≤ 2147483647) (hr_shu : (-2147483648) ≤ shu ∧ shu ≤ 2147483647) (hr_sfa : (-2147483648) ≤ sfa ∧ sfa ≤ 2147483647) (hr_swr : (-2147483648) ≤ swr ∧ swr ≤ 2147483647) (hf9 : inv_ 600 0 255 f9) (hf11 : NI f11) : Met l yX12_readY vs_m_readY ({ frames := 2, cells := 0, slots := 0, locals := 47 }) (va_Pc [.ref mm] (pcW D cy sa sz [(mm, .inr (12, [.int (iI th), .ref m1, .int (iI tp), .int (iI sz_), .int (iI ap), .int (iI bad), .int (iI bk), .int (iI opn), .int (iI fp), .ref m9, .ref m10, .ref m11, .ref m12, .ref m13, .ref m14, .ref m15, .int (iI im), .int (iI nr), .int (iI nl), .ref m19, .ref m20, .ref m21, .int (iI sp_), .ref m23, .ref m24, .ref m25, .ref m26, .ref m27, .ref m28, .int (iI wtc), .int (iI wcl), .int (iI ir), .int (iI ip), .ref m33, .int (iI shu), .ref m35, .int (iI sfa), .int (iI swr)])), (m9, .inl (cy 0, 600, .inl f9)), (m11, .inl (cy 0, 68, .inl f11))])) (va_Qi (fun (r : Int32) (u : SV) => r = iI (u.2.1 0) ∧ (0 ≤ u.2.1 1 ∧ u.2.1 1 ≤ 602) ∧ ((-1) ≤ u.2.1 2 ∧ u.2.1 2 ≤ 602) ∧ (0 ≤ u.2.1 3 ∧ u.2.1 3 ≤ 4) ∧ (0 ≤ u.2.1 0 ∧ u.2.1 0 ≤ 99999) ∧ (ap ≤ u.2.1 1) ∧ (ap ≤ sz_ → u.2.1 1 ≤ sz_) ∧ (u.2.1 2 = -1 → bad = -1 ∧ 0 ≤ u.2.1 0 ∧ u.2.1 0 ≤ nz f11 1 - 1) ∧ (bad ≠ -1 → u.2.1 2 = bad) ∧ inv_ 600 0 255 f9 ∧ NI f11) (fun u t => atW D (va_A [(mm, .inr (12, [.int (iI th), .ref m1, .int (iI tp), .int (iI sz_), .int (iI ap), .int (iI bad), .int (iI bk), .int (iI opn), .int (iI fp), .ref m9, .ref m10, .ref m11, .ref m12, .ref m13, .ref m14, .ref m15, .int (iI im), .int (iI nr), .int (iI nl), .ref m19, .ref m20, .ref m21, .int (iI sp_), .ref m23, .ref m24, .ref m25, .ref m26, .ref m27, .ref m28, .int (iI wtc), .int (iI wcl), .int (iI ir), .int (iI ip), .ref m33, .int (iI shu), .ref m35, .int (iI sfa), .int (iI swr)])), (m9, .inl (cy 0, 600, .inl f9)), (m11, .inl (cy 0, 68, .inl f11))] sz) [(mm, .inr (12, [.int (iI th), .ref m1, .int (iI tp), .int (iI sz_), .int (iI (u.2.1 1)), .int (iI (u.2.1 2)), .int (iI (u.2.1 3)), .int (iI opn), .int (iI fp), .ref m9, .ref m10, .ref m11, .ref m12, .ref m13, .ref m14, .ref m15, .int (iI im), .int (iI nr), .int (iI nl), .ref m19, .ref m20, .ref m21, .int (iI sp_), .ref m23, .ref m24, .ref m25, .ref m26, .ref m27, .ref m28, .int (iI wtc), .int (iI wcl), .int (iI ir), .int (iI ip), .ref m33, .int (iI shu), .ref m35, .int (iI sfa), .int (iI swr)])), (m9, .inl (cy 0, 600, .inl f9)), (m11, .inl (cy 0, 68, .inl f11))] t) (va_A [(mm, .inr (12, [.int (iI th), .ref m1, .int (iI tp), .int (iI sz_), .int (iI ap), .int (iI bad), .int (iI bk), .int (iI opn), .int (iI fp), .ref m9, .ref m10, .ref m11, .ref m12, .ref m13, .ref m14, .ref m15, .int (iI im), .int (iI nr), .int (iI nl), .ref m19, .ref m20, .ref m21, .int (iI sp_), .ref m23, .ref m24, .ref m25, .ref m26, .ref m27, .ref m28, .int (iI wtc), .int (iI wcl), .int (iI ir), .int (iI ip), .ref m33, .int (iI shu), .ref m35, .int (iI sfa), .int (iI swr)])), (m9, .inl (cy 0, 600, .inl f9)), (m11, .inl (cy 0, 68, .inl f11))] sz)) 0 0 (va_A [(mm, .inr (12, [.int (iI th), .ref m1, .int (iI tp), .int (iI sz_), .int (iI ap), .int (iI bad), .int (iI bk), .int (iI opn), .int (iI fp), .ref m9, .ref m10, .ref m11, .ref m12, .ref m13, .ref m14, .ref m15, .int (iI im), .int (iI nr), .int (iI nl), .ref m19, .ref m20, .ref m21, .int (iI sp_), .ref m23, .ref m24, .ref m25, .ref m26, .ref m27, .ref m28, .int (iI wtc), .int (iI wcl), .int (iI ir), .int (iI ip), .ref m33, .int (iI shu), .ref m35, .int (iI sfa), .int (iI swr)])), (m9, .inl (cy 0, 600, .inl f9)), (m11, .inl (cy 0, 68, .inl f11))] sz) := by
  refine Met.ofW (cc := cX12_readY) (maxL := 1) (ret := (some .int)) (by decide) rfl ?_
  intro p e s m args below meth c s₁ B hml hv
  obtain ⟨rfl, hsz, hP, hG, hD0, hT⟩ := hv
  have hx := B.exec
  have hb := B.bytes
  have hr := B.returns
  have hts := atoms_spec (ws := vs_m_readY) B.pre
  have hown : s.vm.findClass RX12 = some m.cls := findClass_of_methodNamed B.named
  have hlocks := B.notSynchronized
  subst hsz
  have hD := hD0.self (sz := s.heap.size)
  generalize hAe : va_A [(mm, .inr (12, [.int (iI th), .ref m1, .int (iI tp), .int (iI sz_), .int (iI ap), .int (iI bad), .int (iI bk), .int (iI opn), .int (iI fp), .ref m9, .ref m10, .ref m11, .ref m12, .ref m13, .ref m14, .ref m15, .int (iI im), .int (iI nr), .int (iI nl), .ref m19, .ref m20, .ref m21, .int (iI sp_), .ref m23, .ref m24, .ref m25, .ref m26, .ref m27, .ref m28, .int (iI wtc), .int (iI wcl), .int (iI ir), .int (iI ip), .ref m33, .int (iI shu), .ref m35, .int (iI sfa), .int (iI swr)])), (m9, .inl (cy 0, 600, .inl f9)), (m11, .inl (cy 0, 68, .inl f11))] s.heap.size = A at hD hT ⊢
  have hA : ∀ q : Nat, s.heap.size ≤ q → A q := fun q h => by rw [← hAe]; exact Or.inr h
  have hS : va_S A s.heap s.heap [] := va_S.rf
  have hl0 := lv_entry ([.ref mm]) (n := 1) (Nat.le_of_ble_eq_true rfl)
  rw [lg_entry_eq]
  generalize (lg_sl ([.ref mm]) ++ List.replicate (1 - (lg_sl ([.ref mm])).length) Slot.unset).toArray = ls at hl0 ⊢
  have hlv : lv_has ls 1 [(0, .ref mm)] := hl0
  have lf26 := hts (.fieldLink RX12 26 "KerbSplashModel" "newStreet" "[I") (List.mem_of_getElem? (i := 1) rfl)
  have hi12 : ∀ w ∈ wsX120, w ∈ vs_m_readY := fun w h => List.mem_cons_of_mem _ (List.mem_append_right _ (List.mem_append_left _ h))
  have gg_1 : GoodIn vs_m_readY (wsV RX12 123 RX12 yX12_readNumber vs_m_number) := goodIn_sub (fun w h => List.mem_cons_of_mem _ (List.mem_append_right _ (List.mem_append_right _ (List.mem_append_left _ h)))) (gd_V gd_m_number (by decide +kernel))
  refine lv_aload_n hx hb dX12_readY_0 rfl (lv_at hlv 0 rfl) ?_
  refine lv_iconst (v := iI 0) hx hb dX12_readY_1 (by decide) ?_
  refine lv_aload_n hx hb dX12_readY_2 rfl (lv_at hlv 0 rfl) ?_
  refine va_get (D := D) (ci := 12) (v := .ref m11) (C := RX12) (T := TX12) (N := 38) hx hb hts hi12 hown hG.1 hP 0 rfl rfl 11 (by decide) lf26 (fun _ h9 => h9) rfl dX12_readY_3 ?_
  refine lv_iconst (v := iI 1) hx hb dX12_readY_6 (by decide) ?_
  refine va_iald hx hb hG.1 hP 2 0 rfl rfl (iI_in (by omega) (by decide)) dX12_readY_7 ?_
  refine lt_nz (i := 1) (by omega) (fun z_1 hz_1 lz_1 uz_1 => ?_)
  have hz_1 : z_1 = nz f11 1 := hz_1
  have hbz_1_8 := hf11.2.1
  refine lv_iconst (v := iI 1) hx hb dX12_readY_8 (by decide) ?_
  refine lv_isub hx hb dX12_readY_9 ?_
  refine lt_e (e0 := z_1 - 1) (Int32.ofInt_sub _ _).symm (fun z_2 hz_2 => ?_)
  refine cj_i (wr := [(m11, .inl (cy 0, 68, .inl f11))]) (va_runV (As := [.int (iI 0), .int (iI z_2)]) (rest := []) ⟨hx, hb, hml, hown, hts⟩ (m_number l hl D cy sa mm m1 m9 m10 m11 m12 m13 m14 m15 m19 m20 m21 m23 m24 m25 m26 m27 m28 m33 m35 th tp sz_ ap bad bk opn fp im nr nl sp_ wtc wcl ir ip shu sfa swr f9 0 z_2 s.heap.size (by omega) (by omega) (by omega) (by omega) (by omega) (by omega) (by omega) (by omega) (by omega) (by omega) (by omega) (by omega) (by omega) (by omega) (by omega) (by omega) (by omega) (by omega) (by omega) (by omega) (by omega) hf9) (cwV 2 hts gg_1 rfl rfl rfl (by decide +kernel) ⟨Nat.le_of_ble_eq_true rfl, Nat.le_of_ble_eq_true rfl⟩) ⟨pcW.blind, (va_recv hG.1 hP (ci := 12) (q0 := 0) rfl rfl), (pcW.mk hP hD hS hA hG hT [0, 1] rfl (by decide))⟩ rfl rfl hlv.1 rfl (lv_room (Nat.le_of_ble_eq_true rfl)) dX12_readY_10 ⟨Nat.le_of_ble_eq_true rfl, Nat.le_of_ble_eq_true rfl⟩) hP hD hS hA [0, 1] [2] rfl rfl (by decide) (by decide) (fun r1 u1 H locs hw1 hP hD hS => ?_)
  obtain ⟨rfl, hq1_1, hq1_2, hq1_3, hq1_4, hq1_5, hq1_6, hq1_7, hq1_8, hq1_9, hq1_10⟩ := hw1
  have hP : va_P D vwCl [(m11, .inl (cy 0, 68, .inl f11)), (mm, .inr (12, [.int (iI th), .ref m1, .int (iI tp), .int (iI sz_), .int (iI (u1.2.1 1)), .int (iI (u1.2.1 2)), .int (iI (u1.2.1 3)), .int (iI opn), .int (iI fp), .ref m9, .ref m10, .ref m11, .ref m12, .ref m13, .ref m14, .ref m15, .int (iI im), .int (iI nr), .int (iI nl), .ref m19, .ref m20, .ref m21, .int (iI sp_), .ref m23, .ref m24, .ref m25, .ref m26, .ref m27, .ref m28, .int (iI wtc), .int (iI wcl), .int (iI ir), .int (iI ip), .ref m33, .int (iI shu), .ref m35, .int (iI sfa), .int (iI swr)])), (m9, .inl (cy 0, 600, .inl f9))] H := hP
  have hD : va_D A [(m11, .inl (cy 0, 68, .inl f11)), (mm, .inr (12, [.int (iI th), .ref m1, .int (iI tp), .int (iI sz_), .int (iI (u1.2.1 1)), .int (iI (u1.2.1 2)), .int (iI (u1.2.1 3)), .int (iI opn), .int (iI fp), .ref m9, .ref m10, .ref m11, .ref m12, .ref m13, .ref m14, .ref m15, .int (iI im), .int (iI nr), .int (iI nl), .ref m19, .ref m20, .ref m21, .int (iI sp_), .ref m23, .ref m24, .ref m25, .ref m26, .ref m27, .ref m28, .int (iI wtc), .int (iI wcl), .int (iI ir), .int (iI ip), .ref m33, .int (iI shu), .ref m35, .int (iI sfa), .int (iI swr)])), (m9, .inl (cy 0, 600, .inl f9))] := hD
  refine W.widen (k := 0) (n := 0) (Nat.le_of_ble_eq_true rfl) (Nat.le_of_ble_eq_true rfl) ?_
  exact W.iret (v := iI (u1.2.1 0)) hx hb hr (fun t ht hW => ⟨⟨iI (u1.2.1 0), ((fun k => ([] : List Nat).getD k 0), (fun k => ([(u1.2.1 0), (u1.2.1 1), (u1.2.1 2), (u1.2.1 3)] : List Int).getD k 0), (fun k => ([] : List (Nat → Int32)).getD k (fun _ => 0))), rfl, ⟨rfl, (by show (0 ≤ (u1.2.1 1) ∧ (u1.2.1 1) ≤ 602); omega), (by show ((-1) ≤ (u1.2.1 2) ∧ (u1.2.1 2) ≤ 602); omega), (by show (0 ≤ (u1.2.1 3) ∧ (u1.2.1 3) ≤ 4); omega), (by show (0 ≤ (u1.2.1 0) ∧ (u1.2.1 0) ≤ 99999); omega), (by show (ap ≤ (u1.2.1 1)); omega), (by show (ap ≤ sz_ → (u1.2.1 1) ≤ sz_); omega), (by show ((u1.2.1 2) = -1 → bad = -1 ∧ 0 ≤ (u1.2.1 0) ∧ (u1.2.1 0) ≤ nz f11 1 - 1); omega), (by show (bad ≠ -1 → (u1.2.1 2) = bad); omega), hq1_10, hf11⟩, by rw [ht]; exact hP.sub [1, 2, 0] rfl, hD.sub [1, 2, 0] (by decide) rfl⟩, hS.F ht⟩) hS.2.2 dX12_readY_13
def vs_m_readDrain : List Cond := .code yX12_readDrain cX12_readDrain 6 none :: (([.fieldLink RX12 26 "KerbSplashModel" "newStreet" "[I", .fieldLink RX12 32 "KerbSplashModel" "newState" "[I"] : List Cond) ++ ((wsX120) ++ ((wsV RX12 127 RX12 yX12_readX vs_m_readX) ++ ((wsV RX12 130 RX12 yX12_readY vs_m_readY) ++ ((wsV RX12 123 RX12 yX12_readNumber vs_m_number) ++ ((wsV RX12 109 RX12 yX12_fine vs_m_fine) ++ ([])))))))
theorem gd_m_readDrain : vs_m_readDrain.all goodWord = true := gd_C (by decide +kernel) (gd_A (by decide +kernel) (gd_A (by decide +kernel) (gd_A (gd_V gd_m_readX (by decide +kernel)) (gd_A (gd_V gd_m_readY (by decide +kernel)) (gd_A (gd_V gd_m_number (by decide +kernel)) (gd_A (gd_V gd_m_fine (by decide +kernel)) rfl))))))
set_option maxHeartbeats 4000000 in
set_option maxRecDepth 100000 in
theorem m_readDrain (l : Launch) (hl : l.stackTraces = false) (D : va_G) (cy : Nat → ClassId) (sa : Nat → Nat) (mm m1 m9 m10 m11 m12 m13 m14 m15 m19 m20 m21 m23 m24 m25 m26 m27 m28 m33 m35 : Nat) (th tp sz_ ap bad bk opn fp im nr nl sp_ wtc wcl ir ip shu sfa swr : Int) (f9 f11 f13 : Nat → Int32) (sz : Nat) (hr_th : (-2147483648) ≤ th ∧ th ≤ 2147483647) (hr_tp : 0 ≤ tp ∧ tp ≤ 600) (hr_sz_ : 0 ≤ sz_ ∧ sz_ ≤ 600) (hr_ap : 0 ≤ ap ∧ ap ≤ 602) (hr_bad : (-1) ≤ bad ∧ bad ≤ 602) (hr_bk : 0 ≤ bk ∧ bk ≤ 4) (hr_opn : 0 ≤ opn ∧ opn ≤ 7) (hr_fp : (-2147483648) ≤ fp ∧ fp ≤ 2147483647) (hr_im : 0 ≤ im ∧ im ≤ 3) (hr_nr : 0 ≤ nr ∧ nr ≤ 4) (hr_nl : 0 ≤ nl ∧ nl ≤ 4) (hr_sp_ : 0 ≤ sp_ ∧ sp_ ≤ 602) (hr_wtc : (-2147483648) ≤ wtc ∧ wtc ≤ 2147483647) (hr_wcl : 0 ≤ wcl ∧ wcl ≤ 95) (hr_ir : 0 ≤ ir ∧ ir ≤ 5) (hr_ip : (-2147483648) ≤ ip ∧ ip ≤ 2147483647) (hr_shu : (-2147483648) ≤ shu ∧ shu ≤ 2147483647) (hr_sfa : (-2147483648) ≤ sfa ∧ sfa ≤ 2147483647) (hr_swr : (-2147483648) ≤ swr ∧ swr ≤ 2147483647) (hp0 : nz f11 2 < 6) (hf9 : inv_ 600 0 255 f9) (hf11 : NI f11) (hf13 : SI 8 f13) : Met l yX12_readDrain vs_m_readDrain ({ frames := 3, cells := 0, slots := 0, locals := 67 }) (va_Pc [.ref mm] (pcW D cy sa sz [(mm, .inr (12, [.int (iI th), .ref m1, .int (iI tp), .int (iI sz_), .int (iI ap), .int (iI bad), .int (iI bk), .int (iI opn), .int (iI fp), .ref m9, .ref m10, .ref m11, .ref m12, .ref m13, .ref m14, .ref m15, .int (iI im), .int (iI nr), .int (iI nl), .ref m19, .ref m20, .ref m21, .int (iI sp_), .ref m23, .ref m24, .ref m25, .ref m26, .ref m27, .ref m28, .int (iI wtc), .int (iI wcl), .int (iI ir), .int (iI ip), .ref m33, .int (iI shu), .ref m35, .int (iI sfa), .int (iI swr)])), (m9, .inl (cy 0, 600, .inl f9)), (m11, .inl (cy 0, 68, .inl f11)), (m13, .inl (cy 0, 389, .inl f13))])) (va_Qv (fun u : SV => (0 ≤ u.2.1 1 ∧ u.2.1 1 ≤ 602) ∧ ((-1) ≤ u.2.1 2 ∧ u.2.1 2 ≤ 602) ∧ (0 ≤ u.2.1 3 ∧ u.2.1 3 ≤ 4) ∧ (ap ≤ u.2.1 1) ∧ (ap ≤ sz_ → u.2.1 1 ≤ sz_) ∧ (u.2.1 2 = -1 → bad = -1) ∧ (bad ≠ -1 → u.2.1 2 = bad) ∧ (nz (u.2.2 0) 0 = nz f11 0) ∧ (nz (u.2.2 0) 1 = nz f11 1) ∧ (nz (u.2.2 0) 3 = nz f11 3) ∧ (nz (u.2.2 0) 4 = nz f11 4) ∧ (nz (u.2.2 0) 5 = nz f11 5) ∧ inv_ 600 0 255 f9 ∧ NI (u.2.2 0) ∧ SI 8 (u.2.2 1)) (fun u t => atW D (va_A [(mm, .inr (12, [.int (iI th), .ref m1, .int (iI tp), .int (iI sz_), .int (iI ap), .int (iI bad), .int (iI bk), .int (iI opn), .int (iI fp), .ref m9, .ref m10, .ref m11, .ref m12, .ref m13, .ref m14, .ref m15, .int (iI im), .int (iI nr), .int (iI nl), .ref m19, .ref m20, .ref m21, .int (iI sp_), .ref m23, .ref m24, .ref m25, .ref m26, .ref m27, .ref m28, .int (iI wtc), .int (iI wcl), .int (iI ir), .int (iI ip), .ref m33, .int (iI shu), .ref m35, .int (iI sfa), .int (iI swr)])), (m9, .inl (cy 0, 600, .inl f9)), (m11, .inl (cy 0, 68, .inl f11)), (m13, .inl (cy 0, 389, .inl f13))] sz) [(mm, .inr (12, [.int (iI th), .ref m1, .int (iI tp), .int (iI sz_), .int (iI (u.2.1 1)), .int (iI (u.2.1 2)), .int (iI (u.2.1 3)), .int (iI opn), .int (iI fp), .ref m9, .ref m10, .ref m11, .ref m12, .ref m13, .ref m14, .ref m15, .int (iI im), .int (iI nr), .int (iI nl), .ref m19, .ref m20, .ref m21, .int (iI sp_), .ref m23, .ref m24, .ref m25, .ref m26, .ref m27, .ref m28, .int (iI wtc), .int (iI wcl), .int (iI ir), .int (iI ip), .ref m33, .int (iI shu), .ref m35, .int (iI sfa), .int (iI swr)])), (m9, .inl (cy 0, 600, .inl f9)), (m11, .inl (cy 0, 68, .inl (u.2.2 0))), (m13, .inl (cy 0, 389, .inl (u.2.2 1)))] t) (va_A [(mm, .inr (12, [.int (iI th), .ref m1, .int (iI tp), .int (iI sz_), .int (iI ap), .int (iI bad), .int (iI bk), .int (iI opn), .int (iI fp), .ref m9, .ref m10, .ref m11, .ref m12, .ref m13, .ref m14, .ref m15, .int (iI im), .int (iI nr), .int (iI nl), .ref m19, .ref m20, .ref m21, .int (iI sp_), .ref m23, .ref m24, .ref m25, .ref m26, .ref m27, .ref m28, .int (iI wtc), .int (iI wcl), .int (iI ir), .int (iI ip), .ref m33, .int (iI shu), .ref m35, .int (iI sfa), .int (iI swr)])), (m9, .inl (cy 0, 600, .inl f9)), (m11, .inl (cy 0, 68, .inl f11)), (m13, .inl (cy 0, 389, .inl f13))] sz)) 0 0 (va_A [(mm, .inr (12, [.int (iI th), .ref m1, .int (iI tp), .int (iI sz_), .int (iI ap), .int (iI bad), .int (iI bk), .int (iI opn), .int (iI fp), .ref m9, .ref m10, .ref m11, .ref m12, .ref m13, .ref m14, .ref m15, .int (iI im), .int (iI nr), .int (iI nl), .ref m19, .ref m20, .ref m21, .int (iI sp_), .ref m23, .ref m24, .ref m25, .ref m26, .ref m27, .ref m28, .int (iI wtc), .int (iI wcl), .int (iI ir), .int (iI ip), .ref m33, .int (iI shu), .ref m35, .int (iI sfa), .int (iI swr)])), (m9, .inl (cy 0, 600, .inl f9)), (m11, .inl (cy 0, 68, .inl f11)), (m13, .inl (cy 0, 389, .inl f13))] sz) := by
  refine Met.ofW (cc := cX12_readDrain) (maxL := 6) (ret := none) (by decide) rfl ?_
  intro p e s m args below meth c s₁ B hml hv
  obtain ⟨rfl, hsz, hP, hG, hD0, hT⟩ := hv
  have hx := B.exec
  have hb := B.bytes
  have hr := B.returns
  have hts := atoms_spec (ws := vs_m_readDrain) B.pre
  have hown : s.vm.findClass RX12 = some m.cls := findClass_of_methodNamed B.named
  have hlocks := B.notSynchronized
  subst hsz
  have hD := hD0.self (sz := s.heap.size)
  generalize hAe : va_A [(mm, .inr (12, [.int (iI th), .ref m1, .int (iI tp), .int (iI sz_), .int (iI ap), .int (iI bad), .int (iI bk), .int (iI opn), .int (iI fp), .ref m9, .ref m10, .ref m11, .ref m12, .ref m13, .ref m14, .ref m15, .int (iI im), .int (iI nr), .int (iI nl), .ref m19, .ref m20, .ref m21, .int (iI sp_), .ref m23, .ref m24, .ref m25, .ref m26, .ref m27, .ref m28, .int (iI wtc), .int (iI wcl), .int (iI ir), .int (iI ip), .ref m33, .int (iI shu), .ref m35, .int (iI sfa), .int (iI swr)])), (m9, .inl (cy 0, 600, .inl f9)), (m11, .inl (cy 0, 68, .inl f11)), (m13, .inl (cy 0, 389, .inl f13))] s.heap.size = A at hD hT ⊢
  have hA : ∀ q : Nat, s.heap.size ≤ q → A q := fun q h => by rw [← hAe]; exact Or.inr h
  have hS : va_S A s.heap s.heap [] := va_S.rf
  have hl0 := lv_entry ([.ref mm]) (n := 6) (Nat.le_of_ble_eq_true rfl)
  rw [lg_entry_eq]
  generalize (lg_sl ([.ref mm]) ++ List.replicate (6 - (lg_sl ([.ref mm])).length) Slot.unset).toArray = ls at hl0 ⊢
  have hlv : lv_has ls 6 [(0, .ref mm)] := hl0
  have lf26 := hts (.fieldLink RX12 26 "KerbSplashModel" "newStreet" "[I") (List.mem_of_getElem? (i := 1) rfl)
  have hi12 : ∀ w ∈ wsX120, w ∈ vs_m_readDrain := fun w h => List.mem_cons_of_mem _ (List.mem_append_right _ (List.mem_append_left _ h))
  have gg_1 : GoodIn vs_m_readDrain (wsV RX12 127 RX12 yX12_readX vs_m_readX) := goodIn_sub (fun w h => List.mem_cons_of_mem _ (List.mem_append_right _ (List.mem_append_right _ (List.mem_append_left _ h)))) (gd_V gd_m_readX (by decide +kernel))
  have gg_2 : GoodIn vs_m_readDrain (wsV RX12 130 RX12 yX12_readY vs_m_readY) := goodIn_sub (fun w h => List.mem_cons_of_mem _ (List.mem_append_right _ (List.mem_append_right _ (List.mem_append_right _ (List.mem_append_left _ h))))) (gd_V gd_m_readY (by decide +kernel))
  have gg_3 : GoodIn vs_m_readDrain (wsV RX12 123 RX12 yX12_readNumber vs_m_number) := goodIn_sub (fun w h => List.mem_cons_of_mem _ (List.mem_append_right _ (List.mem_append_right _ (List.mem_append_right _ (List.mem_append_right _ (List.mem_append_left _ h)))))) (gd_V gd_m_number (by decide +kernel))
  have gg_4 : GoodIn vs_m_readDrain (wsV RX12 109 RX12 yX12_fine vs_m_fine) := goodIn_sub (fun w h => List.mem_cons_of_mem _ (List.mem_append_right _ (List.mem_append_right _ (List.mem_append_right _ (List.mem_append_right _ (List.mem_append_right _ (List.mem_append_left _ h))))))) (gd_V gd_m_fine (by decide +kernel))
  have lf32 := hts (.fieldLink RX12 32 "KerbSplashModel" "newState" "[I") (List.mem_of_getElem? (i := 2) rfl)
  have hn0 := hf11.1
  have hn1 := hf11.2.1
  refine lv_bipush (v := iI 6) hx hb dX12_readDrain_0 (by decide) ?_
  refine lv_iconst (v := iI 3) hx hb dX12_readDrain_2 (by decide) ?_
  refine lv_aload_n hx hb dX12_readDrain_3 rfl (lv_at hlv 0 rfl) ?_
  refine va_get (D := D) (ci := 12) (v := .ref m11) (C := RX12) (T := TX12) (N := 38) hx hb hts hi12 hown hG.1 hP 0 rfl rfl 11 (by decide) lf26 (fun _ h9 => h9) rfl dX12_readDrain_4 ?_
  refine lv_iconst (v := iI 2) hx hb dX12_readDrain_7 (by decide) ?_
  refine va_iald hx hb hG.1 hP 2 0 rfl rfl (iI_in (by omega) (by decide)) dX12_readDrain_8 ?_
  refine lt_nz (i := 2) (by omega) (fun z_1 hz_1 lz_1 uz_1 => ?_)
  have hz_1 : z_1 = nz f11 2 := hz_1
  have hbz_1_10 := hf11.2.2.1
  refine lv_imul hx hb dX12_readDrain_9 ?_
  refine lt_e (e0 := 3 * z_1) (Int32.ofInt_mul _ _).symm (fun z_2 hz_2 => ?_)
  refine lv_iadd hx hb dX12_readDrain_10 ?_
  refine lt_e (e0 := 6 + z_2) (Int32.ofInt_add _ _).symm (fun z_3 hz_3 => ?_)
  refine lv_istore_n (lv' := [(1, .int (iI z_3)), (0, .ref mm)]) hx hb dX12_readDrain_11 rfl hlv (by decide) rfl (fun ls hlv => ?_)
  refine lv_aload_n hx hb dX12_readDrain_12 rfl (lv_at hlv 1 rfl) ?_
  refine cj_i (wr := [(m13, .inl (cy 0, 389, .inl f13))]) (va_runV (As := []) (rest := []) ⟨hx, hb, hml, hown, hts⟩ (m_readX l hl D cy sa mm m1 m9 m10 m11 m12 m13 m14 m15 m19 m20 m21 m23 m24 m25 m26 m27 m28 m33 m35 th tp sz_ ap bad bk opn fp im nr nl sp_ wtc wcl ir ip shu sfa swr f9 f11 s.heap.size (by omega) (by omega) (by omega) (by omega) (by omega) (by omega) (by omega) (by omega) (by omega) (by omega) (by omega) (by omega) (by omega) (by omega) (by omega) (by omega) (by omega) (by omega) (by omega) hf9 hf11) (cwV 0 hts gg_1 rfl rfl rfl (by decide +kernel) ⟨Nat.le_of_ble_eq_true rfl, Nat.le_of_ble_eq_true rfl⟩) ⟨pcW.blind, (va_recv hG.1 hP (ci := 12) (q0 := 0) rfl rfl), (pcW.mk hP hD hS hA hG hT [0, 1, 2] rfl (by decide))⟩ rfl rfl hlv.1 rfl (lv_room (Nat.le_of_ble_eq_true rfl)) dX12_readDrain_13 ⟨Nat.le_of_ble_eq_true rfl, Nat.le_of_ble_eq_true rfl⟩) hP hD hS hA [0, 1, 2] [3] rfl rfl (by decide) (by decide) (fun r1 u1 H locs hw1 hP hD hS => ?_)
  obtain ⟨rfl, hq1_1, hq1_2, hq1_3, hq1_4, hq1_5, hq1_6, hq1_7, hq1_8, hq1_9, hq1_10⟩ := hw1
  have hP : va_P D vwCl [(m13, .inl (cy 0, 389, .inl f13)), (mm, .inr (12, [.int (iI th), .ref m1, .int (iI tp), .int (iI sz_), .int (iI (u1.2.1 1)), .int (iI (u1.2.1 2)), .int (iI (u1.2.1 3)), .int (iI opn), .int (iI fp), .ref m9, .ref m10, .ref m11, .ref m12, .ref m13, .ref m14, .ref m15, .int (iI im), .int (iI nr), .int (iI nl), .ref m19, .ref m20, .ref m21, .int (iI sp_), .ref m23, .ref m24, .ref m25, .ref m26, .ref m27, .ref m28, .int (iI wtc), .int (iI wcl), .int (iI ir), .int (iI ip), .ref m33, .int (iI shu), .ref m35, .int (iI sfa), .int (iI swr)])), (m9, .inl (cy 0, 600, .inl f9)), (m11, .inl (cy 0, 68, .inl f11))] H := hP
  have hD : va_D A [(m13, .inl (cy 0, 389, .inl f13)), (mm, .inr (12, [.int (iI th), .ref m1, .int (iI tp), .int (iI sz_), .int (iI (u1.2.1 1)), .int (iI (u1.2.1 2)), .int (iI (u1.2.1 3)), .int (iI opn), .int (iI fp), .ref m9, .ref m10, .ref m11, .ref m12, .ref m13, .ref m14, .ref m15, .int (iI im), .int (iI nr), .int (iI nl), .ref m19, .ref m20, .ref m21, .int (iI sp_), .ref m23, .ref m24, .ref m25, .ref m26, .ref m27, .ref m28, .int (iI wtc), .int (iI wcl), .int (iI ir), .int (iI ip), .ref m33, .int (iI shu), .ref m35, .int (iI sfa), .int (iI swr)])), (m9, .inl (cy 0, 600, .inl f9)), (m11, .inl (cy 0, 68, .inl f11))] := hD
  refine lv_istore_n (lv' := [(2, .int (iI (u1.2.1 0))), (1, .int (iI z_3)), (0, .ref mm)]) hx hb dX12_readDrain_16 rfl hlv (by decide) rfl (fun ls hlv => ?_)
  refine lv_aload_n hx hb dX12_readDrain_17 rfl (lv_at hlv 2 rfl) ?_
  refine cj_i (wr := [(m13, .inl (cy 0, 389, .inl f13))]) (va_runV (As := []) (rest := []) ⟨hx, hb, hml, hown, hts⟩ (m_readY l hl D cy sa mm m1 m9 m10 m11 m12 m13 m14 m15 m19 m20 m21 m23 m24 m25 m26 m27 m28 m33 m35 th tp sz_ (u1.2.1 1) (u1.2.1 2) (u1.2.1 3) opn fp im nr nl sp_ wtc wcl ir ip shu sfa swr f9 f11 H.size (by omega) (by omega) (by omega) (by omega) (by omega) (by omega) (by omega) (by omega) (by omega) (by omega) (by omega) (by omega) (by omega) (by omega) (by omega) (by omega) (by omega) (by omega) (by omega) hq1_9 hq1_10) (cwV 0 hts gg_2 rfl rfl rfl (by decide +kernel) ⟨Nat.le_of_ble_eq_true rfl, Nat.le_of_ble_eq_true rfl⟩) ⟨pcW.blind, (va_recv hG.1 hP (ci := 12) (q0 := 1) rfl rfl), (pcW.mk hP hD hS hA hG hT [1, 2, 3] rfl (by decide))⟩ rfl rfl hlv.1 rfl (lv_room (Nat.le_of_ble_eq_true rfl)) dX12_readDrain_18 ⟨Nat.le_of_ble_eq_true rfl, Nat.le_of_ble_eq_true rfl⟩) hP hD hS hA [1, 2, 3] [0] rfl rfl (by decide) (by decide) (fun r2 u2 H locs hw2 hP hD hS => ?_)
  obtain ⟨rfl, hq2_1, hq2_2, hq2_3, hq2_4, hq2_5, hq2_6, hq2_7, hq2_8, hq2_9, hq2_10⟩ := hw2
  have hP : va_P D vwCl [(m13, .inl (cy 0, 389, .inl f13)), (mm, .inr (12, [.int (iI th), .ref m1, .int (iI tp), .int (iI sz_), .int (iI (u2.2.1 1)), .int (iI (u2.2.1 2)), .int (iI (u2.2.1 3)), .int (iI opn), .int (iI fp), .ref m9, .ref m10, .ref m11, .ref m12, .ref m13, .ref m14, .ref m15, .int (iI im), .int (iI nr), .int (iI nl), .ref m19, .ref m20, .ref m21, .int (iI sp_), .ref m23, .ref m24, .ref m25, .ref m26, .ref m27, .ref m28, .int (iI wtc), .int (iI wcl), .int (iI ir), .int (iI ip), .ref m33, .int (iI shu), .ref m35, .int (iI sfa), .int (iI swr)])), (m9, .inl (cy 0, 600, .inl f9)), (m11, .inl (cy 0, 68, .inl f11))] H := hP
  have hD : va_D A [(m13, .inl (cy 0, 389, .inl f13)), (mm, .inr (12, [.int (iI th), .ref m1, .int (iI tp), .int (iI sz_), .int (iI (u2.2.1 1)), .int (iI (u2.2.1 2)), .int (iI (u2.2.1 3)), .int (iI opn), .int (iI fp), .ref m9, .ref m10, .ref m11, .ref m12, .ref m13, .ref m14, .ref m15, .int (iI im), .int (iI nr), .int (iI nl), .ref m19, .ref m20, .ref m21, .int (iI sp_), .ref m23, .ref m24, .ref m25, .ref m26, .ref m27, .ref m28, .int (iI wtc), .int (iI wcl), .int (iI ir), .int (iI ip), .ref m33, .int (iI shu), .ref m35, .int (iI sfa), .int (iI swr)])), (m9, .inl (cy 0, 600, .inl f9)), (m11, .inl (cy 0, 68, .inl f11))] := hD
  refine lv_istore_n (lv' := [(3, .int (iI (u2.2.1 0))), (2, .int (iI (u1.2.1 0))), (1, .int (iI z_3)), (0, .ref mm)]) hx hb dX12_readDrain_21 rfl hlv (by decide) rfl (fun ls hlv => ?_)
  refine lv_aload_n hx hb dX12_readDrain_22 rfl (lv_at hlv 3 rfl) ?_
  refine lv_iconst (v := iI 1) hx hb dX12_readDrain_23 (by decide) ?_
  refine lv_bipush (v := iI 99) hx hb dX12_readDrain_24 (by decide) ?_
  refine cj_i (wr := [(m13, .inl (cy 0, 389, .inl f13)), (m11, .inl (cy 0, 68, .inl f11))]) (va_runV (As := [.int (iI 1), .int (iI 99)]) (rest := []) ⟨hx, hb, hml, hown, hts⟩ (m_number l hl D cy sa mm m1 m9 m10 m11 m12 m13 m14 m15 m19 m20 m21 m23 m24 m25 m26 m27 m28 m33 m35 th tp sz_ (u2.2.1 1) (u2.2.1 2) (u2.2.1 3) opn fp im nr nl sp_ wtc wcl ir ip shu sfa swr f9 1 99 H.size (by omega) (by omega) (by omega) (by omega) (by omega) (by omega) (by omega) (by omega) (by omega) (by omega) (by omega) (by omega) (by omega) (by omega) (by omega) (by omega) (by omega) (by omega) (by omega) (by omega) (by omega) hq2_9) (cwV 2 hts gg_3 rfl rfl rfl (by decide +kernel) ⟨Nat.le_of_ble_eq_true rfl, Nat.le_of_ble_eq_true rfl⟩) ⟨pcW.blind, (va_recv hG.1 hP (ci := 12) (q0 := 1) rfl rfl), (pcW.mk hP hD hS hA hG hT [1, 2] rfl (by decide))⟩ rfl rfl hlv.1 rfl (lv_room (Nat.le_of_ble_eq_true rfl)) dX12_readDrain_26 ⟨Nat.le_of_ble_eq_true rfl, Nat.le_of_ble_eq_true rfl⟩) hP hD hS hA [1, 2] [0, 3] rfl rfl (by decide) (by decide) (fun r3 u3 H locs hw3 hP hD hS => ?_)
  obtain ⟨rfl, hq3_1, hq3_2, hq3_3, hq3_4, hq3_5, hq3_6, hq3_7, hq3_8, hq3_9, hq3_10⟩ := hw3
  have hP : va_P D vwCl [(m13, .inl (cy 0, 389, .inl f13)), (m11, .inl (cy 0, 68, .inl f11)), (mm, .inr (12, [.int (iI th), .ref m1, .int (iI tp), .int (iI sz_), .int (iI (u3.2.1 1)), .int (iI (u3.2.1 2)), .int (iI (u3.2.1 3)), .int (iI opn), .int (iI fp), .ref m9, .ref m10, .ref m11, .ref m12, .ref m13, .ref m14, .ref m15, .int (iI im), .int (iI nr), .int (iI nl), .ref m19, .ref m20, .ref m21, .int (iI sp_), .ref m23, .ref m24, .ref m25, .ref m26, .ref m27, .ref m28, .int (iI wtc), .int (iI wcl), .int (iI ir), .int (iI ip), .ref m33, .int (iI shu), .ref m35, .int (iI sfa), .int (iI swr)])), (m9, .inl (cy 0, 600, .inl f9))] H := hP
  have hD : va_D A [(m13, .inl (cy 0, 389, .inl f13)), (m11, .inl (cy 0, 68, .inl f11)), (mm, .inr (12, [.int (iI th), .ref m1, .int (iI tp), .int (iI sz_), .int (iI (u3.2.1 1)), .int (iI (u3.2.1 2)), .int (iI (u3.2.1 3)), .int (iI opn), .int (iI fp), .ref m9, .ref m10, .ref m11, .ref m12, .ref m13, .ref m14, .ref m15, .int (iI im), .int (iI nr), .int (iI nl), .ref m19, .ref m20, .ref m21, .int (iI sp_), .ref m23, .ref m24, .ref m25, .ref m26, .ref m27, .ref m28, .int (iI wtc), .int (iI wcl), .int (iI ir), .int (iI ip), .ref m33, .int (iI shu), .ref m35, .int (iI sfa), .int (iI swr)])), (m9, .inl (cy 0, 600, .inl f9))] := hD
  refine lv_istore (lv' := [(4, .int (iI (u3.2.1 0))), (3, .int (iI (u2.2.1 0))), (2, .int (iI (u1.2.1 0))), (1, .int (iI z_3)), (0, .ref mm)]) hx hb dX12_readDrain_29 hlv (by decide) rfl (fun ls hlv => ?_)
  refine lv_aload_n hx hb dX12_readDrain_31 rfl (lv_at hlv 4 rfl) ?_
  refine lv_iconst (v := iI 0) hx hb dX12_readDrain_32 (by decide) ?_
  refine lv_bipush (v := iI 16) hx hb dX12_readDrain_33 (by decide) ?_
  refine cj_i (wr := [(m13, .inl (cy 0, 389, .inl f13)), (m11, .inl (cy 0, 68, .inl f11))]) (va_runV (As := [.int (iI 0), .int (iI 16)]) (rest := []) ⟨hx, hb, hml, hown, hts⟩ (m_number l hl D cy sa mm m1 m9 m10 m11 m12 m13 m14 m15 m19 m20 m21 m23 m24 m25 m26 m27 m28 m33 m35 th tp sz_ (u3.2.1 1) (u3.2.1 2) (u3.2.1 3) opn fp im nr nl sp_ wtc wcl ir ip shu sfa swr f9 0 16 H.size (by omega) (by omega) (by omega) (by omega) (by omega) (by omega) (by omega) (by omega) (by omega) (by omega) (by omega) (by omega) (by omega) (by omega) (by omega) (by omega) (by omega) (by omega) (by omega) (by omega) (by omega) hq3_10) (cwV 2 hts gg_3 rfl rfl rfl (by decide +kernel) ⟨Nat.le_of_ble_eq_true rfl, Nat.le_of_ble_eq_true rfl⟩) ⟨pcW.blind, (va_recv hG.1 hP (ci := 12) (q0 := 2) rfl rfl), (pcW.mk hP hD hS hA hG hT [2, 3] rfl (by decide))⟩ rfl rfl hlv.1 rfl (lv_room (Nat.le_of_ble_eq_true rfl)) dX12_readDrain_35 ⟨Nat.le_of_ble_eq_true rfl, Nat.le_of_ble_eq_true rfl⟩) hP hD hS hA [2, 3] [0, 1] rfl rfl (by decide) (by decide) (fun r4 u4 H locs hw4 hP hD hS => ?_)
  obtain ⟨rfl, hq4_1, hq4_2, hq4_3, hq4_4, hq4_5, hq4_6, hq4_7, hq4_8, hq4_9, hq4_10⟩ := hw4
  have hP : va_P D vwCl [(m13, .inl (cy 0, 389, .inl f13)), (m11, .inl (cy 0, 68, .inl f11)), (mm, .inr (12, [.int (iI th), .ref m1, .int (iI tp), .int (iI sz_), .int (iI (u4.2.1 1)), .int (iI (u4.2.1 2)), .int (iI (u4.2.1 3)), .int (iI opn), .int (iI fp), .ref m9, .ref m10, .ref m11, .ref m12, .ref m13, .ref m14, .ref m15, .int (iI im), .int (iI nr), .int (iI nl), .ref m19, .ref m20, .ref m21, .int (iI sp_), .ref m23, .ref m24, .ref m25, .ref m26, .ref m27, .ref m28, .int (iI wtc), .int (iI wcl), .int (iI ir), .int (iI ip), .ref m33, .int (iI shu), .ref m35, .int (iI sfa), .int (iI swr)])), (m9, .inl (cy 0, 600, .inl f9))] H := hP
  have hD : va_D A [(m13, .inl (cy 0, 389, .inl f13)), (m11, .inl (cy 0, 68, .inl f11)), (mm, .inr (12, [.int (iI th), .ref m1, .int (iI tp), .int (iI sz_), .int (iI (u4.2.1 1)), .int (iI (u4.2.1 2)), .int (iI (u4.2.1 3)), .int (iI opn), .int (iI fp), .ref m9, .ref m10, .ref m11, .ref m12, .ref m13, .ref m14, .ref m15, .int (iI im), .int (iI nr), .int (iI nl), .ref m19, .ref m20, .ref m21, .int (iI sp_), .ref m23, .ref m24, .ref m25, .ref m26, .ref m27, .ref m28, .int (iI wtc), .int (iI wcl), .int (iI ir), .int (iI ip), .ref m33, .int (iI shu), .ref m35, .int (iI sfa), .int (iI swr)])), (m9, .inl (cy 0, 600, .inl f9))] := hD
  refine lv_istore (lv' := [(5, .int (iI (u4.2.1 0))), (4, .int (iI (u3.2.1 0))), (3, .int (iI (u2.2.1 0))), (2, .int (iI (u1.2.1 0))), (1, .int (iI z_3)), (0, .ref mm)]) hx hb dX12_readDrain_38 hlv (by decide) rfl (fun ls hlv => ?_)
  refine lv_aload_n hx hb dX12_readDrain_40 rfl (lv_at hlv 5 rfl) ?_
  refine cj_i (wr := [(m13, .inl (cy 0, 389, .inl f13)), (m11, .inl (cy 0, 68, .inl f11)), (m9, .inl (cy 0, 600, .inl f9))]) (va_runV (As := []) (rest := []) ⟨hx, hb, hml, hown, hts⟩ (m_fine l hl D cy sa mm m1 m9 m10 m11 m12 m13 m14 m15 m19 m20 m21 m23 m24 m25 m26 m27 m28 m33 m35 th tp sz_ (u4.2.1 1) (u4.2.1 2) (u4.2.1 3) opn fp im nr nl sp_ wtc wcl ir ip shu sfa swr H.size (by omega) (by omega) (by omega) (by omega) (by omega) (by omega) (by omega) (by omega) (by omega) (by omega) (by omega) (by omega) (by omega) (by omega) (by omega) (by omega) (by omega) (by omega) (by omega)) (cwV 0 hts gg_4 rfl rfl rfl (by decide +kernel) ⟨Nat.le_of_ble_eq_true rfl, Nat.le_of_ble_eq_true rfl⟩) ⟨pcW.blind, (va_recv hG.1 hP (ci := 12) (q0 := 2) rfl rfl), (pcW.mk hP hD hS hA hG hT [2] rfl (by decide))⟩ rfl rfl hlv.1 rfl (lv_room (Nat.le_of_ble_eq_true rfl)) dX12_readDrain_41 ⟨Nat.le_of_ble_eq_true rfl, Nat.le_of_ble_eq_true rfl⟩) hP hD hS hA [2] [0, 1, 3] rfl rfl (by decide) (by decide) (fun r5 u5 H locs hw5 hP hD hS => ?_)
  obtain ⟨rfl, hq5_1, hq5_2, hq5_3⟩ := hw5
  have hP : va_P D vwCl [(m13, .inl (cy 0, 389, .inl f13)), (m11, .inl (cy 0, 68, .inl f11)), (m9, .inl (cy 0, 600, .inl f9)), (mm, .inr (12, [.int (iI th), .ref m1, .int (iI tp), .int (iI sz_), .int (iI (u4.2.1 1)), .int (iI (u4.2.1 2)), .int (iI (u4.2.1 3)), .int (iI opn), .int (iI fp), .ref m9, .ref m10, .ref m11, .ref m12, .ref m13, .ref m14, .ref m15, .int (iI im), .int (iI nr), .int (iI nl), .ref m19, .ref m20, .ref m21, .int (iI sp_), .ref m23, .ref m24, .ref m25, .ref m26, .ref m27, .ref m28, .int (iI wtc), .int (iI wcl), .int (iI ir), .int (iI ip), .ref m33, .int (iI shu), .ref m35, .int (iI sfa), .int (iI swr)]))] H := hP
  have hD : va_D A [(m13, .inl (cy 0, 389, .inl f13)), (m11, .inl (cy 0, 68, .inl f11)), (m9, .inl (cy 0, 600, .inl f9)), (mm, .inr (12, [.int (iI th), .ref m1, .int (iI tp), .int (iI sz_), .int (iI (u4.2.1 1)), .int (iI (u4.2.1 2)), .int (iI (u4.2.1 3)), .int (iI opn), .int (iI fp), .ref m9, .ref m10, .ref m11, .ref m12, .ref m13, .ref m14, .ref m15, .int (iI im), .int (iI nr), .int (iI nl), .ref m19, .ref m20, .ref m21, .int (iI sp_), .ref m23, .ref m24, .ref m25, .ref m26, .ref m27, .ref m28, .int (iI wtc), .int (iI wcl), .int (iI ir), .int (iI ip), .ref m33, .int (iI shu), .ref m35, .int (iI sfa), .int (iI swr)]))] := hD
  refine iz_ne (tgt := 48) hx hb dX12_readDrain_44 (by decide) (by omega) (fun c_4 => ?_) (fun c_4 => ?_)
  · refine lv_aload_n hx hb dX12_readDrain_48 rfl (lv_at hlv 5 rfl) ?_
    refine va_get (D := D) (ci := 12) (v := .ref m11) (C := RX12) (T := TX12) (N := 38) hx hb hts hi12 hown hG.1 hP 3 rfl rfl 11 (by decide) lf26 (fun _ h9 => h9) rfl dX12_readDrain_49 ?_
    refine lv_iload_n hx hb dX12_readDrain_52 rfl (lv_at hlv 4 rfl) ?_
    refine lv_iload_n hx hb dX12_readDrain_53 rfl (lv_at hlv 3 rfl) ?_
    refine va_iast hx hb hG.1 hP hD hS 1 0 rfl rfl (iI_in (by omega) (by decide)) dX12_readDrain_54 (fun H locs hP hD hS => ?_)
    have ⟨f_5, hdf_5, hP, hD⟩ : ∃ f_5 : Nat → Int32, f_5 = upd f11 (iI z_3).toNatClampNeg (iI (u1.2.1 0)) ∧ va_P D vwCl [(m13, .inl (cy 0, 389, .inl f13)), (m11, .inl (cy 0, 68, .inl f_5)), (m9, .inl (cy 0, 600, .inl f9)), (mm, .inr (12, [.int (iI th), .ref m1, .int (iI tp), .int (iI sz_), .int (iI (u4.2.1 1)), .int (iI (u4.2.1 2)), .int (iI (u4.2.1 3)), .int (iI opn), .int (iI fp), .ref m9, .ref m10, .ref m11, .ref m12, .ref m13, .ref m14, .ref m15, .int (iI im), .int (iI nr), .int (iI nl), .ref m19, .ref m20, .ref m21, .int (iI sp_), .ref m23, .ref m24, .ref m25, .ref m26, .ref m27, .ref m28, .int (iI wtc), .int (iI wcl), .int (iI ir), .int (iI ip), .ref m33, .int (iI shu), .ref m35, .int (iI sfa), .int (iI swr)]))] H ∧ va_D A [(m13, .inl (cy 0, 389, .inl f13)), (m11, .inl (cy 0, 68, .inl f_5)), (m9, .inl (cy 0, 600, .inl f9)), (mm, .inr (12, [.int (iI th), .ref m1, .int (iI tp), .int (iI sz_), .int (iI (u4.2.1 1)), .int (iI (u4.2.1 2)), .int (iI (u4.2.1 3)), .int (iI opn), .int (iI fp), .ref m9, .ref m10, .ref m11, .ref m12, .ref m13, .ref m14, .ref m15, .int (iI im), .int (iI nr), .int (iI nl), .ref m19, .ref m20, .ref m21, .int (iI sp_), .ref m23, .ref m24, .ref m25, .ref m26, .ref m27, .ref m28, .int (iI wtc), .int (iI wcl), .int (iI ir), .int (iI ip), .ref m33, .int (iI shu), .ref m35, .int (iI sfa), .int (iI swr)]))] := ⟨_, rfl, hP, hD⟩
    have hif_5 : NI f_5 := NI.wr (k := z_1) (c := 0) hq2_10 hdf_5 (by omega) (by decide) (by omega) (by omega) (by omega)
    have htf_5_0 : nz f_5 0 = nz f11 0 := nz_un hdf_5 (by omega) (by omega)
    have htf_5_1 : nz f_5 1 = nz f11 1 := nz_un hdf_5 (by omega) (by omega)
    have htf_5_2 : nz f_5 2 = nz f11 2 := nz_un hdf_5 (by omega) (by omega)
    have htf_5_3 : nz f_5 3 = nz f11 3 := nz_un hdf_5 (by omega) (by omega)
    have htf_5_4 : nz f_5 4 = nz f11 4 := nz_un hdf_5 (by omega) (by omega)
    have htf_5_5 : nz f_5 5 = nz f11 5 := nz_un hdf_5 (by omega) (by omega)
    refine lv_aload_n hx hb dX12_readDrain_55 rfl (lv_at hlv 5 rfl) ?_
    refine va_get (D := D) (ci := 12) (v := .ref m11) (C := RX12) (T := TX12) (N := 38) hx hb hts hi12 hown hG.1 hP 3 rfl rfl 11 (by decide) lf26 (fun _ h9 => h9) rfl dX12_readDrain_56 ?_
    refine lv_iload_n hx hb dX12_readDrain_59 rfl (lv_at hlv 4 rfl) ?_
    refine lv_iconst (v := iI 1) hx hb dX12_readDrain_60 (by decide) ?_
    refine lv_iadd hx hb dX12_readDrain_61 ?_
    refine lt_e (e0 := z_3 + 1) (Int32.ofInt_add _ _).symm (fun z_6 hz_6 => ?_)
    refine lv_iload_n hx hb dX12_readDrain_62 rfl (lv_at hlv 2 rfl) ?_
    refine va_iast hx hb hG.1 hP hD hS 1 0 rfl rfl (iI_in (by omega) (by decide)) dX12_readDrain_63 (fun H locs hP hD hS => ?_)
    have ⟨f_7, hdf_7, hP, hD⟩ : ∃ f_7 : Nat → Int32, f_7 = upd f_5 (iI z_6).toNatClampNeg (iI (u2.2.1 0)) ∧ va_P D vwCl [(m13, .inl (cy 0, 389, .inl f13)), (m11, .inl (cy 0, 68, .inl f_7)), (m9, .inl (cy 0, 600, .inl f9)), (mm, .inr (12, [.int (iI th), .ref m1, .int (iI tp), .int (iI sz_), .int (iI (u4.2.1 1)), .int (iI (u4.2.1 2)), .int (iI (u4.2.1 3)), .int (iI opn), .int (iI fp), .ref m9, .ref m10, .ref m11, .ref m12, .ref m13, .ref m14, .ref m15, .int (iI im), .int (iI nr), .int (iI nl), .ref m19, .ref m20, .ref m21, .int (iI sp_), .ref m23, .ref m24, .ref m25, .ref m26, .ref m27, .ref m28, .int (iI wtc), .int (iI wcl), .int (iI ir), .int (iI ip), .ref m33, .int (iI shu), .ref m35, .int (iI sfa), .int (iI swr)]))] H ∧ va_D A [(m13, .inl (cy 0, 389, .inl f13)), (m11, .inl (cy 0, 68, .inl f_7)), (m9, .inl (cy 0, 600, .inl f9)), (mm, .inr (12, [.int (iI th), .ref m1, .int (iI tp), .int (iI sz_), .int (iI (u4.2.1 1)), .int (iI (u4.2.1 2)), .int (iI (u4.2.1 3)), .int (iI opn), .int (iI fp), .ref m9, .ref m10, .ref m11, .ref m12, .ref m13, .ref m14, .ref m15, .int (iI im), .int (iI nr), .int (iI nl), .ref m19, .ref m20, .ref m21, .int (iI sp_), .ref m23, .ref m24, .ref m25, .ref m26, .ref m27, .ref m28, .int (iI wtc), .int (iI wcl), .int (iI ir), .int (iI ip), .ref m33, .int (iI shu), .ref m35, .int (iI sfa), .int (iI swr)]))] := ⟨_, rfl, hP, hD⟩
    have hif_7 : NI f_7 := NI.wr (k := z_1) (c := 1) hif_5 hdf_7 (by omega) (by decide) (by omega) (by omega) (by omega)
    have htf_7_0 : nz f_7 0 = nz f_5 0 := nz_un hdf_7 (by omega) (by omega)
    have htf_7_1 : nz f_7 1 = nz f_5 1 := nz_un hdf_7 (by omega) (by omega)
    have htf_7_2 : nz f_7 2 = nz f_5 2 := nz_un hdf_7 (by omega) (by omega)
    have htf_7_3 : nz f_7 3 = nz f_5 3 := nz_un hdf_7 (by omega) (by omega)
    have htf_7_4 : nz f_7 4 = nz f_5 4 := nz_un hdf_7 (by omega) (by omega)
    have htf_7_5 : nz f_7 5 = nz f_5 5 := nz_un hdf_7 (by omega) (by omega)
    refine lv_aload_n hx hb dX12_readDrain_64 rfl (lv_at hlv 5 rfl) ?_
    refine va_get (D := D) (ci := 12) (v := .ref m11) (C := RX12) (T := TX12) (N := 38) hx hb hts hi12 hown hG.1 hP 3 rfl rfl 11 (by decide) lf26 (fun _ h9 => h9) rfl dX12_readDrain_65 ?_
    refine lv_iload_n hx hb dX12_readDrain_68 rfl (lv_at hlv 4 rfl) ?_
    refine lv_iconst (v := iI 2) hx hb dX12_readDrain_69 (by decide) ?_
    refine lv_iadd hx hb dX12_readDrain_70 ?_
    refine lt_e (e0 := z_3 + 2) (Int32.ofInt_add _ _).symm (fun z_8 hz_8 => ?_)
    refine lv_iload hx hb dX12_readDrain_71 (lv_at hlv 1 rfl) ?_
    refine va_iast hx hb hG.1 hP hD hS 1 0 rfl rfl (iI_in (by omega) (by decide)) dX12_readDrain_73 (fun H locs hP hD hS => ?_)
    have ⟨f_9, hdf_9, hP, hD⟩ : ∃ f_9 : Nat → Int32, f_9 = upd f_7 (iI z_8).toNatClampNeg (iI (u3.2.1 0)) ∧ va_P D vwCl [(m13, .inl (cy 0, 389, .inl f13)), (m11, .inl (cy 0, 68, .inl f_9)), (m9, .inl (cy 0, 600, .inl f9)), (mm, .inr (12, [.int (iI th), .ref m1, .int (iI tp), .int (iI sz_), .int (iI (u4.2.1 1)), .int (iI (u4.2.1 2)), .int (iI (u4.2.1 3)), .int (iI opn), .int (iI fp), .ref m9, .ref m10, .ref m11, .ref m12, .ref m13, .ref m14, .ref m15, .int (iI im), .int (iI nr), .int (iI nl), .ref m19, .ref m20, .ref m21, .int (iI sp_), .ref m23, .ref m24, .ref m25, .ref m26, .ref m27, .ref m28, .int (iI wtc), .int (iI wcl), .int (iI ir), .int (iI ip), .ref m33, .int (iI shu), .ref m35, .int (iI sfa), .int (iI swr)]))] H ∧ va_D A [(m13, .inl (cy 0, 389, .inl f13)), (m11, .inl (cy 0, 68, .inl f_9)), (m9, .inl (cy 0, 600, .inl f9)), (mm, .inr (12, [.int (iI th), .ref m1, .int (iI tp), .int (iI sz_), .int (iI (u4.2.1 1)), .int (iI (u4.2.1 2)), .int (iI (u4.2.1 3)), .int (iI opn), .int (iI fp), .ref m9, .ref m10, .ref m11, .ref m12, .ref m13, .ref m14, .ref m15, .int (iI im), .int (iI nr), .int (iI nl), .ref m19, .ref m20, .ref m21, .int (iI sp_), .ref m23, .ref m24, .ref m25, .ref m26, .ref m27, .ref m28, .int (iI wtc), .int (iI wcl), .int (iI ir), .int (iI ip), .ref m33, .int (iI shu), .ref m35, .int (iI sfa), .int (iI swr)]))] := ⟨_, rfl, hP, hD⟩
    have hif_9 : NI f_9 := NI.wr (k := z_1) (c := 2) hif_7 hdf_9 (by omega) (by decide) (by omega) (by omega) (by omega)
    have htf_9_0 : nz f_9 0 = nz f_7 0 := nz_un hdf_9 (by omega) (by omega)
    have htf_9_1 : nz f_9 1 = nz f_7 1 := nz_un hdf_9 (by omega) (by omega)
    have htf_9_2 : nz f_9 2 = nz f_7 2 := nz_un hdf_9 (by omega) (by omega)
    have htf_9_3 : nz f_9 3 = nz f_7 3 := nz_un hdf_9 (by omega) (by omega)
    have htf_9_4 : nz f_9 4 = nz f_7 4 := nz_un hdf_9 (by omega) (by omega)
    have htf_9_5 : nz f_9 5 = nz f_7 5 := nz_un hdf_9 (by omega) (by omega)
    refine lv_aload_n hx hb dX12_readDrain_74 rfl (lv_at hlv 5 rfl) ?_
    refine va_get (D := D) (ci := 12) (v := .ref m13) (C := RX12) (T := TX12) (N := 38) hx hb hts hi12 hown hG.1 hP 3 rfl rfl 13 (by decide) lf32 (fun _ h9 => h9) rfl dX12_readDrain_75 ?_
    refine lv_sipush (v := iI 192) hx hb dX12_readDrain_78 (by decide) ?_
    refine lv_aload_n hx hb dX12_readDrain_81 rfl (lv_at hlv 5 rfl) ?_
    refine va_get (D := D) (ci := 12) (v := .ref m11) (C := RX12) (T := TX12) (N := 38) hx hb hts hi12 hown hG.1 hP 3 rfl rfl 11 (by decide) lf26 (fun _ h9 => h9) rfl dX12_readDrain_82 ?_
    refine lv_iconst (v := iI 2) hx hb dX12_readDrain_85 (by decide) ?_
    refine va_iald hx hb hG.1 hP 1 0 rfl rfl (iI_in (by omega) (by decide)) dX12_readDrain_86 ?_
    refine lt_nz (i := 2) (by omega) (fun z_10 hz_10 lz_10 uz_10 => ?_)
    have hz_10 : z_10 = nz f_9 2 := hz_10
    have hbz_10_54 := hif_9.2.2.1
    refine lv_iadd hx hb dX12_readDrain_87 ?_
    refine lt_e (e0 := 192 + z_10) (Int32.ofInt_add _ _).symm (fun z_11 hz_11 => ?_)
    refine lv_iload hx hb dX12_readDrain_88 (lv_at hlv 0 rfl) ?_
    refine va_iast hx hb hG.1 hP hD hS 0 0 rfl rfl (iI_in (by omega) (by decide)) dX12_readDrain_90 (fun H locs hP hD hS => ?_)
    have ⟨f_12, hdf_12, hP, hD⟩ : ∃ f_12 : Nat → Int32, f_12 = upd f13 (iI z_11).toNatClampNeg (iI (u4.2.1 0)) ∧ va_P D vwCl [(m13, .inl (cy 0, 389, .inl f_12)), (m11, .inl (cy 0, 68, .inl f_9)), (m9, .inl (cy 0, 600, .inl f9)), (mm, .inr (12, [.int (iI th), .ref m1, .int (iI tp), .int (iI sz_), .int (iI (u4.2.1 1)), .int (iI (u4.2.1 2)), .int (iI (u4.2.1 3)), .int (iI opn), .int (iI fp), .ref m9, .ref m10, .ref m11, .ref m12, .ref m13, .ref m14, .ref m15, .int (iI im), .int (iI nr), .int (iI nl), .ref m19, .ref m20, .ref m21, .int (iI sp_), .ref m23, .ref m24, .ref m25, .ref m26, .ref m27, .ref m28, .int (iI wtc), .int (iI wcl), .int (iI ir), .int (iI ip), .ref m33, .int (iI shu), .ref m35, .int (iI sfa), .int (iI swr)]))] H ∧ va_D A [(m13, .inl (cy 0, 389, .inl f_12)), (m11, .inl (cy 0, 68, .inl f_9)), (m9, .inl (cy 0, 600, .inl f9)), (mm, .inr (12, [.int (iI th), .ref m1, .int (iI tp), .int (iI sz_), .int (iI (u4.2.1 1)), .int (iI (u4.2.1 2)), .int (iI (u4.2.1 3)), .int (iI opn), .int (iI fp), .ref m9, .ref m10, .ref m11, .ref m12, .ref m13, .ref m14, .ref m15, .int (iI im), .int (iI nr), .int (iI nl), .ref m19, .ref m20, .ref m21, .int (iI sp_), .ref m23, .ref m24, .ref m25, .ref m26, .ref m27, .ref m28, .int (iI wtc), .int (iI wcl), .int (iI ir), .int (iI ip), .ref m33, .int (iI shu), .ref m35, .int (iI sfa), .int (iI swr)]))] := ⟨_, rfl, hP, hD⟩
    have hif_12 : SI 8 f_12 := SI.wo hf13 hdf_12 (by omega) (by omega) (by omega) (by omega)
    refine lv_aload_n hx hb dX12_readDrain_91 rfl (lv_at hlv 5 rfl) ?_
    refine va_get (D := D) (ci := 12) (v := .ref m11) (C := RX12) (T := TX12) (N := 38) hx hb hts hi12 hown hG.1 hP 3 rfl rfl 11 (by decide) lf26 (fun _ h9 => h9) rfl dX12_readDrain_92 ?_
    refine lv_iconst (v := iI 2) hx hb dX12_readDrain_95 (by decide) ?_
    refine lv_dup2_11 hx hb dX12_readDrain_96 rfl rfl ?_
    refine va_iald hx hb hG.1 hP 1 0 rfl rfl (iI_in (by omega) (by decide)) dX12_readDrain_97 ?_
    refine lt_nz (i := 2) (by omega) (fun z_13 hz_13 lz_13 uz_13 => ?_)
    have hz_13 : z_13 = nz f_9 2 := hz_13
    have hbz_13_68 := hif_9.2.2.1
    refine lv_iconst (v := iI 1) hx hb dX12_readDrain_98 (by decide) ?_
    refine lv_iadd hx hb dX12_readDrain_99 ?_
    refine lt_e (e0 := z_13 + 1) (Int32.ofInt_add _ _).symm (fun z_14 hz_14 => ?_)
    refine va_iast hx hb hG.1 hP hD hS 1 0 rfl rfl (iI_in (by omega) (by decide)) dX12_readDrain_100 (fun H locs hP hD hS => ?_)
    have ⟨f_15, hdf_15, hP, hD⟩ : ∃ f_15 : Nat → Int32, f_15 = upd f_9 (iI 2).toNatClampNeg (iI z_14) ∧ va_P D vwCl [(m13, .inl (cy 0, 389, .inl f_12)), (m11, .inl (cy 0, 68, .inl f_15)), (m9, .inl (cy 0, 600, .inl f9)), (mm, .inr (12, [.int (iI th), .ref m1, .int (iI tp), .int (iI sz_), .int (iI (u4.2.1 1)), .int (iI (u4.2.1 2)), .int (iI (u4.2.1 3)), .int (iI opn), .int (iI fp), .ref m9, .ref m10, .ref m11, .ref m12, .ref m13, .ref m14, .ref m15, .int (iI im), .int (iI nr), .int (iI nl), .ref m19, .ref m20, .ref m21, .int (iI sp_), .ref m23, .ref m24, .ref m25, .ref m26, .ref m27, .ref m28, .int (iI wtc), .int (iI wcl), .int (iI ir), .int (iI ip), .ref m33, .int (iI shu), .ref m35, .int (iI sfa), .int (iI swr)]))] H ∧ va_D A [(m13, .inl (cy 0, 389, .inl f_12)), (m11, .inl (cy 0, 68, .inl f_15)), (m9, .inl (cy 0, 600, .inl f9)), (mm, .inr (12, [.int (iI th), .ref m1, .int (iI tp), .int (iI sz_), .int (iI (u4.2.1 1)), .int (iI (u4.2.1 2)), .int (iI (u4.2.1 3)), .int (iI opn), .int (iI fp), .ref m9, .ref m10, .ref m11, .ref m12, .ref m13, .ref m14, .ref m15, .int (iI im), .int (iI nr), .int (iI nl), .ref m19, .ref m20, .ref m21, .int (iI sp_), .ref m23, .ref m24, .ref m25, .ref m26, .ref m27, .ref m28, .int (iI wtc), .int (iI wcl), .int (iI ir), .int (iI ip), .ref m33, .int (iI shu), .ref m35, .int (iI sfa), .int (iI swr)]))] := ⟨_, rfl, hP, hD⟩
    have hif_15 : NI f_15 := NI.wk hif_9 hdf_15 (by omega) (by omega)
    have htf_15_0 : nz f_15 0 = nz f_9 0 := nz_un hdf_15 (by omega) (by omega)
    have htf_15_1 : nz f_15 1 = nz f_9 1 := nz_un hdf_15 (by omega) (by omega)
    have htf_15_2 : nz f_15 2 = z_14 := nz_us hdf_15 (by omega) (by omega) (by omega)
    have htf_15_3 : nz f_15 3 = nz f_9 3 := nz_un hdf_15 (by omega) (by omega)
    have htf_15_4 : nz f_15 4 = nz f_9 4 := nz_un hdf_15 (by omega) (by omega)
    have htf_15_5 : nz f_15 5 = nz f_9 5 := nz_un hdf_15 (by omega) (by omega)
    refine W.widen (k := 0) (n := 0) (Nat.le_of_ble_eq_true rfl) (Nat.le_of_ble_eq_true rfl) ?_
    exact W.vret hx hb hr (fun t ht hW => ⟨⟨((fun k => ([] : List Nat).getD k 0), (fun k => ([0, (u4.2.1 1), (u4.2.1 2), (u4.2.1 3)] : List Int).getD k 0), (fun k => ([f_15, f_12] : List (Nat → Int32)).getD k (fun _ => 0))), rfl, ⟨(by show (0 ≤ (u4.2.1 1) ∧ (u4.2.1 1) ≤ 602); omega), (by show ((-1) ≤ (u4.2.1 2) ∧ (u4.2.1 2) ≤ 602); omega), (by show (0 ≤ (u4.2.1 3) ∧ (u4.2.1 3) ≤ 4); omega), (by show (ap ≤ (u4.2.1 1)); omega), (by show (ap ≤ sz_ → (u4.2.1 1) ≤ sz_); omega), (by show ((u4.2.1 2) = -1 → bad = -1); omega), (by show (bad ≠ -1 → (u4.2.1 2) = bad); omega), (by show (nz (f_15) 0 = nz f11 0); omega), (by show (nz (f_15) 1 = nz f11 1); omega), (by show (nz (f_15) 3 = nz f11 3); omega), (by show (nz (f_15) 4 = nz f11 4); omega), (by show (nz (f_15) 5 = nz f11 5); omega), hq4_10, hif_15, hif_12⟩, by rw [ht]; exact hP.sub [3, 2, 1, 0] rfl, hD.sub [3, 2, 1, 0] (by decide) rfl⟩, hS.F ht⟩) hS.2.2 dX12_readDrain_101
  · refine W.widen (k := 0) (n := 0) (Nat.le_of_ble_eq_true rfl) (Nat.le_of_ble_eq_true rfl) ?_
    exact W.vret hx hb hr (fun t ht hW => ⟨⟨((fun k => ([] : List Nat).getD k 0), (fun k => ([0, (u4.2.1 1), (u4.2.1 2), (u4.2.1 3)] : List Int).getD k 0), (fun k => ([f11, f13] : List (Nat → Int32)).getD k (fun _ => 0))), rfl, ⟨(by show (0 ≤ (u4.2.1 1) ∧ (u4.2.1 1) ≤ 602); omega), (by show ((-1) ≤ (u4.2.1 2) ∧ (u4.2.1 2) ≤ 602); omega), (by show (0 ≤ (u4.2.1 3) ∧ (u4.2.1 3) ≤ 4); omega), (by show (ap ≤ (u4.2.1 1)); omega), (by show (ap ≤ sz_ → (u4.2.1 1) ≤ sz_); omega), (by show ((u4.2.1 2) = -1 → bad = -1); omega), (by show (bad ≠ -1 → (u4.2.1 2) = bad); omega), (by show (nz (f11) 0 = nz f11 0); omega), (by show (nz (f11) 1 = nz f11 1); omega), (by show (nz (f11) 3 = nz f11 3); omega), (by show (nz (f11) 4 = nz f11 4); omega), (by show (nz (f11) 5 = nz f11 5); omega), hq4_10, hq2_10, hf13⟩, by rw [ht]; exact hP.sub [3, 2, 1, 0] rfl, hD.sub [3, 2, 1, 0] (by decide) rfl⟩, hS.F ht⟩) hS.2.2 dX12_readDrain_47
def vs_m_readPerson : List Cond := .code yX12_readPerson cX12_readPerson 3 none :: (([.fieldLink RX12 32 "KerbSplashModel" "newState" "[I", .fieldLink RX12 26 "KerbSplashModel" "newStreet" "[I"] : List Cond) ++ ((wsV RX12 127 RX12 yX12_readX vs_m_readX) ++ ((wsV RX12 123 RX12 yX12_readNumber vs_m_number) ++ ((wsV RX12 109 RX12 yX12_fine vs_m_fine) ++ ((wsX120) ++ ([]))))))
theorem gd_m_readPerson : vs_m_readPerson.all goodWord = true := gd_C (by decide +kernel) (gd_A (by decide +kernel) (gd_A (gd_V gd_m_readX (by decide +kernel)) (gd_A (gd_V gd_m_number (by decide +kernel)) (gd_A (gd_V gd_m_fine (by decide +kernel)) (gd_A (by decide +kernel) rfl)))))
set_option maxHeartbeats 4000000 in
set_option maxRecDepth 100000 in
theorem m_readPerson (l : Launch) (hl : l.stackTraces = false) (D : va_G) (cy : Nat → ClassId) (sa : Nat → Nat) (mm m1 m9 m10 m11 m12 m13 m14 m15 m19 m20 m21 m23 m24 m25 m26 m27 m28 m33 m35 : Nat) (th tp sz_ ap bad bk opn fp im nr nl sp_ wtc wcl ir ip shu sfa swr : Int) (f9 f11 f13 : Nat → Int32) (sz : Nat) (hr_th : (-2147483648) ≤ th ∧ th ≤ 2147483647) (hr_tp : 0 ≤ tp ∧ tp ≤ 600) (hr_sz_ : 0 ≤ sz_ ∧ sz_ ≤ 600) (hr_ap : 0 ≤ ap ∧ ap ≤ 602) (hr_bad : (-1) ≤ bad ∧ bad ≤ 602) (hr_bk : 0 ≤ bk ∧ bk ≤ 4) (hr_opn : 0 ≤ opn ∧ opn ≤ 7) (hr_fp : (-2147483648) ≤ fp ∧ fp ≤ 2147483647) (hr_im : 0 ≤ im ∧ im ≤ 3) (hr_nr : 0 ≤ nr ∧ nr ≤ 4) (hr_nl : 0 ≤ nl ∧ nl ≤ 4) (hr_sp_ : 0 ≤ sp_ ∧ sp_ ≤ 602) (hr_wtc : (-2147483648) ≤ wtc ∧ wtc ≤ 2147483647) (hr_wcl : 0 ≤ wcl ∧ wcl ≤ 95) (hr_ir : 0 ≤ ir ∧ ir ≤ 5) (hr_ip : (-2147483648) ≤ ip ∧ ip ≤ 2147483647) (hr_shu : (-2147483648) ≤ shu ∧ shu ≤ 2147483647) (hr_sfa : (-2147483648) ≤ sfa ∧ sfa ≤ 2147483647) (hr_swr : (-2147483648) ≤ swr ∧ swr ≤ 2147483647) (hp0 : nz f11 3 < 8) (hf9 : inv_ 600 0 255 f9) (hf11 : NI f11) (hf13 : SI 8 f13) : Met l yX12_readPerson vs_m_readPerson ({ frames := 3, cells := 0, slots := 0, locals := 67 }) (va_Pc [.ref mm] (pcW D cy sa sz [(mm, .inr (12, [.int (iI th), .ref m1, .int (iI tp), .int (iI sz_), .int (iI ap), .int (iI bad), .int (iI bk), .int (iI opn), .int (iI fp), .ref m9, .ref m10, .ref m11, .ref m12, .ref m13, .ref m14, .ref m15, .int (iI im), .int (iI nr), .int (iI nl), .ref m19, .ref m20, .ref m21, .int (iI sp_), .ref m23, .ref m24, .ref m25, .ref m26, .ref m27, .ref m28, .int (iI wtc), .int (iI wcl), .int (iI ir), .int (iI ip), .ref m33, .int (iI shu), .ref m35, .int (iI sfa), .int (iI swr)])), (m9, .inl (cy 0, 600, .inl f9)), (m11, .inl (cy 0, 68, .inl f11)), (m13, .inl (cy 0, 389, .inl f13))])) (va_Qv (fun u : SV => (0 ≤ u.2.1 1 ∧ u.2.1 1 ≤ 602) ∧ ((-1) ≤ u.2.1 2 ∧ u.2.1 2 ≤ 602) ∧ (0 ≤ u.2.1 3 ∧ u.2.1 3 ≤ 4) ∧ (ap ≤ u.2.1 1) ∧ (ap ≤ sz_ → u.2.1 1 ≤ sz_) ∧ (u.2.1 2 = -1 → bad = -1) ∧ (bad ≠ -1 → u.2.1 2 = bad) ∧ (nz (u.2.2 0) 0 = nz f11 0) ∧ (nz (u.2.2 0) 1 = nz f11 1) ∧ (nz (u.2.2 0) 2 = nz f11 2) ∧ (nz (u.2.2 0) 4 = nz f11 4) ∧ (nz (u.2.2 0) 5 = nz f11 5) ∧ inv_ 600 0 255 f9 ∧ NI (u.2.2 0) ∧ SI 8 (u.2.2 1)) (fun u t => atW D (va_A [(mm, .inr (12, [.int (iI th), .ref m1, .int (iI tp), .int (iI sz_), .int (iI ap), .int (iI bad), .int (iI bk), .int (iI opn), .int (iI fp), .ref m9, .ref m10, .ref m11, .ref m12, .ref m13, .ref m14, .ref m15, .int (iI im), .int (iI nr), .int (iI nl), .ref m19, .ref m20, .ref m21, .int (iI sp_), .ref m23, .ref m24, .ref m25, .ref m26, .ref m27, .ref m28, .int (iI wtc), .int (iI wcl), .int (iI ir), .int (iI ip), .ref m33, .int (iI shu), .ref m35, .int (iI sfa), .int (iI swr)])), (m9, .inl (cy 0, 600, .inl f9)), (m11, .inl (cy 0, 68, .inl f11)), (m13, .inl (cy 0, 389, .inl f13))] sz) [(mm, .inr (12, [.int (iI th), .ref m1, .int (iI tp), .int (iI sz_), .int (iI (u.2.1 1)), .int (iI (u.2.1 2)), .int (iI (u.2.1 3)), .int (iI opn), .int (iI fp), .ref m9, .ref m10, .ref m11, .ref m12, .ref m13, .ref m14, .ref m15, .int (iI im), .int (iI nr), .int (iI nl), .ref m19, .ref m20, .ref m21, .int (iI sp_), .ref m23, .ref m24, .ref m25, .ref m26, .ref m27, .ref m28, .int (iI wtc), .int (iI wcl), .int (iI ir), .int (iI ip), .ref m33, .int (iI shu), .ref m35, .int (iI sfa), .int (iI swr)])), (m9, .inl (cy 0, 600, .inl f9)), (m11, .inl (cy 0, 68, .inl (u.2.2 0))), (m13, .inl (cy 0, 389, .inl (u.2.2 1)))] t) (va_A [(mm, .inr (12, [.int (iI th), .ref m1, .int (iI tp), .int (iI sz_), .int (iI ap), .int (iI bad), .int (iI bk), .int (iI opn), .int (iI fp), .ref m9, .ref m10, .ref m11, .ref m12, .ref m13, .ref m14, .ref m15, .int (iI im), .int (iI nr), .int (iI nl), .ref m19, .ref m20, .ref m21, .int (iI sp_), .ref m23, .ref m24, .ref m25, .ref m26, .ref m27, .ref m28, .int (iI wtc), .int (iI wcl), .int (iI ir), .int (iI ip), .ref m33, .int (iI shu), .ref m35, .int (iI sfa), .int (iI swr)])), (m9, .inl (cy 0, 600, .inl f9)), (m11, .inl (cy 0, 68, .inl f11)), (m13, .inl (cy 0, 389, .inl f13))] sz)) 0 0 (va_A [(mm, .inr (12, [.int (iI th), .ref m1, .int (iI tp), .int (iI sz_), .int (iI ap), .int (iI bad), .int (iI bk), .int (iI opn), .int (iI fp), .ref m9, .ref m10, .ref m11, .ref m12, .ref m13, .ref m14, .ref m15, .int (iI im), .int (iI nr), .int (iI nl), .ref m19, .ref m20, .ref m21, .int (iI sp_), .ref m23, .ref m24, .ref m25, .ref m26, .ref m27, .ref m28, .int (iI wtc), .int (iI wcl), .int (iI ir), .int (iI ip), .ref m33, .int (iI shu), .ref m35, .int (iI sfa), .int (iI swr)])), (m9, .inl (cy 0, 600, .inl f9)), (m11, .inl (cy 0, 68, .inl f11)), (m13, .inl (cy 0, 389, .inl f13))] sz) := by
  refine Met.ofW (cc := cX12_readPerson) (maxL := 3) (ret := none) (by decide) rfl ?_
  intro p e s m args below meth c s₁ B hml hv
  obtain ⟨rfl, hsz, hP, hG, hD0, hT⟩ := hv
  have hx := B.exec
  have hb := B.bytes
  have hr := B.returns
  have hts := atoms_spec (ws := vs_m_readPerson) B.pre
  have hown : s.vm.findClass RX12 = some m.cls := findClass_of_methodNamed B.named
  have hlocks := B.notSynchronized
  subst hsz
  have hD := hD0.self (sz := s.heap.size)
  generalize hAe : va_A [(mm, .inr (12, [.int (iI th), .ref m1, .int (iI tp), .int (iI sz_), .int (iI ap), .int (iI bad), .int (iI bk), .int (iI opn), .int (iI fp), .ref m9, .ref m10, .ref m11, .ref m12, .ref m13, .ref m14, .ref m15, .int (iI im), .int (iI nr), .int (iI nl), .ref m19, .ref m20, .ref m21, .int (iI sp_), .ref m23, .ref m24, .ref m25, .ref m26, .ref m27, .ref m28, .int (iI wtc), .int (iI wcl), .int (iI ir), .int (iI ip), .ref m33, .int (iI shu), .ref m35, .int (iI sfa), .int (iI swr)])), (m9, .inl (cy 0, 600, .inl f9)), (m11, .inl (cy 0, 68, .inl f11)), (m13, .inl (cy 0, 389, .inl f13))] s.heap.size = A at hD hT ⊢
  have hA : ∀ q : Nat, s.heap.size ≤ q → A q := fun q h => by rw [← hAe]; exact Or.inr h
  have hS : va_S A s.heap s.heap [] := va_S.rf
  have hl0 := lv_entry ([.ref mm]) (n := 3) (Nat.le_of_ble_eq_true rfl)
  rw [lg_entry_eq]
  generalize (lg_sl ([.ref mm]) ++ List.replicate (3 - (lg_sl ([.ref mm])).length) Slot.unset).toArray = ls at hl0 ⊢
  have hlv : lv_has ls 3 [(0, .ref mm)] := hl0
  have gg_0 : GoodIn vs_m_readPerson (wsV RX12 127 RX12 yX12_readX vs_m_readX) := goodIn_sub (fun w h => List.mem_cons_of_mem _ (List.mem_append_right _ (List.mem_append_left _ h))) (gd_V gd_m_readX (by decide +kernel))
  have gg_1 : GoodIn vs_m_readPerson (wsV RX12 123 RX12 yX12_readNumber vs_m_number) := goodIn_sub (fun w h => List.mem_cons_of_mem _ (List.mem_append_right _ (List.mem_append_right _ (List.mem_append_left _ h)))) (gd_V gd_m_number (by decide +kernel))
  have gg_2 : GoodIn vs_m_readPerson (wsV RX12 109 RX12 yX12_fine vs_m_fine) := goodIn_sub (fun w h => List.mem_cons_of_mem _ (List.mem_append_right _ (List.mem_append_right _ (List.mem_append_right _ (List.mem_append_left _ h))))) (gd_V gd_m_fine (by decide +kernel))
  have lf32 := hts (.fieldLink RX12 32 "KerbSplashModel" "newState" "[I") (List.mem_of_getElem? (i := 1) rfl)
  have hi12 : ∀ w ∈ wsX120, w ∈ vs_m_readPerson := fun w h => List.mem_cons_of_mem _ (List.mem_append_right _ (List.mem_append_right _ (List.mem_append_right _ (List.mem_append_right _ (List.mem_append_left _ h)))))
  have lf26 := hts (.fieldLink RX12 26 "KerbSplashModel" "newStreet" "[I") (List.mem_of_getElem? (i := 2) rfl)
  refine lv_aload_n hx hb dX12_readPerson_0 rfl (lv_at hlv 0 rfl) ?_
  refine cj_i (wr := [(m13, .inl (cy 0, 389, .inl f13))]) (va_runV (As := []) (rest := []) ⟨hx, hb, hml, hown, hts⟩ (m_readX l hl D cy sa mm m1 m9 m10 m11 m12 m13 m14 m15 m19 m20 m21 m23 m24 m25 m26 m27 m28 m33 m35 th tp sz_ ap bad bk opn fp im nr nl sp_ wtc wcl ir ip shu sfa swr f9 f11 s.heap.size (by omega) (by omega) (by omega) (by omega) (by omega) (by omega) (by omega) (by omega) (by omega) (by omega) (by omega) (by omega) (by omega) (by omega) (by omega) (by omega) (by omega) (by omega) (by omega) hf9 hf11) (cwV 0 hts gg_0 rfl rfl rfl (by decide +kernel) ⟨Nat.le_of_ble_eq_true rfl, Nat.le_of_ble_eq_true rfl⟩) ⟨pcW.blind, (va_recv hG.1 hP (ci := 12) (q0 := 0) rfl rfl), (pcW.mk hP hD hS hA hG hT [0, 1, 2] rfl (by decide))⟩ rfl rfl hlv.1 rfl (lv_room (Nat.le_of_ble_eq_true rfl)) dX12_readPerson_1 ⟨Nat.le_of_ble_eq_true rfl, Nat.le_of_ble_eq_true rfl⟩) hP hD hS hA [0, 1, 2] [3] rfl rfl (by decide) (by decide) (fun r1 u1 H locs hw1 hP hD hS => ?_)
  obtain ⟨rfl, hq1_1, hq1_2, hq1_3, hq1_4, hq1_5, hq1_6, hq1_7, hq1_8, hq1_9, hq1_10⟩ := hw1
  have hP : va_P D vwCl [(m13, .inl (cy 0, 389, .inl f13)), (mm, .inr (12, [.int (iI th), .ref m1, .int (iI tp), .int (iI sz_), .int (iI (u1.2.1 1)), .int (iI (u1.2.1 2)), .int (iI (u1.2.1 3)), .int (iI opn), .int (iI fp), .ref m9, .ref m10, .ref m11, .ref m12, .ref m13, .ref m14, .ref m15, .int (iI im), .int (iI nr), .int (iI nl), .ref m19, .ref m20, .ref m21, .int (iI sp_), .ref m23, .ref m24, .ref m25, .ref m26, .ref m27, .ref m28, .int (iI wtc), .int (iI wcl), .int (iI ir), .int (iI ip), .ref m33, .int (iI shu), .ref m35, .int (iI sfa), .int (iI swr)])), (m9, .inl (cy 0, 600, .inl f9)), (m11, .inl (cy 0, 68, .inl f11))] H := hP
  have hD : va_D A [(m13, .inl (cy 0, 389, .inl f13)), (mm, .inr (12, [.int (iI th), .ref m1, .int (iI tp), .int (iI sz_), .int (iI (u1.2.1 1)), .int (iI (u1.2.1 2)), .int (iI (u1.2.1 3)), .int (iI opn), .int (iI fp), .ref m9, .ref m10, .ref m11, .ref m12, .ref m13, .ref m14, .ref m15, .int (iI im), .int (iI nr), .int (iI nl), .ref m19, .ref m20, .ref m21, .int (iI sp_), .ref m23, .ref m24, .ref m25, .ref m26, .ref m27, .ref m28, .int (iI wtc), .int (iI wcl), .int (iI ir), .int (iI ip), .ref m33, .int (iI shu), .ref m35, .int (iI sfa), .int (iI swr)])), (m9, .inl (cy 0, 600, .inl f9)), (m11, .inl (cy 0, 68, .inl f11))] := hD
  refine lv_istore_n (lv' := [(1, .int (iI (u1.2.1 0))), (0, .ref mm)]) hx hb dX12_readPerson_4 rfl hlv (by decide) rfl (fun ls hlv => ?_)
  refine lv_aload_n hx hb dX12_readPerson_5 rfl (lv_at hlv 1 rfl) ?_
  refine lv_iconst (v := iI 0) hx hb dX12_readPerson_6 (by decide) ?_
  refine lv_bipush (v := iI 19) hx hb dX12_readPerson_7 (by decide) ?_
  refine cj_i (wr := [(m13, .inl (cy 0, 389, .inl f13)), (m11, .inl (cy 0, 68, .inl f11))]) (va_runV (As := [.int (iI 0), .int (iI 19)]) (rest := []) ⟨hx, hb, hml, hown, hts⟩ (m_number l hl D cy sa mm m1 m9 m10 m11 m12 m13 m14 m15 m19 m20 m21 m23 m24 m25 m26 m27 m28 m33 m35 th tp sz_ (u1.2.1 1) (u1.2.1 2) (u1.2.1 3) opn fp im nr nl sp_ wtc wcl ir ip shu sfa swr f9 0 19 H.size (by omega) (by omega) (by omega) (by omega) (by omega) (by omega) (by omega) (by omega) (by omega) (by omega) (by omega) (by omega) (by omega) (by omega) (by omega) (by omega) (by omega) (by omega) (by omega) (by omega) (by omega) hq1_9) (cwV 2 hts gg_1 rfl rfl rfl (by decide +kernel) ⟨Nat.le_of_ble_eq_true rfl, Nat.le_of_ble_eq_true rfl⟩) ⟨pcW.blind, (va_recv hG.1 hP (ci := 12) (q0 := 1) rfl rfl), (pcW.mk hP hD hS hA hG hT [1, 2] rfl (by decide))⟩ rfl rfl hlv.1 rfl (lv_room (Nat.le_of_ble_eq_true rfl)) dX12_readPerson_9 ⟨Nat.le_of_ble_eq_true rfl, Nat.le_of_ble_eq_true rfl⟩) hP hD hS hA [1, 2] [0, 3] rfl rfl (by decide) (by decide) (fun r2 u2 H locs hw2 hP hD hS => ?_)
  obtain ⟨rfl, hq2_1, hq2_2, hq2_3, hq2_4, hq2_5, hq2_6, hq2_7, hq2_8, hq2_9, hq2_10⟩ := hw2
  have hP : va_P D vwCl [(m13, .inl (cy 0, 389, .inl f13)), (m11, .inl (cy 0, 68, .inl f11)), (mm, .inr (12, [.int (iI th), .ref m1, .int (iI tp), .int (iI sz_), .int (iI (u2.2.1 1)), .int (iI (u2.2.1 2)), .int (iI (u2.2.1 3)), .int (iI opn), .int (iI fp), .ref m9, .ref m10, .ref m11, .ref m12, .ref m13, .ref m14, .ref m15, .int (iI im), .int (iI nr), .int (iI nl), .ref m19, .ref m20, .ref m21, .int (iI sp_), .ref m23, .ref m24, .ref m25, .ref m26, .ref m27, .ref m28, .int (iI wtc), .int (iI wcl), .int (iI ir), .int (iI ip), .ref m33, .int (iI shu), .ref m35, .int (iI sfa), .int (iI swr)])), (m9, .inl (cy 0, 600, .inl f9))] H := hP
  have hD : va_D A [(m13, .inl (cy 0, 389, .inl f13)), (m11, .inl (cy 0, 68, .inl f11)), (mm, .inr (12, [.int (iI th), .ref m1, .int (iI tp), .int (iI sz_), .int (iI (u2.2.1 1)), .int (iI (u2.2.1 2)), .int (iI (u2.2.1 3)), .int (iI opn), .int (iI fp), .ref m9, .ref m10, .ref m11, .ref m12, .ref m13, .ref m14, .ref m15, .int (iI im), .int (iI nr), .int (iI nl), .ref m19, .ref m20, .ref m21, .int (iI sp_), .ref m23, .ref m24, .ref m25, .ref m26, .ref m27, .ref m28, .int (iI wtc), .int (iI wcl), .int (iI ir), .int (iI ip), .ref m33, .int (iI shu), .ref m35, .int (iI sfa), .int (iI swr)])), (m9, .inl (cy 0, 600, .inl f9))] := hD
  refine lv_istore_n (lv' := [(2, .int (iI (u2.2.1 0))), (1, .int (iI (u1.2.1 0))), (0, .ref mm)]) hx hb dX12_readPerson_12 rfl hlv (by decide) rfl (fun ls hlv => ?_)
  refine lv_aload_n hx hb dX12_readPerson_13 rfl (lv_at hlv 2 rfl) ?_
  refine cj_i (wr := [(m13, .inl (cy 0, 389, .inl f13)), (m11, .inl (cy 0, 68, .inl f11)), (m9, .inl (cy 0, 600, .inl f9))]) (va_runV (As := []) (rest := []) ⟨hx, hb, hml, hown, hts⟩ (m_fine l hl D cy sa mm m1 m9 m10 m11 m12 m13 m14 m15 m19 m20 m21 m23 m24 m25 m26 m27 m28 m33 m35 th tp sz_ (u2.2.1 1) (u2.2.1 2) (u2.2.1 3) opn fp im nr nl sp_ wtc wcl ir ip shu sfa swr H.size (by omega) (by omega) (by omega) (by omega) (by omega) (by omega) (by omega) (by omega) (by omega) (by omega) (by omega) (by omega) (by omega) (by omega) (by omega) (by omega) (by omega) (by omega) (by omega)) (cwV 0 hts gg_2 rfl rfl rfl (by decide +kernel) ⟨Nat.le_of_ble_eq_true rfl, Nat.le_of_ble_eq_true rfl⟩) ⟨pcW.blind, (va_recv hG.1 hP (ci := 12) (q0 := 2) rfl rfl), (pcW.mk hP hD hS hA hG hT [2] rfl (by decide))⟩ rfl rfl hlv.1 rfl (lv_room (Nat.le_of_ble_eq_true rfl)) dX12_readPerson_14 ⟨Nat.le_of_ble_eq_true rfl, Nat.le_of_ble_eq_true rfl⟩) hP hD hS hA [2] [0, 1, 3] rfl rfl (by decide) (by decide) (fun r3 u3 H locs hw3 hP hD hS => ?_)
  obtain ⟨rfl, hq3_1, hq3_2, hq3_3⟩ := hw3
  have hP : va_P D vwCl [(m13, .inl (cy 0, 389, .inl f13)), (m11, .inl (cy 0, 68, .inl f11)), (m9, .inl (cy 0, 600, .inl f9)), (mm, .inr (12, [.int (iI th), .ref m1, .int (iI tp), .int (iI sz_), .int (iI (u2.2.1 1)), .int (iI (u2.2.1 2)), .int (iI (u2.2.1 3)), .int (iI opn), .int (iI fp), .ref m9, .ref m10, .ref m11, .ref m12, .ref m13, .ref m14, .ref m15, .int (iI im), .int (iI nr), .int (iI nl), .ref m19, .ref m20, .ref m21, .int (iI sp_), .ref m23, .ref m24, .ref m25, .ref m26, .ref m27, .ref m28, .int (iI wtc), .int (iI wcl), .int (iI ir), .int (iI ip), .ref m33, .int (iI shu), .ref m35, .int (iI sfa), .int (iI swr)]))] H := hP
  have hD : va_D A [(m13, .inl (cy 0, 389, .inl f13)), (m11, .inl (cy 0, 68, .inl f11)), (m9, .inl (cy 0, 600, .inl f9)), (mm, .inr (12, [.int (iI th), .ref m1, .int (iI tp), .int (iI sz_), .int (iI (u2.2.1 1)), .int (iI (u2.2.1 2)), .int (iI (u2.2.1 3)), .int (iI opn), .int (iI fp), .ref m9, .ref m10, .ref m11, .ref m12, .ref m13, .ref m14, .ref m15, .int (iI im), .int (iI nr), .int (iI nl), .ref m19, .ref m20, .ref m21, .int (iI sp_), .ref m23, .ref m24, .ref m25, .ref m26, .ref m27, .ref m28, .int (iI wtc), .int (iI wcl), .int (iI ir), .int (iI ip), .ref m33, .int (iI shu), .ref m35, .int (iI sfa), .int (iI swr)]))] := hD
  refine iz_ne (tgt := 21) hx hb dX12_readPerson_17 (by decide) (by omega) (fun c_1 => ?_) (fun c_1 => ?_)
  · refine lv_aload_n hx hb dX12_readPerson_21 rfl (lv_at hlv 2 rfl) ?_
    refine va_get (D := D) (ci := 12) (v := .ref m13) (C := RX12) (T := TX12) (N := 38) hx hb hts hi12 hown hG.1 hP 3 rfl rfl 13 (by decide) lf32 (fun _ h9 => h9) rfl dX12_readPerson_22 ?_
    refine lv_sipush (v := iI 216) hx hb dX12_readPerson_25 (by decide) ?_
    refine lv_aload_n hx hb dX12_readPerson_28 rfl (lv_at hlv 2 rfl) ?_
    refine va_get (D := D) (ci := 12) (v := .ref m11) (C := RX12) (T := TX12) (N := 38) hx hb hts hi12 hown hG.1 hP 3 rfl rfl 11 (by decide) lf26 (fun _ h9 => h9) rfl dX12_readPerson_29 ?_
    refine lv_iconst (v := iI 3) hx hb dX12_readPerson_32 (by decide) ?_
    refine va_iald hx hb hG.1 hP 1 0 rfl rfl (iI_in (by omega) (by decide)) dX12_readPerson_33 ?_
    refine lt_nz (i := 3) (by omega) (fun z_2 hz_2 lz_2 uz_2 => ?_)
    have hz_2 : z_2 = nz f11 3 := hz_2
    have hbz_2_9 := hq1_10.2.2.2.1
    refine lv_iadd hx hb dX12_readPerson_34 ?_
    refine lt_e (e0 := 216 + z_2) (Int32.ofInt_add _ _).symm (fun z_3 hz_3 => ?_)
    refine lv_iload_n hx hb dX12_readPerson_35 rfl (lv_at hlv 1 rfl) ?_
    refine va_iast hx hb hG.1 hP hD hS 0 0 rfl rfl (iI_in (by omega) (by decide)) dX12_readPerson_36 (fun H locs hP hD hS => ?_)
    have ⟨f_4, hdf_4, hP, hD⟩ : ∃ f_4 : Nat → Int32, f_4 = upd f13 (iI z_3).toNatClampNeg (iI (u1.2.1 0)) ∧ va_P D vwCl [(m13, .inl (cy 0, 389, .inl f_4)), (m11, .inl (cy 0, 68, .inl f11)), (m9, .inl (cy 0, 600, .inl f9)), (mm, .inr (12, [.int (iI th), .ref m1, .int (iI tp), .int (iI sz_), .int (iI (u2.2.1 1)), .int (iI (u2.2.1 2)), .int (iI (u2.2.1 3)), .int (iI opn), .int (iI fp), .ref m9, .ref m10, .ref m11, .ref m12, .ref m13, .ref m14, .ref m15, .int (iI im), .int (iI nr), .int (iI nl), .ref m19, .ref m20, .ref m21, .int (iI sp_), .ref m23, .ref m24, .ref m25, .ref m26, .ref m27, .ref m28, .int (iI wtc), .int (iI wcl), .int (iI ir), .int (iI ip), .ref m33, .int (iI shu), .ref m35, .int (iI sfa), .int (iI swr)]))] H ∧ va_D A [(m13, .inl (cy 0, 389, .inl f_4)), (m11, .inl (cy 0, 68, .inl f11)), (m9, .inl (cy 0, 600, .inl f9)), (mm, .inr (12, [.int (iI th), .ref m1, .int (iI tp), .int (iI sz_), .int (iI (u2.2.1 1)), .int (iI (u2.2.1 2)), .int (iI (u2.2.1 3)), .int (iI opn), .int (iI fp), .ref m9, .ref m10, .ref m11, .ref m12, .ref m13, .ref m14, .ref m15, .int (iI im), .int (iI nr), .int (iI nl), .ref m19, .ref m20, .ref m21, .int (iI sp_), .ref m23, .ref m24, .ref m25, .ref m26, .ref m27, .ref m28, .int (iI wtc), .int (iI wcl), .int (iI ir), .int (iI ip), .ref m33, .int (iI shu), .ref m35, .int (iI sfa), .int (iI swr)]))] := ⟨_, rfl, hP, hD⟩
    have hif_4 : SI 8 f_4 := SI.wo hf13 hdf_4 (by omega) (by omega) (by omega) (by omega)
    refine lv_aload_n hx hb dX12_readPerson_37 rfl (lv_at hlv 2 rfl) ?_
    refine va_get (D := D) (ci := 12) (v := .ref m13) (C := RX12) (T := TX12) (N := 38) hx hb hts hi12 hown hG.1 hP 3 rfl rfl 13 (by decide) lf32 (fun _ h9 => h9) rfl dX12_readPerson_38 ?_
    refine lv_sipush (v := iI 225) hx hb dX12_readPerson_41 (by decide) ?_
    refine lv_aload_n hx hb dX12_readPerson_44 rfl (lv_at hlv 2 rfl) ?_
    refine va_get (D := D) (ci := 12) (v := .ref m11) (C := RX12) (T := TX12) (N := 38) hx hb hts hi12 hown hG.1 hP 3 rfl rfl 11 (by decide) lf26 (fun _ h9 => h9) rfl dX12_readPerson_45 ?_
    refine lv_iconst (v := iI 3) hx hb dX12_readPerson_48 (by decide) ?_
    refine va_iald hx hb hG.1 hP 1 0 rfl rfl (iI_in (by omega) (by decide)) dX12_readPerson_49 ?_
    refine lt_nz (i := 3) (by omega) (fun z_5 hz_5 lz_5 uz_5 => ?_)
    have hz_5 : z_5 = nz f11 3 := hz_5
    have hbz_5_25 := hq1_10.2.2.2.1
    refine lv_iadd hx hb dX12_readPerson_50 ?_
    refine lt_e (e0 := 225 + z_5) (Int32.ofInt_add _ _).symm (fun z_6 hz_6 => ?_)
    refine lv_iload_n hx hb dX12_readPerson_51 rfl (lv_at hlv 0 rfl) ?_
    refine va_iast hx hb hG.1 hP hD hS 0 0 rfl rfl (iI_in (by omega) (by decide)) dX12_readPerson_52 (fun H locs hP hD hS => ?_)
    have ⟨f_7, hdf_7, hP, hD⟩ : ∃ f_7 : Nat → Int32, f_7 = upd f_4 (iI z_6).toNatClampNeg (iI (u2.2.1 0)) ∧ va_P D vwCl [(m13, .inl (cy 0, 389, .inl f_7)), (m11, .inl (cy 0, 68, .inl f11)), (m9, .inl (cy 0, 600, .inl f9)), (mm, .inr (12, [.int (iI th), .ref m1, .int (iI tp), .int (iI sz_), .int (iI (u2.2.1 1)), .int (iI (u2.2.1 2)), .int (iI (u2.2.1 3)), .int (iI opn), .int (iI fp), .ref m9, .ref m10, .ref m11, .ref m12, .ref m13, .ref m14, .ref m15, .int (iI im), .int (iI nr), .int (iI nl), .ref m19, .ref m20, .ref m21, .int (iI sp_), .ref m23, .ref m24, .ref m25, .ref m26, .ref m27, .ref m28, .int (iI wtc), .int (iI wcl), .int (iI ir), .int (iI ip), .ref m33, .int (iI shu), .ref m35, .int (iI sfa), .int (iI swr)]))] H ∧ va_D A [(m13, .inl (cy 0, 389, .inl f_7)), (m11, .inl (cy 0, 68, .inl f11)), (m9, .inl (cy 0, 600, .inl f9)), (mm, .inr (12, [.int (iI th), .ref m1, .int (iI tp), .int (iI sz_), .int (iI (u2.2.1 1)), .int (iI (u2.2.1 2)), .int (iI (u2.2.1 3)), .int (iI opn), .int (iI fp), .ref m9, .ref m10, .ref m11, .ref m12, .ref m13, .ref m14, .ref m15, .int (iI im), .int (iI nr), .int (iI nl), .ref m19, .ref m20, .ref m21, .int (iI sp_), .ref m23, .ref m24, .ref m25, .ref m26, .ref m27, .ref m28, .int (iI wtc), .int (iI wcl), .int (iI ir), .int (iI ip), .ref m33, .int (iI shu), .ref m35, .int (iI sfa), .int (iI swr)]))] := ⟨_, rfl, hP, hD⟩
    have hif_7 : SI 8 f_7 := SI.wo hif_4 hdf_7 (by omega) (by omega) (by omega) (by omega)
    refine lv_aload_n hx hb dX12_readPerson_53 rfl (lv_at hlv 2 rfl) ?_
    refine va_get (D := D) (ci := 12) (v := .ref m11) (C := RX12) (T := TX12) (N := 38) hx hb hts hi12 hown hG.1 hP 3 rfl rfl 11 (by decide) lf26 (fun _ h9 => h9) rfl dX12_readPerson_54 ?_
    refine lv_iconst (v := iI 3) hx hb dX12_readPerson_57 (by decide) ?_
    refine lv_dup2_11 hx hb dX12_readPerson_58 rfl rfl ?_
    refine va_iald hx hb hG.1 hP 1 0 rfl rfl (iI_in (by omega) (by decide)) dX12_readPerson_59 ?_
    refine lt_nz (i := 3) (by omega) (fun z_8 hz_8 lz_8 uz_8 => ?_)
    have hz_8 : z_8 = nz f11 3 := hz_8
    have hbz_8_39 := hq1_10.2.2.2.1
    refine lv_iconst (v := iI 1) hx hb dX12_readPerson_60 (by decide) ?_
    refine lv_iadd hx hb dX12_readPerson_61 ?_
    refine lt_e (e0 := z_8 + 1) (Int32.ofInt_add _ _).symm (fun z_9 hz_9 => ?_)
    refine va_iast hx hb hG.1 hP hD hS 1 0 rfl rfl (iI_in (by omega) (by decide)) dX12_readPerson_62 (fun H locs hP hD hS => ?_)
    have ⟨f_10, hdf_10, hP, hD⟩ : ∃ f_10 : Nat → Int32, f_10 = upd f11 (iI 3).toNatClampNeg (iI z_9) ∧ va_P D vwCl [(m13, .inl (cy 0, 389, .inl f_7)), (m11, .inl (cy 0, 68, .inl f_10)), (m9, .inl (cy 0, 600, .inl f9)), (mm, .inr (12, [.int (iI th), .ref m1, .int (iI tp), .int (iI sz_), .int (iI (u2.2.1 1)), .int (iI (u2.2.1 2)), .int (iI (u2.2.1 3)), .int (iI opn), .int (iI fp), .ref m9, .ref m10, .ref m11, .ref m12, .ref m13, .ref m14, .ref m15, .int (iI im), .int (iI nr), .int (iI nl), .ref m19, .ref m20, .ref m21, .int (iI sp_), .ref m23, .ref m24, .ref m25, .ref m26, .ref m27, .ref m28, .int (iI wtc), .int (iI wcl), .int (iI ir), .int (iI ip), .ref m33, .int (iI shu), .ref m35, .int (iI sfa), .int (iI swr)]))] H ∧ va_D A [(m13, .inl (cy 0, 389, .inl f_7)), (m11, .inl (cy 0, 68, .inl f_10)), (m9, .inl (cy 0, 600, .inl f9)), (mm, .inr (12, [.int (iI th), .ref m1, .int (iI tp), .int (iI sz_), .int (iI (u2.2.1 1)), .int (iI (u2.2.1 2)), .int (iI (u2.2.1 3)), .int (iI opn), .int (iI fp), .ref m9, .ref m10, .ref m11, .ref m12, .ref m13, .ref m14, .ref m15, .int (iI im), .int (iI nr), .int (iI nl), .ref m19, .ref m20, .ref m21, .int (iI sp_), .ref m23, .ref m24, .ref m25, .ref m26, .ref m27, .ref m28, .int (iI wtc), .int (iI wcl), .int (iI ir), .int (iI ip), .ref m33, .int (iI shu), .ref m35, .int (iI sfa), .int (iI swr)]))] := ⟨_, rfl, hP, hD⟩
    have hif_10 : NI f_10 := NI.wk hq1_10 hdf_10 (by omega) (by omega)
    have htf_10_0 : nz f_10 0 = nz f11 0 := nz_un hdf_10 (by omega) (by omega)
    have htf_10_1 : nz f_10 1 = nz f11 1 := nz_un hdf_10 (by omega) (by omega)
    have htf_10_2 : nz f_10 2 = nz f11 2 := nz_un hdf_10 (by omega) (by omega)
    have htf_10_3 : nz f_10 3 = z_9 := nz_us hdf_10 (by omega) (by omega) (by omega)
    have htf_10_4 : nz f_10 4 = nz f11 4 := nz_un hdf_10 (by omega) (by omega)
    have htf_10_5 : nz f_10 5 = nz f11 5 := nz_un hdf_10 (by omega) (by omega)
    refine W.widen (k := 0) (n := 0) (Nat.le_of_ble_eq_true rfl) (Nat.le_of_ble_eq_true rfl) ?_
    exact W.vret hx hb hr (fun t ht hW => ⟨⟨((fun k => ([] : List Nat).getD k 0), (fun k => ([0, (u2.2.1 1), (u2.2.1 2), (u2.2.1 3)] : List Int).getD k 0), (fun k => ([f_10, f_7] : List (Nat → Int32)).getD k (fun _ => 0))), rfl, ⟨(by show (0 ≤ (u2.2.1 1) ∧ (u2.2.1 1) ≤ 602); omega), (by show ((-1) ≤ (u2.2.1 2) ∧ (u2.2.1 2) ≤ 602); omega), (by show (0 ≤ (u2.2.1 3) ∧ (u2.2.1 3) ≤ 4); omega), (by show (ap ≤ (u2.2.1 1)); omega), (by show (ap ≤ sz_ → (u2.2.1 1) ≤ sz_); omega), (by show ((u2.2.1 2) = -1 → bad = -1); omega), (by show (bad ≠ -1 → (u2.2.1 2) = bad); omega), (by show (nz (f_10) 0 = nz f11 0); omega), (by show (nz (f_10) 1 = nz f11 1); omega), (by show (nz (f_10) 2 = nz f11 2); omega), (by show (nz (f_10) 4 = nz f11 4); omega), (by show (nz (f_10) 5 = nz f11 5); omega), hq2_10, hif_10, hif_7⟩, by rw [ht]; exact hP.sub [3, 2, 1, 0] rfl, hD.sub [3, 2, 1, 0] (by decide) rfl⟩, hS.F ht⟩) hS.2.2 dX12_readPerson_63
  · refine W.widen (k := 0) (n := 0) (Nat.le_of_ble_eq_true rfl) (Nat.le_of_ble_eq_true rfl) ?_
    exact W.vret hx hb hr (fun t ht hW => ⟨⟨((fun k => ([] : List Nat).getD k 0), (fun k => ([0, (u2.2.1 1), (u2.2.1 2), (u2.2.1 3)] : List Int).getD k 0), (fun k => ([f11, f13] : List (Nat → Int32)).getD k (fun _ => 0))), rfl, ⟨(by show (0 ≤ (u2.2.1 1) ∧ (u2.2.1 1) ≤ 602); omega), (by show ((-1) ≤ (u2.2.1 2) ∧ (u2.2.1 2) ≤ 602); omega), (by show (0 ≤ (u2.2.1 3) ∧ (u2.2.1 3) ≤ 4); omega), (by show (ap ≤ (u2.2.1 1)); omega), (by show (ap ≤ sz_ → (u2.2.1 1) ≤ sz_); omega), (by show ((u2.2.1 2) = -1 → bad = -1); omega), (by show (bad ≠ -1 → (u2.2.1 2) = bad); omega), (by show (nz (f11) 0 = nz f11 0); omega), (by show (nz (f11) 1 = nz f11 1); omega), (by show (nz (f11) 2 = nz f11 2); omega), (by show (nz (f11) 4 = nz f11 4); omega), (by show (nz (f11) 5 = nz f11 5); omega), hq2_10, hq1_10, hf13⟩, by rw [ht]; exact hP.sub [3, 2, 1, 0] rfl, hD.sub [3, 2, 1, 0] (by decide) rfl⟩, hS.F ht⟩) hS.2.2 dX12_readPerson_20
def vs_m_readShelter : List Cond := .code yX12_readShelter cX12_readShelter 3 none :: (([.fieldLink RX12 26 "KerbSplashModel" "newStreet" "[I"] : List Cond) ++ ((wsV RX12 127 RX12 yX12_readX vs_m_readX) ++ ((wsX120) ++ ((wsV RX12 123 RX12 yX12_readNumber vs_m_number) ++ ((wsV RX12 109 RX12 yX12_fine vs_m_fine) ++ ([]))))))
theorem gd_m_readShelter : vs_m_readShelter.all goodWord = true := gd_C (by decide +kernel) (gd_A (by decide +kernel) (gd_A (gd_V gd_m_readX (by decide +kernel)) (gd_A (by decide +kernel) (gd_A (gd_V gd_m_number (by decide +kernel)) (gd_A (gd_V gd_m_fine (by decide +kernel)) rfl)))))
set_option maxHeartbeats 4000000 in
set_option maxRecDepth 100000 in
theorem m_readShelter (l : Launch) (hl : l.stackTraces = false) (D : va_G) (cy : Nat → ClassId) (sa : Nat → Nat) (mm m1 m9 m10 m11 m12 m13 m14 m15 m19 m20 m21 m23 m24 m25 m26 m27 m28 m33 m35 : Nat) (th tp sz_ ap bad bk opn fp im nr nl sp_ wtc wcl ir ip shu sfa swr : Int) (f9 f11 : Nat → Int32) (sz : Nat) (hr_th : (-2147483648) ≤ th ∧ th ≤ 2147483647) (hr_tp : 0 ≤ tp ∧ tp ≤ 600) (hr_sz_ : 0 ≤ sz_ ∧ sz_ ≤ 600) (hr_ap : 0 ≤ ap ∧ ap ≤ 602) (hr_bad : (-1) ≤ bad ∧ bad ≤ 602) (hr_bk : 0 ≤ bk ∧ bk ≤ 4) (hr_opn : 0 ≤ opn ∧ opn ≤ 7) (hr_fp : (-2147483648) ≤ fp ∧ fp ≤ 2147483647) (hr_im : 0 ≤ im ∧ im ≤ 3) (hr_nr : 0 ≤ nr ∧ nr ≤ 4) (hr_nl : 0 ≤ nl ∧ nl ≤ 4) (hr_sp_ : 0 ≤ sp_ ∧ sp_ ≤ 602) (hr_wtc : (-2147483648) ≤ wtc ∧ wtc ≤ 2147483647) (hr_wcl : 0 ≤ wcl ∧ wcl ≤ 95) (hr_ir : 0 ≤ ir ∧ ir ≤ 5) (hr_ip : (-2147483648) ≤ ip ∧ ip ≤ 2147483647) (hr_shu : (-2147483648) ≤ shu ∧ shu ≤ 2147483647) (hr_sfa : (-2147483648) ≤ sfa ∧ sfa ≤ 2147483647) (hr_swr : (-2147483648) ≤ swr ∧ swr ≤ 2147483647) (hp0 : nz f11 4 < 2) (hf9 : inv_ 600 0 255 f9) (hf11 : NI f11) : Met l yX12_readShelter vs_m_readShelter ({ frames := 3, cells := 0, slots := 0, locals := 67 }) (va_Pc [.ref mm] (pcW D cy sa sz [(mm, .inr (12, [.int (iI th), .ref m1, .int (iI tp), .int (iI sz_), .int (iI ap), .int (iI bad), .int (iI bk), .int (iI opn), .int (iI fp), .ref m9, .ref m10, .ref m11, .ref m12, .ref m13, .ref m14, .ref m15, .int (iI im), .int (iI nr), .int (iI nl), .ref m19, .ref m20, .ref m21, .int (iI sp_), .ref m23, .ref m24, .ref m25, .ref m26, .ref m27, .ref m28, .int (iI wtc), .int (iI wcl), .int (iI ir), .int (iI ip), .ref m33, .int (iI shu), .ref m35, .int (iI sfa), .int (iI swr)])), (m9, .inl (cy 0, 600, .inl f9)), (m11, .inl (cy 0, 68, .inl f11))])) (va_Qv (fun u : SV => (0 ≤ u.2.1 1 ∧ u.2.1 1 ≤ 602) ∧ ((-1) ≤ u.2.1 2 ∧ u.2.1 2 ≤ 602) ∧ (0 ≤ u.2.1 3 ∧ u.2.1 3 ≤ 4) ∧ (ap ≤ u.2.1 1) ∧ (ap ≤ sz_ → u.2.1 1 ≤ sz_) ∧ (u.2.1 2 = -1 → bad = -1) ∧ (bad ≠ -1 → u.2.1 2 = bad) ∧ (nz (u.2.2 0) 0 = nz f11 0) ∧ (nz (u.2.2 0) 1 = nz f11 1) ∧ (nz (u.2.2 0) 2 = nz f11 2) ∧ (nz (u.2.2 0) 3 = nz f11 3) ∧ (nz (u.2.2 0) 5 = nz f11 5) ∧ inv_ 600 0 255 f9 ∧ NI (u.2.2 0)) (fun u t => atW D (va_A [(mm, .inr (12, [.int (iI th), .ref m1, .int (iI tp), .int (iI sz_), .int (iI ap), .int (iI bad), .int (iI bk), .int (iI opn), .int (iI fp), .ref m9, .ref m10, .ref m11, .ref m12, .ref m13, .ref m14, .ref m15, .int (iI im), .int (iI nr), .int (iI nl), .ref m19, .ref m20, .ref m21, .int (iI sp_), .ref m23, .ref m24, .ref m25, .ref m26, .ref m27, .ref m28, .int (iI wtc), .int (iI wcl), .int (iI ir), .int (iI ip), .ref m33, .int (iI shu), .ref m35, .int (iI sfa), .int (iI swr)])), (m9, .inl (cy 0, 600, .inl f9)), (m11, .inl (cy 0, 68, .inl f11))] sz) [(mm, .inr (12, [.int (iI th), .ref m1, .int (iI tp), .int (iI sz_), .int (iI (u.2.1 1)), .int (iI (u.2.1 2)), .int (iI (u.2.1 3)), .int (iI opn), .int (iI fp), .ref m9, .ref m10, .ref m11, .ref m12, .ref m13, .ref m14, .ref m15, .int (iI im), .int (iI nr), .int (iI nl), .ref m19, .ref m20, .ref m21, .int (iI sp_), .ref m23, .ref m24, .ref m25, .ref m26, .ref m27, .ref m28, .int (iI wtc), .int (iI wcl), .int (iI ir), .int (iI ip), .ref m33, .int (iI shu), .ref m35, .int (iI sfa), .int (iI swr)])), (m9, .inl (cy 0, 600, .inl f9)), (m11, .inl (cy 0, 68, .inl (u.2.2 0)))] t) (va_A [(mm, .inr (12, [.int (iI th), .ref m1, .int (iI tp), .int (iI sz_), .int (iI ap), .int (iI bad), .int (iI bk), .int (iI opn), .int (iI fp), .ref m9, .ref m10, .ref m11, .ref m12, .ref m13, .ref m14, .ref m15, .int (iI im), .int (iI nr), .int (iI nl), .ref m19, .ref m20, .ref m21, .int (iI sp_), .ref m23, .ref m24, .ref m25, .ref m26, .ref m27, .ref m28, .int (iI wtc), .int (iI wcl), .int (iI ir), .int (iI ip), .ref m33, .int (iI shu), .ref m35, .int (iI sfa), .int (iI swr)])), (m9, .inl (cy 0, 600, .inl f9)), (m11, .inl (cy 0, 68, .inl f11))] sz)) 0 0 (va_A [(mm, .inr (12, [.int (iI th), .ref m1, .int (iI tp), .int (iI sz_), .int (iI ap), .int (iI bad), .int (iI bk), .int (iI opn), .int (iI fp), .ref m9, .ref m10, .ref m11, .ref m12, .ref m13, .ref m14, .ref m15, .int (iI im), .int (iI nr), .int (iI nl), .ref m19, .ref m20, .ref m21, .int (iI sp_), .ref m23, .ref m24, .ref m25, .ref m26, .ref m27, .ref m28, .int (iI wtc), .int (iI wcl), .int (iI ir), .int (iI ip), .ref m33, .int (iI shu), .ref m35, .int (iI sfa), .int (iI swr)])), (m9, .inl (cy 0, 600, .inl f9)), (m11, .inl (cy 0, 68, .inl f11))] sz) := by
  refine Met.ofW (cc := cX12_readShelter) (maxL := 3) (ret := none) (by decide) rfl ?_
  intro p e s m args below meth c s₁ B hml hv
  obtain ⟨rfl, hsz, hP, hG, hD0, hT⟩ := hv
  have hx := B.exec
  have hb := B.bytes
  have hr := B.returns
  have hts := atoms_spec (ws := vs_m_readShelter) B.pre
  have hown : s.vm.findClass RX12 = some m.cls := findClass_of_methodNamed B.named
  have hlocks := B.notSynchronized
  subst hsz
  have hD := hD0.self (sz := s.heap.size)
  generalize hAe : va_A [(mm, .inr (12, [.int (iI th), .ref m1, .int (iI tp), .int (iI sz_), .int (iI ap), .int (iI bad), .int (iI bk), .int (iI opn), .int (iI fp), .ref m9, .ref m10, .ref m11, .ref m12, .ref m13, .ref m14, .ref m15, .int (iI im), .int (iI nr), .int (iI nl), .ref m19, .ref m20, .ref m21, .int (iI sp_), .ref m23, .ref m24, .ref m25, .ref m26, .ref m27, .ref m28, .int (iI wtc), .int (iI wcl), .int (iI ir), .int (iI ip), .ref m33, .int (iI shu), .ref m35, .int (iI sfa), .int (iI swr)])), (m9, .inl (cy 0, 600, .inl f9)), (m11, .inl (cy 0, 68, .inl f11))] s.heap.size = A at hD hT ⊢
  have hA : ∀ q : Nat, s.heap.size ≤ q → A q := fun q h => by rw [← hAe]; exact Or.inr h
  have hS : va_S A s.heap s.heap [] := va_S.rf
  have hl0 := lv_entry ([.ref mm]) (n := 3) (Nat.le_of_ble_eq_true rfl)
  rw [lg_entry_eq]
  generalize (lg_sl ([.ref mm]) ++ List.replicate (3 - (lg_sl ([.ref mm])).length) Slot.unset).toArray = ls at hl0 ⊢
  have hlv : lv_has ls 3 [(0, .ref mm)] := hl0
  have gg_0 : GoodIn vs_m_readShelter (wsV RX12 127 RX12 yX12_readX vs_m_readX) := goodIn_sub (fun w h => List.mem_cons_of_mem _ (List.mem_append_right _ (List.mem_append_left _ h))) (gd_V gd_m_readX (by decide +kernel))
  have lf26 := hts (.fieldLink RX12 26 "KerbSplashModel" "newStreet" "[I") (List.mem_of_getElem? (i := 1) rfl)
  have hi12 : ∀ w ∈ wsX120, w ∈ vs_m_readShelter := fun w h => List.mem_cons_of_mem _ (List.mem_append_right _ (List.mem_append_right _ (List.mem_append_left _ h)))
  have gg_2 : GoodIn vs_m_readShelter (wsV RX12 123 RX12 yX12_readNumber vs_m_number) := goodIn_sub (fun w h => List.mem_cons_of_mem _ (List.mem_append_right _ (List.mem_append_right _ (List.mem_append_right _ (List.mem_append_left _ h))))) (gd_V gd_m_number (by decide +kernel))
  have gg_3 : GoodIn vs_m_readShelter (wsV RX12 109 RX12 yX12_fine vs_m_fine) := goodIn_sub (fun w h => List.mem_cons_of_mem _ (List.mem_append_right _ (List.mem_append_right _ (List.mem_append_right _ (List.mem_append_right _ (List.mem_append_left _ h)))))) (gd_V gd_m_fine (by decide +kernel))
  refine lv_aload_n hx hb dX12_readShelter_0 rfl (lv_at hlv 0 rfl) ?_
  refine cj_i (wr := []) (va_runV (As := []) (rest := []) ⟨hx, hb, hml, hown, hts⟩ (m_readX l hl D cy sa mm m1 m9 m10 m11 m12 m13 m14 m15 m19 m20 m21 m23 m24 m25 m26 m27 m28 m33 m35 th tp sz_ ap bad bk opn fp im nr nl sp_ wtc wcl ir ip shu sfa swr f9 f11 s.heap.size (by omega) (by omega) (by omega) (by omega) (by omega) (by omega) (by omega) (by omega) (by omega) (by omega) (by omega) (by omega) (by omega) (by omega) (by omega) (by omega) (by omega) (by omega) (by omega) hf9 hf11) (cwV 0 hts gg_0 rfl rfl rfl (by decide +kernel) ⟨Nat.le_of_ble_eq_true rfl, Nat.le_of_ble_eq_true rfl⟩) ⟨pcW.blind, (va_recv hG.1 hP (ci := 12) (q0 := 0) rfl rfl), (pcW.mk hP hD hS hA hG hT [0, 1, 2] rfl (by decide))⟩ rfl rfl hlv.1 rfl (lv_room (Nat.le_of_ble_eq_true rfl)) dX12_readShelter_1 ⟨Nat.le_of_ble_eq_true rfl, Nat.le_of_ble_eq_true rfl⟩) hP hD hS hA [0, 1, 2] [] rfl rfl (by decide) (by decide) (fun r1 u1 H locs hw1 hP hD hS => ?_)
  obtain ⟨rfl, hq1_1, hq1_2, hq1_3, hq1_4, hq1_5, hq1_6, hq1_7, hq1_8, hq1_9, hq1_10⟩ := hw1
  have hP : va_P D vwCl [(mm, .inr (12, [.int (iI th), .ref m1, .int (iI tp), .int (iI sz_), .int (iI (u1.2.1 1)), .int (iI (u1.2.1 2)), .int (iI (u1.2.1 3)), .int (iI opn), .int (iI fp), .ref m9, .ref m10, .ref m11, .ref m12, .ref m13, .ref m14, .ref m15, .int (iI im), .int (iI nr), .int (iI nl), .ref m19, .ref m20, .ref m21, .int (iI sp_), .ref m23, .ref m24, .ref m25, .ref m26, .ref m27, .ref m28, .int (iI wtc), .int (iI wcl), .int (iI ir), .int (iI ip), .ref m33, .int (iI shu), .ref m35, .int (iI sfa), .int (iI swr)])), (m9, .inl (cy 0, 600, .inl f9)), (m11, .inl (cy 0, 68, .inl f11))] H := hP
  have hD : va_D A [(mm, .inr (12, [.int (iI th), .ref m1, .int (iI tp), .int (iI sz_), .int (iI (u1.2.1 1)), .int (iI (u1.2.1 2)), .int (iI (u1.2.1 3)), .int (iI opn), .int (iI fp), .ref m9, .ref m10, .ref m11, .ref m12, .ref m13, .ref m14, .ref m15, .int (iI im), .int (iI nr), .int (iI nl), .ref m19, .ref m20, .ref m21, .int (iI sp_), .ref m23, .ref m24, .ref m25, .ref m26, .ref m27, .ref m28, .int (iI wtc), .int (iI wcl), .int (iI ir), .int (iI ip), .ref m33, .int (iI shu), .ref m35, .int (iI sfa), .int (iI swr)])), (m9, .inl (cy 0, 600, .inl f9)), (m11, .inl (cy 0, 68, .inl f11))] := hD
  refine lv_istore_n (lv' := [(1, .int (iI (u1.2.1 0))), (0, .ref mm)]) hx hb dX12_readShelter_4 rfl hlv (by decide) rfl (fun ls hlv => ?_)
  refine lv_aload_n hx hb dX12_readShelter_5 rfl (lv_at hlv 1 rfl) ?_
  refine lv_iload_n hx hb dX12_readShelter_6 rfl (lv_at hlv 0 rfl) ?_
  refine lv_aload_n hx hb dX12_readShelter_7 rfl (lv_at hlv 1 rfl) ?_
  refine va_get (D := D) (ci := 12) (v := .ref m11) (C := RX12) (T := TX12) (N := 38) hx hb hts hi12 hown hG.1 hP 0 rfl rfl 11 (by decide) lf26 (fun _ h9 => h9) rfl dX12_readShelter_8 ?_
  refine lv_iconst (v := iI 0) hx hb dX12_readShelter_11 (by decide) ?_
  refine va_iald hx hb hG.1 hP 2 0 rfl rfl (iI_in (by omega) (by decide)) dX12_readShelter_12 ?_
  refine lt_nz (i := 0) (by omega) (fun z_1 hz_1 lz_1 uz_1 => ?_)
  have hz_1 : z_1 = nz f11 0 := hz_1
  have hbz_1_14 := hq1_10.1
  refine lv_iconst (v := iI 1) hx hb dX12_readShelter_13 (by decide) ?_
  refine lv_isub hx hb dX12_readShelter_14 ?_
  refine lt_e (e0 := z_1 - 1) (Int32.ofInt_sub _ _).symm (fun z_2 hz_2 => ?_)
  refine cj_i (wr := [(m11, .inl (cy 0, 68, .inl f11))]) (va_runV (As := [.int (iI (u1.2.1 0)), .int (iI z_2)]) (rest := []) ⟨hx, hb, hml, hown, hts⟩ (m_number l hl D cy sa mm m1 m9 m10 m11 m12 m13 m14 m15 m19 m20 m21 m23 m24 m25 m26 m27 m28 m33 m35 th tp sz_ (u1.2.1 1) (u1.2.1 2) (u1.2.1 3) opn fp im nr nl sp_ wtc wcl ir ip shu sfa swr f9 (u1.2.1 0) z_2 H.size (by omega) (by omega) (by omega) (by omega) (by omega) (by omega) (by omega) (by omega) (by omega) (by omega) (by omega) (by omega) (by omega) (by omega) (by omega) (by omega) (by omega) (by omega) (by omega) (by omega) (by omega) hq1_9) (cwV 2 hts gg_2 rfl rfl rfl (by decide +kernel) ⟨Nat.le_of_ble_eq_true rfl, Nat.le_of_ble_eq_true rfl⟩) ⟨pcW.blind, (va_recv hG.1 hP (ci := 12) (q0 := 0) rfl rfl), (pcW.mk hP hD hS hA hG hT [0, 1] rfl (by decide))⟩ rfl rfl hlv.1 rfl (lv_room (Nat.le_of_ble_eq_true rfl)) dX12_readShelter_15 ⟨Nat.le_of_ble_eq_true rfl, Nat.le_of_ble_eq_true rfl⟩) hP hD hS hA [0, 1] [2] rfl rfl (by decide) (by decide) (fun r2 u2 H locs hw2 hP hD hS => ?_)
  obtain ⟨rfl, hq2_1, hq2_2, hq2_3, hq2_4, hq2_5, hq2_6, hq2_7, hq2_8, hq2_9, hq2_10⟩ := hw2
  have hP : va_P D vwCl [(m11, .inl (cy 0, 68, .inl f11)), (mm, .inr (12, [.int (iI th), .ref m1, .int (iI tp), .int (iI sz_), .int (iI (u2.2.1 1)), .int (iI (u2.2.1 2)), .int (iI (u2.2.1 3)), .int (iI opn), .int (iI fp), .ref m9, .ref m10, .ref m11, .ref m12, .ref m13, .ref m14, .ref m15, .int (iI im), .int (iI nr), .int (iI nl), .ref m19, .ref m20, .ref m21, .int (iI sp_), .ref m23, .ref m24, .ref m25, .ref m26, .ref m27, .ref m28, .int (iI wtc), .int (iI wcl), .int (iI ir), .int (iI ip), .ref m33, .int (iI shu), .ref m35, .int (iI sfa), .int (iI swr)])), (m9, .inl (cy 0, 600, .inl f9))] H := hP
  have hD : va_D A [(m11, .inl (cy 0, 68, .inl f11)), (mm, .inr (12, [.int (iI th), .ref m1, .int (iI tp), .int (iI sz_), .int (iI (u2.2.1 1)), .int (iI (u2.2.1 2)), .int (iI (u2.2.1 3)), .int (iI opn), .int (iI fp), .ref m9, .ref m10, .ref m11, .ref m12, .ref m13, .ref m14, .ref m15, .int (iI im), .int (iI nr), .int (iI nl), .ref m19, .ref m20, .ref m21, .int (iI sp_), .ref m23, .ref m24, .ref m25, .ref m26, .ref m27, .ref m28, .int (iI wtc), .int (iI wcl), .int (iI ir), .int (iI ip), .ref m33, .int (iI shu), .ref m35, .int (iI sfa), .int (iI swr)])), (m9, .inl (cy 0, 600, .inl f9))] := hD
  refine lv_istore_n (lv' := [(2, .int (iI (u2.2.1 0))), (1, .int (iI (u1.2.1 0))), (0, .ref mm)]) hx hb dX12_readShelter_18 rfl hlv (by decide) rfl (fun ls hlv => ?_)
  refine lv_aload_n hx hb dX12_readShelter_19 rfl (lv_at hlv 2 rfl) ?_
  refine cj_i (wr := [(m11, .inl (cy 0, 68, .inl f11)), (m9, .inl (cy 0, 600, .inl f9))]) (va_runV (As := []) (rest := []) ⟨hx, hb, hml, hown, hts⟩ (m_fine l hl D cy sa mm m1 m9 m10 m11 m12 m13 m14 m15 m19 m20 m21 m23 m24 m25 m26 m27 m28 m33 m35 th tp sz_ (u2.2.1 1) (u2.2.1 2) (u2.2.1 3) opn fp im nr nl sp_ wtc wcl ir ip shu sfa swr H.size (by omega) (by omega) (by omega) (by omega) (by omega) (by omega) (by omega) (by omega) (by omega) (by omega) (by omega) (by omega) (by omega) (by omega) (by omega) (by omega) (by omega) (by omega) (by omega)) (cwV 0 hts gg_3 rfl rfl rfl (by decide +kernel) ⟨Nat.le_of_ble_eq_true rfl, Nat.le_of_ble_eq_true rfl⟩) ⟨pcW.blind, (va_recv hG.1 hP (ci := 12) (q0 := 1) rfl rfl), (pcW.mk hP hD hS hA hG hT [1] rfl (by decide))⟩ rfl rfl hlv.1 rfl (lv_room (Nat.le_of_ble_eq_true rfl)) dX12_readShelter_20 ⟨Nat.le_of_ble_eq_true rfl, Nat.le_of_ble_eq_true rfl⟩) hP hD hS hA [1] [0, 2] rfl rfl (by decide) (by decide) (fun r3 u3 H locs hw3 hP hD hS => ?_)
  obtain ⟨rfl, hq3_1, hq3_2, hq3_3⟩ := hw3
  have hP : va_P D vwCl [(m11, .inl (cy 0, 68, .inl f11)), (m9, .inl (cy 0, 600, .inl f9)), (mm, .inr (12, [.int (iI th), .ref m1, .int (iI tp), .int (iI sz_), .int (iI (u2.2.1 1)), .int (iI (u2.2.1 2)), .int (iI (u2.2.1 3)), .int (iI opn), .int (iI fp), .ref m9, .ref m10, .ref m11, .ref m12, .ref m13, .ref m14, .ref m15, .int (iI im), .int (iI nr), .int (iI nl), .ref m19, .ref m20, .ref m21, .int (iI sp_), .ref m23, .ref m24, .ref m25, .ref m26, .ref m27, .ref m28, .int (iI wtc), .int (iI wcl), .int (iI ir), .int (iI ip), .ref m33, .int (iI shu), .ref m35, .int (iI sfa), .int (iI swr)]))] H := hP
  have hD : va_D A [(m11, .inl (cy 0, 68, .inl f11)), (m9, .inl (cy 0, 600, .inl f9)), (mm, .inr (12, [.int (iI th), .ref m1, .int (iI tp), .int (iI sz_), .int (iI (u2.2.1 1)), .int (iI (u2.2.1 2)), .int (iI (u2.2.1 3)), .int (iI opn), .int (iI fp), .ref m9, .ref m10, .ref m11, .ref m12, .ref m13, .ref m14, .ref m15, .int (iI im), .int (iI nr), .int (iI nl), .ref m19, .ref m20, .ref m21, .int (iI sp_), .ref m23, .ref m24, .ref m25, .ref m26, .ref m27, .ref m28, .int (iI wtc), .int (iI wcl), .int (iI ir), .int (iI ip), .ref m33, .int (iI shu), .ref m35, .int (iI sfa), .int (iI swr)]))] := hD
  refine iz_ne (tgt := 27) hx hb dX12_readShelter_23 (by decide) (by omega) (fun c_3 => ?_) (fun c_3 => ?_)
  · refine lv_aload_n hx hb dX12_readShelter_27 rfl (lv_at hlv 2 rfl) ?_
    refine va_get (D := D) (ci := 12) (v := .ref m11) (C := RX12) (T := TX12) (N := 38) hx hb hts hi12 hown hG.1 hP 2 rfl rfl 11 (by decide) lf26 (fun _ h9 => h9) rfl dX12_readShelter_28 ?_
    refine lv_bipush (v := iI 24) hx hb dX12_readShelter_31 (by decide) ?_
    refine lv_iconst (v := iI 2) hx hb dX12_readShelter_33 (by decide) ?_
    refine lv_aload_n hx hb dX12_readShelter_34 rfl (lv_at hlv 2 rfl) ?_
    refine va_get (D := D) (ci := 12) (v := .ref m11) (C := RX12) (T := TX12) (N := 38) hx hb hts hi12 hown hG.1 hP 2 rfl rfl 11 (by decide) lf26 (fun _ h9 => h9) rfl dX12_readShelter_35 ?_
    refine lv_iconst (v := iI 4) hx hb dX12_readShelter_38 (by decide) ?_
    refine va_iald hx hb hG.1 hP 0 0 rfl rfl (iI_in (by omega) (by decide)) dX12_readShelter_39 ?_
    refine lt_nz (i := 4) (by omega) (fun z_4 hz_4 lz_4 uz_4 => ?_)
    have hz_4 : z_4 = nz f11 4 := hz_4
    have hbz_4_10 := hq1_10.2.2.2.2.1
    refine lv_imul hx hb dX12_readShelter_40 ?_
    refine lt_e (e0 := 2 * z_4) (Int32.ofInt_mul _ _).symm (fun z_5 hz_5 => ?_)
    refine lv_iadd hx hb dX12_readShelter_41 ?_
    refine lt_e (e0 := 24 + z_5) (Int32.ofInt_add _ _).symm (fun z_6 hz_6 => ?_)
    refine lv_iload_n hx hb dX12_readShelter_42 rfl (lv_at hlv 1 rfl) ?_
    refine va_iast hx hb hG.1 hP hD hS 0 0 rfl rfl (iI_in (by omega) (by decide)) dX12_readShelter_43 (fun H locs hP hD hS => ?_)
    have ⟨f_7, hdf_7, hP, hD⟩ : ∃ f_7 : Nat → Int32, f_7 = upd f11 (iI z_6).toNatClampNeg (iI (u1.2.1 0)) ∧ va_P D vwCl [(m11, .inl (cy 0, 68, .inl f_7)), (m9, .inl (cy 0, 600, .inl f9)), (mm, .inr (12, [.int (iI th), .ref m1, .int (iI tp), .int (iI sz_), .int (iI (u2.2.1 1)), .int (iI (u2.2.1 2)), .int (iI (u2.2.1 3)), .int (iI opn), .int (iI fp), .ref m9, .ref m10, .ref m11, .ref m12, .ref m13, .ref m14, .ref m15, .int (iI im), .int (iI nr), .int (iI nl), .ref m19, .ref m20, .ref m21, .int (iI sp_), .ref m23, .ref m24, .ref m25, .ref m26, .ref m27, .ref m28, .int (iI wtc), .int (iI wcl), .int (iI ir), .int (iI ip), .ref m33, .int (iI shu), .ref m35, .int (iI sfa), .int (iI swr)]))] H ∧ va_D A [(m11, .inl (cy 0, 68, .inl f_7)), (m9, .inl (cy 0, 600, .inl f9)), (mm, .inr (12, [.int (iI th), .ref m1, .int (iI tp), .int (iI sz_), .int (iI (u2.2.1 1)), .int (iI (u2.2.1 2)), .int (iI (u2.2.1 3)), .int (iI opn), .int (iI fp), .ref m9, .ref m10, .ref m11, .ref m12, .ref m13, .ref m14, .ref m15, .int (iI im), .int (iI nr), .int (iI nl), .ref m19, .ref m20, .ref m21, .int (iI sp_), .ref m23, .ref m24, .ref m25, .ref m26, .ref m27, .ref m28, .int (iI wtc), .int (iI wcl), .int (iI ir), .int (iI ip), .ref m33, .int (iI shu), .ref m35, .int (iI sfa), .int (iI swr)]))] := ⟨_, rfl, hP, hD⟩
    have hif_7 : NI f_7 := NI.wk hq1_10 hdf_7 (by omega) (by omega)
    have htf_7_0 : nz f_7 0 = nz f11 0 := nz_un hdf_7 (by omega) (by omega)
    have htf_7_1 : nz f_7 1 = nz f11 1 := nz_un hdf_7 (by omega) (by omega)
    have htf_7_2 : nz f_7 2 = nz f11 2 := nz_un hdf_7 (by omega) (by omega)
    have htf_7_3 : nz f_7 3 = nz f11 3 := nz_un hdf_7 (by omega) (by omega)
    have htf_7_4 : nz f_7 4 = nz f11 4 := nz_un hdf_7 (by omega) (by omega)
    have htf_7_5 : nz f_7 5 = nz f11 5 := nz_un hdf_7 (by omega) (by omega)
    refine lv_aload_n hx hb dX12_readShelter_44 rfl (lv_at hlv 2 rfl) ?_
    refine va_get (D := D) (ci := 12) (v := .ref m11) (C := RX12) (T := TX12) (N := 38) hx hb hts hi12 hown hG.1 hP 2 rfl rfl 11 (by decide) lf26 (fun _ h9 => h9) rfl dX12_readShelter_45 ?_
    refine lv_bipush (v := iI 24) hx hb dX12_readShelter_48 (by decide) ?_
    refine lv_iconst (v := iI 2) hx hb dX12_readShelter_50 (by decide) ?_
    refine lv_aload_n hx hb dX12_readShelter_51 rfl (lv_at hlv 2 rfl) ?_
    refine va_get (D := D) (ci := 12) (v := .ref m11) (C := RX12) (T := TX12) (N := 38) hx hb hts hi12 hown hG.1 hP 2 rfl rfl 11 (by decide) lf26 (fun _ h9 => h9) rfl dX12_readShelter_52 ?_
    refine lv_iconst (v := iI 4) hx hb dX12_readShelter_55 (by decide) ?_
    refine va_iald hx hb hG.1 hP 0 0 rfl rfl (iI_in (by omega) (by decide)) dX12_readShelter_56 ?_
    refine lt_nz (i := 4) (by omega) (fun z_8 hz_8 lz_8 uz_8 => ?_)
    have hz_8 : z_8 = nz f_7 4 := hz_8
    have hbz_8_35 := hif_7.2.2.2.2.1
    refine lv_imul hx hb dX12_readShelter_57 ?_
    refine lt_e (e0 := 2 * z_8) (Int32.ofInt_mul _ _).symm (fun z_9 hz_9 => ?_)
    refine lv_iadd hx hb dX12_readShelter_58 ?_
    refine lt_e (e0 := 24 + z_9) (Int32.ofInt_add _ _).symm (fun z_10 hz_10 => ?_)
    refine lv_iconst (v := iI 1) hx hb dX12_readShelter_59 (by decide) ?_
    refine lv_iadd hx hb dX12_readShelter_60 ?_
    refine lt_e (e0 := z_10 + 1) (Int32.ofInt_add _ _).symm (fun z_11 hz_11 => ?_)
    refine lv_iload_n hx hb dX12_readShelter_61 rfl (lv_at hlv 0 rfl) ?_
    refine va_iast hx hb hG.1 hP hD hS 0 0 rfl rfl (iI_in (by omega) (by decide)) dX12_readShelter_62 (fun H locs hP hD hS => ?_)
    have ⟨f_12, hdf_12, hP, hD⟩ : ∃ f_12 : Nat → Int32, f_12 = upd f_7 (iI z_11).toNatClampNeg (iI (u2.2.1 0)) ∧ va_P D vwCl [(m11, .inl (cy 0, 68, .inl f_12)), (m9, .inl (cy 0, 600, .inl f9)), (mm, .inr (12, [.int (iI th), .ref m1, .int (iI tp), .int (iI sz_), .int (iI (u2.2.1 1)), .int (iI (u2.2.1 2)), .int (iI (u2.2.1 3)), .int (iI opn), .int (iI fp), .ref m9, .ref m10, .ref m11, .ref m12, .ref m13, .ref m14, .ref m15, .int (iI im), .int (iI nr), .int (iI nl), .ref m19, .ref m20, .ref m21, .int (iI sp_), .ref m23, .ref m24, .ref m25, .ref m26, .ref m27, .ref m28, .int (iI wtc), .int (iI wcl), .int (iI ir), .int (iI ip), .ref m33, .int (iI shu), .ref m35, .int (iI sfa), .int (iI swr)]))] H ∧ va_D A [(m11, .inl (cy 0, 68, .inl f_12)), (m9, .inl (cy 0, 600, .inl f9)), (mm, .inr (12, [.int (iI th), .ref m1, .int (iI tp), .int (iI sz_), .int (iI (u2.2.1 1)), .int (iI (u2.2.1 2)), .int (iI (u2.2.1 3)), .int (iI opn), .int (iI fp), .ref m9, .ref m10, .ref m11, .ref m12, .ref m13, .ref m14, .ref m15, .int (iI im), .int (iI nr), .int (iI nl), .ref m19, .ref m20, .ref m21, .int (iI sp_), .ref m23, .ref m24, .ref m25, .ref m26, .ref m27, .ref m28, .int (iI wtc), .int (iI wcl), .int (iI ir), .int (iI ip), .ref m33, .int (iI shu), .ref m35, .int (iI sfa), .int (iI swr)]))] := ⟨_, rfl, hP, hD⟩
    have hif_12 : NI f_12 := NI.wk hif_7 hdf_12 (by omega) (by omega)
    have htf_12_0 : nz f_12 0 = nz f_7 0 := nz_un hdf_12 (by omega) (by omega)
    have htf_12_1 : nz f_12 1 = nz f_7 1 := nz_un hdf_12 (by omega) (by omega)
    have htf_12_2 : nz f_12 2 = nz f_7 2 := nz_un hdf_12 (by omega) (by omega)
    have htf_12_3 : nz f_12 3 = nz f_7 3 := nz_un hdf_12 (by omega) (by omega)
    have htf_12_4 : nz f_12 4 = nz f_7 4 := nz_un hdf_12 (by omega) (by omega)
    have htf_12_5 : nz f_12 5 = nz f_7 5 := nz_un hdf_12 (by omega) (by omega)
    refine lv_aload_n hx hb dX12_readShelter_63 rfl (lv_at hlv 2 rfl) ?_
    refine va_get (D := D) (ci := 12) (v := .ref m11) (C := RX12) (T := TX12) (N := 38) hx hb hts hi12 hown hG.1 hP 2 rfl rfl 11 (by decide) lf26 (fun _ h9 => h9) rfl dX12_readShelter_64 ?_
    refine lv_iconst (v := iI 4) hx hb dX12_readShelter_67 (by decide) ?_
    refine lv_dup2_11 hx hb dX12_readShelter_68 rfl rfl ?_
    refine va_iald hx hb hG.1 hP 0 0 rfl rfl (iI_in (by omega) (by decide)) dX12_readShelter_69 ?_
    refine lt_nz (i := 4) (by omega) (fun z_13 hz_13 lz_13 uz_13 => ?_)
    have hz_13 : z_13 = nz f_12 4 := hz_13
    have hbz_13_60 := hif_12.2.2.2.2.1
    refine lv_iconst (v := iI 1) hx hb dX12_readShelter_70 (by decide) ?_
    refine lv_iadd hx hb dX12_readShelter_71 ?_
    refine lt_e (e0 := z_13 + 1) (Int32.ofInt_add _ _).symm (fun z_14 hz_14 => ?_)
    refine va_iast hx hb hG.1 hP hD hS 0 0 rfl rfl (iI_in (by omega) (by decide)) dX12_readShelter_72 (fun H locs hP hD hS => ?_)
    have ⟨f_15, hdf_15, hP, hD⟩ : ∃ f_15 : Nat → Int32, f_15 = upd f_12 (iI 4).toNatClampNeg (iI z_14) ∧ va_P D vwCl [(m11, .inl (cy 0, 68, .inl f_15)), (m9, .inl (cy 0, 600, .inl f9)), (mm, .inr (12, [.int (iI th), .ref m1, .int (iI tp), .int (iI sz_), .int (iI (u2.2.1 1)), .int (iI (u2.2.1 2)), .int (iI (u2.2.1 3)), .int (iI opn), .int (iI fp), .ref m9, .ref m10, .ref m11, .ref m12, .ref m13, .ref m14, .ref m15, .int (iI im), .int (iI nr), .int (iI nl), .ref m19, .ref m20, .ref m21, .int (iI sp_), .ref m23, .ref m24, .ref m25, .ref m26, .ref m27, .ref m28, .int (iI wtc), .int (iI wcl), .int (iI ir), .int (iI ip), .ref m33, .int (iI shu), .ref m35, .int (iI sfa), .int (iI swr)]))] H ∧ va_D A [(m11, .inl (cy 0, 68, .inl f_15)), (m9, .inl (cy 0, 600, .inl f9)), (mm, .inr (12, [.int (iI th), .ref m1, .int (iI tp), .int (iI sz_), .int (iI (u2.2.1 1)), .int (iI (u2.2.1 2)), .int (iI (u2.2.1 3)), .int (iI opn), .int (iI fp), .ref m9, .ref m10, .ref m11, .ref m12, .ref m13, .ref m14, .ref m15, .int (iI im), .int (iI nr), .int (iI nl), .ref m19, .ref m20, .ref m21, .int (iI sp_), .ref m23, .ref m24, .ref m25, .ref m26, .ref m27, .ref m28, .int (iI wtc), .int (iI wcl), .int (iI ir), .int (iI ip), .ref m33, .int (iI shu), .ref m35, .int (iI sfa), .int (iI swr)]))] := ⟨_, rfl, hP, hD⟩
    have hif_15 : NI f_15 := NI.wk hif_12 hdf_15 (by omega) (by omega)
    have htf_15_0 : nz f_15 0 = nz f_12 0 := nz_un hdf_15 (by omega) (by omega)
    have htf_15_1 : nz f_15 1 = nz f_12 1 := nz_un hdf_15 (by omega) (by omega)
    have htf_15_2 : nz f_15 2 = nz f_12 2 := nz_un hdf_15 (by omega) (by omega)
    have htf_15_3 : nz f_15 3 = nz f_12 3 := nz_un hdf_15 (by omega) (by omega)
    have htf_15_4 : nz f_15 4 = z_14 := nz_us hdf_15 (by omega) (by omega) (by omega)
    have htf_15_5 : nz f_15 5 = nz f_12 5 := nz_un hdf_15 (by omega) (by omega)
    refine W.widen (k := 0) (n := 0) (Nat.le_of_ble_eq_true rfl) (Nat.le_of_ble_eq_true rfl) ?_
    exact W.vret hx hb hr (fun t ht hW => ⟨⟨((fun k => ([] : List Nat).getD k 0), (fun k => ([0, (u2.2.1 1), (u2.2.1 2), (u2.2.1 3)] : List Int).getD k 0), (fun k => ([f_15] : List (Nat → Int32)).getD k (fun _ => 0))), rfl, ⟨(by show (0 ≤ (u2.2.1 1) ∧ (u2.2.1 1) ≤ 602); omega), (by show ((-1) ≤ (u2.2.1 2) ∧ (u2.2.1 2) ≤ 602); omega), (by show (0 ≤ (u2.2.1 3) ∧ (u2.2.1 3) ≤ 4); omega), (by show (ap ≤ (u2.2.1 1)); omega), (by show (ap ≤ sz_ → (u2.2.1 1) ≤ sz_); omega), (by show ((u2.2.1 2) = -1 → bad = -1); omega), (by show (bad ≠ -1 → (u2.2.1 2) = bad); omega), (by show (nz (f_15) 0 = nz f11 0); omega), (by show (nz (f_15) 1 = nz f11 1); omega), (by show (nz (f_15) 2 = nz f11 2); omega), (by show (nz (f_15) 3 = nz f11 3); omega), (by show (nz (f_15) 5 = nz f11 5); omega), hq2_10, hif_15⟩, by rw [ht]; exact hP.sub [2, 1, 0] rfl, hD.sub [2, 1, 0] (by decide) rfl⟩, hS.F ht⟩) hS.2.2 dX12_readShelter_73
  · refine W.widen (k := 0) (n := 0) (Nat.le_of_ble_eq_true rfl) (Nat.le_of_ble_eq_true rfl) ?_
    exact W.vret hx hb hr (fun t ht hW => ⟨⟨((fun k => ([] : List Nat).getD k 0), (fun k => ([0, (u2.2.1 1), (u2.2.1 2), (u2.2.1 3)] : List Int).getD k 0), (fun k => ([f11] : List (Nat → Int32)).getD k (fun _ => 0))), rfl, ⟨(by show (0 ≤ (u2.2.1 1) ∧ (u2.2.1 1) ≤ 602); omega), (by show ((-1) ≤ (u2.2.1 2) ∧ (u2.2.1 2) ≤ 602); omega), (by show (0 ≤ (u2.2.1 3) ∧ (u2.2.1 3) ≤ 4); omega), (by show (ap ≤ (u2.2.1 1)); omega), (by show (ap ≤ sz_ → (u2.2.1 1) ≤ sz_); omega), (by show ((u2.2.1 2) = -1 → bad = -1); omega), (by show (bad ≠ -1 → (u2.2.1 2) = bad); omega), (by show (nz (f11) 0 = nz f11 0); omega), (by show (nz (f11) 1 = nz f11 1); omega), (by show (nz (f11) 2 = nz f11 2); omega), (by show (nz (f11) 3 = nz f11 3); omega), (by show (nz (f11) 5 = nz f11 5); omega), hq2_10, hq1_10⟩, by rw [ht]; exact hP.sub [2, 1, 0] rfl, hD.sub [2, 1, 0] (by decide) rfl⟩, hS.F ht⟩) hS.2.2 dX12_readShelter_26
