theorem dX12_readDrain_0 : decode cX12_readDrain 0 = .ok (.bipush 6, 2) := by decide +kernel
theorem dX12_readDrain_10 : decode cX12_readDrain 10 = .ok (.iadd, 1) := by decide +kernel
theorem dX12_readDrain_100 : decode cX12_readDrain 100 = .ok (.iastore, 1) := by decide +kernel
theorem dX12_readDrain_101 : decode cX12_readDrain 101 = .ok (.return_, 1) := by decide +kernel
theorem dX12_readDrain_11 : decode cX12_readDrain 11 = .ok (.istore_n 1, 1) := by decide +kernel
theorem dX12_readDrain_12 : decode cX12_readDrain 12 = .ok (.aload_n 0, 1) := by decide +kernel
theorem dX12_readDrain_13 : decode cX12_readDrain 13 = .ok (.invokevirtual 127, 3) := by decide +kernel
theorem dX12_readDrain_16 : decode cX12_readDrain 16 = .ok (.istore_n 2, 1) := by decide +kernel
theorem dX12_readDrain_17 : decode cX12_readDrain 17 = .ok (.aload_n 0, 1) := by decide +kernel
theorem dX12_readDrain_18 : decode cX12_readDrain 18 = .ok (.invokevirtual 130, 3) := by decide +kernel
theorem dX12_readDrain_2 : decode cX12_readDrain 2 = .ok (.iconst 3, 1) := by decide +kernel
theorem dX12_readDrain_21 : decode cX12_readDrain 21 = .ok (.istore_n 3, 1) := by decide +kernel
theorem dX12_readDrain_22 : decode cX12_readDrain 22 = .ok (.aload_n 0, 1) := by decide +kernel
theorem dX12_readDrain_23 : decode cX12_readDrain 23 = .ok (.iconst 1, 1) := by decide +kernel
theorem dX12_readDrain_24 : decode cX12_readDrain 24 = .ok (.bipush 99, 2) := by decide +kernel
theorem dX12_readDrain_26 : decode cX12_readDrain 26 = .ok (.invokevirtual 123, 3) := by decide +kernel
theorem dX12_readDrain_29 : decode cX12_readDrain 29 = .ok (.istore 4, 2) := by decide +kernel
theorem dX12_readDrain_3 : decode cX12_readDrain 3 = .ok (.aload_n 0, 1) := by decide +kernel
theorem dX12_readDrain_31 : decode cX12_readDrain 31 = .ok (.aload_n 0, 1) := by decide +kernel
theorem dX12_readDrain_32 : decode cX12_readDrain 32 = .ok (.iconst 0, 1) := by decide +kernel
theorem dX12_readDrain_33 : decode cX12_readDrain 33 = .ok (.bipush 16, 2) := by decide +kernel
theorem dX12_readDrain_35 : decode cX12_readDrain 35 = .ok (.invokevirtual 123, 3) := by decide +kernel
theorem dX12_readDrain_38 : decode cX12_readDrain 38 = .ok (.istore 5, 2) := by decide +kernel
theorem dX12_readDrain_4 : decode cX12_readDrain 4 = .ok (.getfield 26, 3) := by decide +kernel
theorem dX12_readDrain_40 : decode cX12_readDrain 40 = .ok (.aload_n 0, 1) := by decide +kernel
theorem dX12_readDrain_41 : decode cX12_readDrain 41 = .ok (.invokevirtual 109, 3) := by decide +kernel
theorem dX12_readDrain_44 : decode cX12_readDrain 44 = .ok (.ifCond .ne 4, 3) := by decide +kernel
theorem dX12_readDrain_47 : decode cX12_readDrain 47 = .ok (.return_, 1) := by decide +kernel
theorem dX12_readDrain_48 : decode cX12_readDrain 48 = .ok (.aload_n 0, 1) := by decide +kernel
theorem dX12_readDrain_49 : decode cX12_readDrain 49 = .ok (.getfield 26, 3) := by decide +kernel
theorem dX12_readDrain_52 : decode cX12_readDrain 52 = .ok (.iload_n 1, 1) := by decide +kernel
theorem dX12_readDrain_53 : decode cX12_readDrain 53 = .ok (.iload_n 2, 1) := by decide +kernel
theorem dX12_readDrain_54 : decode cX12_readDrain 54 = .ok (.iastore, 1) := by decide +kernel
theorem dX12_readDrain_55 : decode cX12_readDrain 55 = .ok (.aload_n 0, 1) := by decide +kernel
theorem dX12_readDrain_56 : decode cX12_readDrain 56 = .ok (.getfield 26, 3) := by decide +kernel
theorem dX12_readDrain_59 : decode cX12_readDrain 59 = .ok (.iload_n 1, 1) := by decide +kernel
theorem dX12_readDrain_60 : decode cX12_readDrain 60 = .ok (.iconst 1, 1) := by decide +kernel
theorem dX12_readDrain_61 : decode cX12_readDrain 61 = .ok (.iadd, 1) := by decide +kernel
theorem dX12_readDrain_62 : decode cX12_readDrain 62 = .ok (.iload_n 3, 1) := by decide +kernel
theorem dX12_readDrain_63 : decode cX12_readDrain 63 = .ok (.iastore, 1) := by decide +kernel
theorem dX12_readDrain_64 : decode cX12_readDrain 64 = .ok (.aload_n 0, 1) := by decide +kernel
theorem dX12_readDrain_65 : decode cX12_readDrain 65 = .ok (.getfield 26, 3) := by decide +kernel
theorem dX12_readDrain_68 : decode cX12_readDrain 68 = .ok (.iload_n 1, 1) := by decide +kernel
theorem dX12_readDrain_69 : decode cX12_readDrain 69 = .ok (.iconst 2, 1) := by decide +kernel
theorem dX12_readDrain_7 : decode cX12_readDrain 7 = .ok (.iconst 2, 1) := by decide +kernel
theorem dX12_readDrain_70 : decode cX12_readDrain 70 = .ok (.iadd, 1) := by decide +kernel
theorem dX12_readDrain_71 : decode cX12_readDrain 71 = .ok (.iload 4, 2) := by decide +kernel
theorem dX12_readDrain_73 : decode cX12_readDrain 73 = .ok (.iastore, 1) := by decide +kernel
theorem dX12_readDrain_74 : decode cX12_readDrain 74 = .ok (.aload_n 0, 1) := by decide +kernel
theorem dX12_readDrain_75 : decode cX12_readDrain 75 = .ok (.getfield 32, 3) := by decide +kernel
theorem dX12_readDrain_78 : decode cX12_readDrain 78 = .ok (.sipush 192, 3) := by decide +kernel
theorem dX12_readDrain_8 : decode cX12_readDrain 8 = .ok (.iaload, 1) := by decide +kernel
theorem dX12_readDrain_81 : decode cX12_readDrain 81 = .ok (.aload_n 0, 1) := by decide +kernel
theorem dX12_readDrain_82 : decode cX12_readDrain 82 = .ok (.getfield 26, 3) := by decide +kernel
theorem dX12_readDrain_85 : decode cX12_readDrain 85 = .ok (.iconst 2, 1) := by decide +kernel
theorem dX12_readDrain_86 : decode cX12_readDrain 86 = .ok (.iaload, 1) := by decide +kernel
theorem dX12_readDrain_87 : decode cX12_readDrain 87 = .ok (.iadd, 1) := by decide +kernel
theorem dX12_readDrain_88 : decode cX12_readDrain 88 = .ok (.iload 5, 2) := by decide +kernel
theorem dX12_readDrain_9 : decode cX12_readDrain 9 = .ok (.imul, 1) := by decide +kernel
theorem dX12_readDrain_90 : decode cX12_readDrain 90 = .ok (.iastore, 1) := by decide +kernel
theorem dX12_readDrain_91 : decode cX12_readDrain 91 = .ok (.aload_n 0, 1) := by decide +kernel
theorem dX12_readDrain_92 : decode cX12_readDrain 92 = .ok (.getfield 26, 3) := by decide +kernel
theorem dX12_readDrain_95 : decode cX12_readDrain 95 = .ok (.iconst 2, 1) := by decide +kernel
theorem dX12_readDrain_96 : decode cX12_readDrain 96 = .ok (.dup2, 1) := by decide +kernel
theorem dX12_readDrain_97 : decode cX12_readDrain 97 = .ok (.iaload, 1) := by decide +kernel
theorem dX12_readDrain_98 : decode cX12_readDrain 98 = .ok (.iconst 1, 1) := by decide +kernel
theorem dX12_readDrain_99 : decode cX12_readDrain 99 = .ok (.iadd, 1) := by decide +kernel
theorem dX12_readPerson_0 : decode cX12_readPerson 0 = .ok (.aload_n 0, 1) := by decide +kernel
theorem dX12_readPerson_1 : decode cX12_readPerson 1 = .ok (.invokevirtual 127, 3) := by decide +kernel
theorem dX12_readPerson_12 : decode cX12_readPerson 12 = .ok (.istore_n 2, 1) := by decide +kernel
theorem dX12_readPerson_13 : decode cX12_readPerson 13 = .ok (.aload_n 0, 1) := by decide +kernel
theorem dX12_readPerson_14 : decode cX12_readPerson 14 = .ok (.invokevirtual 109, 3) := by decide +kernel
theorem dX12_readPerson_17 : decode cX12_readPerson 17 = .ok (.ifCond .ne 4, 3) := by decide +kernel
theorem dX12_readPerson_20 : decode cX12_readPerson 20 = .ok (.return_, 1) := by decide +kernel
theorem dX12_readPerson_21 : decode cX12_readPerson 21 = .ok (.aload_n 0, 1) := by decide +kernel
theorem dX12_readPerson_22 : decode cX12_readPerson 22 = .ok (.getfield 32, 3) := by decide +kernel
theorem dX12_readPerson_25 : decode cX12_readPerson 25 = .ok (.sipush 216, 3) := by decide +kernel
theorem dX12_readPerson_28 : decode cX12_readPerson 28 = .ok (.aload_n 0, 1) := by decide +kernel
theorem dX12_readPerson_29 : decode cX12_readPerson 29 = .ok (.getfield 26, 3) := by decide +kernel
theorem dX12_readPerson_32 : decode cX12_readPerson 32 = .ok (.iconst 3, 1) := by decide +kernel
theorem dX12_readPerson_33 : decode cX12_readPerson 33 = .ok (.iaload, 1) := by decide +kernel
theorem dX12_readPerson_34 : decode cX12_readPerson 34 = .ok (.iadd, 1) := by decide +kernel
theorem dX12_readPerson_35 : decode cX12_readPerson 35 = .ok (.iload_n 1, 1) := by decide +kernel
theorem dX12_readPerson_36 : decode cX12_readPerson 36 = .ok (.iastore, 1) := by decide +kernel
theorem dX12_readPerson_37 : decode cX12_readPerson 37 = .ok (.aload_n 0, 1) := by decide +kernel
theorem dX12_readPerson_38 : decode cX12_readPerson 38 = .ok (.getfield 32, 3) := by decide +kernel
theorem dX12_readPerson_4 : decode cX12_readPerson 4 = .ok (.istore_n 1, 1) := by decide +kernel
theorem dX12_readPerson_41 : decode cX12_readPerson 41 = .ok (.sipush 225, 3) := by decide +kernel
theorem dX12_readPerson_44 : decode cX12_readPerson 44 = .ok (.aload_n 0, 1) := by decide +kernel
theorem dX12_readPerson_45 : decode cX12_readPerson 45 = .ok (.getfield 26, 3) := by decide +kernel
theorem dX12_readPerson_48 : decode cX12_readPerson 48 = .ok (.iconst 3, 1) := by decide +kernel
theorem dX12_readPerson_49 : decode cX12_readPerson 49 = .ok (.iaload, 1) := by decide +kernel
theorem dX12_readPerson_5 : decode cX12_readPerson 5 = .ok (.aload_n 0, 1) := by decide +kernel
theorem dX12_readPerson_50 : decode cX12_readPerson 50 = .ok (.iadd, 1) := by decide +kernel
theorem dX12_readPerson_51 : decode cX12_readPerson 51 = .ok (.iload_n 2, 1) := by decide +kernel
theorem dX12_readPerson_52 : decode cX12_readPerson 52 = .ok (.iastore, 1) := by decide +kernel
theorem dX12_readPerson_53 : decode cX12_readPerson 53 = .ok (.aload_n 0, 1) := by decide +kernel
theorem dX12_readPerson_54 : decode cX12_readPerson 54 = .ok (.getfield 26, 3) := by decide +kernel
theorem dX12_readPerson_57 : decode cX12_readPerson 57 = .ok (.iconst 3, 1) := by decide +kernel
theorem dX12_readPerson_58 : decode cX12_readPerson 58 = .ok (.dup2, 1) := by decide +kernel
theorem dX12_readPerson_59 : decode cX12_readPerson 59 = .ok (.iaload, 1) := by decide +kernel
theorem dX12_readPerson_6 : decode cX12_readPerson 6 = .ok (.iconst 0, 1) := by decide +kernel
theorem dX12_readPerson_60 : decode cX12_readPerson 60 = .ok (.iconst 1, 1) := by decide +kernel
theorem dX12_readPerson_61 : decode cX12_readPerson 61 = .ok (.iadd, 1) := by decide +kernel
theorem dX12_readPerson_62 : decode cX12_readPerson 62 = .ok (.iastore, 1) := by decide +kernel
theorem dX12_readPerson_63 : decode cX12_readPerson 63 = .ok (.return_, 1) := by decide +kernel
theorem dX12_readPerson_7 : decode cX12_readPerson 7 = .ok (.bipush 19, 2) := by decide +kernel
theorem dX12_readPerson_9 : decode cX12_readPerson 9 = .ok (.invokevirtual 123, 3) := by decide +kernel
theorem dX12_readShelter_0 : decode cX12_readShelter 0 = .ok (.aload_n 0, 1) := by decide +kernel
theorem dX12_readShelter_1 : decode cX12_readShelter 1 = .ok (.invokevirtual 127, 3) := by decide +kernel
theorem dX12_readShelter_11 : decode cX12_readShelter 11 = .ok (.iconst 0, 1) := by decide +kernel
theorem dX12_readShelter_12 : decode cX12_readShelter 12 = .ok (.iaload, 1) := by decide +kernel
theorem dX12_readShelter_13 : decode cX12_readShelter 13 = .ok (.iconst 1, 1) := by decide +kernel
theorem dX12_readShelter_14 : decode cX12_readShelter 14 = .ok (.isub, 1) := by decide +kernel
theorem dX12_readShelter_15 : decode cX12_readShelter 15 = .ok (.invokevirtual 123, 3) := by decide +kernel
theorem dX12_readShelter_18 : decode cX12_readShelter 18 = .ok (.istore_n 2, 1) := by decide +kernel
theorem dX12_readShelter_19 : decode cX12_readShelter 19 = .ok (.aload_n 0, 1) := by decide +kernel
theorem dX12_readShelter_20 : decode cX12_readShelter 20 = .ok (.invokevirtual 109, 3) := by decide +kernel
theorem dX12_readShelter_23 : decode cX12_readShelter 23 = .ok (.ifCond .ne 4, 3) := by decide +kernel
theorem dX12_readShelter_26 : decode cX12_readShelter 26 = .ok (.return_, 1) := by decide +kernel
theorem dX12_readShelter_27 : decode cX12_readShelter 27 = .ok (.aload_n 0, 1) := by decide +kernel
theorem dX12_readShelter_28 : decode cX12_readShelter 28 = .ok (.getfield 26, 3) := by decide +kernel
theorem dX12_readShelter_31 : decode cX12_readShelter 31 = .ok (.bipush 24, 2) := by decide +kernel
theorem dX12_readShelter_33 : decode cX12_readShelter 33 = .ok (.iconst 2, 1) := by decide +kernel
theorem dX12_readShelter_34 : decode cX12_readShelter 34 = .ok (.aload_n 0, 1) := by decide +kernel
theorem dX12_readShelter_35 : decode cX12_readShelter 35 = .ok (.getfield 26, 3) := by decide +kernel
theorem dX12_readShelter_38 : decode cX12_readShelter 38 = .ok (.iconst 4, 1) := by decide +kernel
theorem dX12_readShelter_39 : decode cX12_readShelter 39 = .ok (.iaload, 1) := by decide +kernel
theorem dX12_readShelter_4 : decode cX12_readShelter 4 = .ok (.istore_n 1, 1) := by decide +kernel
theorem dX12_readShelter_40 : decode cX12_readShelter 40 = .ok (.imul, 1) := by decide +kernel
theorem dX12_readShelter_41 : decode cX12_readShelter 41 = .ok (.iadd, 1) := by decide +kernel
theorem dX12_readShelter_42 : decode cX12_readShelter 42 = .ok (.iload_n 1, 1) := by decide +kernel
theorem dX12_readShelter_43 : decode cX12_readShelter 43 = .ok (.iastore, 1) := by decide +kernel
theorem dX12_readShelter_44 : decode cX12_readShelter 44 = .ok (.aload_n 0, 1) := by decide +kernel
theorem dX12_readShelter_45 : decode cX12_readShelter 45 = .ok (.getfield 26, 3) := by decide +kernel
theorem dX12_readShelter_48 : decode cX12_readShelter 48 = .ok (.bipush 24, 2) := by decide +kernel
theorem dX12_readShelter_5 : decode cX12_readShelter 5 = .ok (.aload_n 0, 1) := by decide +kernel
theorem dX12_readShelter_50 : decode cX12_readShelter 50 = .ok (.iconst 2, 1) := by decide +kernel
theorem dX12_readShelter_51 : decode cX12_readShelter 51 = .ok (.aload_n 0, 1) := by decide +kernel
theorem dX12_readShelter_52 : decode cX12_readShelter 52 = .ok (.getfield 26, 3) := by decide +kernel
theorem dX12_readShelter_55 : decode cX12_readShelter 55 = .ok (.iconst 4, 1) := by decide +kernel
theorem dX12_readShelter_56 : decode cX12_readShelter 56 = .ok (.iaload, 1) := by decide +kernel
theorem dX12_readShelter_57 : decode cX12_readShelter 57 = .ok (.imul, 1) := by decide +kernel
theorem dX12_readShelter_58 : decode cX12_readShelter 58 = .ok (.iadd, 1) := by decide +kernel
theorem dX12_readShelter_59 : decode cX12_readShelter 59 = .ok (.iconst 1, 1) := by decide +kernel
theorem dX12_readShelter_6 : decode cX12_readShelter 6 = .ok (.iload_n 1, 1) := by decide +kernel
theorem dX12_readShelter_60 : decode cX12_readShelter 60 = .ok (.iadd, 1) := by decide +kernel
theorem dX12_readShelter_61 : decode cX12_readShelter 61 = .ok (.iload_n 2, 1) := by decide +kernel
theorem dX12_readShelter_62 : decode cX12_readShelter 62 = .ok (.iastore, 1) := by decide +kernel
theorem dX12_readShelter_63 : decode cX12_readShelter 63 = .ok (.aload_n 0, 1) := by decide +kernel
theorem dX12_readShelter_64 : decode cX12_readShelter 64 = .ok (.getfield 26, 3) := by decide +kernel
theorem dX12_readShelter_67 : decode cX12_readShelter 67 = .ok (.iconst 4, 1) := by decide +kernel
theorem dX12_readShelter_68 : decode cX12_readShelter 68 = .ok (.dup2, 1) := by decide +kernel
theorem dX12_readShelter_69 : decode cX12_readShelter 69 = .ok (.iaload, 1) := by decide +kernel
theorem dX12_readShelter_7 : decode cX12_readShelter 7 = .ok (.aload_n 0, 1) := by decide +kernel
theorem dX12_readShelter_70 : decode cX12_readShelter 70 = .ok (.iconst 1, 1) := by decide +kernel
theorem dX12_readShelter_71 : decode cX12_readShelter 71 = .ok (.iadd, 1) := by decide +kernel
theorem dX12_readShelter_72 : decode cX12_readShelter 72 = .ok (.iastore, 1) := by decide +kernel
theorem dX12_readShelter_73 : decode cX12_readShelter 73 = .ok (.return_, 1) := by decide +kernel
theorem dX12_readShelter_8 : decode cX12_readShelter 8 = .ok (.getfield 26, 3) := by decide +kernel
theorem dX12_readX_0 : decode cX12_readX 0 = .ok (.aload_n 0, 1) := by decide +kernel
theorem dX12_readX_1 : decode cX12_readX 1 = .ok (.iconst 0, 1) := by decide +kernel
theorem dX12_readX_10 : decode cX12_readX 10 = .ok (.invokevirtual 123, 3) := by decide +kernel
theorem dX12_readX_13 : decode cX12_readX 13 = .ok (.ireturn, 1) := by decide +kernel
theorem dX12_readX_2 : decode cX12_readX 2 = .ok (.aload_n 0, 1) := by decide +kernel
theorem dX12_readX_3 : decode cX12_readX 3 = .ok (.getfield 26, 3) := by decide +kernel
theorem dX12_readX_6 : decode cX12_readX 6 = .ok (.iconst 0, 1) := by decide +kernel
theorem dX12_readX_7 : decode cX12_readX 7 = .ok (.iaload, 1) := by decide +kernel
theorem dX12_readX_8 : decode cX12_readX 8 = .ok (.iconst 1, 1) := by decide +kernel
theorem dX12_readX_9 : decode cX12_readX 9 = .ok (.isub, 1) := by decide +kernel
theorem dX12_readY_0 : decode cX12_readY 0 = .ok (.aload_n 0, 1) := by decide +kernel
theorem dX12_readY_1 : decode cX12_readY 1 = .ok (.iconst 0, 1) := by decide +kernel
theorem dX12_readY_10 : decode cX12_readY 10 = .ok (.invokevirtual 123, 3) := by decide +kernel
theorem dX12_readY_13 : decode cX12_readY 13 = .ok (.ireturn, 1) := by decide +kernel
theorem dX12_readY_2 : decode cX12_readY 2 = .ok (.aload_n 0, 1) := by decide +kernel
theorem dX12_readY_3 : decode cX12_readY 3 = .ok (.getfield 26, 3) := by decide +kernel
theorem dX12_readY_6 : decode cX12_readY 6 = .ok (.iconst 1, 1) := by decide +kernel
theorem dX12_readY_7 : decode cX12_readY 7 = .ok (.iaload, 1) := by decide +kernel
theorem dX12_readY_8 : decode cX12_readY 8 = .ok (.iconst 1, 1) := by decide +kernel
theorem dX12_readY_9 : decode cX12_readY 9 = .ok (.isub, 1) := by decide +kernel