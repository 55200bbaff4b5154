theorem dX7_readOfCell_0 : decode cX7_readOfCell 0 = .ok (.aload_n 0, 1) := by decide +kernel
theorem dX7_readOfCell_1 : decode cX7_readOfCell 1 = .ok (.getfield 9, 3) := by decide +kernel
theorem dX7_readOfCell_101 : decode cX7_readOfCell 101 = .ok (.iconst 0, 1) := by decide +kernel
theorem dX7_readOfCell_102 : decode cX7_readOfCell 102 = .ok (.bipush 16, 2) := by decide +kernel
theorem dX7_readOfCell_104 : decode cX7_readOfCell 104 = .ok (.invokevirtual 105, 3) := by decide +kernel
theorem dX7_readOfCell_107 : decode cX7_readOfCell 107 = .ok (.istore 5, 2) := by decide +kernel
theorem dX7_readOfCell_109 : decode cX7_readOfCell 109 = .ok (.aload_n 0, 1) := by decide +kernel
theorem dX7_readOfCell_110 : decode cX7_readOfCell 110 = .ok (.getfield 9, 3) := by decide +kernel
theorem dX7_readOfCell_113 : decode cX7_readOfCell 113 = .ok (.invokevirtual 109, 3) := by decide +kernel
theorem dX7_readOfCell_116 : decode cX7_readOfCell 116 = .ok (.ifCond .eq 30, 3) := by decide +kernel
theorem dX7_readOfCell_119 : decode cX7_readOfCell 119 = .ok (.aload_n 0, 1) := by decide +kernel
theorem dX7_readOfCell_12 : decode cX7_readOfCell 12 = .ok (.iconst 1, 1) := by decide +kernel
theorem dX7_readOfCell_120 : decode cX7_readOfCell 120 = .ok (.getfield 15, 3) := by decide +kernel
theorem dX7_readOfCell_123 : decode cX7_readOfCell 123 = .ok (.iload_n 2, 1) := by decide +kernel
theorem dX7_readOfCell_124 : decode cX7_readOfCell 124 = .ok (.iload_n 3, 1) := by decide +kernel
theorem dX7_readOfCell_125 : decode cX7_readOfCell 125 = .ok (.iload 4, 2) := by decide +kernel
theorem dX7_readOfCell_127 : decode cX7_readOfCell 127 = .ok (.iload 5, 2) := by decide +kernel
theorem dX7_readOfCell_129 : decode cX7_readOfCell 129 = .ok (.invokevirtual 135, 3) := by decide +kernel
theorem dX7_readOfCell_13 : decode cX7_readOfCell 13 = .ok (.isub, 1) := by decide +kernel
theorem dX7_readOfCell_132 : decode cX7_readOfCell 132 = .ok (.aload_n 0, 1) := by decide +kernel
theorem dX7_readOfCell_133 : decode cX7_readOfCell 133 = .ok (.getfield 15, 3) := by decide +kernel
theorem dX7_readOfCell_136 : decode cX7_readOfCell 136 = .ok (.aload_n 0, 1) := by decide +kernel
theorem dX7_readOfCell_137 : decode cX7_readOfCell 137 = .ok (.getfield 15, 3) := by decide +kernel
theorem dX7_readOfCell_14 : decode cX7_readOfCell 14 = .ok (.invokevirtual 105, 3) := by decide +kernel
theorem dX7_readOfCell_140 : decode cX7_readOfCell 140 = .ok (.getfield 68, 3) := by decide +kernel
theorem dX7_readOfCell_143 : decode cX7_readOfCell 143 = .ok (.putfield 139, 3) := by decide +kernel
theorem dX7_readOfCell_146 : decode cX7_readOfCell 146 = .ok (.return_, 1) := by decide +kernel
theorem dX7_readOfCell_17 : decode cX7_readOfCell 17 = .ok (.istore_n 2, 1) := by decide +kernel
theorem dX7_readOfCell_18 : decode cX7_readOfCell 18 = .ok (.aload_n 0, 1) := by decide +kernel
theorem dX7_readOfCell_19 : decode cX7_readOfCell 19 = .ok (.getfield 9, 3) := by decide +kernel
theorem dX7_readOfCell_22 : decode cX7_readOfCell 22 = .ok (.iconst 0, 1) := by decide +kernel
theorem dX7_readOfCell_23 : decode cX7_readOfCell 23 = .ok (.aload_n 0, 1) := by decide +kernel
theorem dX7_readOfCell_24 : decode cX7_readOfCell 24 = .ok (.getfield 15, 3) := by decide +kernel
theorem dX7_readOfCell_27 : decode cX7_readOfCell 27 = .ok (.getfield 115, 3) := by decide +kernel
theorem dX7_readOfCell_30 : decode cX7_readOfCell 30 = .ok (.iconst 1, 1) := by decide +kernel
theorem dX7_readOfCell_31 : decode cX7_readOfCell 31 = .ok (.isub, 1) := by decide +kernel
theorem dX7_readOfCell_32 : decode cX7_readOfCell 32 = .ok (.invokevirtual 105, 3) := by decide +kernel
theorem dX7_readOfCell_35 : decode cX7_readOfCell 35 = .ok (.istore_n 3, 1) := by decide +kernel
theorem dX7_readOfCell_36 : decode cX7_readOfCell 36 = .ok (.aload_n 1, 1) := by decide +kernel
theorem dX7_readOfCell_37 : decode cX7_readOfCell 37 = .ok (.getstatic 125, 3) := by decide +kernel
theorem dX7_readOfCell_4 : decode cX7_readOfCell 4 = .ok (.iconst 0, 1) := by decide +kernel
theorem dX7_readOfCell_40 : decode cX7_readOfCell 40 = .ok (.if_acmp .ne 45, 3) := by decide +kernel
theorem dX7_readOfCell_43 : decode cX7_readOfCell 43 = .ok (.aload_n 0, 1) := by decide +kernel
theorem dX7_readOfCell_44 : decode cX7_readOfCell 44 = .ok (.getfield 9, 3) := by decide +kernel
theorem dX7_readOfCell_47 : decode cX7_readOfCell 47 = .ok (.iconst 0, 1) := by decide +kernel
theorem dX7_readOfCell_48 : decode cX7_readOfCell 48 = .ok (.bipush 99, 2) := by decide +kernel
theorem dX7_readOfCell_5 : decode cX7_readOfCell 5 = .ok (.aload_n 0, 1) := by decide +kernel
theorem dX7_readOfCell_50 : decode cX7_readOfCell 50 = .ok (.invokevirtual 105, 3) := by decide +kernel
theorem dX7_readOfCell_53 : decode cX7_readOfCell 53 = .ok (.istore 4, 2) := by decide +kernel
theorem dX7_readOfCell_55 : decode cX7_readOfCell 55 = .ok (.aload_n 0, 1) := by decide +kernel
theorem dX7_readOfCell_56 : decode cX7_readOfCell 56 = .ok (.getfield 9, 3) := by decide +kernel
theorem dX7_readOfCell_59 : decode cX7_readOfCell 59 = .ok (.invokevirtual 109, 3) := by decide +kernel
theorem dX7_readOfCell_6 : decode cX7_readOfCell 6 = .ok (.getfield 15, 3) := by decide +kernel
theorem dX7_readOfCell_62 : decode cX7_readOfCell 62 = .ok (.ifCond .eq 22, 3) := by decide +kernel
theorem dX7_readOfCell_65 : decode cX7_readOfCell 65 = .ok (.aload_n 0, 1) := by decide +kernel
theorem dX7_readOfCell_66 : decode cX7_readOfCell 66 = .ok (.getfield 15, 3) := by decide +kernel
theorem dX7_readOfCell_69 : decode cX7_readOfCell 69 = .ok (.getfield 128, 3) := by decide +kernel
theorem dX7_readOfCell_72 : decode cX7_readOfCell 72 = .ok (.aload_n 0, 1) := by decide +kernel
theorem dX7_readOfCell_73 : decode cX7_readOfCell 73 = .ok (.getfield 15, 3) := by decide +kernel
theorem dX7_readOfCell_76 : decode cX7_readOfCell 76 = .ok (.iload_n 2, 1) := by decide +kernel
theorem dX7_readOfCell_77 : decode cX7_readOfCell 77 = .ok (.iload_n 3, 1) := by decide +kernel
theorem dX7_readOfCell_78 : decode cX7_readOfCell 78 = .ok (.invokevirtual 132, 3) := by decide +kernel
theorem dX7_readOfCell_81 : decode cX7_readOfCell 81 = .ok (.iload 4, 2) := by decide +kernel
theorem dX7_readOfCell_83 : decode cX7_readOfCell 83 = .ok (.iastore, 1) := by decide +kernel
theorem dX7_readOfCell_84 : decode cX7_readOfCell 84 = .ok (.return_, 1) := by decide +kernel
theorem dX7_readOfCell_85 : decode cX7_readOfCell 85 = .ok (.aload_n 0, 1) := by decide +kernel
theorem dX7_readOfCell_86 : decode cX7_readOfCell 86 = .ok (.getfield 9, 3) := by decide +kernel
theorem dX7_readOfCell_89 : decode cX7_readOfCell 89 = .ok (.iconst 1, 1) := by decide +kernel
theorem dX7_readOfCell_9 : decode cX7_readOfCell 9 = .ok (.getfield 112, 3) := by decide +kernel
theorem dX7_readOfCell_90 : decode cX7_readOfCell 90 = .ok (.bipush 99, 2) := by decide +kernel
theorem dX7_readOfCell_92 : decode cX7_readOfCell 92 = .ok (.invokevirtual 105, 3) := by decide +kernel
theorem dX7_readOfCell_95 : decode cX7_readOfCell 95 = .ok (.istore 4, 2) := by decide +kernel
theorem dX7_readOfCell_97 : decode cX7_readOfCell 97 = .ok (.aload_n 0, 1) := by decide +kernel
theorem dX7_readOfCell_98 : decode cX7_readOfCell 98 = .ok (.getfield 9, 3) := by decide +kernel
theorem dX7_readPerson_0 : decode cX7_readPerson 0 = .ok (.aload_n 0, 1) := by decide +kernel
theorem dX7_readPerson_1 : decode cX7_readPerson 1 = .ok (.getfield 9, 3) := by decide +kernel
theorem dX7_readPerson_12 : decode cX7_readPerson 12 = .ok (.iconst 1, 1) := by decide +kernel
theorem dX7_readPerson_13 : decode cX7_readPerson 13 = .ok (.isub, 1) := by decide +kernel
theorem dX7_readPerson_14 : decode cX7_readPerson 14 = .ok (.invokevirtual 105, 3) := by decide +kernel
theorem dX7_readPerson_17 : decode cX7_readPerson 17 = .ok (.istore_n 1, 1) := by decide +kernel
theorem dX7_readPerson_18 : decode cX7_readPerson 18 = .ok (.aload_n 0, 1) := by decide +kernel
theorem dX7_readPerson_19 : decode cX7_readPerson 19 = .ok (.getfield 9, 3) := by decide +kernel
theorem dX7_readPerson_22 : decode cX7_readPerson 22 = .ok (.iconst 0, 1) := by decide +kernel
theorem dX7_readPerson_23 : decode cX7_readPerson 23 = .ok (.bipush 19, 2) := by decide +kernel
theorem dX7_readPerson_25 : decode cX7_readPerson 25 = .ok (.invokevirtual 105, 3) := by decide +kernel
theorem dX7_readPerson_28 : decode cX7_readPerson 28 = .ok (.istore_n 2, 1) := by decide +kernel
theorem dX7_readPerson_29 : decode cX7_readPerson 29 = .ok (.aload_n 0, 1) := by decide +kernel
theorem dX7_readPerson_30 : decode cX7_readPerson 30 = .ok (.getfield 9, 3) := by decide +kernel
theorem dX7_readPerson_33 : decode cX7_readPerson 33 = .ok (.invokevirtual 109, 3) := by decide +kernel
theorem dX7_readPerson_36 : decode cX7_readPerson 36 = .ok (.ifCond .eq 12, 3) := by decide +kernel
theorem dX7_readPerson_39 : decode cX7_readPerson 39 = .ok (.aload_n 0, 1) := by decide +kernel
theorem dX7_readPerson_4 : decode cX7_readPerson 4 = .ok (.iconst 0, 1) := by decide +kernel
theorem dX7_readPerson_40 : decode cX7_readPerson 40 = .ok (.getfield 15, 3) := by decide +kernel
theorem dX7_readPerson_43 : decode cX7_readPerson 43 = .ok (.iload_n 1, 1) := by decide +kernel
theorem dX7_readPerson_44 : decode cX7_readPerson 44 = .ok (.iload_n 2, 1) := by decide +kernel
theorem dX7_readPerson_45 : decode cX7_readPerson 45 = .ok (.invokevirtual 118, 3) := by decide +kernel
theorem dX7_readPerson_48 : decode cX7_readPerson 48 = .ok (.return_, 1) := by decide +kernel
theorem dX7_readPerson_5 : decode cX7_readPerson 5 = .ok (.aload_n 0, 1) := by decide +kernel
theorem dX7_readPerson_6 : decode cX7_readPerson 6 = .ok (.getfield 15, 3) := by decide +kernel
theorem dX7_readPerson_9 : decode cX7_readPerson 9 = .ok (.getfield 112, 3) := by decide +kernel
theorem dX7_readShelter_0 : decode cX7_readShelter 0 = .ok (.aload_n 0, 1) := by decide +kernel
theorem dX7_readShelter_1 : decode cX7_readShelter 1 = .ok (.getfield 9, 3) := by decide +kernel
theorem dX7_readShelter_12 : decode cX7_readShelter 12 = .ok (.iconst 1, 1) := by decide +kernel
theorem dX7_readShelter_13 : decode cX7_readShelter 13 = .ok (.isub, 1) := by decide +kernel
theorem dX7_readShelter_14 : decode cX7_readShelter 14 = .ok (.invokevirtual 105, 3) := by decide +kernel
theorem dX7_readShelter_17 : decode cX7_readShelter 17 = .ok (.istore_n 1, 1) := by decide +kernel
theorem dX7_readShelter_18 : decode cX7_readShelter 18 = .ok (.aload_n 0, 1) := by decide +kernel
theorem dX7_readShelter_19 : decode cX7_readShelter 19 = .ok (.getfield 9, 3) := by decide +kernel
theorem dX7_readShelter_22 : decode cX7_readShelter 22 = .ok (.iload_n 1, 1) := by decide +kernel
theorem dX7_readShelter_23 : decode cX7_readShelter 23 = .ok (.aload_n 0, 1) := by decide +kernel
theorem dX7_readShelter_24 : decode cX7_readShelter 24 = .ok (.getfield 15, 3) := by decide +kernel
theorem dX7_readShelter_27 : decode cX7_readShelter 27 = .ok (.getfield 112, 3) := by decide +kernel
theorem dX7_readShelter_30 : decode cX7_readShelter 30 = .ok (.iconst 1, 1) := by decide +kernel
theorem dX7_readShelter_31 : decode cX7_readShelter 31 = .ok (.isub, 1) := by decide +kernel
theorem dX7_readShelter_32 : decode cX7_readShelter 32 = .ok (.invokevirtual 105, 3) := by decide +kernel
theorem dX7_readShelter_35 : decode cX7_readShelter 35 = .ok (.istore_n 2, 1) := by decide +kernel
theorem dX7_readShelter_36 : decode cX7_readShelter 36 = .ok (.aload_n 0, 1) := by decide +kernel
theorem dX7_readShelter_37 : decode cX7_readShelter 37 = .ok (.getfield 9, 3) := by decide +kernel
theorem dX7_readShelter_4 : decode cX7_readShelter 4 = .ok (.iconst 0, 1) := by decide +kernel
theorem dX7_readShelter_40 : decode cX7_readShelter 40 = .ok (.invokevirtual 109, 3) := by decide +kernel
theorem dX7_readShelter_43 : decode cX7_readShelter 43 = .ok (.ifCond .eq 12, 3) := by decide +kernel
theorem dX7_readShelter_46 : decode cX7_readShelter 46 = .ok (.aload_n 0, 1) := by decide +kernel
theorem dX7_readShelter_47 : decode cX7_readShelter 47 = .ok (.getfield 15, 3) := by decide +kernel
theorem dX7_readShelter_5 : decode cX7_readShelter 5 = .ok (.aload_n 0, 1) := by decide +kernel
theorem dX7_readShelter_50 : decode cX7_readShelter 50 = .ok (.iload_n 1, 1) := by decide +kernel
theorem dX7_readShelter_51 : decode cX7_readShelter 51 = .ok (.iload_n 2, 1) := by decide +kernel
theorem dX7_readShelter_52 : decode cX7_readShelter 52 = .ok (.invokevirtual 122, 3) := by decide +kernel
theorem dX7_readShelter_55 : decode cX7_readShelter 55 = .ok (.return_, 1) := by decide +kernel
theorem dX7_readShelter_6 : decode cX7_readShelter 6 = .ok (.getfield 15, 3) := by decide +kernel
theorem dX7_readShelter_9 : decode cX7_readShelter 9 = .ok (.getfield 112, 3) := by decide +kernel
theorem dX7_readSize_0 : decode cX7_readSize 0 = .ok (.aload_n 0, 1) := by decide +kernel
theorem dX7_readSize_1 : decode cX7_readSize 1 = .ok (.getfield 9, 3) := by decide +kernel
theorem dX7_readSize_10 : decode cX7_readSize 10 = .ok (.istore_n 1, 1) := by decide +kernel
theorem dX7_readSize_11 : decode cX7_readSize 11 = .ok (.aload_n 0, 1) := by decide +kernel
theorem dX7_readSize_12 : decode cX7_readSize 12 = .ok (.getfield 9, 3) := by decide +kernel
theorem dX7_readSize_15 : decode cX7_readSize 15 = .ok (.iconst 1, 1) := by decide +kernel
theorem dX7_readSize_16 : decode cX7_readSize 16 = .ok (.bipush 6, 2) := by decide +kernel
theorem dX7_readSize_18 : decode cX7_readSize 18 = .ok (.invokevirtual 105, 3) := by decide +kernel
theorem dX7_readSize_21 : decode cX7_readSize 21 = .ok (.istore_n 2, 1) := by decide +kernel
theorem dX7_readSize_22 : decode cX7_readSize 22 = .ok (.aload_n 0, 1) := by decide +kernel
theorem dX7_readSize_23 : decode cX7_readSize 23 = .ok (.getfield 9, 3) := by decide +kernel
theorem dX7_readSize_26 : decode cX7_readSize 26 = .ok (.invokevirtual 109, 3) := by decide +kernel
theorem dX7_readSize_29 : decode cX7_readSize 29 = .ok (.ifCond .eq 19, 3) := by decide +kernel
theorem dX7_readSize_32 : decode cX7_readSize 32 = .ok (.aload_n 0, 1) := by decide +kernel
theorem dX7_readSize_33 : decode cX7_readSize 33 = .ok (.getfield 15, 3) := by decide +kernel
theorem dX7_readSize_36 : decode cX7_readSize 36 = .ok (.iload_n 1, 1) := by decide +kernel
theorem dX7_readSize_37 : decode cX7_readSize 37 = .ok (.putfield 112, 3) := by decide +kernel
theorem dX7_readSize_4 : decode cX7_readSize 4 = .ok (.iconst 2, 1) := by decide +kernel
theorem dX7_readSize_40 : decode cX7_readSize 40 = .ok (.aload_n 0, 1) := by decide +kernel
theorem dX7_readSize_41 : decode cX7_readSize 41 = .ok (.getfield 15, 3) := by decide +kernel
theorem dX7_readSize_44 : decode cX7_readSize 44 = .ok (.iload_n 2, 1) := by decide +kernel
theorem dX7_readSize_45 : decode cX7_readSize 45 = .ok (.putfield 115, 3) := by decide +kernel
theorem dX7_readSize_48 : decode cX7_readSize 48 = .ok (.return_, 1) := by decide +kernel
theorem dX7_readSize_5 : decode cX7_readSize 5 = .ok (.bipush 16, 2) := by decide +kernel
theorem dX7_readSize_7 : decode cX7_readSize 7 = .ok (.invokevirtual 105, 3) := by decide +kernel
theorem dX7_readWork_0 : decode cX7_readWork 0 = .ok (.iconst 0, 1) := by decide +kernel
theorem dX7_readWork_1 : decode cX7_readWork 1 = .ok (.istore_n 3, 1) := by decide +kernel
theorem dX7_readWork_10 : decode cX7_readWork 10 = .ok (.getfield 9, 3) := by decide +kernel
theorem dX7_readWork_100 : decode cX7_readWork 100 = .ok (.aload_n 0, 1) := by decide +kernel
theorem dX7_readWork_101 : decode cX7_readWork 101 = .ok (.getfield 9, 3) := by decide +kernel
theorem dX7_readWork_104 : decode cX7_readWork 104 = .ok (.invokevirtual 109, 3) := by decide +kernel
theorem dX7_readWork_107 : decode cX7_readWork 107 = .ok (.ifCond .eq 17, 3) := by decide +kernel
theorem dX7_readWork_110 : decode cX7_readWork 110 = .ok (.aload_n 0, 1) := by decide +kernel
theorem dX7_readWork_111 : decode cX7_readWork 111 = .ok (.getfield 15, 3) := by decide +kernel
theorem dX7_readWork_114 : decode cX7_readWork 114 = .ok (.iload_n 1, 1) := by decide +kernel
theorem dX7_readWork_115 : decode cX7_readWork 115 = .ok (.iload 5, 2) := by decide +kernel
theorem dX7_readWork_117 : decode cX7_readWork 117 = .ok (.iload_n 2, 1) := by decide +kernel
theorem dX7_readWork_118 : decode cX7_readWork 118 = .ok (.iload_n 3, 1) := by decide +kernel
theorem dX7_readWork_119 : decode cX7_readWork 119 = .ok (.iload 4, 2) := by decide +kernel
theorem dX7_readWork_121 : decode cX7_readWork 121 = .ok (.invokevirtual 142, 3) := by decide +kernel
theorem dX7_readWork_124 : decode cX7_readWork 124 = .ok (.return_, 1) := by decide +kernel
theorem dX7_readWork_13 : decode cX7_readWork 13 = .ok (.iconst 0, 1) := by decide +kernel
theorem dX7_readWork_14 : decode cX7_readWork 14 = .ok (.aload_n 0, 1) := by decide +kernel
theorem dX7_readWork_15 : decode cX7_readWork 15 = .ok (.getfield 15, 3) := by decide +kernel
theorem dX7_readWork_18 : decode cX7_readWork 18 = .ok (.getfield 68, 3) := by decide +kernel
theorem dX7_readWork_2 : decode cX7_readWork 2 = .ok (.iconst 0, 1) := by decide +kernel
theorem dX7_readWork_21 : decode cX7_readWork 21 = .ok (.iconst 1, 1) := by decide +kernel
theorem dX7_readWork_22 : decode cX7_readWork 22 = .ok (.isub, 1) := by decide +kernel
theorem dX7_readWork_23 : decode cX7_readWork 23 = .ok (.invokevirtual 105, 3) := by decide +kernel
theorem dX7_readWork_26 : decode cX7_readWork 26 = .ok (.istore_n 2, 1) := by decide +kernel
theorem dX7_readWork_27 : decode cX7_readWork 27 = .ok (.goto 61, 3) := by decide +kernel
theorem dX7_readWork_3 : decode cX7_readWork 3 = .ok (.istore 4, 2) := by decide +kernel
theorem dX7_readWork_30 : decode cX7_readWork 30 = .ok (.aload_n 0, 1) := by decide +kernel
theorem dX7_readWork_31 : decode cX7_readWork 31 = .ok (.getfield 9, 3) := by decide +kernel
theorem dX7_readWork_34 : decode cX7_readWork 34 = .ok (.iconst 0, 1) := by decide +kernel
theorem dX7_readWork_35 : decode cX7_readWork 35 = .ok (.aload_n 0, 1) := by decide +kernel
theorem dX7_readWork_36 : decode cX7_readWork 36 = .ok (.getfield 15, 3) := by decide +kernel
theorem dX7_readWork_39 : decode cX7_readWork 39 = .ok (.getfield 112, 3) := by decide +kernel
theorem dX7_readWork_42 : decode cX7_readWork 42 = .ok (.iconst 1, 1) := by decide +kernel
theorem dX7_readWork_43 : decode cX7_readWork 43 = .ok (.isub, 1) := by decide +kernel
theorem dX7_readWork_44 : decode cX7_readWork 44 = .ok (.invokevirtual 105, 3) := by decide +kernel
theorem dX7_readWork_47 : decode cX7_readWork 47 = .ok (.istore_n 2, 1) := by decide +kernel
theorem dX7_readWork_48 : decode cX7_readWork 48 = .ok (.aload_n 0, 1) := by decide +kernel
theorem dX7_readWork_49 : decode cX7_readWork 49 = .ok (.getfield 9, 3) := by decide +kernel
theorem dX7_readWork_5 : decode cX7_readWork 5 = .ok (.iload_n 1, 1) := by decide +kernel
theorem dX7_readWork_52 : decode cX7_readWork 52 = .ok (.iconst 0, 1) := by decide +kernel
theorem dX7_readWork_53 : decode cX7_readWork 53 = .ok (.aload_n 0, 1) := by decide +kernel
theorem dX7_readWork_54 : decode cX7_readWork 54 = .ok (.getfield 15, 3) := by decide +kernel
theorem dX7_readWork_57 : decode cX7_readWork 57 = .ok (.getfield 115, 3) := by decide +kernel
theorem dX7_readWork_6 : decode cX7_readWork 6 = .ok (.ifCond .ne 24, 3) := by decide +kernel
theorem dX7_readWork_60 : decode cX7_readWork 60 = .ok (.iconst 1, 1) := by decide +kernel
theorem dX7_readWork_61 : decode cX7_readWork 61 = .ok (.isub, 1) := by decide +kernel
theorem dX7_readWork_62 : decode cX7_readWork 62 = .ok (.invokevirtual 105, 3) := by decide +kernel
theorem dX7_readWork_65 : decode cX7_readWork 65 = .ok (.istore_n 3, 1) := by decide +kernel
theorem dX7_readWork_66 : decode cX7_readWork 66 = .ok (.aload_n 0, 1) := by decide +kernel
theorem dX7_readWork_67 : decode cX7_readWork 67 = .ok (.getfield 9, 3) := by decide +kernel
theorem dX7_readWork_70 : decode cX7_readWork 70 = .ok (.iconst 1, 1) := by decide +kernel
theorem dX7_readWork_71 : decode cX7_readWork 71 = .ok (.iload_n 1, 1) := by decide +kernel
theorem dX7_readWork_72 : decode cX7_readWork 72 = .ok (.iconst 3, 1) := by decide +kernel
theorem dX7_readWork_73 : decode cX7_readWork 73 = .ok (.if_icmp .ne 8, 3) := by decide +kernel
theorem dX7_readWork_76 : decode cX7_readWork 76 = .ok (.bipush 99, 2) := by decide +kernel
theorem dX7_readWork_78 : decode cX7_readWork 78 = .ok (.goto 5, 3) := by decide +kernel
theorem dX7_readWork_81 : decode cX7_readWork 81 = .ok (.bipush 50, 2) := by decide +kernel
theorem dX7_readWork_83 : decode cX7_readWork 83 = .ok (.invokevirtual 105, 3) := by decide +kernel
theorem dX7_readWork_86 : decode cX7_readWork 86 = .ok (.istore 4, 2) := by decide +kernel
theorem dX7_readWork_88 : decode cX7_readWork 88 = .ok (.aload_n 0, 1) := by decide +kernel
theorem dX7_readWork_89 : decode cX7_readWork 89 = .ok (.getfield 9, 3) := by decide +kernel
theorem dX7_readWork_9 : decode cX7_readWork 9 = .ok (.aload_n 0, 1) := by decide +kernel
theorem dX7_readWork_92 : decode cX7_readWork 92 = .ok (.iconst 1, 1) := by decide +kernel
theorem dX7_readWork_93 : decode cX7_readWork 93 = .ok (.bipush 99, 2) := by decide +kernel
theorem dX7_readWork_95 : decode cX7_readWork 95 = .ok (.invokevirtual 105, 3) := by decide +kernel
theorem dX7_readWork_98 : decode cX7_readWork 98 = .ok (.istore 5, 2) := by decide +kernel