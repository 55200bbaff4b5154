section
theorem dX7_readOfCell_0 : decode cX7_readOfCell 0 = .ok (.aload_n 0, 1) := by decide +kernel
theorem dX7_readOfCell_1 : decode cX7_readOfCell 1 = .ok (.getfield 9, 3) := by decide +kernel
theorem dX7_readOfCell_101 : decode cX7_readOfCell 101 = .ok (.iconst 0, 1) := by decide +kernel
theorem dX7_readOfCell_102 : decode cX7_readOfCell 102 = .ok (.bipush 16, 2) := by decide +kernel
theorem dX7_readOfCell_104 : decode cX7_readOfCell 104 = .ok (.invokevirtual 105, 3) := by decide +kernel
theorem dX7_readOfCell_107 : decode cX7_readOfCell 107 = .ok (.istore 5, 2) := by decide +kernel
theorem dX7_readOfCell_109 : decode cX7_readOfCell 109 = .ok (.aload_n 0, 1) := by decide +kernel
theorem dX7_readOfCell_110 : decode cX7_readOfCell 110 = .ok (.getfield 9, 3) := by decide +kernel
theorem dX7_readOfCell_113 : decode cX7_readOfCell 113 = .ok (.invokevirtual 109, 3) := by decide +kernel
theorem dX7_readOfCell_116 : decode cX7_readOfCell 116 = .ok (.ifCond .eq 30, 3) := by decide +kernel
theorem dX7_readOfCell_119 : decode cX7_readOfCell 119 = .ok (.aload_n 0, 1) := by decide +kernel
theorem dX7_readOfCell_12 : decode cX7_readOfCell 12 = .ok (.iconst 1, 1) := by decide +kernel
theorem dX7_readOfCell_120 : decode cX7_readOfCell 120 = .ok (.getfield 15, 3) := by decide +kernel
theorem dX7_readOfCell_123 : decode cX7_readOfCell 123 = .ok (.iload_n 2, 1) := by decide +kernel
theorem dX7_readOfCell_124 : decode cX7_readOfCell 124 = .ok (.iload_n 3, 1) := by decide +kernel
theorem dX7_readOfCell_125 : decode cX7_readOfCell 125 = .ok (.iload 4, 2) := by decide +kernel
theorem dX7_readOfCell_127 : decode cX7_readOfCell 127 = .ok (.iload 5, 2) := by decide +kernel
theorem dX7_readOfCell_129 : decode cX7_readOfCell 129 = .ok (.invokevirtual 135, 3) := by decide +kernel
theorem dX7_readOfCell_13 : decode cX7_readOfCell 13 = .ok (.isub, 1) := by decide +kernel
theorem dX7_readOfCell_132 : decode cX7_readOfCell 132 = .ok (.aload_n 0, 1) := by decide +kernel
theorem dX7_readOfCell_133 : decode cX7_readOfCell 133 = .ok (.getfield 15, 3) := by decide +kernel
theorem dX7_readOfCell_136 : decode cX7_readOfCell 136 = .ok (.aload_n 0, 1) := by decide +kernel
theorem dX7_readOfCell_137 : decode cX7_readOfCell 137 = .ok (.getfield 15, 3) := by decide +kernel
theorem dX7_readOfCell_14 : decode cX7_readOfCell 14 = .ok (.invokevirtual 105, 3) := by decide +kernel
theorem dX7_readOfCell_140 : decode cX7_readOfCell 140 = .ok (.getfield 68, 3) := by decide +kernel
theorem dX7_readOfCell_143 : decode cX7_readOfCell 143 = .ok (.putfield 139, 3) := by decide +kernel
theorem dX7_readOfCell_146 : decode cX7_readOfCell 146 = .ok (.return_, 1) := by decide +kernel
theorem dX7_readOfCell_17 : decode cX7_readOfCell 17 = .ok (.istore_n 2, 1) := by decide +kernel
theorem dX7_readOfCell_18 : decode cX7_readOfCell 18 = .ok (.aload_n 0, 1) := by decide +kernel
theorem dX7_readOfCell_19 : decode cX7_readOfCell 19 = .ok (.getfield 9, 3) := by decide +kernel
theorem dX7_readOfCell_22 : decode cX7_readOfCell 22 = .ok (.iconst 0, 1) := by decide +kernel
theorem dX7_readOfCell_23 : decode cX7_readOfCell 23 = .ok (.aload_n 0, 1) := by decide +kernel
theorem dX7_readOfCell_24 : decode cX7_readOfCell 24 = .ok (.getfield 15, 3) := by decide +kernel
theorem dX7_readOfCell_27 : decode cX7_readOfCell 27 = .ok (.getfield 115, 3) := by decide +kernel
theorem dX7_readOfCell_30 : decode cX7_readOfCell 30 = .ok (.iconst 1, 1) := by decide +kernel
theorem dX7_readOfCell_31 : decode cX7_readOfCell 31 = .ok (.isub, 1) := by decide +kernel
theorem dX7_readOfCell_32 : decode cX7_readOfCell 32 = .ok (.invokevirtual 105, 3) := by decide +kernel
theorem dX7_readOfCell_35 : decode cX7_readOfCell 35 = .ok (.istore_n 3, 1) := by decide +kernel
theorem dX7_readOfCell_36 : decode cX7_readOfCell 36 = .ok (.aload_n 1, 1) := by decide +kernel
theorem dX7_readOfCell_37 : decode cX7_readOfCell 37 = .ok (.getstatic 125, 3) := by decide +kernel
theorem dX7_readOfCell_4 : decode cX7_readOfCell 4 = .ok (.iconst 0, 1) := by decide +kernel
theorem dX7_readOfCell_40 : decode cX7_readOfCell 40 = .ok (.if_acmp .ne 45, 3) := by decide +kernel
theorem dX7_readOfCell_43 : decode cX7_readOfCell 43 = .ok (.aload_n 0, 1) := by decide +kernel
theorem dX7_readOfCell_44 : decode cX7_readOfCell 44 = .ok (.getfield 9, 3) := by decide +kernel
theorem dX7_readOfCell_47 : decode cX7_readOfCell 47 = .ok (.iconst 0, 1) := by decide +kernel
theorem dX7_readOfCell_48 : decode cX7_readOfCell 48 = .ok (.bipush 99, 2) := by decide +kernel
theorem dX7_readOfCell_5 : decode cX7_readOfCell 5 = .ok (.aload_n 0, 1) := by decide +kernel
theorem dX7_readOfCell_50 : decode cX7_readOfCell 50 = .ok (.invokevirtual 105, 3) := by decide +kernel
theorem dX7_readOfCell_53 : decode cX7_readOfCell 53 = .ok (.istore 4, 2) := by decide +kernel
theorem dX7_readOfCell_55 : decode cX7_readOfCell 55 = .ok (.aload_n 0, 1) := by decide +kernel
theorem dX7_readOfCell_56 : decode cX7_readOfCell 56 = .ok (.getfield 9, 3) := by decide +kernel
theorem dX7_readOfCell_59 : decode cX7_readOfCell 59 = .ok (.invokevirtual 109, 3) := by decide +kernel
theorem dX7_readOfCell_6 : decode cX7_readOfCell 6 = .ok (.getfield 15, 3) := by decide +kernel
theorem dX7_readOfCell_62 : decode cX7_readOfCell 62 = .ok (.ifCond .eq 22, 3) := by decide +kernel
theorem dX7_readOfCell_65 : decode cX7_readOfCell 65 = .ok (.aload_n 0, 1) := by decide +kernel
theorem dX7_readOfCell_66 : decode cX7_readOfCell 66 = .ok (.getfield 15, 3) := by decide +kernel
theorem dX7_readOfCell_69 : decode cX7_readOfCell 69 = .ok (.getfield 128, 3) := by decide +kernel
theorem dX7_readOfCell_72 : decode cX7_readOfCell 72 = .ok (.aload_n 0, 1) := by decide +kernel
theorem dX7_readOfCell_73 : decode cX7_readOfCell 73 = .ok (.getfield 15, 3) := by decide +kernel
theorem dX7_readOfCell_76 : decode cX7_readOfCell 76 = .ok (.iload_n 2, 1) := by decide +kernel
theorem dX7_readOfCell_77 : decode cX7_readOfCell 77 = .ok (.iload_n 3, 1) := by decide +kernel
theorem dX7_readOfCell_78 : decode cX7_readOfCell 78 = .ok (.invokevirtual 132, 3) := by decide +kernel
theorem dX7_readOfCell_81 : decode cX7_readOfCell 81 = .ok (.iload 4, 2) := by decide +kernel
theorem dX7_readOfCell_83 : decode cX7_readOfCell 83 = .ok (.iastore, 1) := by decide +kernel
theorem dX7_readOfCell_84 : decode cX7_readOfCell 84 = .ok (.return_, 1) := by decide +kernel
theorem dX7_readOfCell_85 : decode cX7_readOfCell 85 = .ok (.aload_n 0, 1) := by decide +kernel
theorem dX7_readOfCell_86 : decode cX7_readOfCell 86 = .ok (.getfield 9, 3) := by decide +kernel
theorem dX7_readOfCell_89 : decode cX7_readOfCell 89 = .ok (.iconst 1, 1) := by decide +kernel
theorem dX7_readOfCell_9 : decode cX7_readOfCell 9 = .ok (.getfield 112, 3) := by decide +kernel
theorem dX7_readOfCell_90 : decode cX7_readOfCell 90 = .ok (.bipush 99, 2) := by decide +kernel
theorem dX7_readOfCell_92 : decode cX7_readOfCell 92 = .ok (.invokevirtual 105, 3) := by decide +kernel
theorem dX7_readOfCell_95 : decode cX7_readOfCell 95 = .ok (.istore 4, 2) := by decide +kernel
theorem dX7_readOfCell_97 : decode cX7_readOfCell 97 = .ok (.aload_n 0, 1) := by decide +kernel
theorem dX7_readOfCell_98 : decode cX7_readOfCell 98 = .ok (.getfield 9, 3) := by decide +kernel
theorem dX7_readPerson_0 : decode cX7_readPerson 0 = .ok (.aload_n 0, 1) := by decide +kernel
theorem dX7_readPerson_1 : decode cX7_readPerson 1 = .ok (.getfield 9, 3) := by decide +kernel
theorem dX7_readPerson_12 : decode cX7_readPerson 12 = .ok (.iconst 1, 1) := by decide +kernel
theorem dX7_readPerson_13 : decode cX7_readPerson 13 = .ok (.isub, 1) := by decide +kernel
theorem dX7_readPerson_14 : decode cX7_readPerson 14 = .ok (.invokevirtual 105, 3) := by decide +kernel
theorem dX7_readPerson_17 : decode cX7_readPerson 17 = .ok (.istore_n 1, 1) := by decide +kernel
theorem dX7_readPerson_18 : decode cX7_readPerson 18 = .ok (.aload_n 0, 1) := by decide +kernel
theorem dX7_readPerson_19 : decode cX7_readPerson 19 = .ok (.getfield 9, 3) := by decide +kernel
theorem dX7_readPerson_22 : decode cX7_readPerson 22 = .ok (.iconst 0, 1) := by decide +kernel
theorem dX7_readPerson_23 : decode cX7_readPerson 23 = .ok (.bipush 19, 2) := by decide +kernel
theorem dX7_readPerson_25 : decode cX7_readPerson 25 = .ok (.invokevirtual 105, 3) := by decide +kernel
theorem dX7_readPerson_28 : decode cX7_readPerson 28 = .ok (.istore_n 2, 1) := by decide +kernel
theorem dX7_readPerson_29 : decode cX7_readPerson 29 = .ok (.aload_n 0, 1) := by decide +kernel
theorem dX7_readPerson_30 : decode cX7_readPerson 30 = .ok (.getfield 9, 3) := by decide +kernel
theorem dX7_readPerson_33 : decode cX7_readPerson 33 = .ok (.invokevirtual 109, 3) := by decide +kernel
theorem dX7_readPerson_36 : decode cX7_readPerson 36 = .ok (.ifCond .eq 12, 3) := by decide +kernel
theorem dX7_readPerson_39 : decode cX7_readPerson 39 = .ok (.aload_n 0, 1) := by decide +kernel
theorem dX7_readPerson_4 : decode cX7_readPerson 4 = .ok (.iconst 0, 1) := by decide +kernel
theorem dX7_readPerson_40 : decode cX7_readPerson 40 = .ok (.getfield 15, 3) := by decide +kernel
theorem dX7_readPerson_43 : decode cX7_readPerson 43 = .ok (.iload_n 1, 1) := by decide +kernel
theorem dX7_readPerson_44 : decode cX7_readPerson 44 = .ok (.iload_n 2, 1) := by decide +kernel
theorem dX7_readPerson_45 : decode cX7_readPerson 45 = .ok (.invokevirtual 118, 3) := by decide +kernel
theorem dX7_readPerson_48 : decode cX7_readPerson 48 = .ok (.return_, 1) := by decide +kernel
theorem dX7_readPerson_5 : decode cX7_readPerson 5 = .ok (.aload_n 0, 1) := by decide +kernel
theorem dX7_readPerson_6 : decode cX7_readPerson 6 = .ok (.getfield 15, 3) := by decide +kernel
theorem dX7_readPerson_9 : decode cX7_readPerson 9 = .ok (.getfield 112, 3) := by decide +kernel
theorem dX7_readShelter_0 : decode cX7_readShelter 0 = .ok (.aload_n 0, 1) := by decide +kernel
theorem dX7_readShelter_1 : decode cX7_readShelter 1 = .ok (.getfield 9, 3) := by decide +kernel
theorem dX7_readShelter_12 : decode cX7_readShelter 12 = .ok (.iconst 1, 1) := by decide +kernel
theorem dX7_readShelter_13 : decode cX7_readShelter 13 = .ok (.isub, 1) := by decide +kernel
theorem dX7_readShelter_14 : decode cX7_readShelter 14 = .ok (.invokevirtual 105, 3) := by decide +kernel
theorem dX7_readShelter_17 : decode cX7_readShelter 17 = .ok (.istore_n 1, 1) := by decide +kernel
theorem dX7_readShelter_18 : decode cX7_readShelter 18 = .ok (.aload_n 0, 1) := by decide +kernel
theorem dX7_readShelter_19 : decode cX7_readShelter 19 = .ok (.getfield 9, 3) := by decide +kernel
theorem dX7_readShelter_22 : decode cX7_readShelter 22 = .ok (.iload_n 1, 1) := by decide +kernel
theorem dX7_readShelter_23 : decode cX7_readShelter 23 = .ok (.aload_n 0, 1) := by decide +kernel
theorem dX7_readShelter_24 : decode cX7_readShelter 24 = .ok (.getfield 15, 3) := by decide +kernel
theorem dX7_readShelter_27 : decode cX7_readShelter 27 = .ok (.getfield 112, 3) := by decide +kernel
theorem dX7_readShelter_30 : decode cX7_readShelter 30 = .ok (.iconst 1, 1) := by decide +kernel
theorem dX7_readShelter_31 : decode cX7_readShelter 31 = .ok (.isub, 1) := by decide +kernel
theorem dX7_readShelter_32 : decode cX7_readShelter 32 = .ok (.invokevirtual 105, 3) := by decide +kernel
theorem dX7_readShelter_35 : decode cX7_readShelter 35 = .ok (.istore_n 2, 1) := by decide +kernel
theorem dX7_readShelter_36 : decode cX7_readShelter 36 = .ok (.aload_n 0, 1) := by decide +kernel
theorem dX7_readShelter_37 : decode cX7_readShelter 37 = .ok (.getfield 9, 3) := by decide +kernel
theorem dX7_readShelter_4 : decode cX7_readShelter 4 = .ok (.iconst 0, 1) := by decide +kernel
theorem dX7_readShelter_40 : decode cX7_readShelter 40 = .ok (.invokevirtual 109, 3) := by decide +kernel
theorem dX7_readShelter_43 : decode cX7_readShelter 43 = .ok (.ifCond .eq 12, 3) := by decide +kernel
theorem dX7_readShelter_46 : decode cX7_readShelter 46 = .ok (.aload_n 0, 1) := by decide +kernel
theorem dX7_readShelter_47 : decode cX7_readShelter 47 = .ok (.getfield 15, 3) := by decide +kernel
theorem dX7_readShelter_5 : decode cX7_readShelter 5 = .ok (.aload_n 0, 1) := by decide +kernel
theorem dX7_readShelter_50 : decode cX7_readShelter 50 = .ok (.iload_n 1, 1) := by decide +kernel
theorem dX7_readShelter_51 : decode cX7_readShelter 51 = .ok (.iload_n 2, 1) := by decide +kernel
theorem dX7_readShelter_52 : decode cX7_readShelter 52 = .ok (.invokevirtual 122, 3) := by decide +kernel
theorem dX7_readShelter_55 : decode cX7_readShelter 55 = .ok (.return_, 1) := by decide +kernel
theorem dX7_readShelter_6 : decode cX7_readShelter 6 = .ok (.getfield 15, 3) := by decide +kernel
theorem dX7_readShelter_9 : decode cX7_readShelter 9 = .ok (.getfield 112, 3) := by decide +kernel
theorem dX7_readSize_0 : decode cX7_readSize 0 = .ok (.aload_n 0, 1) := by decide +kernel
theorem dX7_readSize_1 : decode cX7_readSize 1 = .ok (.getfield 9, 3) := by decide +kernel
theorem dX7_readSize_10 : decode cX7_readSize 10 = .ok (.istore_n 1, 1) := by decide +kernel
theorem dX7_readSize_11 : decode cX7_readSize 11 = .ok (.aload_n 0, 1) := by decide +kernel
theorem dX7_readSize_12 : decode cX7_readSize 12 = .ok (.getfield 9, 3) := by decide +kernel
theorem dX7_readSize_15 : decode cX7_readSize 15 = .ok (.iconst 1, 1) := by decide +kernel
theorem dX7_readSize_16 : decode cX7_readSize 16 = .ok (.bipush 6, 2) := by decide +kernel
theorem dX7_readSize_18 : decode cX7_readSize 18 = .ok (.invokevirtual 105, 3) := by decide +kernel
theorem dX7_readSize_21 : decode cX7_readSize 21 = .ok (.istore_n 2, 1) := by decide +kernel
theorem dX7_readSize_22 : decode cX7_readSize 22 = .ok (.aload_n 0, 1) := by decide +kernel
theorem dX7_readSize_23 : decode cX7_readSize 23 = .ok (.getfield 9, 3) := by decide +kernel
theorem dX7_readSize_26 : decode cX7_readSize 26 = .ok (.invokevirtual 109, 3) := by decide +kernel
theorem dX7_readSize_29 : decode cX7_readSize 29 = .ok (.ifCond .eq 19, 3) := by decide +kernel
theorem dX7_readSize_32 : decode cX7_readSize 32 = .ok (.aload_n 0, 1) := by decide +kernel
theorem dX7_readSize_33 : decode cX7_readSize 33 = .ok (.getfield 15, 3) := by decide +kernel
theorem dX7_readSize_36 : decode cX7_readSize 36 = .ok (.iload_n 1, 1) := by decide +kernel
theorem dX7_readSize_37 : decode cX7_readSize 37 = .ok (.putfield 112, 3) := by decide +kernel
theorem dX7_readSize_4 : decode cX7_readSize 4 = .ok (.iconst 2, 1) := by decide +kernel
theorem dX7_readSize_40 : decode cX7_readSize 40 = .ok (.aload_n 0, 1) := by decide +kernel
theorem dX7_readSize_41 : decode cX7_readSize 41 = .ok (.getfield 15, 3) := by decide +kernel
theorem dX7_readSize_44 : decode cX7_readSize 44 = .ok (.iload_n 2, 1) := by decide +kernel
theorem dX7_readSize_45 : decode cX7_readSize 45 = .ok (.putfield 115, 3) := by decide +kernel
theorem dX7_readSize_48 : decode cX7_readSize 48 = .ok (.return_, 1) := by decide +kernel
theorem dX7_readSize_5 : decode cX7_readSize 5 = .ok (.bipush 16, 2) := by decide +kernel
theorem dX7_readSize_7 : decode cX7_readSize 7 = .ok (.invokevirtual 105, 3) := by decide +kernel
theorem dX7_readWork_0 : decode cX7_readWork 0 = .ok (.iconst 0, 1) := by decide +kernel
theorem dX7_readWork_1 : decode cX7_readWork 1 = .ok (.istore_n 3, 1) := by decide +kernel
theorem dX7_readWork_10 : decode cX7_readWork 10 = .ok (.getfield 9, 3) := by decide +kernel
theorem dX7_readWork_100 : decode cX7_readWork 100 = .ok (.aload_n 0, 1) := by decide +kernel
theorem dX7_readWork_101 : decode cX7_readWork 101 = .ok (.getfield 9, 3) := by decide +kernel
theorem dX7_readWork_104 : decode cX7_readWork 104 = .ok (.invokevirtual 109, 3) := by decide +kernel
theorem dX7_readWork_107 : decode cX7_readWork 107 = .ok (.ifCond .eq 17, 3) := by decide +kernel
theorem dX7_readWork_110 : decode cX7_readWork 110 = .ok (.aload_n 0, 1) := by decide +kernel
theorem dX7_readWork_111 : decode cX7_readWork 111 = .ok (.getfield 15, 3) := by decide +kernel
theorem dX7_readWork_114 : decode cX7_readWork 114 = .ok (.iload_n 1, 1) := by decide +kernel
theorem dX7_readWork_115 : decode cX7_readWork 115 = .ok (.iload 5, 2) := by decide +kernel
theorem dX7_readWork_117 : decode cX7_readWork 117 = .ok (.iload_n 2, 1) := by decide +kernel
theorem dX7_readWork_118 : decode cX7_readWork 118 = .ok (.iload_n 3, 1) := by decide +kernel
theorem dX7_readWork_119 : decode cX7_readWork 119 = .ok (.iload 4, 2) := by decide +kernel
theorem dX7_readWork_121 : decode cX7_readWork 121 = .ok (.invokevirtual 142, 3) := by decide +kernel
theorem dX7_readWork_124 : decode cX7_readWork 124 = .ok (.return_, 1) := by decide +kernel
theorem dX7_readWork_13 : decode cX7_readWork 13 = .ok (.iconst 0, 1) := by decide +kernel
theorem dX7_readWork_14 : decode cX7_readWork 14 = .ok (.aload_n 0, 1) := by decide +kernel
theorem dX7_readWork_15 : decode cX7_readWork 15 = .ok (.getfield 15, 3) := by decide +kernel
theorem dX7_readWork_18 : decode cX7_readWork 18 = .ok (.getfield 68, 3) := by decide +kernel
theorem dX7_readWork_2 : decode cX7_readWork 2 = .ok (.iconst 0, 1) := by decide +kernel
theorem dX7_readWork_21 : decode cX7_readWork 21 = .ok (.iconst 1, 1) := by decide +kernel
theorem dX7_readWork_22 : decode cX7_readWork 22 = .ok (.isub, 1) := by decide +kernel
theorem dX7_readWork_23 : decode cX7_readWork 23 = .ok (.invokevirtual 105, 3) := by decide +kernel
theorem dX7_readWork_26 : decode cX7_readWork 26 = .ok (.istore_n 2, 1) := by decide +kernel
theorem dX7_readWork_27 : decode cX7_readWork 27 = .ok (.goto 61, 3) := by decide +kernel
theorem dX7_readWork_3 : decode cX7_readWork 3 = .ok (.istore 4, 2) := by decide +kernel
theorem dX7_readWork_30 : decode cX7_readWork 30 = .ok (.aload_n 0, 1) := by decide +kernel
theorem dX7_readWork_31 : decode cX7_readWork 31 = .ok (.getfield 9, 3) := by decide +kernel
theorem dX7_readWork_34 : decode cX7_readWork 34 = .ok (.iconst 0, 1) := by decide +kernel
theorem dX7_readWork_35 : decode cX7_readWork 35 = .ok (.aload_n 0, 1) := by decide +kernel
theorem dX7_readWork_36 : decode cX7_readWork 36 = .ok (.getfield 15, 3) := by decide +kernel
theorem dX7_readWork_39 : decode cX7_readWork 39 = .ok (.getfield 112, 3) := by decide +kernel
theorem dX7_readWork_42 : decode cX7_readWork 42 = .ok (.iconst 1, 1) := by decide +kernel
theorem dX7_readWork_43 : decode cX7_readWork 43 = .ok (.isub, 1) := by decide +kernel
theorem dX7_readWork_44 : decode cX7_readWork 44 = .ok (.invokevirtual 105, 3) := by decide +kernel
theorem dX7_readWork_47 : decode cX7_readWork 47 = .ok (.istore_n 2, 1) := by decide +kernel
theorem dX7_readWork_48 : decode cX7_readWork 48 = .ok (.aload_n 0, 1) := by decide +kernel
theorem dX7_readWork_49 : decode cX7_readWork 49 = .ok (.getfield 9, 3) := by decide +kernel
theorem dX7_readWork_5 : decode cX7_readWork 5 = .ok (.iload_n 1, 1) := by decide +kernel
theorem dX7_readWork_52 : decode cX7_readWork 52 = .ok (.iconst 0, 1) := by decide +kernel
theorem dX7_readWork_53 : decode cX7_readWork 53 = .ok (.aload_n 0, 1) := by decide +kernel
theorem dX7_readWork_54 : decode cX7_readWork 54 = .ok (.getfield 15, 3) := by decide +kernel
theorem dX7_readWork_57 : decode cX7_readWork 57 = .ok (.getfield 115, 3) := by decide +kernel
theorem dX7_readWork_6 : decode cX7_readWork 6 = .ok (.ifCond .ne 24, 3) := by decide +kernel
theorem dX7_readWork_60 : decode cX7_readWork 60 = .ok (.iconst 1, 1) := by decide +kernel
theorem dX7_readWork_61 : decode cX7_readWork 61 = .ok (.isub, 1) := by decide +kernel
theorem dX7_readWork_62 : decode cX7_readWork 62 = .ok (.invokevirtual 105, 3) := by decide +kernel
theorem dX7_readWork_65 : decode cX7_readWork 65 = .ok (.istore_n 3, 1) := by decide +kernel
theorem dX7_readWork_66 : decode cX7_readWork 66 = .ok (.aload_n 0, 1) := by decide +kernel
theorem dX7_readWork_67 : decode cX7_readWork 67 = .ok (.getfield 9, 3) := by decide +kernel
theorem dX7_readWork_70 : decode cX7_readWork 70 = .ok (.iconst 1, 1) := by decide +kernel
theorem dX7_readWork_71 : decode cX7_readWork 71 = .ok (.iload_n 1, 1) := by decide +kernel
theorem dX7_readWork_72 : decode cX7_readWork 72 = .ok (.iconst 3, 1) := by decide +kernel
theorem dX7_readWork_73 : decode cX7_readWork 73 = .ok (.if_icmp .ne 8, 3) := by decide +kernel
theorem dX7_readWork_76 : decode cX7_readWork 76 = .ok (.bipush 99, 2) := by decide +kernel
theorem dX7_readWork_78 : decode cX7_readWork 78 = .ok (.goto 5, 3) := by decide +kernel
theorem dX7_readWork_81 : decode cX7_readWork 81 = .ok (.bipush 50, 2) := by decide +kernel
theorem dX7_readWork_83 : decode cX7_readWork 83 = .ok (.invokevirtual 105, 3) := by decide +kernel
theorem dX7_readWork_86 : decode cX7_readWork 86 = .ok (.istore 4, 2) := by decide +kernel
theorem dX7_readWork_88 : decode cX7_readWork 88 = .ok (.aload_n 0, 1) := by decide +kernel
theorem dX7_readWork_89 : decode cX7_readWork 89 = .ok (.getfield 9, 3) := by decide +kernel
theorem dX7_readWork_9 : decode cX7_readWork 9 = .ok (.aload_n 0, 1) := by decide +kernel
theorem dX7_readWork_92 : decode cX7_readWork 92 = .ok (.iconst 1, 1) := by decide +kernel
theorem dX7_readWork_93 : decode cX7_readWork 93 = .ok (.bipush 99, 2) := by decide +kernel
theorem dX7_readWork_95 : decode cX7_readWork 95 = .ok (.invokevirtual 105, 3) := by decide +kernel
theorem dX7_readWork_98 : decode cX7_readWork 98 = .ok (.istore 5, 2) := by decide +kernel
end
section
theorem dX7_isFull_0 : decode cX7_isFull 0 = .ok (.aload_n 1, 1) := by decide +kernel
theorem dX7_isFull_1 : decode cX7_isFull 1 = .ok (.getstatic 65, 3) := by decide +kernel
theorem dX7_isFull_11 : decode cX7_isFull 11 = .ok (.getfield 68, 3) := by decide +kernel
theorem dX7_isFull_14 : decode cX7_isFull 14 = .ok (.bipush 6, 2) := by decide +kernel
theorem dX7_isFull_16 : decode cX7_isFull 16 = .ok (.if_icmp .lt 7, 3) := by decide +kernel
theorem dX7_isFull_19 : decode cX7_isFull 19 = .ok (.iconst 1, 1) := by decide +kernel
theorem dX7_isFull_20 : decode cX7_isFull 20 = .ok (.goto 4, 3) := by decide +kernel
theorem dX7_isFull_23 : decode cX7_isFull 23 = .ok (.iconst 0, 1) := by decide +kernel
theorem dX7_isFull_24 : decode cX7_isFull 24 = .ok (.ireturn, 1) := by decide +kernel
theorem dX7_isFull_25 : decode cX7_isFull 25 = .ok (.aload_n 1, 1) := by decide +kernel
theorem dX7_isFull_26 : decode cX7_isFull 26 = .ok (.getstatic 72, 3) := by decide +kernel
theorem dX7_isFull_29 : decode cX7_isFull 29 = .ok (.if_acmp .ne 21, 3) := by decide +kernel
theorem dX7_isFull_32 : decode cX7_isFull 32 = .ok (.aload_n 0, 1) := by decide +kernel
theorem dX7_isFull_33 : decode cX7_isFull 33 = .ok (.getfield 15, 3) := by decide +kernel
theorem dX7_isFull_36 : decode cX7_isFull 36 = .ok (.getfield 75, 3) := by decide +kernel
theorem dX7_isFull_39 : decode cX7_isFull 39 = .ok (.bipush 8, 2) := by decide +kernel
theorem dX7_isFull_4 : decode cX7_isFull 4 = .ok (.if_acmp .ne 21, 3) := by decide +kernel
theorem dX7_isFull_41 : decode cX7_isFull 41 = .ok (.if_icmp .lt 7, 3) := by decide +kernel
theorem dX7_isFull_44 : decode cX7_isFull 44 = .ok (.iconst 1, 1) := by decide +kernel
theorem dX7_isFull_45 : decode cX7_isFull 45 = .ok (.goto 4, 3) := by decide +kernel
theorem dX7_isFull_48 : decode cX7_isFull 48 = .ok (.iconst 0, 1) := by decide +kernel
theorem dX7_isFull_49 : decode cX7_isFull 49 = .ok (.ireturn, 1) := by decide +kernel
theorem dX7_isFull_50 : decode cX7_isFull 50 = .ok (.aload_n 1, 1) := by decide +kernel
theorem dX7_isFull_51 : decode cX7_isFull 51 = .ok (.getstatic 78, 3) := by decide +kernel
theorem dX7_isFull_54 : decode cX7_isFull 54 = .ok (.if_acmp .ne 20, 3) := by decide +kernel
theorem dX7_isFull_57 : decode cX7_isFull 57 = .ok (.aload_n 0, 1) := by decide +kernel
theorem dX7_isFull_58 : decode cX7_isFull 58 = .ok (.getfield 15, 3) := by decide +kernel
theorem dX7_isFull_61 : decode cX7_isFull 61 = .ok (.getfield 81, 3) := by decide +kernel
theorem dX7_isFull_64 : decode cX7_isFull 64 = .ok (.iconst 2, 1) := by decide +kernel
theorem dX7_isFull_65 : decode cX7_isFull 65 = .ok (.if_icmp .lt 7, 3) := by decide +kernel
theorem dX7_isFull_68 : decode cX7_isFull 68 = .ok (.iconst 1, 1) := by decide +kernel
theorem dX7_isFull_69 : decode cX7_isFull 69 = .ok (.goto 4, 3) := by decide +kernel
theorem dX7_isFull_7 : decode cX7_isFull 7 = .ok (.aload_n 0, 1) := by decide +kernel
theorem dX7_isFull_72 : decode cX7_isFull 72 = .ok (.iconst 0, 1) := by decide +kernel
theorem dX7_isFull_73 : decode cX7_isFull 73 = .ok (.ireturn, 1) := by decide +kernel
theorem dX7_isFull_74 : decode cX7_isFull 74 = .ok (.aload_n 1, 1) := by decide +kernel
theorem dX7_isFull_75 : decode cX7_isFull 75 = .ok (.getfield 84, 3) := by decide +kernel
theorem dX7_isFull_78 : decode cX7_isFull 78 = .ok (.iconst (-1), 1) := by decide +kernel
theorem dX7_isFull_79 : decode cX7_isFull 79 = .ok (.if_icmp .eq 19, 3) := by decide +kernel
theorem dX7_isFull_8 : decode cX7_isFull 8 = .ok (.getfield 15, 3) := by decide +kernel
theorem dX7_isFull_82 : decode cX7_isFull 82 = .ok (.aload_n 0, 1) := by decide +kernel
theorem dX7_isFull_83 : decode cX7_isFull 83 = .ok (.getfield 15, 3) := by decide +kernel
theorem dX7_isFull_86 : decode cX7_isFull 86 = .ok (.getfield 87, 3) := by decide +kernel
theorem dX7_isFull_89 : decode cX7_isFull 89 = .ok (.bipush 8, 2) := by decide +kernel
theorem dX7_isFull_91 : decode cX7_isFull 91 = .ok (.if_icmp .lt 7, 3) := by decide +kernel
theorem dX7_isFull_94 : decode cX7_isFull 94 = .ok (.iconst 1, 1) := by decide +kernel
theorem dX7_isFull_95 : decode cX7_isFull 95 = .ok (.goto 4, 3) := by decide +kernel
theorem dX7_isFull_98 : decode cX7_isFull 98 = .ok (.iconst 0, 1) := by decide +kernel
theorem dX7_isFull_99 : decode cX7_isFull 99 = .ok (.ireturn, 1) := by decide +kernel
theorem dX7_readClause_0 : decode cX7_readClause 0 = .ok (.aload_n 0, 1) := by decide +kernel
theorem dX7_readClause_1 : decode cX7_readClause 1 = .ok (.getfield 9, 3) := by decide +kernel
theorem dX7_readClause_12 : decode cX7_readClause 12 = .ok (.ifCond .ne 14, 3) := by decide +kernel
theorem dX7_readClause_15 : decode cX7_readClause 15 = .ok (.aload_n 0, 1) := by decide +kernel
theorem dX7_readClause_16 : decode cX7_readClause 16 = .ok (.getfield 9, 3) := by decide +kernel
theorem dX7_readClause_19 : decode cX7_readClause 19 = .ok (.iconst 1, 1) := by decide +kernel
theorem dX7_readClause_20 : decode cX7_readClause 20 = .ok (.invokevirtual 43, 3) := by decide +kernel
theorem dX7_readClause_23 : decode cX7_readClause 23 = .ok (.goto 73, 3) := by decide +kernel
theorem dX7_readClause_26 : decode cX7_readClause 26 = .ok (.iload_n 1, 1) := by decide +kernel
theorem dX7_readClause_27 : decode cX7_readClause 27 = .ok (.bipush 60, 2) := by decide +kernel
theorem dX7_readClause_29 : decode cX7_readClause 29 = .ok (.if_icmp .eq 11, 3) := by decide +kernel
theorem dX7_readClause_32 : decode cX7_readClause 32 = .ok (.aload_n 0, 1) := by decide +kernel
theorem dX7_readClause_33 : decode cX7_readClause 33 = .ok (.aload_n 2, 1) := by decide +kernel
theorem dX7_readClause_34 : decode cX7_readClause 34 = .ok (.invokevirtual 46, 3) := by decide +kernel
theorem dX7_readClause_37 : decode cX7_readClause 37 = .ok (.ifCond .eq 14, 3) := by decide +kernel
theorem dX7_readClause_4 : decode cX7_readClause 4 = .ok (.invokevirtual 34, 3) := by decide +kernel
theorem dX7_readClause_40 : decode cX7_readClause 40 = .ok (.aload_n 0, 1) := by decide +kernel
theorem dX7_readClause_41 : decode cX7_readClause 41 = .ok (.getfield 9, 3) := by decide +kernel
theorem dX7_readClause_44 : decode cX7_readClause 44 = .ok (.iconst 3, 1) := by decide +kernel
theorem dX7_readClause_45 : decode cX7_readClause 45 = .ok (.invokevirtual 43, 3) := by decide +kernel
theorem dX7_readClause_48 : decode cX7_readClause 48 = .ok (.goto 48, 3) := by decide +kernel
theorem dX7_readClause_51 : decode cX7_readClause 51 = .ok (.aload_n 2, 1) := by decide +kernel
theorem dX7_readClause_52 : decode cX7_readClause 52 = .ok (.getstatic 50, 3) := by decide +kernel
theorem dX7_readClause_55 : decode cX7_readClause 55 = .ok (.if_acmp .ne 18, 3) := by decide +kernel
theorem dX7_readClause_58 : decode cX7_readClause 58 = .ok (.iload_n 1, 1) := by decide +kernel
theorem dX7_readClause_59 : decode cX7_readClause 59 = .ok (.ifCond .le 14, 3) := by decide +kernel
theorem dX7_readClause_62 : decode cX7_readClause 62 = .ok (.aload_n 0, 1) := by decide +kernel
theorem dX7_readClause_63 : decode cX7_readClause 63 = .ok (.getfield 9, 3) := by decide +kernel
theorem dX7_readClause_66 : decode cX7_readClause 66 = .ok (.iconst 4, 1) := by decide +kernel
theorem dX7_readClause_67 : decode cX7_readClause 67 = .ok (.invokevirtual 43, 3) := by decide +kernel
theorem dX7_readClause_7 : decode cX7_readClause 7 = .ok (.astore_n 2, 1) := by decide +kernel
theorem dX7_readClause_70 : decode cX7_readClause 70 = .ok (.goto 26, 3) := by decide +kernel
theorem dX7_readClause_73 : decode cX7_readClause 73 = .ok (.aload_n 0, 1) := by decide +kernel
theorem dX7_readClause_74 : decode cX7_readClause 74 = .ok (.getfield 9, 3) := by decide +kernel
theorem dX7_readClause_77 : decode cX7_readClause 77 = .ok (.aload_n 2, 1) := by decide +kernel
theorem dX7_readClause_78 : decode cX7_readClause 78 = .ok (.invokevirtual 54, 3) := by decide +kernel
theorem dX7_readClause_8 : decode cX7_readClause 8 = .ok (.aload_n 2, 1) := by decide +kernel
theorem dX7_readClause_81 : decode cX7_readClause 81 = .ok (.pop, 1) := by decide +kernel
theorem dX7_readClause_82 : decode cX7_readClause 82 = .ok (.aload_n 0, 1) := by decide +kernel
theorem dX7_readClause_83 : decode cX7_readClause 83 = .ok (.aload_n 2, 1) := by decide +kernel
theorem dX7_readClause_84 : decode cX7_readClause 84 = .ok (.invokevirtual 57, 3) := by decide +kernel
theorem dX7_readClause_87 : decode cX7_readClause 87 = .ok (.aload_n 0, 1) := by decide +kernel
theorem dX7_readClause_88 : decode cX7_readClause 88 = .ok (.getfield 9, 3) := by decide +kernel
theorem dX7_readClause_9 : decode cX7_readClause 9 = .ok (.invokevirtual 38, 3) := by decide +kernel
theorem dX7_readClause_91 : decode cX7_readClause 91 = .ok (.bipush 59, 2) := by decide +kernel
theorem dX7_readClause_93 : decode cX7_readClause 93 = .ok (.invokevirtual 61, 3) := by decide +kernel
theorem dX7_readClause_96 : decode cX7_readClause 96 = .ok (.return_, 1) := by decide +kernel
theorem dX7_readNumbers_0 : decode cX7_readNumbers 0 = .ok (.aload_n 1, 1) := by decide +kernel
theorem dX7_readNumbers_1 : decode cX7_readNumbers 1 = .ok (.getfield 84, 3) := by decide +kernel
theorem dX7_readNumbers_10 : decode cX7_readNumbers 10 = .ok (.getfield 84, 3) := by decide +kernel
theorem dX7_readNumbers_13 : decode cX7_readNumbers 13 = .ok (.invokevirtual 90, 3) := by decide +kernel
theorem dX7_readNumbers_16 : decode cX7_readNumbers 16 = .ok (.goto 50, 3) := by decide +kernel
theorem dX7_readNumbers_19 : decode cX7_readNumbers 19 = .ok (.aload_n 1, 1) := by decide +kernel
theorem dX7_readNumbers_20 : decode cX7_readNumbers 20 = .ok (.getstatic 50, 3) := by decide +kernel
theorem dX7_readNumbers_23 : decode cX7_readNumbers 23 = .ok (.if_acmp .ne 10, 3) := by decide +kernel
theorem dX7_readNumbers_26 : decode cX7_readNumbers 26 = .ok (.aload_n 0, 1) := by decide +kernel
theorem dX7_readNumbers_27 : decode cX7_readNumbers 27 = .ok (.invokevirtual 93, 3) := by decide +kernel
theorem dX7_readNumbers_30 : decode cX7_readNumbers 30 = .ok (.goto 36, 3) := by decide +kernel
theorem dX7_readNumbers_33 : decode cX7_readNumbers 33 = .ok (.aload_n 1, 1) := by decide +kernel
theorem dX7_readNumbers_34 : decode cX7_readNumbers 34 = .ok (.getstatic 72, 3) := by decide +kernel
theorem dX7_readNumbers_37 : decode cX7_readNumbers 37 = .ok (.if_acmp .ne 10, 3) := by decide +kernel
theorem dX7_readNumbers_4 : decode cX7_readNumbers 4 = .ok (.iconst (-1), 1) := by decide +kernel
theorem dX7_readNumbers_40 : decode cX7_readNumbers 40 = .ok (.aload_n 0, 1) := by decide +kernel
theorem dX7_readNumbers_41 : decode cX7_readNumbers 41 = .ok (.invokevirtual 96, 3) := by decide +kernel
theorem dX7_readNumbers_44 : decode cX7_readNumbers 44 = .ok (.goto 22, 3) := by decide +kernel
theorem dX7_readNumbers_47 : decode cX7_readNumbers 47 = .ok (.aload_n 1, 1) := by decide +kernel
theorem dX7_readNumbers_48 : decode cX7_readNumbers 48 = .ok (.getstatic 78, 3) := by decide +kernel
theorem dX7_readNumbers_5 : decode cX7_readNumbers 5 = .ok (.if_icmp .eq 14, 3) := by decide +kernel
theorem dX7_readNumbers_51 : decode cX7_readNumbers 51 = .ok (.if_acmp .ne 10, 3) := by decide +kernel
theorem dX7_readNumbers_54 : decode cX7_readNumbers 54 = .ok (.aload_n 0, 1) := by decide +kernel
theorem dX7_readNumbers_55 : decode cX7_readNumbers 55 = .ok (.invokevirtual 99, 3) := by decide +kernel
theorem dX7_readNumbers_58 : decode cX7_readNumbers 58 = .ok (.goto 8, 3) := by decide +kernel
theorem dX7_readNumbers_61 : decode cX7_readNumbers 61 = .ok (.aload_n 0, 1) := by decide +kernel
theorem dX7_readNumbers_62 : decode cX7_readNumbers 62 = .ok (.aload_n 1, 1) := by decide +kernel
theorem dX7_readNumbers_63 : decode cX7_readNumbers 63 = .ok (.invokevirtual 102, 3) := by decide +kernel
theorem dX7_readNumbers_66 : decode cX7_readNumbers 66 = .ok (.return_, 1) := by decide +kernel
theorem dX7_readNumbers_8 : decode cX7_readNumbers 8 = .ok (.aload_n 0, 1) := by decide +kernel
theorem dX7_readNumbers_9 : decode cX7_readNumbers 9 = .ok (.aload_n 1, 1) := by decide +kernel
theorem dX7_read_0 : decode cX7_read 0 = .ok (.aload_n 0, 1) := by decide +kernel
theorem dX7_read_1 : decode cX7_read 1 = .ok (.getfield 15, 3) := by decide +kernel
theorem dX7_read_10 : decode cX7_read 10 = .ok (.bipush 60, 2) := by decide +kernel
theorem dX7_read_12 : decode cX7_read 12 = .ok (.if_icmp .gt 24, 3) := by decide +kernel
theorem dX7_read_15 : decode cX7_read 15 = .ok (.aload_n 0, 1) := by decide +kernel
theorem dX7_read_16 : decode cX7_read 16 = .ok (.getfield 9, 3) := by decide +kernel
theorem dX7_read_19 : decode cX7_read 19 = .ok (.invokevirtual 24, 3) := by decide +kernel
theorem dX7_read_22 : decode cX7_read 22 = .ok (.ifCond .eq 14, 3) := by decide +kernel
theorem dX7_read_25 : decode cX7_read 25 = .ok (.aload_n 0, 1) := by decide +kernel
theorem dX7_read_26 : decode cX7_read 26 = .ok (.iload_n 1, 1) := by decide +kernel
theorem dX7_read_27 : decode cX7_read 27 = .ok (.invokevirtual 30, 3) := by decide +kernel
theorem dX7_read_30 : decode cX7_read 30 = .ok (.iinc 1 1, 3) := by decide +kernel
theorem dX7_read_33 : decode cX7_read 33 = .ok (.goto (-24), 3) := by decide +kernel
theorem dX7_read_36 : decode cX7_read 36 = .ok (.return_, 1) := by decide +kernel
theorem dX7_read_4 : decode cX7_read 4 = .ok (.invokevirtual 19, 3) := by decide +kernel
theorem dX7_read_7 : decode cX7_read 7 = .ok (.iconst 0, 1) := by decide +kernel
theorem dX7_read_8 : decode cX7_read 8 = .ok (.istore_n 1, 1) := by decide +kernel
theorem dX7_read_9 : decode cX7_read 9 = .ok (.iload_n 1, 1) := by decide +kernel
end
section
theorem dX1_reset_0 : decode cX1_reset 0 = .ok (.aload_n 0, 1) := by decide +kernel
theorem dX1_reset_1 : decode cX1_reset 1 = .ok (.iconst 0, 1) := by decide +kernel
theorem dX1_reset_10 : decode cX1_reset 10 = .ok (.invokestatic 27, 3) := by decide +kernel
theorem dX1_reset_13 : decode cX1_reset 13 = .ok (.return_, 1) := by decide +kernel
theorem dX1_reset_2 : decode cX1_reset 2 = .ok (.putfield 23, 3) := by decide +kernel
theorem dX1_reset_5 : decode cX1_reset 5 = .ok (.aload_n 0, 1) := by decide +kernel
theorem dX1_reset_6 : decode cX1_reset 6 = .ok (.getfield 17, 3) := by decide +kernel
theorem dX1_reset_9 : decode cX1_reset 9 = .ok (.iconst (-1), 1) := by decide +kernel
theorem dX1_value_0 : decode cX1_value 0 = .ok (.aload_n 0, 1) := by decide +kernel
theorem dX1_value_1 : decode cX1_value 1 = .ok (.getfield 17, 3) := by decide +kernel
theorem dX1_value_10 : decode cX1_value 10 = .ok (.aload_n 0, 1) := by decide +kernel
theorem dX1_value_101 : decode cX1_value 101 = .ok (.ifCond .le 10, 3) := by decide +kernel
theorem dX1_value_104 : decode cX1_value 104 = .ok (.iload 4, 2) := by decide +kernel
theorem dX1_value_106 : decode cX1_value 106 = .ok (.iconst 1, 1) := by decide +kernel
theorem dX1_value_107 : decode cX1_value 107 = .ok (.isub, 1) := by decide +kernel
theorem dX1_value_108 : decode cX1_value 108 = .ok (.goto 4, 3) := by decide +kernel
theorem dX1_value_11 : decode cX1_value 11 = .ok (.getfield 20, 3) := by decide +kernel
theorem dX1_value_111 : decode cX1_value 111 = .ok (.iconst 0, 1) := by decide +kernel
theorem dX1_value_112 : decode cX1_value 112 = .ok (.istore 4, 2) := by decide +kernel
theorem dX1_value_114 : decode cX1_value 114 = .ok (.aload_n 0, 1) := by decide +kernel
theorem dX1_value_115 : decode cX1_value 115 = .ok (.getfield 20, 3) := by decide +kernel
theorem dX1_value_118 : decode cX1_value 118 = .ok (.iload 4, 2) := by decide +kernel
theorem dX1_value_120 : decode cX1_value 120 = .ok (.iaload, 1) := by decide +kernel
theorem dX1_value_121 : decode cX1_value 121 = .ok (.ifCond .ne 8, 3) := by decide +kernel
theorem dX1_value_124 : decode cX1_value 124 = .ok (.iload 7, 2) := by decide +kernel
theorem dX1_value_126 : decode cX1_value 126 = .ok (.goto 4, 3) := by decide +kernel
theorem dX1_value_129 : decode cX1_value 129 = .ok (.iload_n 3, 1) := by decide +kernel
theorem dX1_value_130 : decode cX1_value 130 = .ok (.istore_n 3, 1) := by decide +kernel
theorem dX1_value_131 : decode cX1_value 131 = .ok (.goto 97, 3) := by decide +kernel
theorem dX1_value_134 : decode cX1_value 134 = .ok (.iload 6, 2) := by decide +kernel
theorem dX1_value_136 : decode cX1_value 136 = .ok (.ifCond .eq 9, 3) := by decide +kernel
theorem dX1_value_139 : decode cX1_value 139 = .ok (.iload 6, 2) := by decide +kernel
theorem dX1_value_14 : decode cX1_value 14 = .ok (.iconst 0, 1) := by decide +kernel
theorem dX1_value_141 : decode cX1_value 141 = .ok (.iconst 1, 1) := by decide +kernel
theorem dX1_value_142 : decode cX1_value 142 = .ok (.if_icmp .ne 47, 3) := by decide +kernel
theorem dX1_value_145 : decode cX1_value 145 = .ok (.iload 4, 2) := by decide +kernel
theorem dX1_value_147 : decode cX1_value 147 = .ok (.aload_n 0, 1) := by decide +kernel
theorem dX1_value_148 : decode cX1_value 148 = .ok (.getfield 20, 3) := by decide +kernel
theorem dX1_value_15 : decode cX1_value 15 = .ok (.iconst 0, 1) := by decide +kernel
theorem dX1_value_151 : decode cX1_value 151 = .ok (.arraylength, 1) := by decide +kernel
theorem dX1_value_152 : decode cX1_value 152 = .ok (.if_icmp .ge 76, 3) := by decide +kernel
theorem dX1_value_155 : decode cX1_value 155 = .ok (.aload_n 0, 1) := by decide +kernel
theorem dX1_value_156 : decode cX1_value 156 = .ok (.getfield 20, 3) := by decide +kernel
theorem dX1_value_159 : decode cX1_value 159 = .ok (.iload 4, 2) := by decide +kernel
theorem dX1_value_16 : decode cX1_value 16 = .ok (.iastore, 1) := by decide +kernel
theorem dX1_value_161 : decode cX1_value 161 = .ok (.iload 6, 2) := by decide +kernel
theorem dX1_value_163 : decode cX1_value 163 = .ok (.ifCond .eq 10, 3) := by decide +kernel
theorem dX1_value_166 : decode cX1_value 166 = .ok (.iload 7, 2) := by decide +kernel
theorem dX1_value_168 : decode cX1_value 168 = .ok (.bipush 7, 2) := by decide +kernel
theorem dX1_value_17 : decode cX1_value 17 = .ok (.iconst 0, 1) := by decide +kernel
theorem dX1_value_170 : decode cX1_value 170 = .ok (.if_icmp .lt 8, 3) := by decide +kernel
theorem dX1_value_173 : decode cX1_value 173 = .ok (.iload 7, 2) := by decide +kernel
theorem dX1_value_175 : decode cX1_value 175 = .ok (.goto 7, 3) := by decide +kernel
theorem dX1_value_178 : decode cX1_value 178 = .ok (.aload_n 2, 1) := by decide +kernel
theorem dX1_value_179 : decode cX1_value 179 = .ok (.iload 7, 2) := by decide +kernel
theorem dX1_value_18 : decode cX1_value 18 = .ok (.istore 5, 2) := by decide +kernel
theorem dX1_value_181 : decode cX1_value 181 = .ok (.iaload, 1) := by decide +kernel
theorem dX1_value_182 : decode cX1_value 182 = .ok (.iastore, 1) := by decide +kernel
theorem dX1_value_183 : decode cX1_value 183 = .ok (.iinc 4 1, 3) := by decide +kernel
theorem dX1_value_186 : decode cX1_value 186 = .ok (.goto 42, 3) := by decide +kernel
theorem dX1_value_189 : decode cX1_value 189 = .ok (.iload 4, 2) := by decide +kernel
theorem dX1_value_191 : decode cX1_value 191 = .ok (.iconst 2, 1) := by decide +kernel
theorem dX1_value_192 : decode cX1_value 192 = .ok (.if_icmp .lt 36, 3) := by decide +kernel
theorem dX1_value_195 : decode cX1_value 195 = .ok (.iinc 4 (-1), 3) := by decide +kernel
theorem dX1_value_198 : decode cX1_value 198 = .ok (.aload_n 0, 1) := by decide +kernel
theorem dX1_value_199 : decode cX1_value 199 = .ok (.getfield 20, 3) := by decide +kernel
theorem dX1_value_20 : decode cX1_value 20 = .ok (.iload 5, 2) := by decide +kernel
theorem dX1_value_202 : decode cX1_value 202 = .ok (.iload 4, 2) := by decide +kernel
theorem dX1_value_204 : decode cX1_value 204 = .ok (.iconst 1, 1) := by decide +kernel
theorem dX1_value_205 : decode cX1_value 205 = .ok (.isub, 1) := by decide +kernel
theorem dX1_value_206 : decode cX1_value 206 = .ok (.iload 6, 2) := by decide +kernel
theorem dX1_value_208 : decode cX1_value 208 = .ok (.aload_n 0, 1) := by decide +kernel
theorem dX1_value_209 : decode cX1_value 209 = .ok (.getfield 20, 3) := by decide +kernel
theorem dX1_value_212 : decode cX1_value 212 = .ok (.iload 4, 2) := by decide +kernel
theorem dX1_value_214 : decode cX1_value 214 = .ok (.iconst 1, 1) := by decide +kernel
theorem dX1_value_215 : decode cX1_value 215 = .ok (.isub, 1) := by decide +kernel
theorem dX1_value_216 : decode cX1_value 216 = .ok (.iaload, 1) := by decide +kernel
theorem dX1_value_217 : decode cX1_value 217 = .ok (.aload_n 0, 1) := by decide +kernel
theorem dX1_value_218 : decode cX1_value 218 = .ok (.getfield 20, 3) := by decide +kernel
theorem dX1_value_22 : decode cX1_value 22 = .ok (.aload_n 0, 1) := by decide +kernel
theorem dX1_value_221 : decode cX1_value 221 = .ok (.iload 4, 2) := by decide +kernel
theorem dX1_value_223 : decode cX1_value 223 = .ok (.iaload, 1) := by decide +kernel
theorem dX1_value_224 : decode cX1_value 224 = .ok (.invokestatic 33, 3) := by decide +kernel
theorem dX1_value_227 : decode cX1_value 227 = .ok (.iastore, 1) := by decide +kernel
theorem dX1_value_228 : decode cX1_value 228 = .ok (.iinc 5 1, 3) := by decide +kernel
theorem dX1_value_23 : decode cX1_value 23 = .ok (.getfield 23, 3) := by decide +kernel
theorem dX1_value_231 : decode cX1_value 231 = .ok (.goto (-211), 3) := by decide +kernel
theorem dX1_value_234 : decode cX1_value 234 = .ok (.aload_n 0, 1) := by decide +kernel
theorem dX1_value_235 : decode cX1_value 235 = .ok (.getfield 20, 3) := by decide +kernel
theorem dX1_value_238 : decode cX1_value 238 = .ok (.iconst 0, 1) := by decide +kernel
theorem dX1_value_239 : decode cX1_value 239 = .ok (.iaload, 1) := by decide +kernel
theorem dX1_value_240 : decode cX1_value 240 = .ok (.ireturn, 1) := by decide +kernel
theorem dX1_value_26 : decode cX1_value 26 = .ok (.if_icmp .ge 208, 3) := by decide +kernel
theorem dX1_value_29 : decode cX1_value 29 = .ok (.iload_n 3, 1) := by decide +kernel
theorem dX1_value_30 : decode cX1_value 30 = .ok (.ifCond .lt 204, 3) := by decide +kernel
theorem dX1_value_33 : decode cX1_value 33 = .ok (.iload_n 3, 1) := by decide +kernel
theorem dX1_value_34 : decode cX1_value 34 = .ok (.aload_n 0, 1) := by decide +kernel
theorem dX1_value_35 : decode cX1_value 35 = .ok (.getfield 23, 3) := by decide +kernel
theorem dX1_value_38 : decode cX1_value 38 = .ok (.if_icmp .ge 196, 3) := by decide +kernel
theorem dX1_value_4 : decode cX1_value 4 = .ok (.iload_n 1, 1) := by decide +kernel
theorem dX1_value_41 : decode cX1_value 41 = .ok (.aload_n 0, 1) := by decide +kernel
theorem dX1_value_42 : decode cX1_value 42 = .ok (.getfield 11, 3) := by decide +kernel
theorem dX1_value_45 : decode cX1_value 45 = .ok (.iload_n 3, 1) := by decide +kernel
theorem dX1_value_46 : decode cX1_value 46 = .ok (.iaload, 1) := by decide +kernel
theorem dX1_value_47 : decode cX1_value 47 = .ok (.bipush 15, 2) := by decide +kernel
theorem dX1_value_49 : decode cX1_value 49 = .ok (.iand, 1) := by decide +kernel
theorem dX1_value_5 : decode cX1_value 5 = .ok (.iaload, 1) := by decide +kernel
theorem dX1_value_50 : decode cX1_value 50 = .ok (.istore 6, 2) := by decide +kernel
theorem dX1_value_52 : decode cX1_value 52 = .ok (.aload_n 0, 1) := by decide +kernel
theorem dX1_value_53 : decode cX1_value 53 = .ok (.getfield 11, 3) := by decide +kernel
theorem dX1_value_56 : decode cX1_value 56 = .ok (.iload_n 3, 1) := by decide +kernel
theorem dX1_value_57 : decode cX1_value 57 = .ok (.iaload, 1) := by decide +kernel
theorem dX1_value_58 : decode cX1_value 58 = .ok (.iconst 4, 1) := by decide +kernel
theorem dX1_value_59 : decode cX1_value 59 = .ok (.ishr, 1) := by decide +kernel
theorem dX1_value_6 : decode cX1_value 6 = .ok (.istore_n 3, 1) := by decide +kernel
theorem dX1_value_60 : decode cX1_value 60 = .ok (.istore 7, 2) := by decide +kernel
theorem dX1_value_62 : decode cX1_value 62 = .ok (.iinc 3 1, 3) := by decide +kernel
theorem dX1_value_65 : decode cX1_value 65 = .ok (.iload 6, 2) := by decide +kernel
theorem dX1_value_67 : decode cX1_value 67 = .ok (.bipush 13, 2) := by decide +kernel
theorem dX1_value_69 : decode cX1_value 69 = .ok (.if_icmp .ne 10, 3) := by decide +kernel
theorem dX1_value_7 : decode cX1_value 7 = .ok (.iconst 0, 1) := by decide +kernel
theorem dX1_value_72 : decode cX1_value 72 = .ok (.aload_n 0, 1) := by decide +kernel
theorem dX1_value_73 : decode cX1_value 73 = .ok (.getfield 20, 3) := by decide +kernel
theorem dX1_value_76 : decode cX1_value 76 = .ok (.iconst 0, 1) := by decide +kernel
theorem dX1_value_77 : decode cX1_value 77 = .ok (.iaload, 1) := by decide +kernel
theorem dX1_value_78 : decode cX1_value 78 = .ok (.ireturn, 1) := by decide +kernel
theorem dX1_value_79 : decode cX1_value 79 = .ok (.iload 6, 2) := by decide +kernel
theorem dX1_value_8 : decode cX1_value 8 = .ok (.istore 4, 2) := by decide +kernel
theorem dX1_value_81 : decode cX1_value 81 = .ok (.bipush 11, 2) := by decide +kernel
theorem dX1_value_83 : decode cX1_value 83 = .ok (.if_icmp .ne 9, 3) := by decide +kernel
theorem dX1_value_86 : decode cX1_value 86 = .ok (.iload 7, 2) := by decide +kernel
theorem dX1_value_88 : decode cX1_value 88 = .ok (.istore_n 3, 1) := by decide +kernel
theorem dX1_value_89 : decode cX1_value 89 = .ok (.goto 139, 3) := by decide +kernel
theorem dX1_value_92 : decode cX1_value 92 = .ok (.iload 6, 2) := by decide +kernel
theorem dX1_value_94 : decode cX1_value 94 = .ok (.bipush 12, 2) := by decide +kernel
theorem dX1_value_96 : decode cX1_value 96 = .ok (.if_icmp .ne 38, 3) := by decide +kernel
theorem dX1_value_99 : decode cX1_value 99 = .ok (.iload 4, 2) := by decide +kernel
theorem dX5_readPiece_0 : decode cX5_readPiece 0 = .ok (.aload_n 1, 1) := by decide +kernel
theorem dX5_readPiece_1 : decode cX5_readPiece 1 = .ok (.invokevirtual 31, 3) := by decide +kernel
theorem dX5_readPiece_10 : decode cX5_readPiece 10 = .ok (.iload_n 2, 1) := by decide +kernel
theorem dX5_readPiece_11 : decode cX5_readPiece 11 = .ok (.bipush 8, 2) := by decide +kernel
theorem dX5_readPiece_13 : decode cX5_readPiece 13 = .ok (.if_icmp .ne 8, 3) := by decide +kernel
theorem dX5_readPiece_16 : decode cX5_readPiece 16 = .ok (.aload_n 1, 1) := by decide +kernel
theorem dX5_readPiece_17 : decode cX5_readPiece 17 = .ok (.iconst 3, 1) := by decide +kernel
theorem dX5_readPiece_18 : decode cX5_readPiece 18 = .ok (.invokevirtual 23, 3) := by decide +kernel
theorem dX5_readPiece_21 : decode cX5_readPiece 21 = .ok (.aload_n 1, 1) := by decide +kernel
theorem dX5_readPiece_22 : decode cX5_readPiece 22 = .ok (.getstatic 35, 3) := by decide +kernel
theorem dX5_readPiece_25 : decode cX5_readPiece 25 = .ok (.invokevirtual 41, 3) := by decide +kernel
theorem dX5_readPiece_28 : decode cX5_readPiece 28 = .ok (.aload_n 1, 1) := by decide +kernel
theorem dX5_readPiece_29 : decode cX5_readPiece 29 = .ok (.iconst 0, 1) := by decide +kernel
theorem dX5_readPiece_30 : decode cX5_readPiece 30 = .ok (.bipush 20, 2) := by decide +kernel
theorem dX5_readPiece_32 : decode cX5_readPiece 32 = .ok (.invokevirtual 45, 3) := by decide +kernel
theorem dX5_readPiece_35 : decode cX5_readPiece 35 = .ok (.istore_n 3, 1) := by decide +kernel
theorem dX5_readPiece_36 : decode cX5_readPiece 36 = .ok (.aload_n 1, 1) := by decide +kernel
theorem dX5_readPiece_37 : decode cX5_readPiece 37 = .ok (.iconst 1, 1) := by decide +kernel
theorem dX5_readPiece_38 : decode cX5_readPiece 38 = .ok (.bipush 30, 2) := by decide +kernel
theorem dX5_readPiece_4 : decode cX5_readPiece 4 = .ok (.getstatic 35, 3) := by decide +kernel
theorem dX5_readPiece_40 : decode cX5_readPiece 40 = .ok (.invokevirtual 45, 3) := by decide +kernel
theorem dX5_readPiece_43 : decode cX5_readPiece 43 = .ok (.istore 4, 2) := by decide +kernel
theorem dX5_readPiece_45 : decode cX5_readPiece 45 = .ok (.aload_n 1, 1) := by decide +kernel
theorem dX5_readPiece_46 : decode cX5_readPiece 46 = .ok (.bipush 59, 2) := by decide +kernel
theorem dX5_readPiece_48 : decode cX5_readPiece 48 = .ok (.invokevirtual 49, 3) := by decide +kernel
theorem dX5_readPiece_51 : decode cX5_readPiece 51 = .ok (.aload_n 1, 1) := by decide +kernel
theorem dX5_readPiece_52 : decode cX5_readPiece 52 = .ok (.invokevirtual 53, 3) := by decide +kernel
theorem dX5_readPiece_55 : decode cX5_readPiece 55 = .ok (.ifCond .eq 10, 3) := by decide +kernel
theorem dX5_readPiece_58 : decode cX5_readPiece 58 = .ok (.aload_n 0, 1) := by decide +kernel
theorem dX5_readPiece_59 : decode cX5_readPiece 59 = .ok (.iload_n 3, 1) := by decide +kernel
theorem dX5_readPiece_60 : decode cX5_readPiece 60 = .ok (.iload 4, 2) := by decide +kernel
theorem dX5_readPiece_62 : decode cX5_readPiece 62 = .ok (.invokevirtual 56, 3) := by decide +kernel
theorem dX5_readPiece_65 : decode cX5_readPiece 65 = .ok (.return_, 1) := by decide +kernel
theorem dX5_readPiece_7 : decode cX5_readPiece 7 = .ok (.if_acmp .ne 14, 3) := by decide +kernel
theorem dX5_read_0 : decode cX5_read 0 = .ok (.aload_n 0, 1) := by decide +kernel
theorem dX5_read_1 : decode cX5_read 1 = .ok (.iconst 0, 1) := by decide +kernel
theorem dX5_read_12 : decode cX5_read 12 = .ok (.aload_n 1, 1) := by decide +kernel
theorem dX5_read_13 : decode cX5_read 13 = .ok (.iconst 1, 1) := by decide +kernel
theorem dX5_read_14 : decode cX5_read 14 = .ok (.invokevirtual 23, 3) := by decide +kernel
theorem dX5_read_17 : decode cX5_read 17 = .ok (.iconst 0, 1) := by decide +kernel
theorem dX5_read_18 : decode cX5_read 18 = .ok (.istore_n 2, 1) := by decide +kernel
theorem dX5_read_19 : decode cX5_read 19 = .ok (.iload_n 2, 1) := by decide +kernel
theorem dX5_read_2 : decode cX5_read 2 = .ok (.putfield 13, 3) := by decide +kernel
theorem dX5_read_20 : decode cX5_read 20 = .ok (.bipush 8, 2) := by decide +kernel
theorem dX5_read_22 : decode cX5_read 22 = .ok (.if_icmp .gt 22, 3) := by decide +kernel
theorem dX5_read_25 : decode cX5_read 25 = .ok (.aload_n 1, 1) := by decide +kernel
theorem dX5_read_26 : decode cX5_read 26 = .ok (.invokevirtual 17, 3) := by decide +kernel
theorem dX5_read_29 : decode cX5_read 29 = .ok (.ifCond .eq 15, 3) := by decide +kernel
theorem dX5_read_32 : decode cX5_read 32 = .ok (.aload_n 0, 1) := by decide +kernel
theorem dX5_read_33 : decode cX5_read 33 = .ok (.aload_n 1, 1) := by decide +kernel
theorem dX5_read_34 : decode cX5_read 34 = .ok (.iload_n 2, 1) := by decide +kernel
theorem dX5_read_35 : decode cX5_read 35 = .ok (.invokevirtual 27, 3) := by decide +kernel
theorem dX5_read_38 : decode cX5_read 38 = .ok (.iinc 2 1, 3) := by decide +kernel
theorem dX5_read_41 : decode cX5_read 41 = .ok (.goto (-22), 3) := by decide +kernel
theorem dX5_read_44 : decode cX5_read 44 = .ok (.return_, 1) := by decide +kernel
theorem dX5_read_5 : decode cX5_read 5 = .ok (.aload_n 1, 1) := by decide +kernel
theorem dX5_read_6 : decode cX5_read 6 = .ok (.invokevirtual 17, 3) := by decide +kernel
theorem dX5_read_9 : decode cX5_read 9 = .ok (.ifCond .ne 8, 3) := by decide +kernel
def vs_n_piece : List Cond := .code yX5_readPiece cX5_readPiece 5 none :: (([.initialized RX8, .instanceMethod yX8_word, .selects RX8 yX8_word yX8_word, .fieldLink RX5 35 "KerbSplash$Word" "RAIN" "LKerbSplash$Word;", .instanceMethod yX8_wantWord, .selects RX8 yX8_wantWord yX8_wantWord, .instanceMethod yX8_number, .selects RX8 yX8_number yX8_number, .instanceMethod yX8_want, .selects RX8 yX8_want yX8_want, .instanceMethod yX8_good, .selects RX8 yX8_good yX8_good, .instanceMethod yX8_refuse, .selects RX8 yX8_refuse yX8_refuse] : List Cond) ++ ((vs_s_word) ++ ((vs_s_wantWord) ++ ((vs_s_number) ++ ((vs_s_want) ++ ((vs_s_good) ++ ((wsV RX5 56 RX5 yX5_add vs_s_radd) ++ ((vs_s_refuse) ++ ([])))))))))
theorem gd_n_piece : vs_n_piece.all goodWord = true := gd_C (by decide +kernel) (gd_A (by decide +kernel) (gd_A gd_s_word (gd_A gd_s_wantWord (gd_A gd_s_number (gd_A gd_s_want (gd_A gd_s_good (gd_A (gd_V gd_s_radd (by decide +kernel)) (gd_A gd_s_refuse rfl))))))))
set_option maxHeartbeats 4000000 in
set_option maxRecDepth 100000 in
theorem n_piece (l : Launch) (hl : l.stackTraces = false) (D : va_G) (cy : Nat → ClassId) (sa : Nat → Nat) (ra rf : Nat) (rm : Int) (ff : Nat → Int32) (ta tb : Nat) (fed len at_ we fa fp : Int) (bf : Nat → Int32) (n : Int) (sz : Nat) (hr_fed : 0 ≤ fed ∧ fed ≤ 600) (hr_len : 0 ≤ len ∧ len ≤ 600) (hr_at_ : 0 ≤ at_ ∧ at_ ≤ 600) (hr_we : 0 ≤ we ∧ we ≤ 600) (hr_fa : 0 ≤ fa ∧ fa ≤ 4) (hr_fp : (-1) ≤ fp ∧ fp ≤ 600) (hr_rm : 0 ≤ rm ∧ rm ≤ 240) (hr_n : 0 ≤ n ∧ n ≤ 8) (hff : inv_ 240 0 20 ff) : mV9 l yX5_readPiece vs_n_piece ({ frames := 7, cells := 0, slots := 0, locals := 151 }) D cy sa sz [vR ra, vR ta, vI n] [zO ra 5 [vR rf, vI rm], zI rf (cy 0) 240 ff, zO ta 8 [vR tb, vI fed, vI len, vI at_, vI we, vI fa, vI fp], zI tb (cy 1) 600 bf] (fun u : SV => (0 ≤ u.2.1 0 ∧ u.2.1 0 ≤ 600) ∧ (0 ≤ u.2.1 1 ∧ u.2.1 1 ≤ 600) ∧ (0 ≤ u.2.1 2 ∧ u.2.1 2 ≤ 4) ∧ ((-1) ≤ u.2.1 3 ∧ u.2.1 3 ≤ 600) ∧ (0 ≤ u.2.1 4 ∧ u.2.1 4 ≤ 240) ∧ inv_ 240 0 20 (u.2.2 0)) (fun u : SV => [zO ra 5 [vR rf, vI (u.2.1 4)], zI rf (cy 0) 240 (u.2.2 0), zO ta 8 [vR tb, vI fed, vI len, vI (u.2.1 0), vI (u.2.1 1), vI (u.2.1 2), vI (u.2.1 3)], zI tb (cy 1) 600 bf]) 0 0 := by
  refine Met.ofW (cc := cX5_readPiece) (maxL := 5) (ret := none) (by decide) rfl ?_
  intro p e s m args below meth c s₁ B hml hv
  obtain ⟨rfl, hsz, hP, hG, hD0, hT⟩ := hv
  have hx := B.exec
  have hb := B.bytes
  have hr := B.returns
  have hts := atoms_spec (ws := vs_n_piece) B.pre
  have hown : s.vm.findClass RX5 = some m.cls := findClass_of_methodNamed B.named
  have hlocks := B.notSynchronized
  subst hsz
  have hD := hD0.self (sz := s.heap.size)
  generalize hAe : va_A [zO ra 5 [vR rf, vI rm], zI rf (cy 0) 240 ff, zO ta 8 [vR tb, vI fed, vI len, vI at_, vI we, vI fa, vI fp], zI tb (cy 1) 600 bf] s.heap.size = A at hD hT ⊢
  have hA : ∀ q : Nat, s.heap.size ≤ q → A q := fun q h => by rw [← hAe]; exact Or.inr h
  have hS : va_S A s.heap s.heap [] := va_S.rf
  have hl0 := lv_entry ([vR ra, vR ta, vI n]) (n := 5) (Nat.le_of_ble_eq_true rfl)
  rw [lg_entry_eq]
  generalize (lg_sl ([vR ra, vR ta, vI n]) ++ List.replicate (5 - (lg_sl ([vR ra, vR ta, vI n])).length) Slot.unset).toArray = ls at hl0 ⊢
  have hlv : lv_has ls 5 [(0, vR ra), (1, vR ta), (2, vI n)] := hl0
  have gg_0 : GoodIn vs_n_piece (vs_s_word) := goodIn_sub (fun w h => List.mem_cons_of_mem _ (List.mem_append_right _ (List.mem_append_left _ h))) gd_s_word
  have ini_RX8 := hts (.initialized RX8) (List.mem_of_getElem? (i := 1) rfl)
  have im_X8_word := hts (.instanceMethod yX8_word) (List.mem_of_getElem? (i := 2) rfl)
  have se_X8_word := hts (.selects RX8 yX8_word yX8_word) (List.mem_of_getElem? (i := 3) rfl)
  have lf35 := hts (.fieldLink RX5 35 "KerbSplash$Word" "RAIN" "LKerbSplash$Word;") (List.mem_of_getElem? (i := 4) rfl)
  have gg_1 : GoodIn vs_n_piece (vs_s_wantWord) := goodIn_sub (fun w h => List.mem_cons_of_mem _ (List.mem_append_right _ (List.mem_append_right _ (List.mem_append_left _ h)))) gd_s_wantWord
  have im_X8_wantWord := hts (.instanceMethod yX8_wantWord) (List.mem_of_getElem? (i := 5) rfl)
  have se_X8_wantWord := hts (.selects RX8 yX8_wantWord yX8_wantWord) (List.mem_of_getElem? (i := 6) rfl)
  have gg_2 : GoodIn vs_n_piece (vs_s_number) := goodIn_sub (fun w h => List.mem_cons_of_mem _ (List.mem_append_right _ (List.mem_append_right _ (List.mem_append_right _ (List.mem_append_left _ h))))) gd_s_number
  have im_X8_number := hts (.instanceMethod yX8_number) (List.mem_of_getElem? (i := 7) rfl)
  have se_X8_number := hts (.selects RX8 yX8_number yX8_number) (List.mem_of_getElem? (i := 8) rfl)
  have gg_3 : GoodIn vs_n_piece (vs_s_want) := goodIn_sub (fun w h => List.mem_cons_of_mem _ (List.mem_append_right _ (List.mem_append_right _ (List.mem_append_right _ (List.mem_append_right _ (List.mem_append_left _ h)))))) gd_s_want
  have im_X8_want := hts (.instanceMethod yX8_want) (List.mem_of_getElem? (i := 9) rfl)
  have se_X8_want := hts (.selects RX8 yX8_want yX8_want) (List.mem_of_getElem? (i := 10) rfl)
  have gg_4 : GoodIn vs_n_piece (vs_s_good) := goodIn_sub (fun w h => List.mem_cons_of_mem _ (List.mem_append_right _ (List.mem_append_right _ (List.mem_append_right _ (List.mem_append_right _ (List.mem_append_right _ (List.mem_append_left _ h))))))) gd_s_good
  have im_X8_good := hts (.instanceMethod yX8_good) (List.mem_of_getElem? (i := 11) rfl)
  have se_X8_good := hts (.selects RX8 yX8_good yX8_good) (List.mem_of_getElem? (i := 12) rfl)
  have gg_5 : GoodIn vs_n_piece (wsV RX5 56 RX5 yX5_add vs_s_radd) := goodIn_sub (fun w h => List.mem_cons_of_mem _ (List.mem_append_right _ (List.mem_append_right _ (List.mem_append_right _ (List.mem_append_right _ (List.mem_append_right _ (List.mem_append_right _ (List.mem_append_left _ h)))))))) (gd_V gd_s_radd (by decide +kernel))
  have gg_6 : GoodIn vs_n_piece (vs_s_refuse) := goodIn_sub (fun w h => List.mem_cons_of_mem _ (List.mem_append_right _ (List.mem_append_right _ (List.mem_append_right _ (List.mem_append_right _ (List.mem_append_right _ (List.mem_append_right _ (List.mem_append_right _ (List.mem_append_left _ h))))))))) gd_s_refuse
  have im_X8_refuse := hts (.instanceMethod yX8_refuse) (List.mem_of_getElem? (i := 13) rfl)
  have se_X8_refuse := hts (.selects RX8 yX8_refuse yX8_refuse) (List.mem_of_getElem? (i := 14) rfl)
  refine lv_aload_n hx hb dX5_readPiece_0 rfl (lv_at hlv 1 rfl) ?_
  refine cjr_r (ra := fun u : SV => wd sa (u.2.1 0)) [true, true, false, false] (fun pre9 => (va_runVN (host := "KerbSplash") (As := []) (rest := []) ⟨hx, hb, hml, hown, hts⟩ (s_word l hl D cy sa ta tb fed len at_ we fa fp bf s.heap.size (by first | exact hr_fed | omega) (by first | exact hr_len | omega) (by first | exact hr_at_ | omega) (by first | exact hr_we | omega) (by first | exact hr_fa | omega) (by first | exact hr_fp | omega)) ⟨va_cnB 0 hts gg_0 rfl rfl rfl (nM_Rain_31 hG.2.1) ini_RX8 (by decide +kernel) ⟨Nat.le_of_ble_eq_true rfl, Nat.le_of_ble_eq_true rfl⟩, im_X8_word, se_X8_word⟩ ⟨pcW.blind, (va_recv hG.1 hP (ci := 8) (q0 := 2) rfl rfl), pre9⟩ rfl rfl hlv.1 rfl (lv_room (Nat.le_of_ble_eq_true rfl)) dX5_readPiece_1 ⟨Nat.le_of_ble_eq_true rfl, Nat.le_of_ble_eq_true rfl⟩)) hP hD hS hA hG hT [2, 3] rfl (by decide +kernel) (fun u1 H locs hw1 hq9 hS => ?_)
  obtain ⟨hq1_0, hq1_1, hq1_2⟩ := hw1
  obtain ⟨hP, hD⟩ := pd9 [zO ra 5 [vR rf, vI rm], zI rf (cy 0) 240 ff, zO ta 8 [vR tb, vI fed, vI len, vI (u1.2.1 1), vI (u1.2.1 2), vI fa, vI fp], zI tb (cy 1) 600 bf] hq9
  refine va_gets (C := "KerbSplash$Word") (n := "RAIN") (d := "LKerbSplash$Word;") (ref := "KerbSplash$Word") (v := .ref (wd sa 10)) hx hb (hT.2.2.1 10 (by decide)).1.1 hS hown lf35 (fun _ h9 => h9) dX5_readPiece_4 ?_
  refine aw_ne (tgt := 21) hx hb hT.2.2 dX5_readPiece_7 (by decide) (by omega) (by omega) (fun c_1 => ?_) (fun c_1 => ?_)
  · refine lv_aload_n hx hb dX5_readPiece_21 rfl (lv_at hlv 1 rfl) ?_
    refine va_gets (C := "KerbSplash$Word") (n := "RAIN") (d := "LKerbSplash$Word;") (ref := "KerbSplash$Word") (v := .ref (wd sa 10)) hx hb (hT.2.2.1 10 (by decide)).1.1 hS hown lf35 (fun _ h9 => h9) dX5_readPiece_22 ?_
    refine cjr_v [true, true, false, false] (fun pre9 => (va_runVN (host := "KerbSplash") (As := [.ref (wd sa 10)]) (rest := []) ⟨hx, hb, hml, hown, hts⟩ (s_wantWord l hl D cy sa ta tb fed len (u1.2.1 1) (u1.2.1 2) fa fp bf 10 H.size (by first | exact hr_fed | omega) (by first | exact hr_len | omega) (by first | exact hq1_1 | omega) (by first | exact hq1_2 | omega) (by first | exact hr_fa | omega) (by first | exact hr_fp | omega) (by show (0 : Int) ≤ 10 ∧ (10 : Int) ≤ 27; decide)) ⟨va_cnB 1 hts gg_1 rfl rfl rfl (nM_Rain_41 hG.2.1) ini_RX8 (by decide +kernel) ⟨Nat.le_of_ble_eq_true rfl, Nat.le_of_ble_eq_true rfl⟩, im_X8_wantWord, se_X8_wantWord⟩ ⟨pcW.blind, (va_recv hG.1 hP (ci := 8) (q0 := 2) rfl rfl), pre9⟩ rfl rfl hlv.1 rfl (lv_room (Nat.le_of_ble_eq_true rfl)) dX5_readPiece_25 ⟨Nat.le_of_ble_eq_true rfl, Nat.le_of_ble_eq_true rfl⟩)) hP hD hS hA hG hT [2, 3] rfl (by decide +kernel) (fun u2 H locs hw2 hq9 hS => ?_)
    obtain ⟨hq2_0, hq2_1, hq2_2, hq2_3, hq2_4⟩ := hw2
    obtain ⟨hP, hD⟩ := pd9 [zO ra 5 [vR rf, vI rm], zI rf (cy 0) 240 ff, zO ta 8 [vR tb, vI fed, vI len, vI (u2.2.1 0), vI (u2.2.1 1), vI (u2.2.1 2), vI (u2.2.1 3)], zI tb (cy 1) 600 bf] hq9
    refine lv_aload_n hx hb dX5_readPiece_28 rfl (lv_at hlv 1 rfl) ?_
    refine lv_iconst (v := iI 0) hx hb dX5_readPiece_29 (by decide) ?_
    refine lv_bipush (v := iI 20) hx hb dX5_readPiece_30 (by decide) ?_
    refine cjr_i [true, true, false, false] (fun pre9 => (va_runVN (host := "KerbSplash") (As := [vI 0, vI 20]) (rest := []) ⟨hx, hb, hml, hown, hts⟩ (s_number l hl D cy sa ta tb fed len (u2.2.1 0) (u2.2.1 1) (u2.2.1 2) (u2.2.1 3) bf 0 20 H.size (by first | exact hr_fed | omega) (by first | exact hr_len | omega) (by first | exact hq2_0 | omega) (by first | exact hq2_1 | omega) (by first | exact hq2_2 | omega) (by first | exact hq2_3 | omega) (by show ((-1) : Int) ≤ 0 ∧ (0 : Int) ≤ 10000; decide) (by show ((-1) : Int) ≤ 20 ∧ (20 : Int) ≤ 9999; decide)) ⟨va_cnB 2 hts gg_2 rfl rfl rfl (nM_Rain_45 hG.2.1) ini_RX8 (by decide +kernel) ⟨Nat.le_of_ble_eq_true rfl, Nat.le_of_ble_eq_true rfl⟩, im_X8_number, se_X8_number⟩ ⟨pcW.blind, (va_recv hG.1 hP (ci := 8) (q0 := 2) rfl rfl), pre9⟩ rfl rfl hlv.1 rfl (lv_room (Nat.le_of_ble_eq_true rfl)) dX5_readPiece_32 ⟨Nat.le_of_ble_eq_true rfl, Nat.le_of_ble_eq_true rfl⟩)) hP hD hS hA hG hT [2, 3] rfl (by decide +kernel) (fun r3 u3 H locs hw3 hq9 hS => ?_)
    obtain ⟨rfl, hq3_1, hq3_2, hq3_3, hq3_4, hq3_5, hq3_6, hq3_7⟩ := hw3
    obtain ⟨hP, hD⟩ := pd9 [zO ra 5 [vR rf, vI rm], zI rf (cy 0) 240 ff, zO ta 8 [vR tb, vI fed, vI len, vI (u3.2.1 1), vI (u2.2.1 1), vI (u3.2.1 2), vI (u3.2.1 3)], zI tb (cy 1) 600 bf] hq9
    refine lv_istore_n (lv' := [(3, vI (u3.2.1 0)), (0, vR ra), (1, vR ta), (2, vI n)]) hx hb dX5_readPiece_35 rfl hlv (by decide) rfl (fun ls hlv => ?_)
    refine lv_aload_n hx hb dX5_readPiece_36 rfl (lv_at hlv 2 rfl) ?_
    refine lv_iconst (v := iI 1) hx hb dX5_readPiece_37 (by decide) ?_
    refine lv_bipush (v := iI 30) hx hb dX5_readPiece_38 (by decide) ?_
    refine cjr_i [true, true, false, false] (fun pre9 => (va_runVN (host := "KerbSplash") (As := [vI 1, vI 30]) (rest := []) ⟨hx, hb, hml, hown, hts⟩ (s_number l hl D cy sa ta tb fed len (u3.2.1 1) (u2.2.1 1) (u3.2.1 2) (u3.2.1 3) bf 1 30 H.size (by first | exact hr_fed | omega) (by first | exact hr_len | omega) (by first | exact hq3_2 | omega) (by first | exact hq2_1 | omega) (by first | exact hq3_3 | omega) (by first | exact hq3_4 | omega) (by show ((-1) : Int) ≤ 1 ∧ (1 : Int) ≤ 10000; decide) (by show ((-1) : Int) ≤ 30 ∧ (30 : Int) ≤ 9999; decide)) ⟨va_cnB 2 hts gg_2 rfl rfl rfl (nM_Rain_45 hG.2.1) ini_RX8 (by decide +kernel) ⟨Nat.le_of_ble_eq_true rfl, Nat.le_of_ble_eq_true rfl⟩, im_X8_number, se_X8_number⟩ ⟨pcW.blind, (va_recv hG.1 hP (ci := 8) (q0 := 2) rfl rfl), pre9⟩ rfl rfl hlv.1 rfl (lv_room (Nat.le_of_ble_eq_true rfl)) dX5_readPiece_40 ⟨Nat.le_of_ble_eq_true rfl, Nat.le_of_ble_eq_true rfl⟩)) hP hD hS hA hG hT [2, 3] rfl (by decide +kernel) (fun r4 u4 H locs hw4 hq9 hS => ?_)
    obtain ⟨rfl, hq4_1, hq4_2, hq4_3, hq4_4, hq4_5, hq4_6, hq4_7⟩ := hw4
    obtain ⟨hP, hD⟩ := pd9 [zO ra 5 [vR rf, vI rm], zI rf (cy 0) 240 ff, zO ta 8 [vR tb, vI fed, vI len, vI (u4.2.1 1), vI (u2.2.1 1), vI (u4.2.1 2), vI (u4.2.1 3)], zI tb (cy 1) 600 bf] hq9
    refine lv_istore (lv' := [(4, vI (u4.2.1 0)), (3, vI (u3.2.1 0)), (0, vR ra), (1, vR ta), (2, vI n)]) hx hb dX5_readPiece_43 hlv (by decide) rfl (fun ls hlv => ?_)
    refine lv_aload_n hx hb dX5_readPiece_45 rfl (lv_at hlv 3 rfl) ?_
    refine lv_bipush (v := iI 59) hx hb dX5_readPiece_46 (by decide) ?_
    refine cjr_v [true, true, false, false] (fun pre9 => (va_runVN (host := "KerbSplash") (As := [vI 59]) (rest := []) ⟨hx, hb, hml, hown, hts⟩ (s_want l hl D cy sa ta tb fed len (u4.2.1 1) (u2.2.1 1) (u4.2.1 2) (u4.2.1 3) bf 59 H.size (by first | exact hr_fed | omega) (by first | exact hr_len | omega) (by first | exact hq4_2 | omega) (by first | exact hq2_1 | omega) (by first | exact hq4_3 | omega) (by first | exact hq4_4 | omega) (by show (0 : Int) ≤ 59 ∧ (59 : Int) ≤ 65535; decide)) ⟨va_cnB 1 hts gg_3 rfl rfl rfl (nM_Rain_49 hG.2.1) ini_RX8 (by decide +kernel) ⟨Nat.le_of_ble_eq_true rfl, Nat.le_of_ble_eq_true rfl⟩, im_X8_want, se_X8_want⟩ ⟨pcW.blind, (va_recv hG.1 hP (ci := 8) (q0 := 2) rfl rfl), pre9⟩ rfl rfl hlv.1 rfl (lv_room (Nat.le_of_ble_eq_true rfl)) dX5_readPiece_48 ⟨Nat.le_of_ble_eq_true rfl, Nat.le_of_ble_eq_true rfl⟩)) hP hD hS hA hG hT [2, 3] rfl (by decide +kernel) (fun u5 H locs hw5 hq9 hS => ?_)
    obtain ⟨hq5_0, hq5_1, hq5_2, hq5_3, hq5_4⟩ := hw5
    obtain ⟨hP, hD⟩ := pd9 [zO ra 5 [vR rf, vI rm], zI rf (cy 0) 240 ff, zO ta 8 [vR tb, vI fed, vI len, vI (u5.2.1 0), vI (u2.2.1 1), vI (u5.2.1 1), vI (u5.2.1 2)], zI tb (cy 1) 600 bf] hq9
    refine lv_aload_n hx hb dX5_readPiece_51 rfl (lv_at hlv 3 rfl) ?_
    refine cjr_i [true, true, false, true] (fun pre9 => (va_runVN (host := "KerbSplash") (As := []) (rest := []) ⟨hx, hb, hml, hown, hts⟩ (s_good l hl D cy sa ta tb fed len (u5.2.1 0) (u2.2.1 1) (u5.2.1 1) (u5.2.1 2) H.size (by first | exact hr_fed | omega) (by first | exact hr_len | omega) (by first | exact hq5_0 | omega) (by first | exact hq2_1 | omega) (by first | exact hq5_1 | omega) (by first | exact hq5_2 | omega)) ⟨va_cnB 0 hts gg_4 rfl rfl rfl (nM_Rain_53 hG.2.1) ini_RX8 (by decide +kernel) ⟨Nat.le_of_ble_eq_true rfl, Nat.le_of_ble_eq_true rfl⟩, im_X8_good, se_X8_good⟩ ⟨pcW.blind, (va_recv hG.1 hP (ci := 8) (q0 := 2) rfl rfl), pre9⟩ rfl rfl hlv.1 rfl (lv_room (Nat.le_of_ble_eq_true rfl)) dX5_readPiece_52 ⟨Nat.le_of_ble_eq_true rfl, Nat.le_of_ble_eq_true rfl⟩)) hP hD hS hA hG hT [2] rfl (by decide +kernel) (fun r6 u6 H locs hw6 hq9 hS => ?_)
    obtain ⟨rfl, hq6_1, hq6_2, hq6_3⟩ := hw6
    obtain ⟨hP, hD⟩ := pd9 [zO ra 5 [vR rf, vI rm], zI rf (cy 0) 240 ff, zI tb (cy 1) 600 bf, zO ta 8 [vR tb, vI fed, vI len, vI (u5.2.1 0), vI (u2.2.1 1), vI (u5.2.1 1), vI (u5.2.1 2)]] hq9
    refine iz_eq (tgt := 65) hx hb dX5_readPiece_55 (by decide) (by first | exact rgw hq6_1 (by decide) (by decide) | omega) (fun c_2 => ?_) (fun c_2 => ?_)
    · refine W.widen (k := 0) (n := 0) (Nat.le_of_ble_eq_true rfl) (Nat.le_of_ble_eq_true rfl) ?_
      exact W.vret hx hb hr (fun t ht hW => ⟨⟨((fun k => ([] : List Nat).getD k 0), (fun k => ([(u5.2.1 0), (u2.2.1 1), (u5.2.1 1), (u5.2.1 2), rm] : List Int).getD k 0), (fun k => ([ff] : List (Nat → Int32)).getD k (fun _ => 0))), rfl, ⟨(by show (0 ≤ (u5.2.1 0) ∧ (u5.2.1 0) ≤ 600); first | exact hq5_0 | omega), (by show (0 ≤ (u2.2.1 1) ∧ (u2.2.1 1) ≤ 600); first | exact hq2_1 | omega), (by show (0 ≤ (u5.2.1 1) ∧ (u5.2.1 1) ≤ 4); first | exact hq5_1 | omega), (by show ((-1) ≤ (u5.2.1 2) ∧ (u5.2.1 2) ≤ 600); first | exact hq5_2 | omega), (by show (0 ≤ rm ∧ rm ≤ 240); first | exact hr_rm | omega), hff⟩, at9 ht hP hD [0, 1, 3, 2] (by decide +kernel) rfl⟩, hS.F ht⟩) hS.2.2 dX5_readPiece_65
    · refine lv_aload_n hx hb dX5_readPiece_58 rfl (lv_at hlv 2 rfl) ?_
      refine lv_iload_n hx hb dX5_readPiece_59 rfl (lv_at hlv 1 rfl) ?_
      refine lv_iload hx hb dX5_readPiece_60 (lv_at hlv 0 rfl) ?_
      refine cjr_v [false, false, true, true] (fun pre9 => (va_runV (As := [vI (u3.2.1 0), vI (u4.2.1 0)]) (rest := []) ⟨hx, hb, hml, hown, hts⟩ (s_radd l hl D cy sa ra rf rm (u3.2.1 0) (u4.2.1 0) ff H.size (by first | exact hr_rm | omega) (by omega) (by first | exact rgw hq4_1 (by decide) (by decide) | omega) hff) (cwV 2 hts gg_5 rfl rfl rfl (by decide +kernel) ⟨Nat.le_of_ble_eq_true rfl, Nat.le_of_ble_eq_true rfl⟩) ⟨pcW.blind, (va_recv hG.1 hP (ci := 5) (q0 := 0) rfl rfl), pre9⟩ rfl rfl hlv.1 rfl (lv_room (Nat.le_of_ble_eq_true rfl)) dX5_readPiece_62 ⟨Nat.le_of_ble_eq_true rfl, Nat.le_of_ble_eq_true rfl⟩)) hP hD hS hA hG hT [0, 1] rfl (by decide +kernel) (fun u7 H locs hw7 hq9 hS => ?_)
      obtain ⟨hq7_0, hq7_1⟩ := hw7
      obtain ⟨hP, hD⟩ := pd9 [zI tb (cy 1) 600 bf, zO ta 8 [vR tb, vI fed, vI len, vI (u5.2.1 0), vI (u2.2.1 1), vI (u5.2.1 1), vI (u5.2.1 2)], zO ra 5 [vR rf, vI (u7.2.1 0)], zI rf (cy 0) 240 (u7.2.2 0)] hq9
      refine W.widen (k := 0) (n := 0) (Nat.le_of_ble_eq_true rfl) (Nat.le_of_ble_eq_true rfl) ?_
      exact W.vret hx hb hr (fun t ht hW => ⟨⟨((fun k => ([] : List Nat).getD k 0), (fun k => ([(u5.2.1 0), (u2.2.1 1), (u5.2.1 1), (u5.2.1 2), (u7.2.1 0)] : List Int).getD k 0), (fun k => ([(u7.2.2 0)] : List (Nat → Int32)).getD k (fun _ => 0))), rfl, ⟨(by show (0 ≤ (u5.2.1 0) ∧ (u5.2.1 0) ≤ 600); first | exact hq5_0 | omega), (by show (0 ≤ (u2.2.1 1) ∧ (u2.2.1 1) ≤ 600); first | exact hq2_1 | omega), (by show (0 ≤ (u5.2.1 1) ∧ (u5.2.1 1) ≤ 4); first | exact hq5_1 | omega), (by show ((-1) ≤ (u5.2.1 2) ∧ (u5.2.1 2) ≤ 600); first | exact hq5_2 | omega), (by show (0 ≤ (u7.2.1 0) ∧ (u7.2.1 0) ≤ 240); first | exact hq7_0 | omega), hq7_1⟩, at9 ht hP hD [2, 3, 1, 0] (by decide +kernel) rfl⟩, hS.F ht⟩) hS.2.2 dX5_readPiece_65
  · refine lv_iload_n hx hb dX5_readPiece_10 rfl (lv_at hlv 2 rfl) ?_
    refine lv_bipush (v := iI 8) hx hb dX5_readPiece_11 (by decide) ?_
    refine ir_ne (tgt := 21) hx hb dX5_readPiece_13 (by decide) (by first | exact rgw hr_n (by decide) (by decide) | omega) (by show ((-2147483648) : Int) ≤ 8 ∧ (8 : Int) ≤ 2147483647; decide) (fun c_3 => ?_) (fun c_3 => ?_)
    · refine lv_aload_n hx hb dX5_readPiece_21 rfl (lv_at hlv 1 rfl) ?_
      refine va_gets (C := "KerbSplash$Word") (n := "RAIN") (d := "LKerbSplash$Word;") (ref := "KerbSplash$Word") (v := .ref (wd sa 10)) hx hb (hT.2.2.1 10 (by decide)).1.1 hS hown lf35 (fun _ h9 => h9) dX5_readPiece_22 ?_
      refine cjr_v [true, true, false, false] (fun pre9 => (va_runVN (host := "KerbSplash") (As := [.ref (wd sa 10)]) (rest := []) ⟨hx, hb, hml, hown, hts⟩ (s_wantWord l hl D cy sa ta tb fed len (u1.2.1 1) (u1.2.1 2) fa fp bf 10 H.size (by first | exact hr_fed | omega) (by first | exact hr_len | omega) (by first | exact hq1_1 | omega) (by first | exact hq1_2 | omega) (by first | exact hr_fa | omega) (by first | exact hr_fp | omega) (by show (0 : Int) ≤ 10 ∧ (10 : Int) ≤ 27; decide)) ⟨va_cnB 1 hts gg_1 rfl rfl rfl (nM_Rain_41 hG.2.1) ini_RX8 (by decide +kernel) ⟨Nat.le_of_ble_eq_true rfl, Nat.le_of_ble_eq_true rfl⟩, im_X8_wantWord, se_X8_wantWord⟩ ⟨pcW.blind, (va_recv hG.1 hP (ci := 8) (q0 := 2) rfl rfl), pre9⟩ rfl rfl hlv.1 rfl (lv_room (Nat.le_of_ble_eq_true rfl)) dX5_readPiece_25 ⟨Nat.le_of_ble_eq_true rfl, Nat.le_of_ble_eq_true rfl⟩)) hP hD hS hA hG hT [2, 3] rfl (by decide +kernel) (fun u8 H locs hw8 hq9 hS => ?_)
      obtain ⟨hq8_0, hq8_1, hq8_2, hq8_3, hq8_4⟩ := hw8
      obtain ⟨hP, hD⟩ := pd9 [zO ra 5 [vR rf, vI rm], zI rf (cy 0) 240 ff, zO ta 8 [vR tb, vI fed, vI len, vI (u8.2.1 0), vI (u8.2.1 1), vI (u8.2.1 2), vI (u8.2.1 3)], zI tb (cy 1) 600 bf] hq9
      refine lv_aload_n hx hb dX5_readPiece_28 rfl (lv_at hlv 1 rfl) ?_
      refine lv_iconst (v := iI 0) hx hb dX5_readPiece_29 (by decide) ?_
      refine lv_bipush (v := iI 20) hx hb dX5_readPiece_30 (by decide) ?_
      refine cjr_i [true, true, false, false] (fun pre9 => (va_runVN (host := "KerbSplash") (As := [vI 0, vI 20]) (rest := []) ⟨hx, hb, hml, hown, hts⟩ (s_number l hl D cy sa ta tb fed len (u8.2.1 0) (u8.2.1 1) (u8.2.1 2) (u8.2.1 3) bf 0 20 H.size (by first | exact hr_fed | omega) (by first | exact hr_len | omega) (by first | exact hq8_0 | omega) (by first | exact hq8_1 | omega) (by first | exact hq8_2 | omega) (by first | exact hq8_3 | omega) (by show ((-1) : Int) ≤ 0 ∧ (0 : Int) ≤ 10000; decide) (by show ((-1) : Int) ≤ 20 ∧ (20 : Int) ≤ 9999; decide)) ⟨va_cnB 2 hts gg_2 rfl rfl rfl (nM_Rain_45 hG.2.1) ini_RX8 (by decide +kernel) ⟨Nat.le_of_ble_eq_true rfl, Nat.le_of_ble_eq_true rfl⟩, im_X8_number, se_X8_number⟩ ⟨pcW.blind, (va_recv hG.1 hP (ci := 8) (q0 := 2) rfl rfl), pre9⟩ rfl rfl hlv.1 rfl (lv_room (Nat.le_of_ble_eq_true rfl)) dX5_readPiece_32 ⟨Nat.le_of_ble_eq_true rfl, Nat.le_of_ble_eq_true rfl⟩)) hP hD hS hA hG hT [2, 3] rfl (by decide +kernel) (fun r9 u9 H locs hw9 hq9 hS => ?_)
      obtain ⟨rfl, hq9_1, hq9_2, hq9_3, hq9_4, hq9_5, hq9_6, hq9_7⟩ := hw9
      obtain ⟨hP, hD⟩ := pd9 [zO ra 5 [vR rf, vI rm], zI rf (cy 0) 240 ff, zO ta 8 [vR tb, vI fed, vI len, vI (u9.2.1 1), vI (u8.2.1 1), vI (u9.2.1 2), vI (u9.2.1 3)], zI tb (cy 1) 600 bf] hq9
      refine lv_istore_n (lv' := [(3, vI (u9.2.1 0)), (0, vR ra), (1, vR ta), (2, vI n)]) hx hb dX5_readPiece_35 rfl hlv (by decide) rfl (fun ls hlv => ?_)
      refine lv_aload_n hx hb dX5_readPiece_36 rfl (lv_at hlv 2 rfl) ?_
      refine lv_iconst (v := iI 1) hx hb dX5_readPiece_37 (by decide) ?_
      refine lv_bipush (v := iI 30) hx hb dX5_readPiece_38 (by decide) ?_
      refine cjr_i [true, true, false, false] (fun pre9 => (va_runVN (host := "KerbSplash") (As := [vI 1, vI 30]) (rest := []) ⟨hx, hb, hml, hown, hts⟩ (s_number l hl D cy sa ta tb fed len (u9.2.1 1) (u8.2.1 1) (u9.2.1 2) (u9.2.1 3) bf 1 30 H.size (by first | exact hr_fed | omega) (by first | exact hr_len | omega) (by first | exact hq9_2 | omega) (by first | exact hq8_1 | omega) (by first | exact hq9_3 | omega) (by first | exact hq9_4 | omega) (by show ((-1) : Int) ≤ 1 ∧ (1 : Int) ≤ 10000; decide) (by show ((-1) : Int) ≤ 30 ∧ (30 : Int) ≤ 9999; decide)) ⟨va_cnB 2 hts gg_2 rfl rfl rfl (nM_Rain_45 hG.2.1) ini_RX8 (by decide +kernel) ⟨Nat.le_of_ble_eq_true rfl, Nat.le_of_ble_eq_true rfl⟩, im_X8_number, se_X8_number⟩ ⟨pcW.blind, (va_recv hG.1 hP (ci := 8) (q0 := 2) rfl rfl), pre9⟩ rfl rfl hlv.1 rfl (lv_room (Nat.le_of_ble_eq_true rfl)) dX5_readPiece_40 ⟨Nat.le_of_ble_eq_true rfl, Nat.le_of_ble_eq_true rfl⟩)) hP hD hS hA hG hT [2, 3] rfl (by decide +kernel) (fun r10 u10 H locs hw10 hq9 hS => ?_)
      obtain ⟨rfl, hq10_1, hq10_2, hq10_3, hq10_4, hq10_5, hq10_6, hq10_7⟩ := hw10
      obtain ⟨hP, hD⟩ := pd9 [zO ra 5 [vR rf, vI rm], zI rf (cy 0) 240 ff, zO ta 8 [vR tb, vI fed, vI len, vI (u10.2.1 1), vI (u8.2.1 1), vI (u10.2.1 2), vI (u10.2.1 3)], zI tb (cy 1) 600 bf] hq9
      refine lv_istore (lv' := [(4, vI (u10.2.1 0)), (3, vI (u9.2.1 0)), (0, vR ra), (1, vR ta), (2, vI n)]) hx hb dX5_readPiece_43 hlv (by decide) rfl (fun ls hlv => ?_)
      refine lv_aload_n hx hb dX5_readPiece_45 rfl (lv_at hlv 3 rfl) ?_
      refine lv_bipush (v := iI 59) hx hb dX5_readPiece_46 (by decide) ?_
      refine cjr_v [true, true, false, false] (fun pre9 => (va_runVN (host := "KerbSplash") (As := [vI 59]) (rest := []) ⟨hx, hb, hml, hown, hts⟩ (s_want l hl D cy sa ta tb fed len (u10.2.1 1) (u8.2.1 1) (u10.2.1 2) (u10.2.1 3) bf 59 H.size (by first | exact hr_fed | omega) (by first | exact hr_len | omega) (by first | exact hq10_2 | omega) (by first | exact hq8_1 | omega) (by first | exact hq10_3 | omega) (by first | exact hq10_4 | omega) (by show (0 : Int) ≤ 59 ∧ (59 : Int) ≤ 65535; decide)) ⟨va_cnB 1 hts gg_3 rfl rfl rfl (nM_Rain_49 hG.2.1) ini_RX8 (by decide +kernel) ⟨Nat.le_of_ble_eq_true rfl, Nat.le_of_ble_eq_true rfl⟩, im_X8_want, se_X8_want⟩ ⟨pcW.blind, (va_recv hG.1 hP (ci := 8) (q0 := 2) rfl rfl), pre9⟩ rfl rfl hlv.1 rfl (lv_room (Nat.le_of_ble_eq_true rfl)) dX5_readPiece_48 ⟨Nat.le_of_ble_eq_true rfl, Nat.le_of_ble_eq_true rfl⟩)) hP hD hS hA hG hT [2, 3] rfl (by decide +kernel) (fun u11 H locs hw11 hq9 hS => ?_)
      obtain ⟨hq11_0, hq11_1, hq11_2, hq11_3, hq11_4⟩ := hw11
      obtain ⟨hP, hD⟩ := pd9 [zO ra 5 [vR rf, vI rm], zI rf (cy 0) 240 ff, zO ta 8 [vR tb, vI fed, vI len, vI (u11.2.1 0), vI (u8.2.1 1), vI (u11.2.1 1), vI (u11.2.1 2)], zI tb (cy 1) 600 bf] hq9
      refine lv_aload_n hx hb dX5_readPiece_51 rfl (lv_at hlv 3 rfl) ?_
      refine cjr_i [true, true, false, true] (fun pre9 => (va_runVN (host := "KerbSplash") (As := []) (rest := []) ⟨hx, hb, hml, hown, hts⟩ (s_good l hl D cy sa ta tb fed len (u11.2.1 0) (u8.2.1 1) (u11.2.1 1) (u11.2.1 2) H.size (by first | exact hr_fed | omega) (by first | exact hr_len | omega) (by first | exact hq11_0 | omega) (by first | exact hq8_1 | omega) (by first | exact hq11_1 | omega) (by first | exact hq11_2 | omega)) ⟨va_cnB 0 hts gg_4 rfl rfl rfl (nM_Rain_53 hG.2.1) ini_RX8 (by decide +kernel) ⟨Nat.le_of_ble_eq_true rfl, Nat.le_of_ble_eq_true rfl⟩, im_X8_good, se_X8_good⟩ ⟨pcW.blind, (va_recv hG.1 hP (ci := 8) (q0 := 2) rfl rfl), pre9⟩ rfl rfl hlv.1 rfl (lv_room (Nat.le_of_ble_eq_true rfl)) dX5_readPiece_52 ⟨Nat.le_of_ble_eq_true rfl, Nat.le_of_ble_eq_true rfl⟩)) hP hD hS hA hG hT [2] rfl (by decide +kernel) (fun r12 u12 H locs hw12 hq9 hS => ?_)
      obtain ⟨rfl, hq12_1, hq12_2, hq12_3⟩ := hw12
      obtain ⟨hP, hD⟩ := pd9 [zO ra 5 [vR rf, vI rm], zI rf (cy 0) 240 ff, zI tb (cy 1) 600 bf, zO ta 8 [vR tb, vI fed, vI len, vI (u11.2.1 0), vI (u8.2.1 1), vI (u11.2.1 1), vI (u11.2.1 2)]] hq9
      refine iz_eq (tgt := 65) hx hb dX5_readPiece_55 (by decide) (by first | exact rgw hq12_1 (by decide) (by decide) | omega) (fun c_4 => ?_) (fun c_4 => ?_)
      · refine W.widen (k := 0) (n := 0) (Nat.le_of_ble_eq_true rfl) (Nat.le_of_ble_eq_true rfl) ?_
        exact W.vret hx hb hr (fun t ht hW => ⟨⟨((fun k => ([] : List Nat).getD k 0), (fun k => ([(u11.2.1 0), (u8.2.1 1), (u11.2.1 1), (u11.2.1 2), rm] : List Int).getD k 0), (fun k => ([ff] : List (Nat → Int32)).getD k (fun _ => 0))), rfl, ⟨(by show (0 ≤ (u11.2.1 0) ∧ (u11.2.1 0) ≤ 600); first | exact hq11_0 | omega), (by show (0 ≤ (u8.2.1 1) ∧ (u8.2.1 1) ≤ 600); first | exact hq8_1 | omega), (by show (0 ≤ (u11.2.1 1) ∧ (u11.2.1 1) ≤ 4); first | exact hq11_1 | omega), (by show ((-1) ≤ (u11.2.1 2) ∧ (u11.2.1 2) ≤ 600); first | exact hq11_2 | omega), (by show (0 ≤ rm ∧ rm ≤ 240); first | exact hr_rm | omega), hff⟩, at9 ht hP hD [0, 1, 3, 2] (by decide +kernel) rfl⟩, hS.F ht⟩) hS.2.2 dX5_readPiece_65
      · refine lv_aload_n hx hb dX5_readPiece_58 rfl (lv_at hlv 2 rfl) ?_
        refine lv_iload_n hx hb dX5_readPiece_59 rfl (lv_at hlv 1 rfl) ?_
        refine lv_iload hx hb dX5_readPiece_60 (lv_at hlv 0 rfl) ?_
        refine cjr_v [false, false, true, true] (fun pre9 => (va_runV (As := [vI (u9.2.1 0), vI (u10.2.1 0)]) (rest := []) ⟨hx, hb, hml, hown, hts⟩ (s_radd l hl D cy sa ra rf rm (u9.2.1 0) (u10.2.1 0) ff H.size (by first | exact hr_rm | omega) (by omega) (by first | exact rgw hq10_1 (by decide) (by decide) | omega) hff) (cwV 2 hts gg_5 rfl rfl rfl (by decide +kernel) ⟨Nat.le_of_ble_eq_true rfl, Nat.le_of_ble_eq_true rfl⟩) ⟨pcW.blind, (va_recv hG.1 hP (ci := 5) (q0 := 0) rfl rfl), pre9⟩ rfl rfl hlv.1 rfl (lv_room (Nat.le_of_ble_eq_true rfl)) dX5_readPiece_62 ⟨Nat.le_of_ble_eq_true rfl, Nat.le_of_ble_eq_true rfl⟩)) hP hD hS hA hG hT [0, 1] rfl (by decide +kernel) (fun u13 H locs hw13 hq9 hS => ?_)
        obtain ⟨hq13_0, hq13_1⟩ := hw13
        obtain ⟨hP, hD⟩ := pd9 [zI tb (cy 1) 600 bf, zO ta 8 [vR tb, vI fed, vI len, vI (u11.2.1 0), vI (u8.2.1 1), vI (u11.2.1 1), vI (u11.2.1 2)], zO ra 5 [vR rf, vI (u13.2.1 0)], zI rf (cy 0) 240 (u13.2.2 0)] hq9
        refine W.widen (k := 0) (n := 0) (Nat.le_of_ble_eq_true rfl) (Nat.le_of_ble_eq_true rfl) ?_
        exact W.vret hx hb hr (fun t ht hW => ⟨⟨((fun k => ([] : List Nat).getD k 0), (fun k => ([(u11.2.1 0), (u8.2.1 1), (u11.2.1 1), (u11.2.1 2), (u13.2.1 0)] : List Int).getD k 0), (fun k => ([(u13.2.2 0)] : List (Nat → Int32)).getD k (fun _ => 0))), rfl, ⟨(by show (0 ≤ (u11.2.1 0) ∧ (u11.2.1 0) ≤ 600); first | exact hq11_0 | omega), (by show (0 ≤ (u8.2.1 1) ∧ (u8.2.1 1) ≤ 600); first | exact hq8_1 | omega), (by show (0 ≤ (u11.2.1 1) ∧ (u11.2.1 1) ≤ 4); first | exact hq11_1 | omega), (by show ((-1) ≤ (u11.2.1 2) ∧ (u11.2.1 2) ≤ 600); first | exact hq11_2 | omega), (by show (0 ≤ (u13.2.1 0) ∧ (u13.2.1 0) ≤ 240); first | exact hq13_0 | omega), hq13_1⟩, at9 ht hP hD [2, 3, 1, 0] (by decide +kernel) rfl⟩, hS.F ht⟩) hS.2.2 dX5_readPiece_65
    · refine lv_aload_n hx hb dX5_readPiece_16 rfl (lv_at hlv 1 rfl) ?_
      refine lv_iconst (v := iI 3) hx hb dX5_readPiece_17 (by decide) ?_
      refine cjr_v [true, true, false, true] (fun pre9 => (va_runVN (host := "KerbSplash") (As := [vI 3]) (rest := []) ⟨hx, hb, hml, hown, hts⟩ (s_refuse l hl D cy sa ta tb fed len (u1.2.1 1) (u1.2.1 2) fa fp 3 H.size (by first | exact hr_fed | omega) (by first | exact hr_len | omega) (by first | exact hq1_1 | omega) (by first | exact hq1_2 | omega) (by first | exact hr_fa | omega) (by first | exact hr_fp | omega) (by show (1 : Int) ≤ 3 ∧ (3 : Int) ≤ 4; decide)) ⟨va_cnB 1 hts gg_6 rfl rfl rfl (nM_Rain_23 hG.2.1) ini_RX8 (by decide +kernel) ⟨Nat.le_of_ble_eq_true rfl, Nat.le_of_ble_eq_true rfl⟩, im_X8_refuse, se_X8_refuse⟩ ⟨pcW.blind, (va_recv hG.1 hP (ci := 8) (q0 := 2) rfl rfl), pre9⟩ rfl rfl hlv.1 rfl (lv_room (Nat.le_of_ble_eq_true rfl)) dX5_readPiece_18 ⟨Nat.le_of_ble_eq_true rfl, Nat.le_of_ble_eq_true rfl⟩)) hP hD hS hA hG hT [2] rfl (by decide +kernel) (fun u14 H locs hw14 hq9 hS => ?_)
      obtain ⟨hq14_0, hq14_1⟩ := hw14
      obtain ⟨hP, hD⟩ := pd9 [zO ra 5 [vR rf, vI rm], zI rf (cy 0) 240 ff, zI tb (cy 1) 600 bf, zO ta 8 [vR tb, vI fed, vI len, vI (u1.2.1 1), vI (u1.2.1 2), vI (u14.2.1 0), vI (u14.2.1 1)]] hq9
      refine lv_aload_n hx hb dX5_readPiece_21 rfl (lv_at hlv 1 rfl) ?_
      refine va_gets (C := "KerbSplash$Word") (n := "RAIN") (d := "LKerbSplash$Word;") (ref := "KerbSplash$Word") (v := .ref (wd sa 10)) hx hb (hT.2.2.1 10 (by decide)).1.1 hS hown lf35 (fun _ h9 => h9) dX5_readPiece_22 ?_
      refine cjr_v [true, true, false, false] (fun pre9 => (va_runVN (host := "KerbSplash") (As := [.ref (wd sa 10)]) (rest := []) ⟨hx, hb, hml, hown, hts⟩ (s_wantWord l hl D cy sa ta tb fed len (u1.2.1 1) (u1.2.1 2) (u14.2.1 0) (u14.2.1 1) bf 10 H.size (by first | exact hr_fed | omega) (by first | exact hr_len | omega) (by first | exact hq1_1 | omega) (by first | exact hq1_2 | omega) (by first | exact rgw hq14_0 (by decide) (by decide) | omega) (by first | exact hq14_1 | omega) (by show (0 : Int) ≤ 10 ∧ (10 : Int) ≤ 27; decide)) ⟨va_cnB 1 hts gg_1 rfl rfl rfl (nM_Rain_41 hG.2.1) ini_RX8 (by decide +kernel) ⟨Nat.le_of_ble_eq_true rfl, Nat.le_of_ble_eq_true rfl⟩, im_X8_wantWord, se_X8_wantWord⟩ ⟨pcW.blind, (va_recv hG.1 hP (ci := 8) (q0 := 3) rfl rfl), pre9⟩ rfl rfl hlv.1 rfl (lv_room (Nat.le_of_ble_eq_true rfl)) dX5_readPiece_25 ⟨Nat.le_of_ble_eq_true rfl, Nat.le_of_ble_eq_true rfl⟩)) hP hD hS hA hG hT [3, 2] rfl (by decide +kernel) (fun u15 H locs hw15 hq9 hS => ?_)
      obtain ⟨hq15_0, hq15_1, hq15_2, hq15_3, hq15_4⟩ := hw15
      obtain ⟨hP, hD⟩ := pd9 [zO ra 5 [vR rf, vI rm], zI rf (cy 0) 240 ff, zO ta 8 [vR tb, vI fed, vI len, vI (u15.2.1 0), vI (u15.2.1 1), vI (u15.2.1 2), vI (u15.2.1 3)], zI tb (cy 1) 600 bf] hq9
      refine lv_aload_n hx hb dX5_readPiece_28 rfl (lv_at hlv 1 rfl) ?_
      refine lv_iconst (v := iI 0) hx hb dX5_readPiece_29 (by decide) ?_
      refine lv_bipush (v := iI 20) hx hb dX5_readPiece_30 (by decide) ?_
      refine cjr_i [true, true, false, false] (fun pre9 => (va_runVN (host := "KerbSplash") (As := [vI 0, vI 20]) (rest := []) ⟨hx, hb, hml, hown, hts⟩ (s_number l hl D cy sa ta tb fed len (u15.2.1 0) (u15.2.1 1) (u15.2.1 2) (u15.2.1 3) bf 0 20 H.size (by first | exact hr_fed | omega) (by first | exact hr_len | omega) (by first | exact hq15_0 | omega) (by first | exact hq15_1 | omega) (by first | exact hq15_2 | omega) (by first | exact hq15_3 | omega) (by show ((-1) : Int) ≤ 0 ∧ (0 : Int) ≤ 10000; decide) (by show ((-1) : Int) ≤ 20 ∧ (20 : Int) ≤ 9999; decide)) ⟨va_cnB 2 hts gg_2 rfl rfl rfl (nM_Rain_45 hG.2.1) ini_RX8 (by decide +kernel) ⟨Nat.le_of_ble_eq_true rfl, Nat.le_of_ble_eq_true rfl⟩, im_X8_number, se_X8_number⟩ ⟨pcW.blind, (va_recv hG.1 hP (ci := 8) (q0 := 2) rfl rfl), pre9⟩ rfl rfl hlv.1 rfl (lv_room (Nat.le_of_ble_eq_true rfl)) dX5_readPiece_32 ⟨Nat.le_of_ble_eq_true rfl, Nat.le_of_ble_eq_true rfl⟩)) hP hD hS hA hG hT [2, 3] rfl (by decide +kernel) (fun r16 u16 H locs hw16 hq9 hS => ?_)
      obtain ⟨rfl, hq16_1, hq16_2, hq16_3, hq16_4, hq16_5, hq16_6, hq16_7⟩ := hw16
      obtain ⟨hP, hD⟩ := pd9 [zO ra 5 [vR rf, vI rm], zI rf (cy 0) 240 ff, zO ta 8 [vR tb, vI fed, vI len, vI (u16.2.1 1), vI (u15.2.1 1), vI (u16.2.1 2), vI (u16.2.1 3)], zI tb (cy 1) 600 bf] hq9
      refine lv_istore_n (lv' := [(3, vI (u16.2.1 0)), (0, vR ra), (1, vR ta), (2, vI n)]) hx hb dX5_readPiece_35 rfl hlv (by decide) rfl (fun ls hlv => ?_)
      refine lv_aload_n hx hb dX5_readPiece_36 rfl (lv_at hlv 2 rfl) ?_
      refine lv_iconst (v := iI 1) hx hb dX5_readPiece_37 (by decide) ?_
      refine lv_bipush (v := iI 30) hx hb dX5_readPiece_38 (by decide) ?_
      refine cjr_i [true, true, false, false] (fun pre9 => (va_runVN (host := "KerbSplash") (As := [vI 1, vI 30]) (rest := []) ⟨hx, hb, hml, hown, hts⟩ (s_number l hl D cy sa ta tb fed len (u16.2.1 1) (u15.2.1 1) (u16.2.1 2) (u16.2.1 3) bf 1 30 H.size (by first | exact hr_fed | omega) (by first | exact hr_len | omega) (by first | exact hq16_2 | omega) (by first | exact hq15_1 | omega) (by first | exact hq16_3 | omega) (by first | exact hq16_4 | omega) (by show ((-1) : Int) ≤ 1 ∧ (1 : Int) ≤ 10000; decide) (by show ((-1) : Int) ≤ 30 ∧ (30 : Int) ≤ 9999; decide)) ⟨va_cnB 2 hts gg_2 rfl rfl rfl (nM_Rain_45 hG.2.1) ini_RX8 (by decide +kernel) ⟨Nat.le_of_ble_eq_true rfl, Nat.le_of_ble_eq_true rfl⟩, im_X8_number, se_X8_number⟩ ⟨pcW.blind, (va_recv hG.1 hP (ci := 8) (q0 := 2) rfl rfl), pre9⟩ rfl rfl hlv.1 rfl (lv_room (Nat.le_of_ble_eq_true rfl)) dX5_readPiece_40 ⟨Nat.le_of_ble_eq_true rfl, Nat.le_of_ble_eq_true rfl⟩)) hP hD hS hA hG hT [2, 3] rfl (by decide +kernel) (fun r17 u17 H locs hw17 hq9 hS => ?_)
      obtain ⟨rfl, hq17_1, hq17_2, hq17_3, hq17_4, hq17_5, hq17_6, hq17_7⟩ := hw17
      obtain ⟨hP, hD⟩ := pd9 [zO ra 5 [vR rf, vI rm], zI rf (cy 0) 240 ff, zO ta 8 [vR tb, vI fed, vI len, vI (u17.2.1 1), vI (u15.2.1 1), vI (u17.2.1 2), vI (u17.2.1 3)], zI tb (cy 1) 600 bf] hq9
      refine lv_istore (lv' := [(4, vI (u17.2.1 0)), (3, vI (u16.2.1 0)), (0, vR ra), (1, vR ta), (2, vI n)]) hx hb dX5_readPiece_43 hlv (by decide) rfl (fun ls hlv => ?_)
      refine lv_aload_n hx hb dX5_readPiece_45 rfl (lv_at hlv 3 rfl) ?_
      refine lv_bipush (v := iI 59) hx hb dX5_readPiece_46 (by decide) ?_
      refine cjr_v [true, true, false, false] (fun pre9 => (va_runVN (host := "KerbSplash") (As := [vI 59]) (rest := []) ⟨hx, hb, hml, hown, hts⟩ (s_want l hl D cy sa ta tb fed len (u17.2.1 1) (u15.2.1 1) (u17.2.1 2) (u17.2.1 3) bf 59 H.size (by first | exact hr_fed | omega) (by first | exact hr_len | omega) (by first | exact hq17_2 | omega) (by first | exact hq15_1 | omega) (by first | exact hq17_3 | omega) (by first | exact hq17_4 | omega) (by show (0 : Int) ≤ 59 ∧ (59 : Int) ≤ 65535; decide)) ⟨va_cnB 1 hts gg_3 rfl rfl rfl (nM_Rain_49 hG.2.1) ini_RX8 (by decide +kernel) ⟨Nat.le_of_ble_eq_true rfl, Nat.le_of_ble_eq_true rfl⟩, im_X8_want, se_X8_want⟩ ⟨pcW.blind, (va_recv hG.1 hP (ci := 8) (q0 := 2) rfl rfl), pre9⟩ rfl rfl hlv.1 rfl (lv_room (Nat.le_of_ble_eq_true rfl)) dX5_readPiece_48 ⟨Nat.le_of_ble_eq_true rfl, Nat.le_of_ble_eq_true rfl⟩)) hP hD hS hA hG hT [2, 3] rfl (by decide +kernel) (fun u18 H locs hw18 hq9 hS => ?_)
      obtain ⟨hq18_0, hq18_1, hq18_2, hq18_3, hq18_4⟩ := hw18
      obtain ⟨hP, hD⟩ := pd9 [zO ra 5 [vR rf, vI rm], zI rf (cy 0) 240 ff, zO ta 8 [vR tb, vI fed, vI len, vI (u18.2.1 0), vI (u15.2.1 1), vI (u18.2.1 1), vI (u18.2.1 2)], zI tb (cy 1) 600 bf] hq9
      refine lv_aload_n hx hb dX5_readPiece_51 rfl (lv_at hlv 3 rfl) ?_
      refine cjr_i [true, true, false, true] (fun pre9 => (va_runVN (host := "KerbSplash") (As := []) (rest := []) ⟨hx, hb, hml, hown, hts⟩ (s_good l hl D cy sa ta tb fed len (u18.2.1 0) (u15.2.1 1) (u18.2.1 1) (u18.2.1 2) H.size (by first | exact hr_fed | omega) (by first | exact hr_len | omega) (by first | exact hq18_0 | omega) (by first | exact hq15_1 | omega) (by first | exact hq18_1 | omega) (by first | exact hq18_2 | omega)) ⟨va_cnB 0 hts gg_4 rfl rfl rfl (nM_Rain_53 hG.2.1) ini_RX8 (by decide +kernel) ⟨Nat.le_of_ble_eq_true rfl, Nat.le_of_ble_eq_true rfl⟩, im_X8_good, se_X8_good⟩ ⟨pcW.blind, (va_recv hG.1 hP (ci := 8) (q0 := 2) rfl rfl), pre9⟩ rfl rfl hlv.1 rfl (lv_room (Nat.le_of_ble_eq_true rfl)) dX5_readPiece_52 ⟨Nat.le_of_ble_eq_true rfl, Nat.le_of_ble_eq_true rfl⟩)) hP hD hS hA hG hT [2] rfl (by decide +kernel) (fun r19 u19 H locs hw19 hq9 hS => ?_)
      obtain ⟨rfl, hq19_1, hq19_2, hq19_3⟩ := hw19
      obtain ⟨hP, hD⟩ := pd9 [zO ra 5 [vR rf, vI rm], zI rf (cy 0) 240 ff, zI tb (cy 1) 600 bf, zO ta 8 [vR tb, vI fed, vI len, vI (u18.2.1 0), vI (u15.2.1 1), vI (u18.2.1 1), vI (u18.2.1 2)]] hq9
      refine iz_eq (tgt := 65) hx hb dX5_readPiece_55 (by decide) (by first | exact rgw hq19_1 (by decide) (by decide) | omega) (fun c_5 => ?_) (fun c_5 => ?_)
      · refine W.widen (k := 0) (n := 0) (Nat.le_of_ble_eq_true rfl) (Nat.le_of_ble_eq_true rfl) ?_
        exact W.vret hx hb hr (fun t ht hW => ⟨⟨((fun k => ([] : List Nat).getD k 0), (fun k => ([(u18.2.1 0), (u15.2.1 1), (u18.2.1 1), (u18.2.1 2), rm] : List Int).getD k 0), (fun k => ([ff] : List (Nat → Int32)).getD k (fun _ => 0))), rfl, ⟨(by show (0 ≤ (u18.2.1 0) ∧ (u18.2.1 0) ≤ 600); first | exact hq18_0 | omega), (by show (0 ≤ (u15.2.1 1) ∧ (u15.2.1 1) ≤ 600); first | exact hq15_1 | omega), (by show (0 ≤ (u18.2.1 1) ∧ (u18.2.1 1) ≤ 4); first | exact hq18_1 | omega), (by show ((-1) ≤ (u18.2.1 2) ∧ (u18.2.1 2) ≤ 600); first | exact hq18_2 | omega), (by show (0 ≤ rm ∧ rm ≤ 240); first | exact hr_rm | omega), hff⟩, at9 ht hP hD [0, 1, 3, 2] (by decide +kernel) rfl⟩, hS.F ht⟩) hS.2.2 dX5_readPiece_65
      · refine lv_aload_n hx hb dX5_readPiece_58 rfl (lv_at hlv 2 rfl) ?_
        refine lv_iload_n hx hb dX5_readPiece_59 rfl (lv_at hlv 1 rfl) ?_
        refine lv_iload hx hb dX5_readPiece_60 (lv_at hlv 0 rfl) ?_
        refine cjr_v [false, false, true, true] (fun pre9 => (va_runV (As := [vI (u16.2.1 0), vI (u17.2.1 0)]) (rest := []) ⟨hx, hb, hml, hown, hts⟩ (s_radd l hl D cy sa ra rf rm (u16.2.1 0) (u17.2.1 0) ff H.size (by first | exact hr_rm | omega) (by omega) (by first | exact rgw hq17_1 (by decide) (by decide) | omega) hff) (cwV 2 hts gg_5 rfl rfl rfl (by decide +kernel) ⟨Nat.le_of_ble_eq_true rfl, Nat.le_of_ble_eq_true rfl⟩) ⟨pcW.blind, (va_recv hG.1 hP (ci := 5) (q0 := 0) rfl rfl), pre9⟩ rfl rfl hlv.1 rfl (lv_room (Nat.le_of_ble_eq_true rfl)) dX5_readPiece_62 ⟨Nat.le_of_ble_eq_true rfl, Nat.le_of_ble_eq_true rfl⟩)) hP hD hS hA hG hT [0, 1] rfl (by decide +kernel) (fun u20 H locs hw20 hq9 hS => ?_)
        obtain ⟨hq20_0, hq20_1⟩ := hw20
        obtain ⟨hP, hD⟩ := pd9 [zI tb (cy 1) 600 bf, zO ta 8 [vR tb, vI fed, vI len, vI (u18.2.1 0), vI (u15.2.1 1), vI (u18.2.1 1), vI (u18.2.1 2)], zO ra 5 [vR rf, vI (u20.2.1 0)], zI rf (cy 0) 240 (u20.2.2 0)] hq9
        refine W.widen (k := 0) (n := 0) (Nat.le_of_ble_eq_true rfl) (Nat.le_of_ble_eq_true rfl) ?_
        exact W.vret hx hb hr (fun t ht hW => ⟨⟨((fun k => ([] : List Nat).getD k 0), (fun k => ([(u18.2.1 0), (u15.2.1 1), (u18.2.1 1), (u18.2.1 2), (u20.2.1 0)] : List Int).getD k 0), (fun k => ([(u20.2.2 0)] : List (Nat → Int32)).getD k (fun _ => 0))), rfl, ⟨(by show (0 ≤ (u18.2.1 0) ∧ (u18.2.1 0) ≤ 600); first | exact hq18_0 | omega), (by show (0 ≤ (u15.2.1 1) ∧ (u15.2.1 1) ≤ 600); first | exact hq15_1 | omega), (by show (0 ≤ (u18.2.1 1) ∧ (u18.2.1 1) ≤ 4); first | exact hq18_1 | omega), (by show ((-1) ≤ (u18.2.1 2) ∧ (u18.2.1 2) ≤ 600); first | exact hq18_2 | omega), (by show (0 ≤ (u20.2.1 0) ∧ (u20.2.1 0) ≤ 240); first | exact hq20_0 | omega), hq20_1⟩, at9 ht hP hD [2, 3, 1, 0] (by decide +kernel) rfl⟩, hS.F ht⟩) hS.2.2 dX5_readPiece_65
def vs_n_read : List Cond := .code yX5_read cX5_read 3 none :: (([.fieldLink RX5 13 "KerbSplash$Rain" "minutes" "I", .initialized RX8, .instanceMethod yX8_hasMore, .selects RX8 yX8_hasMore yX8_hasMore, .instanceMethod yX8_refuse, .selects RX8 yX8_refuse yX8_refuse] : List Cond) ++ ((wsX50) ++ ((vs_s_hasMore) ++ ((wsV RX5 27 RX5 yX5_readPiece vs_n_piece) ++ ((vs_s_refuse) ++ ([]))))))
theorem gd_n_read : vs_n_read.all goodWord = true := gd_C (by decide +kernel) (gd_A (by decide +kernel) (gd_A (by decide +kernel) (gd_A gd_s_hasMore (gd_A (gd_V gd_n_piece (by decide +kernel)) (gd_A gd_s_refuse rfl)))))
set_option maxHeartbeats 4000000 in
set_option maxRecDepth 100000 in
theorem n_read (l : Launch) (hl : l.stackTraces = false) (D : va_G) (cy : Nat → ClassId) (sa : Nat → Nat) (ra rf : Nat) (rm : Int) (ff : Nat → Int32) (ta tb : Nat) (fed len at_ we fa fp : Int) (bf : Nat → Int32) (sz : Nat) (hr_fed : 0 ≤ fed ∧ fed ≤ 600) (hr_len : 0 ≤ len ∧ len ≤ 600) (hr_at_ : 0 ≤ at_ ∧ at_ ≤ 600) (hr_we : 0 ≤ we ∧ we ≤ 600) (hr_fa : 0 ≤ fa ∧ fa ≤ 4) (hr_fp : (-1) ≤ fp ∧ fp ≤ 600) (hr_rm : (-2147483648) ≤ rm ∧ rm ≤ 2147483647) (hff : inv_ 240 0 20 ff) : mV9 l yX5_read vs_n_read ({ frames := 8, cells := 0, slots := 0, locals := 175 }) D cy sa sz [vR ra, vR ta] [zO ra 5 [vR rf, vI rm], zI rf (cy 0) 240 ff, zO ta 8 [vR tb, vI fed, vI len, vI at_, vI we, vI fa, vI fp], zI tb (cy 1) 600 bf] (fun u : SV => (0 ≤ u.2.1 0 ∧ u.2.1 0 ≤ 600) ∧ (0 ≤ u.2.1 1 ∧ u.2.1 1 ≤ 600) ∧ (0 ≤ u.2.1 2 ∧ u.2.1 2 ≤ 4) ∧ ((-1) ≤ u.2.1 3 ∧ u.2.1 3 ≤ 600) ∧ (0 ≤ u.2.1 4 ∧ u.2.1 4 ≤ 240) ∧ inv_ 240 0 20 (u.2.2 0)) (fun u : SV => [zO ra 5 [vR rf, vI (u.2.1 4)], zI rf (cy 0) 240 (u.2.2 0), zO ta 8 [vR tb, vI fed, vI len, vI (u.2.1 0), vI (u.2.1 1), vI (u.2.1 2), vI (u.2.1 3)], zI tb (cy 1) 600 bf]) 0 0 := by
  refine Met.ofW (cc := cX5_read) (maxL := 3) (ret := none) (by decide) rfl ?_
  intro p e s m args below meth c s₁ B hml hv
  obtain ⟨rfl, hsz, hP, hG, hD0, hT⟩ := hv
  have hx := B.exec
  have hb := B.bytes
  have hr := B.returns
  have hts := atoms_spec (ws := vs_n_read) B.pre
  have hown : s.vm.findClass RX5 = some m.cls := findClass_of_methodNamed B.named
  have hlocks := B.notSynchronized
  subst hsz
  have hD := hD0.self (sz := s.heap.size)
  generalize hAe : va_A [zO ra 5 [vR rf, vI rm], zI rf (cy 0) 240 ff, zO ta 8 [vR tb, vI fed, vI len, vI at_, vI we, vI fa, vI fp], zI tb (cy 1) 600 bf] s.heap.size = A at hD hT ⊢
  have hA : ∀ q : Nat, s.heap.size ≤ q → A q := fun q h => by rw [← hAe]; exact Or.inr h
  have hS : va_S A s.heap s.heap [] := va_S.rf
  have hl0 := lv_entry ([vR ra, vR ta]) (n := 3) (Nat.le_of_ble_eq_true rfl)
  rw [lg_entry_eq]
  generalize (lg_sl ([vR ra, vR ta]) ++ List.replicate (3 - (lg_sl ([vR ra, vR ta])).length) Slot.unset).toArray = ls at hl0 ⊢
  have hlv : lv_has ls 3 [(0, vR ra), (1, vR ta)] := hl0
  have lf13 := hts (.fieldLink RX5 13 "KerbSplash$Rain" "minutes" "I") (List.mem_of_getElem? (i := 1) rfl)
  have hi5 : ∀ w ∈ wsX50, w ∈ vs_n_read := fun w h => List.mem_cons_of_mem _ (List.mem_append_right _ (List.mem_append_left _ h))
  have gg_1 : GoodIn vs_n_read (vs_s_hasMore) := goodIn_sub (fun w h => List.mem_cons_of_mem _ (List.mem_append_right _ (List.mem_append_right _ (List.mem_append_left _ h)))) gd_s_hasMore
  have ini_RX8 := hts (.initialized RX8) (List.mem_of_getElem? (i := 2) rfl)
  have im_X8_hasMore := hts (.instanceMethod yX8_hasMore) (List.mem_of_getElem? (i := 3) rfl)
  have se_X8_hasMore := hts (.selects RX8 yX8_hasMore yX8_hasMore) (List.mem_of_getElem? (i := 4) rfl)
  have gg_2 : GoodIn vs_n_read (wsV RX5 27 RX5 yX5_readPiece vs_n_piece) := goodIn_sub (fun w h => List.mem_cons_of_mem _ (List.mem_append_right _ (List.mem_append_right _ (List.mem_append_right _ (List.mem_append_left _ h))))) (gd_V gd_n_piece (by decide +kernel))
  have gg_3 : GoodIn vs_n_read (vs_s_refuse) := goodIn_sub (fun w h => List.mem_cons_of_mem _ (List.mem_append_right _ (List.mem_append_right _ (List.mem_append_right _ (List.mem_append_right _ (List.mem_append_left _ h)))))) gd_s_refuse
  have im_X8_refuse := hts (.instanceMethod yX8_refuse) (List.mem_of_getElem? (i := 5) rfl)
  have se_X8_refuse := hts (.selects RX8 yX8_refuse yX8_refuse) (List.mem_of_getElem? (i := 6) rfl)
  refine lv_aload_n hx hb dX5_read_0 rfl (lv_at hlv 0 rfl) ?_
  refine lv_iconst (v := iI 0) hx hb dX5_read_1 (by decide) ?_
  refine va_put (D := D) (ci := 5) (v := vI 0) (ty := .int) (C := RX5) (T := TX5) (N := 2) hx hb hts hi5 tyX5 tyX5_ok nmX5 hown hG.1 hP hD hS 0 rfl rfl 1 (by decide) lf13 (fun _ h9 => h9) rfl (by decide +kernel) rfl rfl (Nat.le_of_ble_eq_true rfl) dX5_read_2 (fun H locs hP hD hS => ?_)
  obtain ⟨hP, hD⟩ := pw9 [zO ra 5 [vR rf, vI 0], zI rf (cy 0) 240 ff, zO ta 8 [vR tb, vI fed, vI len, vI at_, vI we, vI fa, vI fp], zI tb (cy 1) 600 bf] hP hD
  refine lv_aload_n hx hb dX5_read_5 rfl (lv_at hlv 1 rfl) ?_
  refine cjr_i [true, true, false, false] (fun pre9 => (va_runVN (host := "KerbSplash") (As := []) (rest := []) ⟨hx, hb, hml, hown, hts⟩ (s_hasMore l hl D cy sa ta tb fed len at_ we fa fp bf H.size (by first | exact hr_fed | omega) (by first | exact hr_len | omega) (by first | exact hr_at_ | omega) (by first | exact hr_we | omega) (by first | exact hr_fa | omega) (by first | exact hr_fp | omega)) ⟨va_cnB 0 hts gg_1 rfl rfl rfl (nM_Rain_17 hG.2.1) ini_RX8 (by decide +kernel) ⟨Nat.le_of_ble_eq_true rfl, Nat.le_of_ble_eq_true rfl⟩, im_X8_hasMore, se_X8_hasMore⟩ ⟨pcW.blind, (va_recv hG.1 hP (ci := 8) (q0 := 2) rfl rfl), pre9⟩ rfl rfl hlv.1 rfl (lv_room (Nat.le_of_ble_eq_true rfl)) dX5_read_6 ⟨Nat.le_of_ble_eq_true rfl, Nat.le_of_ble_eq_true rfl⟩)) hP hD hS hA hG hT [2, 3] rfl (by decide +kernel) (fun r1 u1 H locs hw1 hq9 hS => ?_)
  obtain ⟨rfl, hq1_1, hq1_2, hq1_3, hq1_4⟩ := hw1
  obtain ⟨hP, hD⟩ := pd9 [zO ra 5 [vR rf, vI 0], zI rf (cy 0) 240 ff, zO ta 8 [vR tb, vI fed, vI len, vI (u1.2.1 1), vI we, vI fa, vI fp], zI tb (cy 1) 600 bf] hq9
  refine iz_ne (tgt := 17) hx hb dX5_read_9 (by decide) (by first | exact rgw hq1_1 (by decide) (by decide) | omega) (fun c_1 => ?_) (fun c_1 => ?_)
  · refine lv_iconst (v := iI 0) hx hb dX5_read_17 (by decide) ?_
    refine lv_istore_n (lv' := [(2, vI 0), (0, vR ra), (1, vR ta)]) hx hb dX5_read_18 rfl hlv (by decide) rfl (fun ls hlv => ?_)
    refine (?_ : ∀ (fu : Nat) (q : Int) (qm : Int) (fg : Nat → Int32) (ya : Int) (yw : Int) (yf : Int) (yg : Int) (H : Heap) (locs : List Loc) (ls : Array Slot), 9 - q < (fu : Int) → (0 ≤ q ∧ q ≤ 9) → (0 ≤ qm ∧ qm ≤ 240) → (0 ≤ ya ∧ ya ≤ 600) → (0 ≤ yw ∧ yw ≤ 600) → (0 ≤ yf ∧ yf ≤ 4) → ((-1) ≤ yg ∧ yg ≤ 600) → inv_ 240 0 20 fg → va_P D vwCl [zO ra 5 [vR rf, vI qm], zI rf (cy 0) 240 fg, zO ta 8 [vR tb, vI fed, vI len, vI ya, vI yw, vI yf, vI yg], zI tb (cy 1) 600 bf] H → va_D A [zO ra 5 [vR rf, vI qm], zI rf (cy 0) 240 fg, zO ta 8 [vR tb, vI fed, vI len, vI ya, vI yw, vI yf, vI yg], zI tb (cy 1) 600 bf] → va_S A s.heap H locs → lv_has ls 3 [(2, vI q), (0, vR ra), (1, vR ta)] → W p l e _ s m _ below meth c H locs _ _ _ (F0 m 19 ls [])) (((9 - 0) + 1 : Int)).toNat 0 0 ff (u1.2.1 1) we fa fp _ _ _ (by omega) (by show (0 : Int) ≤ 0 ∧ (0 : Int) ≤ 9; decide) (by show (0 : Int) ≤ 0 ∧ (0 : Int) ≤ 240; decide) (by first | exact hq1_2 | omega) (by first | exact hr_we | omega) (by first | exact hr_fa | omega) (by first | exact hr_fp | omega) hff hP hD hS hlv
    clear hP hD hS hlv
    intro fu
    induction fu with
    | zero => intro q qm fg ya yw yf yg H locs ls hm19 hl19_0 hl19_1 hl19_2 hl19_3 hl19_4 hl19_5 hifg hP hD hS hlv; omega
    | succ fu ih19 =>
      intro q qm fg ya yw yf yg H locs ls hm19 hl19_0 hl19_1 hl19_2 hl19_3 hl19_4 hl19_5 hifg hP hD hS hlv
      refine lv_iload_n hx hb dX5_read_19 rfl (lv_at hlv 0 rfl) ?_
      refine lv_bipush (v := iI 8) hx hb dX5_read_20 (by decide) ?_
      refine ir_gt (tgt := 44) hx hb dX5_read_22 (by decide) (by first | exact rgw hl19_0 (by decide) (by decide) | omega) (by show ((-2147483648) : Int) ≤ 8 ∧ (8 : Int) ≤ 2147483647; decide) (fun c_2 => ?_) (fun c_2 => ?_)
      · refine W.widen (k := 0) (n := 0) (Nat.le_of_ble_eq_true rfl) (Nat.le_of_ble_eq_true rfl) ?_
        exact W.vret hx hb hr (fun t ht hW => ⟨⟨((fun k => ([] : List Nat).getD k 0), (fun k => ([ya, yw, yf, yg, qm] : List Int).getD k 0), (fun k => ([fg] : List (Nat → Int32)).getD k (fun _ => 0))), rfl, ⟨(by show (0 ≤ ya ∧ ya ≤ 600); first | exact hl19_2 | omega), (by show (0 ≤ yw ∧ yw ≤ 600); first | exact hl19_3 | omega), (by show (0 ≤ yf ∧ yf ≤ 4); first | exact hl19_4 | omega), (by show ((-1) ≤ yg ∧ yg ≤ 600); first | exact hl19_5 | omega), (by show (0 ≤ qm ∧ qm ≤ 240); first | exact hl19_1 | omega), hifg⟩, at9 ht hP hD [0, 1, 2, 3] (by decide +kernel) rfl⟩, hS.F ht⟩) hS.2.2 dX5_read_44
      · refine lv_aload_n hx hb dX5_read_25 rfl (lv_at hlv 2 rfl) ?_
        refine cjr_i [true, true, false, false] (fun pre9 => (va_runVN (host := "KerbSplash") (As := []) (rest := []) ⟨hx, hb, hml, hown, hts⟩ (s_hasMore l hl D cy sa ta tb fed len ya yw yf yg bf H.size (by first | exact hr_fed | omega) (by first | exact hr_len | omega) (by first | exact hl19_2 | omega) (by first | exact hl19_3 | omega) (by first | exact hl19_4 | omega) (by first | exact hl19_5 | omega)) ⟨va_cnB 0 hts gg_1 rfl rfl rfl (nM_Rain_17 hG.2.1) ini_RX8 (by decide +kernel) ⟨Nat.le_of_ble_eq_true rfl, Nat.le_of_ble_eq_true rfl⟩, im_X8_hasMore, se_X8_hasMore⟩ ⟨pcW.blind, (va_recv hG.1 hP (ci := 8) (q0 := 2) rfl rfl), pre9⟩ rfl rfl hlv.1 rfl (lv_room (Nat.le_of_ble_eq_true rfl)) dX5_read_26 ⟨Nat.le_of_ble_eq_true rfl, Nat.le_of_ble_eq_true rfl⟩)) hP hD hS hA hG hT [2, 3] rfl (by decide +kernel) (fun r2 u2 H locs hw2 hq9 hS => ?_)
        obtain ⟨rfl, hq2_1, hq2_2, hq2_3, hq2_4⟩ := hw2
        obtain ⟨hP, hD⟩ := pd9 [zO ra 5 [vR rf, vI qm], zI rf (cy 0) 240 fg, zO ta 8 [vR tb, vI fed, vI len, vI (u2.2.1 1), vI yw, vI yf, vI yg], zI tb (cy 1) 600 bf] hq9
        refine iz_eq (tgt := 44) hx hb dX5_read_29 (by decide) (by first | exact rgw hq2_1 (by decide) (by decide) | omega) (fun c_3 => ?_) (fun c_3 => ?_)
        · refine W.widen (k := 0) (n := 0) (Nat.le_of_ble_eq_true rfl) (Nat.le_of_ble_eq_true rfl) ?_
          exact W.vret hx hb hr (fun t ht hW => ⟨⟨((fun k => ([] : List Nat).getD k 0), (fun k => ([(u2.2.1 1), yw, yf, yg, qm] : List Int).getD k 0), (fun k => ([fg] : List (Nat → Int32)).getD k (fun _ => 0))), rfl, ⟨(by show (0 ≤ (u2.2.1 1) ∧ (u2.2.1 1) ≤ 600); first | exact hq2_2 | omega), (by show (0 ≤ yw ∧ yw ≤ 600); first | exact hl19_3 | omega), (by show (0 ≤ yf ∧ yf ≤ 4); first | exact hl19_4 | omega), (by show ((-1) ≤ yg ∧ yg ≤ 600); first | exact hl19_5 | omega), (by show (0 ≤ qm ∧ qm ≤ 240); first | exact hl19_1 | omega), hifg⟩, at9 ht hP hD [0, 1, 2, 3] (by decide +kernel) rfl⟩, hS.F ht⟩) hS.2.2 dX5_read_44
        · refine lv_aload_n hx hb dX5_read_32 rfl (lv_at hlv 1 rfl) ?_
          refine lv_aload_n hx hb dX5_read_33 rfl (lv_at hlv 2 rfl) ?_
          refine lv_iload_n hx hb dX5_read_34 rfl (lv_at hlv 0 rfl) ?_
          refine cjr_v [false, false, false, false] (fun pre9 => (va_runV (As := [vR ta, vI q]) (rest := []) ⟨hx, hb, hml, hown, hts⟩ (n_piece l hl D cy sa ra rf qm fg ta tb fed len (u2.2.1 1) yw yf yg bf q H.size (by first | exact hr_fed | omega) (by first | exact hr_len | omega) (by first | exact hq2_2 | omega) (by first | exact hl19_3 | omega) (by first | exact hl19_4 | omega) (by first | exact hl19_5 | omega) (by first | exact hl19_1 | omega) (by omega) hifg) (cwV 2 hts gg_2 rfl rfl rfl (by decide +kernel) ⟨Nat.le_of_ble_eq_true rfl, Nat.le_of_ble_eq_true rfl⟩) ⟨pcW.blind, (va_recv hG.1 hP (ci := 5) (q0 := 0) rfl rfl), pre9⟩ rfl rfl hlv.1 rfl (lv_room (Nat.le_of_ble_eq_true rfl)) dX5_read_35 ⟨Nat.le_of_ble_eq_true rfl, Nat.le_of_ble_eq_true rfl⟩)) hP hD hS hA hG hT [0, 1, 2, 3] rfl (by decide +kernel) (fun u3 H locs hw3 hq9 hS => ?_)
          obtain ⟨hq3_0, hq3_1, hq3_2, hq3_3, hq3_4, hq3_5⟩ := hw3
          obtain ⟨hP, hD⟩ := pd9 [zO ra 5 [vR rf, vI (u3.2.1 4)], zI rf (cy 0) 240 (u3.2.2 0), zO ta 8 [vR tb, vI fed, vI len, vI (u3.2.1 0), vI (u3.2.1 1), vI (u3.2.1 2), vI (u3.2.1 3)], zI tb (cy 1) 600 bf] hq9
          obtain ⟨z_4, hz_4⟩ : ∃ z : Int, z = q + 1 := ⟨_, rfl⟩
          refine lv_iinc (v := iI z_4) (lv' := [(2, vI z_4), (0, vR ra), (1, vR ta)]) hx hb dX5_read_38 hlv (k := 0) rfl (by rw [hz_4]; exact (Int32.ofInt_add _ _).symm) (by decide) rfl (fun ls hlv => ?_)
          refine lv_goto (tgt := 19) hx hb dX5_read_41 (by decide) ?_
          exact ih19 z_4 (u3.2.1 4) (u3.2.2 0) (u3.2.1 0) (u3.2.1 1) (u3.2.1 2) (u3.2.1 3) H locs ls (by omega) (by omega) (by first | exact hq3_4 | omega) (by first | exact hq3_0 | omega) (by first | exact hq3_1 | omega) (by first | exact hq3_2 | omega) (by first | exact hq3_3 | omega) hq3_5 (hP.sub [0, 1, 2, 3] rfl) (hD.sub [0, 1, 2, 3] (by decide) rfl) hS (lv_sub hlv [0, 1, 2] rfl)
  · refine lv_aload_n hx hb dX5_read_12 rfl (lv_at hlv 1 rfl) ?_
    refine lv_iconst (v := iI 1) hx hb dX5_read_13 (by decide) ?_
    refine cjr_v [true, true, false, true] (fun pre9 => (va_runVN (host := "KerbSplash") (As := [vI 1]) (rest := []) ⟨hx, hb, hml, hown, hts⟩ (s_refuse l hl D cy sa ta tb fed len (u1.2.1 1) we fa fp 1 H.size (by first | exact hr_fed | omega) (by first | exact hr_len | omega) (by first | exact hq1_2 | omega) (by first | exact hr_we | omega) (by first | exact hr_fa | omega) (by first | exact hr_fp | omega) (by show (1 : Int) ≤ 1 ∧ (1 : Int) ≤ 4; decide)) ⟨va_cnB 1 hts gg_3 rfl rfl rfl (nM_Rain_23 hG.2.1) ini_RX8 (by decide +kernel) ⟨Nat.le_of_ble_eq_true rfl, Nat.le_of_ble_eq_true rfl⟩, im_X8_refuse, se_X8_refuse⟩ ⟨pcW.blind, (va_recv hG.1 hP (ci := 8) (q0 := 2) rfl rfl), pre9⟩ rfl rfl hlv.1 rfl (lv_room (Nat.le_of_ble_eq_true rfl)) dX5_read_14 ⟨Nat.le_of_ble_eq_true rfl, Nat.le_of_ble_eq_true rfl⟩)) hP hD hS hA hG hT [2] rfl (by decide +kernel) (fun u4 H locs hw4 hq9 hS => ?_)
    obtain ⟨hq4_0, hq4_1⟩ := hw4
    obtain ⟨hP, hD⟩ := pd9 [zO ra 5 [vR rf, vI 0], zI rf (cy 0) 240 ff, zI tb (cy 1) 600 bf, zO ta 8 [vR tb, vI fed, vI len, vI (u1.2.1 1), vI we, vI (u4.2.1 0), vI (u4.2.1 1)]] hq9
    refine lv_iconst (v := iI 0) hx hb dX5_read_17 (by decide) ?_
    refine lv_istore_n (lv' := [(2, vI 0), (0, vR ra), (1, vR ta)]) hx hb dX5_read_18 rfl hlv (by decide) rfl (fun ls hlv => ?_)
    refine (?_ : ∀ (fu : Nat) (q : Int) (qm : Int) (fg : Nat → Int32) (ya : Int) (yw : Int) (yf : Int) (yg : Int) (H : Heap) (locs : List Loc) (ls : Array Slot), 9 - q < (fu : Int) → (0 ≤ q ∧ q ≤ 9) → (0 ≤ qm ∧ qm ≤ 240) → (0 ≤ ya ∧ ya ≤ 600) → (0 ≤ yw ∧ yw ≤ 600) → (0 ≤ yf ∧ yf ≤ 4) → ((-1) ≤ yg ∧ yg ≤ 600) → inv_ 240 0 20 fg → va_P D vwCl [zO ra 5 [vR rf, vI qm], zI rf (cy 0) 240 fg, zI tb (cy 1) 600 bf, zO ta 8 [vR tb, vI fed, vI len, vI ya, vI yw, vI yf, vI yg]] H → va_D A [zO ra 5 [vR rf, vI qm], zI rf (cy 0) 240 fg, zI tb (cy 1) 600 bf, zO ta 8 [vR tb, vI fed, vI len, vI ya, vI yw, vI yf, vI yg]] → va_S A s.heap H locs → lv_has ls 3 [(2, vI q), (0, vR ra), (1, vR ta)] → W p l e _ s m _ below meth c H locs _ _ _ (F0 m 19 ls [])) (((9 - 0) + 1 : Int)).toNat 0 0 ff (u1.2.1 1) we (u4.2.1 0) (u4.2.1 1) _ _ _ (by omega) (by show (0 : Int) ≤ 0 ∧ (0 : Int) ≤ 9; decide) (by show (0 : Int) ≤ 0 ∧ (0 : Int) ≤ 240; decide) (by first | exact hq1_2 | omega) (by first | exact hr_we | omega) (by first | exact rgw hq4_0 (by decide) (by decide) | omega) (by first | exact hq4_1 | omega) hff hP hD hS hlv
    clear hP hD hS hlv
    intro fu
    induction fu with
    | zero => intro q qm fg ya yw yf yg H locs ls hm19 hl19_0 hl19_1 hl19_2 hl19_3 hl19_4 hl19_5 hifg hP hD hS hlv; omega
    | succ fu ih19 =>
      intro q qm fg ya yw yf yg H locs ls hm19 hl19_0 hl19_1 hl19_2 hl19_3 hl19_4 hl19_5 hifg hP hD hS hlv
      refine lv_iload_n hx hb dX5_read_19 rfl (lv_at hlv 0 rfl) ?_
      refine lv_bipush (v := iI 8) hx hb dX5_read_20 (by decide) ?_
      refine ir_gt (tgt := 44) hx hb dX5_read_22 (by decide) (by first | exact rgw hl19_0 (by decide) (by decide) | omega) (by show ((-2147483648) : Int) ≤ 8 ∧ (8 : Int) ≤ 2147483647; decide) (fun c_5 => ?_) (fun c_5 => ?_)
      · refine W.widen (k := 0) (n := 0) (Nat.le_of_ble_eq_true rfl) (Nat.le_of_ble_eq_true rfl) ?_
        exact W.vret hx hb hr (fun t ht hW => ⟨⟨((fun k => ([] : List Nat).getD k 0), (fun k => ([ya, yw, yf, yg, qm] : List Int).getD k 0), (fun k => ([fg] : List (Nat → Int32)).getD k (fun _ => 0))), rfl, ⟨(by show (0 ≤ ya ∧ ya ≤ 600); first | exact hl19_2 | omega), (by show (0 ≤ yw ∧ yw ≤ 600); first | exact hl19_3 | omega), (by show (0 ≤ yf ∧ yf ≤ 4); first | exact hl19_4 | omega), (by show ((-1) ≤ yg ∧ yg ≤ 600); first | exact hl19_5 | omega), (by show (0 ≤ qm ∧ qm ≤ 240); first | exact hl19_1 | omega), hifg⟩, at9 ht hP hD [0, 1, 3, 2] (by decide +kernel) rfl⟩, hS.F ht⟩) hS.2.2 dX5_read_44
      · refine lv_aload_n hx hb dX5_read_25 rfl (lv_at hlv 2 rfl) ?_
        refine cjr_i [true, true, false, false] (fun pre9 => (va_runVN (host := "KerbSplash") (As := []) (rest := []) ⟨hx, hb, hml, hown, hts⟩ (s_hasMore l hl D cy sa ta tb fed len ya yw yf yg bf H.size (by first | exact hr_fed | omega) (by first | exact hr_len | omega) (by first | exact hl19_2 | omega) (by first | exact hl19_3 | omega) (by first | exact hl19_4 | omega) (by first | exact hl19_5 | omega)) ⟨va_cnB 0 hts gg_1 rfl rfl rfl (nM_Rain_17 hG.2.1) ini_RX8 (by decide +kernel) ⟨Nat.le_of_ble_eq_true rfl, Nat.le_of_ble_eq_true rfl⟩, im_X8_hasMore, se_X8_hasMore⟩ ⟨pcW.blind, (va_recv hG.1 hP (ci := 8) (q0 := 3) rfl rfl), pre9⟩ rfl rfl hlv.1 rfl (lv_room (Nat.le_of_ble_eq_true rfl)) dX5_read_26 ⟨Nat.le_of_ble_eq_true rfl, Nat.le_of_ble_eq_true rfl⟩)) hP hD hS hA hG hT [3, 2] rfl (by decide +kernel) (fun r5 u5 H locs hw5 hq9 hS => ?_)
        obtain ⟨rfl, hq5_1, hq5_2, hq5_3, hq5_4⟩ := hw5
        obtain ⟨hP, hD⟩ := pd9 [zO ra 5 [vR rf, vI qm], zI rf (cy 0) 240 fg, zO ta 8 [vR tb, vI fed, vI len, vI (u5.2.1 1), vI yw, vI yf, vI yg], zI tb (cy 1) 600 bf] hq9
        refine iz_eq (tgt := 44) hx hb dX5_read_29 (by decide) (by first | exact rgw hq5_1 (by decide) (by decide) | omega) (fun c_6 => ?_) (fun c_6 => ?_)
        · refine W.widen (k := 0) (n := 0) (Nat.le_of_ble_eq_true rfl) (Nat.le_of_ble_eq_true rfl) ?_
          exact W.vret hx hb hr (fun t ht hW => ⟨⟨((fun k => ([] : List Nat).getD k 0), (fun k => ([(u5.2.1 1), yw, yf, yg, qm] : List Int).getD k 0), (fun k => ([fg] : List (Nat → Int32)).getD k (fun _ => 0))), rfl, ⟨(by show (0 ≤ (u5.2.1 1) ∧ (u5.2.1 1) ≤ 600); first | exact hq5_2 | omega), (by show (0 ≤ yw ∧ yw ≤ 600); first | exact hl19_3 | omega), (by show (0 ≤ yf ∧ yf ≤ 4); first | exact hl19_4 | omega), (by show ((-1) ≤ yg ∧ yg ≤ 600); first | exact hl19_5 | omega), (by show (0 ≤ qm ∧ qm ≤ 240); first | exact hl19_1 | omega), hifg⟩, at9 ht hP hD [0, 1, 2, 3] (by decide +kernel) rfl⟩, hS.F ht⟩) hS.2.2 dX5_read_44
        · refine lv_aload_n hx hb dX5_read_32 rfl (lv_at hlv 1 rfl) ?_
          refine lv_aload_n hx hb dX5_read_33 rfl (lv_at hlv 2 rfl) ?_
          refine lv_iload_n hx hb dX5_read_34 rfl (lv_at hlv 0 rfl) ?_
          refine cjr_v [false, false, false, false] (fun pre9 => (va_runV (As := [vR ta, vI q]) (rest := []) ⟨hx, hb, hml, hown, hts⟩ (n_piece l hl D cy sa ra rf qm fg ta tb fed len (u5.2.1 1) yw yf yg bf q H.size (by first | exact hr_fed | omega) (by first | exact hr_len | omega) (by first | exact hq5_2 | omega) (by first | exact hl19_3 | omega) (by first | exact hl19_4 | omega) (by first | exact hl19_5 | omega) (by first | exact hl19_1 | omega) (by omega) hifg) (cwV 2 hts gg_2 rfl rfl rfl (by decide +kernel) ⟨Nat.le_of_ble_eq_true rfl, Nat.le_of_ble_eq_true rfl⟩) ⟨pcW.blind, (va_recv hG.1 hP (ci := 5) (q0 := 0) rfl rfl), pre9⟩ rfl rfl hlv.1 rfl (lv_room (Nat.le_of_ble_eq_true rfl)) dX5_read_35 ⟨Nat.le_of_ble_eq_true rfl, Nat.le_of_ble_eq_true rfl⟩)) hP hD hS hA hG hT [0, 1, 2, 3] rfl (by decide +kernel) (fun u6 H locs hw6 hq9 hS => ?_)
          obtain ⟨hq6_0, hq6_1, hq6_2, hq6_3, hq6_4, hq6_5⟩ := hw6
          obtain ⟨hP, hD⟩ := pd9 [zO ra 5 [vR rf, vI (u6.2.1 4)], zI rf (cy 0) 240 (u6.2.2 0), zO ta 8 [vR tb, vI fed, vI len, vI (u6.2.1 0), vI (u6.2.1 1), vI (u6.2.1 2), vI (u6.2.1 3)], zI tb (cy 1) 600 bf] hq9
          obtain ⟨z_7, hz_7⟩ : ∃ z : Int, z = q + 1 := ⟨_, rfl⟩
          refine lv_iinc (v := iI z_7) (lv' := [(2, vI z_7), (0, vR ra), (1, vR ta)]) hx hb dX5_read_38 hlv (k := 0) rfl (by rw [hz_7]; exact (Int32.ofInt_add _ _).symm) (by decide) rfl (fun ls hlv => ?_)
          refine lv_goto (tgt := 19) hx hb dX5_read_41 (by decide) ?_
          exact ih19 z_7 (u6.2.1 4) (u6.2.2 0) (u6.2.1 0) (u6.2.1 1) (u6.2.1 2) (u6.2.1 3) H locs ls (by omega) (by omega) (by first | exact hq6_4 | omega) (by first | exact hq6_0 | omega) (by first | exact hq6_1 | omega) (by first | exact hq6_2 | omega) (by first | exact hq6_3 | omega) hq6_5 (hP.sub [0, 1, 3, 2] rfl) (hD.sub [0, 1, 3, 2] (by decide) rfl) hS (lv_sub hlv [0, 1, 2] rfl)
def vs_w_reset : List Cond := .code yX1_reset cX1_reset 1 none :: (([.fieldLink RX1 23 "KerbSplash$Law" "size" "I", .fieldLink RX1 17 "KerbSplash$Law" "starts" "[I"] : List Cond) ++ ((wsX10) ++ ((va_wsS RX1 27 yJ7_fill_53178 vs_s_fill5a) ++ ([]))))
theorem gd_w_reset : vs_w_reset.all goodWord = true := gd_C (by decide +kernel) (gd_A (by decide +kernel) (gd_A (by decide +kernel) (gd_A (gd_S gd_s_fill5a (by decide +kernel)) rfl)))
set_option maxHeartbeats 4000000 in
set_option maxRecDepth 100000 in
theorem w_reset (l : Launch) (hl : l.stackTraces = false) (D : va_G) (cy : Nat → ClassId) (sa : Nat → Nat) (la l0 l2 l3 : Nat) (size : Int) (sf : Nat → Int32) (sz : Nat) (hr_size : 0 ≤ size ∧ size ≤ 600) : mV9 l yX1_reset vs_w_reset ({ frames := 1, cells := 0, slots := 0, locals := 23 }) D cy sa sz [vR la] [zO la 1 [vR l0, vI size, vR l2, vR l3], zI l2 (cy 0) 5 sf] (fun u : SV => True) (fun u : SV => [zO la 1 [vR l0, vI 0, vR l2, vR l3], zI l2 (cy 0) 5 (u.2.2 0)]) 0 0 := by
  refine Met.ofW (cc := cX1_reset) (maxL := 1) (ret := none) (by decide) rfl ?_
  intro p e s m args below meth c s₁ B hml hv
  obtain ⟨rfl, hsz, hP, hG, hD0, hT⟩ := hv
  have hx := B.exec
  have hb := B.bytes
  have hr := B.returns
  have hts := atoms_spec (ws := vs_w_reset) B.pre
  have hown : s.vm.findClass RX1 = some m.cls := findClass_of_methodNamed B.named
  have hlocks := B.notSynchronized
  subst hsz
  have hD := hD0.self (sz := s.heap.size)
  generalize hAe : va_A [zO la 1 [vR l0, vI size, vR l2, vR l3], zI l2 (cy 0) 5 sf] s.heap.size = A at hD hT ⊢
  have hA : ∀ q : Nat, s.heap.size ≤ q → A q := fun q h => by rw [← hAe]; exact Or.inr h
  have hS : va_S A s.heap s.heap [] := va_S.rf
  have hl0 := lv_entry ([vR la]) (n := 1) (Nat.le_of_ble_eq_true rfl)
  rw [lg_entry_eq]
  generalize (lg_sl ([vR la]) ++ List.replicate (1 - (lg_sl ([vR la])).length) Slot.unset).toArray = ls at hl0 ⊢
  have hlv : lv_has ls 1 [(0, vR la)] := hl0
  have lf23 := hts (.fieldLink RX1 23 "KerbSplash$Law" "size" "I") (List.mem_of_getElem? (i := 1) rfl)
  have hi1 : ∀ w ∈ wsX10, w ∈ vs_w_reset := fun w h => List.mem_cons_of_mem _ (List.mem_append_right _ (List.mem_append_left _ h))
  have lf17 := hts (.fieldLink RX1 17 "KerbSplash$Law" "starts" "[I") (List.mem_of_getElem? (i := 2) rfl)
  have gg_1 : GoodIn vs_w_reset (va_wsS RX1 27 yJ7_fill_53178 vs_s_fill5a) := goodIn_sub (fun w h => List.mem_cons_of_mem _ (List.mem_append_right _ (List.mem_append_right _ (List.mem_append_left _ h)))) (gd_S gd_s_fill5a (by decide +kernel))
  refine lv_aload_n hx hb dX1_reset_0 rfl (lv_at hlv 0 rfl) ?_
  refine lv_iconst (v := iI 0) hx hb dX1_reset_1 (by decide) ?_
  refine va_put (D := D) (ci := 1) (v := vI 0) (ty := .int) (C := RX1) (T := TX1) (N := 4) hx hb hts hi1 tyX1 tyX1_ok nmX1 hown hG.1 hP hD hS 0 rfl rfl 1 (by decide) lf23 (fun _ h9 => h9) rfl (by decide +kernel) rfl rfl (Nat.le_of_ble_eq_true rfl) dX1_reset_2 (fun H locs hP hD hS => ?_)
  obtain ⟨hP, hD⟩ := pw9 [zO la 1 [vR l0, vI 0, vR l2, vR l3], zI l2 (cy 0) 5 sf] hP hD
  refine lv_aload_n hx hb dX1_reset_5 rfl (lv_at hlv 0 rfl) ?_
  refine va_get (D := D) (ci := 1) (v := vR l2) (C := RX1) (T := TX1) (N := 4) hx hb hts hi1 hown hG.1 hP 0 rfl rfl 2 (by decide) lf17 (fun _ h9 => h9) rfl dX1_reset_6 ?_
  refine lv_iconst (v := iI (-1)) hx hb dX1_reset_9 (by decide) ?_
  refine cjr_v [true, false] (fun pre9 => (va_runS (As := [vR l2, vI (-1)]) (rest := []) ⟨hx, hb, hml, hown, hts⟩ (s_fill5a l hl D cy sa l2 sf (-1) H.size (by show ((-2147483648) : Int) ≤ (-1) ∧ ((-1) : Int) ≤ 2147483647; decide)) (va_cwS 2 hts gg_1 rfl rfl rfl (by decide +kernel) ⟨Nat.le_of_ble_eq_true rfl, Nat.le_of_ble_eq_true rfl⟩) ⟨pcW.blind, pre9⟩ rfl rfl hlv.1 rfl (lv_room (Nat.le_of_ble_eq_true rfl)) dX1_reset_10 ⟨Nat.le_of_ble_eq_true rfl, Nat.le_of_ble_eq_true rfl⟩)) hP hD hS hA hG hT [1] rfl (by decide +kernel) (fun u1 H locs hw1 hq9 hS => ?_)
  obtain ⟨hP, hD⟩ := pd9 [zO la 1 [vR l0, vI 0, vR l2, vR l3], zI l2 (cy 0) 5 (u1.2.2 0)] hq9
  refine W.widen (k := 0) (n := 0) (Nat.le_of_ble_eq_true rfl) (Nat.le_of_ble_eq_true rfl) ?_
  exact W.vret hx hb hr (fun t ht hW => ⟨⟨((fun k => ([] : List Nat).getD k 0), (fun k => ([] : List Int).getD k 0), (fun k => ([(u1.2.2 0)] : List (Nat → Int32)).getD k (fun _ => 0))), rfl, trivial, at9 ht hP hD [0, 1] (by decide +kernel) rfl⟩, hS.F ht⟩) hS.2.2 dX1_reset_13
def vs_w_value : List Cond := .code yX1_value cX1_value 8 (some .int) :: (([.fieldLink RX1 17 "KerbSplash$Law" "starts" "[I", .fieldLink RX1 20 "KerbSplash$Law" "values" "[I", .fieldLink RX1 23 "KerbSplash$Law" "size" "I", .fieldLink RX1 11 "KerbSplash$Law" "steps" "[I"] : List Cond) ++ ((wsX10) ++ ((va_wsS RX1 33 yX1_joined vs_s_joined) ++ ([]))))
theorem gd_w_value : vs_w_value.all goodWord = true := gd_C (by decide +kernel) (gd_A (by decide +kernel) (gd_A (by decide +kernel) (gd_A (gd_S gd_s_joined (by decide +kernel)) rfl)))
set_option maxHeartbeats 4000000 in
set_option maxRecDepth 100000 in
theorem w_value (l : Launch) (hl : l.stackTraces = false) (D : va_G) (cy : Nat → ClassId) (sa : Nat → Nat) (la l0 l2 l3 na : Nat) (size : Int) (st sf vf nf : Nat → Int32) (w : Int) (sz : Nat) (hr_size : 0 ≤ size ∧ size ≤ 600) (hr_w : 0 ≤ w ∧ w ≤ 4) (hst : inv_ 600 0 2147483647 st) : mI9 l yX1_value vs_w_value ({ frames := 1, cells := 0, slots := 0, locals := 22 }) D cy sa sz [vR la, vI w, vR na] [zO la 1 [vR l0, vI size, vR l2, vR l3], zI l0 (cy 0) 600 st, zI l2 (cy 0) 5 sf, zI l3 (cy 0) 40 vf, zI na (cy 0) 7 nf] (fun (r : Int32) (u : SV) => r = iI (u.2.1 0) ∧ ((-2147483648) ≤ u.2.1 0 ∧ u.2.1 0 ≤ 2147483647) ∧ inv_ 600 0 2147483647 st) (fun u : SV => [zO la 1 [vR l0, vI size, vR l2, vR l3], zI l0 (cy 0) 600 st, zI l2 (cy 0) 5 sf, zI l3 (cy 0) 40 (u.2.2 0), zI na (cy 0) 7 nf]) 0 0 := by
  refine Met.ofW (cc := cX1_value) (maxL := 8) (ret := (some .int)) (by decide) rfl ?_
  intro p e s m args below meth c s₁ B hml hv
  obtain ⟨rfl, hsz, hP, hG, hD0, hT⟩ := hv
  have hx := B.exec
  have hb := B.bytes
  have hr := B.returns
  have hts := atoms_spec (ws := vs_w_value) B.pre
  have hown : s.vm.findClass RX1 = some m.cls := findClass_of_methodNamed B.named
  have hlocks := B.notSynchronized
  subst hsz
  have hD := hD0.self (sz := s.heap.size)
  generalize hAe : va_A [zO la 1 [vR l0, vI size, vR l2, vR l3], zI l0 (cy 0) 600 st, zI l2 (cy 0) 5 sf, zI l3 (cy 0) 40 vf, zI na (cy 0) 7 nf] s.heap.size = A at hD hT ⊢
  have hA : ∀ q : Nat, s.heap.size ≤ q → A q := fun q h => by rw [← hAe]; exact Or.inr h
  have hS : va_S A s.heap s.heap [] := va_S.rf
  have hl0 := lv_entry ([vR la, vI w, vR na]) (n := 8) (Nat.le_of_ble_eq_true rfl)
  rw [lg_entry_eq]
  generalize (lg_sl ([vR la, vI w, vR na]) ++ List.replicate (8 - (lg_sl ([vR la, vI w, vR na])).length) Slot.unset).toArray = ls at hl0 ⊢
  have hlv : lv_has ls 8 [(0, vR la), (1, vI w), (2, vR na)] := hl0
  have lf17 := hts (.fieldLink RX1 17 "KerbSplash$Law" "starts" "[I") (List.mem_of_getElem? (i := 1) rfl)
  have hi1 : ∀ w ∈ wsX10, w ∈ vs_w_value := fun w h => List.mem_cons_of_mem _ (List.mem_append_right _ (List.mem_append_left _ h))
  have lf20 := hts (.fieldLink RX1 20 "KerbSplash$Law" "values" "[I") (List.mem_of_getElem? (i := 2) rfl)
  have lf23 := hts (.fieldLink RX1 23 "KerbSplash$Law" "size" "I") (List.mem_of_getElem? (i := 3) rfl)
  have lf11 := hts (.fieldLink RX1 11 "KerbSplash$Law" "steps" "[I") (List.mem_of_getElem? (i := 4) rfl)
  have gg_1 : GoodIn vs_w_value (va_wsS RX1 33 yX1_joined vs_s_joined) := goodIn_sub (fun w h => List.mem_cons_of_mem _ (List.mem_append_right _ (List.mem_append_right _ (List.mem_append_left _ h)))) (gd_S gd_s_joined (by decide +kernel))
  refine lv_aload_n hx hb dX1_value_0 rfl (lv_at hlv 0 rfl) ?_
  refine va_get (D := D) (ci := 1) (v := vR l2) (C := RX1) (T := TX1) (N := 4) hx hb hts hi1 hown hG.1 hP 0 rfl rfl 2 (by decide) lf17 (fun _ h9 => h9) rfl dX1_value_1 ?_
  refine lv_iload_n hx hb dX1_value_4 rfl (lv_at hlv 1 rfl) ?_
  refine va_iald hx hb hG.1 hP 2 0 rfl rfl (iI_in (by omega) (by decide)) dX1_value_5 ?_
  refine lt_z (fun z_1 ez_1 lz_1 hz_1 => ?_)
  refine lv_istore_n (lv' := [(3, vI z_1), (0, vR la), (1, vI w), (2, vR na)]) hx hb dX1_value_6 rfl hlv (by decide) rfl (fun ls hlv => ?_)
  refine lv_iconst (v := iI 0) hx hb dX1_value_7 (by decide) ?_
  refine lv_istore (lv' := [(4, vI 0), (3, vI z_1), (0, vR la), (1, vI w), (2, vR na)]) hx hb dX1_value_8 hlv (by decide) rfl (fun ls hlv => ?_)
  refine lv_aload_n hx hb dX1_value_10 rfl (lv_at hlv 2 rfl) ?_
  refine va_get (D := D) (ci := 1) (v := vR l3) (C := RX1) (T := TX1) (N := 4) hx hb hts hi1 hown hG.1 hP 0 rfl rfl 3 (by decide) lf20 (fun _ h9 => h9) rfl dX1_value_11 ?_
  refine lv_iconst (v := iI 0) hx hb dX1_value_14 (by decide) ?_
  refine lv_iconst (v := iI 0) hx hb dX1_value_15 (by decide) ?_
  refine va_iast hx hb hG.1 hP hD hS 3 0 rfl rfl (iI_in (by omega) (by decide)) dX1_value_16 (fun H locs hP hD hS => ?_)
  obtain ⟨f_2, hP, hD⟩ := pe9 (fun f_2 => [zO la 1 [vR l0, vI size, vR l2, vR l3], zI l0 (cy 0) 600 st, zI l2 (cy 0) 5 sf, zI l3 (cy 0) 40 f_2, zI na (cy 0) 7 nf]) _ hP hD
  refine lv_iconst (v := iI 0) hx hb dX1_value_17 (by decide) ?_
  refine lv_istore (lv' := [(5, vI 0), (4, vI 0), (3, vI z_1), (0, vR la), (1, vI w), (2, vR na)]) hx hb dX1_value_18 hlv (by decide) rfl (fun ls hlv => ?_)
  refine (?_ : ∀ (fu : Nat) (qa : Int) (qt : Int) (qi : Int) (vg : Nat → Int32) (H : Heap) (locs : List Loc) (ls : Array Slot), 600 - qi < (fu : Int) → ((-2147483648) ≤ qa ∧ qa ≤ 2147483647) → (0 ≤ qt ∧ qt ≤ 40) → (0 ≤ qi ∧ qi ≤ 600) → va_P D vwCl [zO la 1 [vR l0, vI size, vR l2, vR l3], zI l0 (cy 0) 600 st, zI l2 (cy 0) 5 sf, zI l3 (cy 0) 40 vg, zI na (cy 0) 7 nf] H → va_D A [zO la 1 [vR l0, vI size, vR l2, vR l3], zI l0 (cy 0) 600 st, zI l2 (cy 0) 5 sf, zI l3 (cy 0) 40 vg, zI na (cy 0) 7 nf] → va_S A s.heap H locs → lv_has ls 8 [(5, vI qi), (4, vI qt), (3, vI qa), (0, vR la), (1, vI w), (2, vR na)] → W p l e _ s m _ below meth c H locs _ _ _ (F0 m 20 ls [])) (((600 - 0) + 1 : Int)).toNat z_1 0 0 f_2 _ _ _ (by omega) (by omega) (by show (0 : Int) ≤ 0 ∧ (0 : Int) ≤ 40; decide) (by show (0 : Int) ≤ 0 ∧ (0 : Int) ≤ 600; decide)  hP hD hS hlv
  clear hP hD hS hlv
  intro fu
  induction fu with
  | zero => intro qa qt qi vg H locs ls hm20 hl20_0 hl20_1 hl20_2  hP hD hS hlv; omega
  | succ fu ih20 =>
    intro qa qt qi vg H locs ls hm20 hl20_0 hl20_1 hl20_2  hP hD hS hlv
    refine lv_iload hx hb dX1_value_20 (lv_at hlv 0 rfl) ?_
    refine lv_aload_n hx hb dX1_value_22 rfl (lv_at hlv 3 rfl) ?_
    refine va_get (D := D) (ci := 1) (v := vI size) (C := RX1) (T := TX1) (N := 4) hx hb hts hi1 hown hG.1 hP 0 rfl rfl 1 (by decide) lf23 (fun _ h9 => h9) rfl dX1_value_23 ?_
    refine ir_ge (tgt := 234) hx hb dX1_value_26 (by decide) (by first | exact rgw hl20_2 (by decide) (by decide) | omega) (by first | exact rgw hr_size (by decide) (by decide) | omega) (fun c_3 => ?_) (fun c_3 => ?_)
    · refine lv_aload_n hx hb dX1_value_234 rfl (lv_at hlv 3 rfl) ?_
      refine va_get (D := D) (ci := 1) (v := vR l3) (C := RX1) (T := TX1) (N := 4) hx hb hts hi1 hown hG.1 hP 0 rfl rfl 3 (by decide) lf20 (fun _ h9 => h9) rfl dX1_value_235 ?_
      refine lv_iconst (v := iI 0) hx hb dX1_value_238 (by decide) ?_
      refine va_iald hx hb hG.1 hP 3 0 rfl rfl (iI_in (by omega) (by decide)) dX1_value_239 ?_
      refine lt_z (fun z_4 ez_4 lz_4 hz_4 => ?_)
      refine W.widen (k := 0) (n := 0) (Nat.le_of_ble_eq_true rfl) (Nat.le_of_ble_eq_true rfl) ?_
      exact W.iret (v := iI z_4) hx hb hr (fun t ht hW => ⟨⟨iI z_4, ((fun k => ([] : List Nat).getD k 0), (fun k => ([z_4] : List Int).getD k 0), (fun k => ([vg] : List (Nat → Int32)).getD k (fun _ => 0))), rfl, ⟨rfl, (by show ((-2147483648) ≤ z_4 ∧ z_4 ≤ 2147483647); omega), hst⟩, at9 ht hP hD [0, 1, 2, 3, 4] (by decide +kernel) rfl⟩, hS.F ht⟩) hS.2.2 dX1_value_240
    · refine lv_iload_n hx hb dX1_value_29 rfl (lv_at hlv 2 rfl) ?_
      refine iz_lt (tgt := 234) hx hb dX1_value_30 (by decide) (by first | exact hl20_0 | omega) (fun c_5 => ?_) (fun c_5 => ?_)
      · refine lv_aload_n hx hb dX1_value_234 rfl (lv_at hlv 3 rfl) ?_
        refine va_get (D := D) (ci := 1) (v := vR l3) (C := RX1) (T := TX1) (N := 4) hx hb hts hi1 hown hG.1 hP 0 rfl rfl 3 (by decide) lf20 (fun _ h9 => h9) rfl dX1_value_235 ?_
        refine lv_iconst (v := iI 0) hx hb dX1_value_238 (by decide) ?_
        refine va_iald hx hb hG.1 hP 3 0 rfl rfl (iI_in (by omega) (by decide)) dX1_value_239 ?_
        refine lt_z (fun z_6 ez_6 lz_6 hz_6 => ?_)
        refine W.widen (k := 0) (n := 0) (Nat.le_of_ble_eq_true rfl) (Nat.le_of_ble_eq_true rfl) ?_
        exact W.iret (v := iI z_6) hx hb hr (fun t ht hW => ⟨⟨iI z_6, ((fun k => ([] : List Nat).getD k 0), (fun k => ([z_6] : List Int).getD k 0), (fun k => ([vg] : List (Nat → Int32)).getD k (fun _ => 0))), rfl, ⟨rfl, (by show ((-2147483648) ≤ z_6 ∧ z_6 ≤ 2147483647); omega), hst⟩, at9 ht hP hD [0, 1, 2, 3, 4] (by decide +kernel) rfl⟩, hS.F ht⟩) hS.2.2 dX1_value_240
      · refine lv_iload_n hx hb dX1_value_33 rfl (lv_at hlv 2 rfl) ?_
        refine lv_aload_n hx hb dX1_value_34 rfl (lv_at hlv 3 rfl) ?_
        refine va_get (D := D) (ci := 1) (v := vI size) (C := RX1) (T := TX1) (N := 4) hx hb hts hi1 hown hG.1 hP 0 rfl rfl 1 (by decide) lf23 (fun _ h9 => h9) rfl dX1_value_35 ?_
        refine ir_ge (tgt := 234) hx hb dX1_value_38 (by decide) (by first | exact hl20_0 | omega) (by first | exact rgw hr_size (by decide) (by decide) | omega) (fun c_7 => ?_) (fun c_7 => ?_)
        · refine lv_aload_n hx hb dX1_value_234 rfl (lv_at hlv 3 rfl) ?_
          refine va_get (D := D) (ci := 1) (v := vR l3) (C := RX1) (T := TX1) (N := 4) hx hb hts hi1 hown hG.1 hP 0 rfl rfl 3 (by decide) lf20 (fun _ h9 => h9) rfl dX1_value_235 ?_
          refine lv_iconst (v := iI 0) hx hb dX1_value_238 (by decide) ?_
          refine va_iald hx hb hG.1 hP 3 0 rfl rfl (iI_in (by omega) (by decide)) dX1_value_239 ?_
          refine lt_z (fun z_8 ez_8 lz_8 hz_8 => ?_)
          refine W.widen (k := 0) (n := 0) (Nat.le_of_ble_eq_true rfl) (Nat.le_of_ble_eq_true rfl) ?_
          exact W.iret (v := iI z_8) hx hb hr (fun t ht hW => ⟨⟨iI z_8, ((fun k => ([] : List Nat).getD k 0), (fun k => ([z_8] : List Int).getD k 0), (fun k => ([vg] : List (Nat → Int32)).getD k (fun _ => 0))), rfl, ⟨rfl, (by show ((-2147483648) ≤ z_8 ∧ z_8 ≤ 2147483647); omega), hst⟩, at9 ht hP hD [0, 1, 2, 3, 4] (by decide +kernel) rfl⟩, hS.F ht⟩) hS.2.2 dX1_value_240
        · refine lv_aload_n hx hb dX1_value_41 rfl (lv_at hlv 3 rfl) ?_
          refine va_get (D := D) (ci := 1) (v := vR l0) (C := RX1) (T := TX1) (N := 4) hx hb hts hi1 hown hG.1 hP 0 rfl rfl 0 (by decide) lf11 (fun _ h9 => h9) rfl dX1_value_42 ?_
          refine lv_iload_n hx hb dX1_value_45 rfl (lv_at hlv 2 rfl) ?_
          refine va_iald hx hb hG.1 hP 1 0 rfl rfl (iI_in (by omega) (by decide)) dX1_value_46 ?_
          obtain ⟨z_9, ez_9, hz_9, lz_9⟩ := inv_rd hst (e := qa) (by omega) (by decide)
          refine lt_i (y := iI z_9) ez_9 ?_
          refine lv_bipush (v := iI 15) hx hb dX1_value_47 (by decide) ?_
          refine lv_iand hx hb dX1_value_49 ?_
          refine lt_aE 4 (by decide) (by decide) (hi := 15) (by decide) (fun z_10 ez_10 lz_10 hz_10 => ?_)
          refine lv_istore (lv' := [(6, vI z_10), (5, vI qi), (4, vI qt), (3, vI qa), (0, vR la), (1, vI w), (2, vR na)]) hx hb dX1_value_50 hlv (by decide) rfl (fun ls hlv => ?_)
          refine lv_aload_n hx hb dX1_value_52 rfl (lv_at hlv 4 rfl) ?_
          refine va_get (D := D) (ci := 1) (v := vR l0) (C := RX1) (T := TX1) (N := 4) hx hb hts hi1 hown hG.1 hP 0 rfl rfl 0 (by decide) lf11 (fun _ h9 => h9) rfl dX1_value_53 ?_
          refine lv_iload_n hx hb dX1_value_56 rfl (lv_at hlv 3 rfl) ?_
          refine va_iald hx hb hG.1 hP 1 0 rfl rfl (iI_in (by omega) (by decide)) dX1_value_57 ?_
          refine lt_i (y := iI z_9) ez_9 ?_
          refine lv_iconst (v := iI 4) hx hb dX1_value_58 (by decide) ?_
          refine lv_ishr hx hb dX1_value_59 ?_
          refine lt_e (e0 := z_9 / 16) (sr_eq 4 (by decide) (by omega)) (fun z_11 hz_11 => ?_)
          refine lv_istore (lv' := [(7, vI z_11), (6, vI z_10), (5, vI qi), (4, vI qt), (3, vI qa), (0, vR la), (1, vI w), (2, vR na)]) hx hb dX1_value_60 hlv (by decide) rfl (fun ls hlv => ?_)
          obtain ⟨z_12, hz_12⟩ : ∃ z : Int, z = qa + 1 := ⟨_, rfl⟩
          refine lv_iinc (v := iI z_12) (lv' := [(3, vI z_12), (7, vI z_11), (6, vI z_10), (5, vI qi), (4, vI qt), (0, vR la), (1, vI w), (2, vR na)]) hx hb dX1_value_62 hlv (k := 4) rfl (by rw [hz_12]; exact (Int32.ofInt_add _ _).symm) (by decide) rfl (fun ls hlv => ?_)
          refine lv_iload hx hb dX1_value_65 (lv_at hlv 2 rfl) ?_
          refine lv_bipush (v := iI 13) hx hb dX1_value_67 (by decide) ?_
          refine ir_ne (tgt := 79) hx hb dX1_value_69 (by decide) (by omega) (by show ((-2147483648) : Int) ≤ 13 ∧ (13 : Int) ≤ 2147483647; decide) (fun c_13 => ?_) (fun c_13 => ?_)
          · refine lv_iload hx hb dX1_value_79 (lv_at hlv 2 rfl) ?_
            refine lv_bipush (v := iI 11) hx hb dX1_value_81 (by decide) ?_
            refine ir_ne (tgt := 92) hx hb dX1_value_83 (by decide) (by omega) (by show ((-2147483648) : Int) ≤ 11 ∧ (11 : Int) ≤ 2147483647; decide) (fun c_14 => ?_) (fun c_14 => ?_)
            · refine lv_iload hx hb dX1_value_92 (lv_at hlv 2 rfl) ?_
              refine lv_bipush (v := iI 12) hx hb dX1_value_94 (by decide) ?_
              refine ir_ne (tgt := 134) hx hb dX1_value_96 (by decide) (by omega) (by show ((-2147483648) : Int) ≤ 12 ∧ (12 : Int) ≤ 2147483647; decide) (fun c_15 => ?_) (fun c_15 => ?_)
              · refine lv_iload hx hb dX1_value_134 (lv_at hlv 2 rfl) ?_
                refine iz_eq (tgt := 145) hx hb dX1_value_136 (by decide) (by omega) (fun c_16 => ?_) (fun c_16 => ?_)
                · refine lv_iload hx hb dX1_value_145 (lv_at hlv 4 rfl) ?_
                  refine lv_aload_n hx hb dX1_value_147 rfl (lv_at hlv 5 rfl) ?_
                  refine va_get (D := D) (ci := 1) (v := vR l3) (C := RX1) (T := TX1) (N := 4) hx hb hts hi1 hown hG.1 hP 0 rfl rfl 3 (by decide) lf20 (fun _ h9 => h9) rfl dX1_value_148 ?_
                  refine va_alen (v := iI 40) hx hb hG.1 hP 3 0 rfl rfl (iI_nI _) dX1_value_151 ?_
                  refine ir_ge (tgt := 228) hx hb dX1_value_152 (by decide) (by first | exact rgw hl20_1 (by decide) (by decide) | omega) (by show ((-2147483648) : Int) ≤ 40 ∧ (40 : Int) ≤ 2147483647; decide) (fun c_17 => ?_) (fun c_17 => ?_)
                  · obtain ⟨z_18, hz_18⟩ : ∃ z : Int, z = qi + 1 := ⟨_, rfl⟩
                    refine lv_iinc (v := iI z_18) (lv' := [(5, vI z_18), (3, vI z_12), (7, vI z_11), (6, vI z_10), (4, vI qt), (0, vR la), (1, vI w), (2, vR na)]) hx hb dX1_value_228 hlv (k := 3) rfl (by rw [hz_18]; exact (Int32.ofInt_add _ _).symm) (by decide) rfl (fun ls hlv => ?_)
                    refine lv_goto (tgt := 20) hx hb dX1_value_231 (by decide) ?_
                    exact ih20 z_12 qt z_18 vg H locs ls (by omega) (by omega) (by first | exact hl20_1 | omega) (by omega)  (hP.sub [0, 1, 2, 3, 4] rfl) (hD.sub [0, 1, 2, 3, 4] (by decide) rfl) hS (lv_sub hlv [0, 4, 1, 5, 6, 7] rfl)
                  · refine lv_aload_n hx hb dX1_value_155 rfl (lv_at hlv 5 rfl) ?_
                    refine va_get (D := D) (ci := 1) (v := vR l3) (C := RX1) (T := TX1) (N := 4) hx hb hts hi1 hown hG.1 hP 0 rfl rfl 3 (by decide) lf20 (fun _ h9 => h9) rfl dX1_value_156 ?_
                    refine lv_iload hx hb dX1_value_159 (lv_at hlv 4 rfl) ?_
                    refine lv_iload hx hb dX1_value_161 (lv_at hlv 2 rfl) ?_
                    refine iz_eq (tgt := 173) hx hb dX1_value_163 (by decide) (by omega) (fun c_19 => ?_) (fun c_19 => by exfalso; omega)
                    refine lv_iload hx hb dX1_value_173 (lv_at hlv 1 rfl) ?_
                    refine lv_goto (tgt := 182) hx hb dX1_value_175 (by decide) ?_
                    refine va_iast hx hb hG.1 hP hD hS 3 0 rfl rfl (iI_in (by omega) (by decide)) dX1_value_182 (fun H locs hP hD hS => ?_)
                    obtain ⟨f_20, hP, hD⟩ := pe9 (fun f_20 => [zO la 1 [vR l0, vI size, vR l2, vR l3], zI l0 (cy 0) 600 st, zI l2 (cy 0) 5 sf, zI l3 (cy 0) 40 f_20, zI na (cy 0) 7 nf]) _ hP hD
                    obtain ⟨z_21, hz_21⟩ : ∃ z : Int, z = qt + 1 := ⟨_, rfl⟩
                    refine lv_iinc (v := iI z_21) (lv' := [(4, vI z_21), (3, vI z_12), (7, vI z_11), (6, vI z_10), (5, vI qi), (0, vR la), (1, vI w), (2, vR na)]) hx hb dX1_value_183 hlv (k := 4) rfl (by rw [hz_21]; exact (Int32.ofInt_add _ _).symm) (by decide) rfl (fun ls hlv => ?_)
                    refine lv_goto (tgt := 228) hx hb dX1_value_186 (by decide) ?_
                    obtain ⟨z_22, hz_22⟩ : ∃ z : Int, z = qi + 1 := ⟨_, rfl⟩
                    refine lv_iinc (v := iI z_22) (lv' := [(5, vI z_22), (4, vI z_21), (3, vI z_12), (7, vI z_11), (6, vI z_10), (0, vR la), (1, vI w), (2, vR na)]) hx hb dX1_value_228 hlv (k := 4) rfl (by rw [hz_22]; exact (Int32.ofInt_add _ _).symm) (by decide) rfl (fun ls hlv => ?_)
                    refine lv_goto (tgt := 20) hx hb dX1_value_231 (by decide) ?_
                    exact ih20 z_12 z_21 z_22 f_20 H locs ls (by omega) (by omega) (by omega) (by omega)  (hP.sub [0, 1, 2, 3, 4] rfl) (hD.sub [0, 1, 2, 3, 4] (by decide) rfl) hS (lv_sub hlv [0, 1, 2, 5, 6, 7] rfl)
                · refine lv_iload hx hb dX1_value_139 (lv_at hlv 2 rfl) ?_
                  refine lv_iconst (v := iI 1) hx hb dX1_value_141 (by decide) ?_
                  refine ir_ne (tgt := 189) hx hb dX1_value_142 (by decide) (by omega) (by show ((-2147483648) : Int) ≤ 1 ∧ (1 : Int) ≤ 2147483647; decide) (fun c_23 => ?_) (fun c_23 => ?_)
                  · refine lv_iload hx hb dX1_value_189 (lv_at hlv 4 rfl) ?_
                    refine lv_iconst (v := iI 2) hx hb dX1_value_191 (by decide) ?_
                    refine ir_lt (tgt := 228) hx hb dX1_value_192 (by decide) (by first | exact rgw hl20_1 (by decide) (by decide) | omega) (by show ((-2147483648) : Int) ≤ 2 ∧ (2 : Int) ≤ 2147483647; decide) (fun c_24 => ?_) (fun c_24 => ?_)
                    · obtain ⟨z_25, hz_25⟩ : ∃ z : Int, z = qi + 1 := ⟨_, rfl⟩
                      refine lv_iinc (v := iI z_25) (lv' := [(5, vI z_25), (3, vI z_12), (7, vI z_11), (6, vI z_10), (4, vI qt), (0, vR la), (1, vI w), (2, vR na)]) hx hb dX1_value_228 hlv (k := 3) rfl (by rw [hz_25]; exact (Int32.ofInt_add _ _).symm) (by decide) rfl (fun ls hlv => ?_)
                      refine lv_goto (tgt := 20) hx hb dX1_value_231 (by decide) ?_
                      exact ih20 z_12 qt z_25 vg H locs ls (by omega) (by omega) (by first | exact hl20_1 | omega) (by omega)  (hP.sub [0, 1, 2, 3, 4] rfl) (hD.sub [0, 1, 2, 3, 4] (by decide) rfl) hS (lv_sub hlv [0, 4, 1, 5, 6, 7] rfl)
                    · obtain ⟨z_26, hz_26⟩ : ∃ z : Int, z = qt + (-1) := ⟨_, rfl⟩
                      refine lv_iinc (v := iI z_26) (lv' := [(4, vI z_26), (3, vI z_12), (7, vI z_11), (6, vI z_10), (5, vI qi), (0, vR la), (1, vI w), (2, vR na)]) hx hb dX1_value_195 hlv (k := 4) rfl (by rw [hz_26]; exact (Int32.ofInt_add _ _).symm) (by decide) rfl (fun ls hlv => ?_)
                      refine lv_aload_n hx hb dX1_value_198 rfl (lv_at hlv 5 rfl) ?_
                      refine va_get (D := D) (ci := 1) (v := vR l3) (C := RX1) (T := TX1) (N := 4) hx hb hts hi1 hown hG.1 hP 0 rfl rfl 3 (by decide) lf20 (fun _ h9 => h9) rfl dX1_value_199 ?_
                      refine lv_iload hx hb dX1_value_202 (lv_at hlv 0 rfl) ?_
                      refine lv_iconst (v := iI 1) hx hb dX1_value_204 (by decide) ?_
                      refine lv_isub hx hb dX1_value_205 ?_
                      refine lt_e (e0 := z_26 - 1) (Int32.ofInt_sub _ _).symm (fun z_27 hz_27 => ?_)
                      refine lv_iload hx hb dX1_value_206 (lv_at hlv 3 rfl) ?_
                      refine lv_aload_n hx hb dX1_value_208 rfl (lv_at hlv 5 rfl) ?_
                      refine va_get (D := D) (ci := 1) (v := vR l3) (C := RX1) (T := TX1) (N := 4) hx hb hts hi1 hown hG.1 hP 0 rfl rfl 3 (by decide) lf20 (fun _ h9 => h9) rfl dX1_value_209 ?_
                      refine lv_iload hx hb dX1_value_212 (lv_at hlv 0 rfl) ?_
                      refine lv_iconst (v := iI 1) hx hb dX1_value_214 (by decide) ?_
                      refine lv_isub hx hb dX1_value_215 ?_
                      refine lt_e (e0 := z_26 - 1) (Int32.ofInt_sub _ _).symm (fun z_28 hz_28 => ?_)
                      refine va_iald hx hb hG.1 hP 3 0 rfl rfl (iI_in (by omega) (by decide)) dX1_value_216 ?_
                      refine lt_z (fun z_29 ez_29 lz_29 hz_29 => ?_)
                      refine lv_aload_n hx hb dX1_value_217 rfl (lv_at hlv 5 rfl) ?_
                      refine va_get (D := D) (ci := 1) (v := vR l3) (C := RX1) (T := TX1) (N := 4) hx hb hts hi1 hown hG.1 hP 0 rfl rfl 3 (by decide) lf20 (fun _ h9 => h9) rfl dX1_value_218 ?_
                      refine lv_iload hx hb dX1_value_221 (lv_at hlv 0 rfl) ?_
                      refine va_iald hx hb hG.1 hP 3 0 rfl rfl (iI_in (by omega) (by decide)) dX1_value_223 ?_
                      refine lt_z (fun z_30 ez_30 lz_30 hz_30 => ?_)
                      refine cjr_i [true, true, true, true, true] (fun pre9 => (va_runS (As := [vI z_10, vI z_29, vI z_30]) (rest := [vI z_27, vR l3]) ⟨hx, hb, hml, hown, hts⟩ (s_joined l hl D cy sa z_10 z_29 z_30 H.size (by omega) (by omega) (by omega)) (va_cwS 3 hts gg_1 rfl rfl rfl (by decide +kernel) ⟨Nat.le_of_ble_eq_true rfl, Nat.le_of_ble_eq_true rfl⟩) ⟨pcW.blind, pre9⟩ rfl rfl hlv.1 rfl (lv_room (Nat.le_of_ble_eq_true rfl)) dX1_value_224 ⟨Nat.le_of_ble_eq_true rfl, Nat.le_of_ble_eq_true rfl⟩)) hP hD hS hA hG hT [] rfl (by decide +kernel) (fun r1 u1 H locs hw1 hq9 hS => ?_)
                      obtain ⟨rfl, hq1_1⟩ := hw1
                      obtain ⟨hP, hD⟩ := pd9 [zO la 1 [vR l0, vI size, vR l2, vR l3], zI l0 (cy 0) 600 st, zI l2 (cy 0) 5 sf, zI l3 (cy 0) 40 vg, zI na (cy 0) 7 nf] hq9
                      refine va_iast hx hb hG.1 hP hD hS 3 0 rfl rfl (iI_in (by omega) (by decide)) dX1_value_227 (fun H locs hP hD hS => ?_)
                      obtain ⟨f_31, hP, hD⟩ := pe9 (fun f_31 => [zO la 1 [vR l0, vI size, vR l2, vR l3], zI l0 (cy 0) 600 st, zI l2 (cy 0) 5 sf, zI l3 (cy 0) 40 f_31, zI na (cy 0) 7 nf]) _ hP hD
                      obtain ⟨z_32, hz_32⟩ : ∃ z : Int, z = qi + 1 := ⟨_, rfl⟩
                      refine lv_iinc (v := iI z_32) (lv' := [(5, vI z_32), (4, vI z_26), (3, vI z_12), (7, vI z_11), (6, vI z_10), (0, vR la), (1, vI w), (2, vR na)]) hx hb dX1_value_228 hlv (k := 4) rfl (by rw [hz_32]; exact (Int32.ofInt_add _ _).symm) (by decide) rfl (fun ls hlv => ?_)
                      refine lv_goto (tgt := 20) hx hb dX1_value_231 (by decide) ?_
                      exact ih20 z_12 z_26 z_32 f_31 H locs ls (by omega) (by omega) (by omega) (by omega)  (hP.sub [0, 1, 2, 3, 4] rfl) (hD.sub [0, 1, 2, 3, 4] (by decide) rfl) hS (lv_sub hlv [0, 1, 2, 5, 6, 7] rfl)
                  · refine lv_iload hx hb dX1_value_145 (lv_at hlv 4 rfl) ?_
                    refine lv_aload_n hx hb dX1_value_147 rfl (lv_at hlv 5 rfl) ?_
                    refine va_get (D := D) (ci := 1) (v := vR l3) (C := RX1) (T := TX1) (N := 4) hx hb hts hi1 hown hG.1 hP 0 rfl rfl 3 (by decide) lf20 (fun _ h9 => h9) rfl dX1_value_148 ?_
                    refine va_alen (v := iI 40) hx hb hG.1 hP 3 0 rfl rfl (iI_nI _) dX1_value_151 ?_
                    refine ir_ge (tgt := 228) hx hb dX1_value_152 (by decide) (by first | exact rgw hl20_1 (by decide) (by decide) | omega) (by show ((-2147483648) : Int) ≤ 40 ∧ (40 : Int) ≤ 2147483647; decide) (fun c_33 => ?_) (fun c_33 => ?_)
                    · obtain ⟨z_34, hz_34⟩ : ∃ z : Int, z = qi + 1 := ⟨_, rfl⟩
                      refine lv_iinc (v := iI z_34) (lv' := [(5, vI z_34), (3, vI z_12), (7, vI z_11), (6, vI z_10), (4, vI qt), (0, vR la), (1, vI w), (2, vR na)]) hx hb dX1_value_228 hlv (k := 3) rfl (by rw [hz_34]; exact (Int32.ofInt_add _ _).symm) (by decide) rfl (fun ls hlv => ?_)
                      refine lv_goto (tgt := 20) hx hb dX1_value_231 (by decide) ?_
                      exact ih20 z_12 qt z_34 vg H locs ls (by omega) (by omega) (by first | exact hl20_1 | omega) (by omega)  (hP.sub [0, 1, 2, 3, 4] rfl) (hD.sub [0, 1, 2, 3, 4] (by decide) rfl) hS (lv_sub hlv [0, 4, 1, 5, 6, 7] rfl)
                    · refine lv_aload_n hx hb dX1_value_155 rfl (lv_at hlv 5 rfl) ?_
                      refine va_get (D := D) (ci := 1) (v := vR l3) (C := RX1) (T := TX1) (N := 4) hx hb hts hi1 hown hG.1 hP 0 rfl rfl 3 (by decide) lf20 (fun _ h9 => h9) rfl dX1_value_156 ?_
                      refine lv_iload hx hb dX1_value_159 (lv_at hlv 4 rfl) ?_
                      refine lv_iload hx hb dX1_value_161 (lv_at hlv 2 rfl) ?_
                      refine iz_eq (tgt := 173) hx hb dX1_value_163 (by decide) (by omega) (fun c_35 => by exfalso; omega) (fun c_35 => ?_)
                      refine lv_iload hx hb dX1_value_166 (lv_at hlv 1 rfl) ?_
                      refine lv_bipush (v := iI 7) hx hb dX1_value_168 (by decide) ?_
                      refine ir_lt (tgt := 178) hx hb dX1_value_170 (by decide) (by omega) (by show ((-2147483648) : Int) ≤ 7 ∧ (7 : Int) ≤ 2147483647; decide) (fun c_36 => ?_) (fun c_36 => ?_)
                      · refine lv_aload_n hx hb dX1_value_178 rfl (lv_at hlv 7 rfl) ?_
                        refine lv_iload hx hb dX1_value_179 (lv_at hlv 1 rfl) ?_
                        refine va_iald hx hb hG.1 hP 4 0 rfl rfl (iI_in (by omega) (by decide)) dX1_value_181 ?_
                        refine lt_z (fun z_37 ez_37 lz_37 hz_37 => ?_)
                        refine va_iast hx hb hG.1 hP hD hS 3 0 rfl rfl (iI_in (by omega) (by decide)) dX1_value_182 (fun H locs hP hD hS => ?_)
                        obtain ⟨f_38, hP, hD⟩ := pe9 (fun f_38 => [zO la 1 [vR l0, vI size, vR l2, vR l3], zI l0 (cy 0) 600 st, zI l2 (cy 0) 5 sf, zI l3 (cy 0) 40 f_38, zI na (cy 0) 7 nf]) _ hP hD
                        obtain ⟨z_39, hz_39⟩ : ∃ z : Int, z = qt + 1 := ⟨_, rfl⟩
                        refine lv_iinc (v := iI z_39) (lv' := [(4, vI z_39), (3, vI z_12), (7, vI z_11), (6, vI z_10), (5, vI qi), (0, vR la), (1, vI w), (2, vR na)]) hx hb dX1_value_183 hlv (k := 4) rfl (by rw [hz_39]; exact (Int32.ofInt_add _ _).symm) (by decide) rfl (fun ls hlv => ?_)
                        refine lv_goto (tgt := 228) hx hb dX1_value_186 (by decide) ?_
                        obtain ⟨z_40, hz_40⟩ : ∃ z : Int, z = qi + 1 := ⟨_, rfl⟩
                        refine lv_iinc (v := iI z_40) (lv' := [(5, vI z_40), (4, vI z_39), (3, vI z_12), (7, vI z_11), (6, vI z_10), (0, vR la), (1, vI w), (2, vR na)]) hx hb dX1_value_228 hlv (k := 4) rfl (by rw [hz_40]; exact (Int32.ofInt_add _ _).symm) (by decide) rfl (fun ls hlv => ?_)
                        refine lv_goto (tgt := 20) hx hb dX1_value_231 (by decide) ?_
                        exact ih20 z_12 z_39 z_40 f_38 H locs ls (by omega) (by omega) (by omega) (by omega)  (hP.sub [0, 1, 2, 3, 4] rfl) (hD.sub [0, 1, 2, 3, 4] (by decide) rfl) hS (lv_sub hlv [0, 1, 2, 5, 6, 7] rfl)
                      · refine lv_iload hx hb dX1_value_173 (lv_at hlv 1 rfl) ?_
                        refine lv_goto (tgt := 182) hx hb dX1_value_175 (by decide) ?_
                        refine va_iast hx hb hG.1 hP hD hS 3 0 rfl rfl (iI_in (by omega) (by decide)) dX1_value_182 (fun H locs hP hD hS => ?_)
                        obtain ⟨f_41, hP, hD⟩ := pe9 (fun f_41 => [zO la 1 [vR l0, vI size, vR l2, vR l3], zI l0 (cy 0) 600 st, zI l2 (cy 0) 5 sf, zI l3 (cy 0) 40 f_41, zI na (cy 0) 7 nf]) _ hP hD
                        obtain ⟨z_42, hz_42⟩ : ∃ z : Int, z = qt + 1 := ⟨_, rfl⟩
                        refine lv_iinc (v := iI z_42) (lv' := [(4, vI z_42), (3, vI z_12), (7, vI z_11), (6, vI z_10), (5, vI qi), (0, vR la), (1, vI w), (2, vR na)]) hx hb dX1_value_183 hlv (k := 4) rfl (by rw [hz_42]; exact (Int32.ofInt_add _ _).symm) (by decide) rfl (fun ls hlv => ?_)
                        refine lv_goto (tgt := 228) hx hb dX1_value_186 (by decide) ?_
                        obtain ⟨z_43, hz_43⟩ : ∃ z : Int, z = qi + 1 := ⟨_, rfl⟩
                        refine lv_iinc (v := iI z_43) (lv' := [(5, vI z_43), (4, vI z_42), (3, vI z_12), (7, vI z_11), (6, vI z_10), (0, vR la), (1, vI w), (2, vR na)]) hx hb dX1_value_228 hlv (k := 4) rfl (by rw [hz_43]; exact (Int32.ofInt_add _ _).symm) (by decide) rfl (fun ls hlv => ?_)
                        refine lv_goto (tgt := 20) hx hb dX1_value_231 (by decide) ?_
                        exact ih20 z_12 z_42 z_43 f_41 H locs ls (by omega) (by omega) (by omega) (by omega)  (hP.sub [0, 1, 2, 3, 4] rfl) (hD.sub [0, 1, 2, 3, 4] (by decide) rfl) hS (lv_sub hlv [0, 1, 2, 5, 6, 7] rfl)
              · refine lv_iload hx hb dX1_value_99 (lv_at hlv 4 rfl) ?_
                refine iz_le (tgt := 111) hx hb dX1_value_101 (by decide) (by first | exact rgw hl20_1 (by decide) (by decide) | omega) (fun c_44 => ?_) (fun c_44 => ?_)
                · refine lv_iconst (v := iI 0) hx hb dX1_value_111 (by decide) ?_
                  refine lv_istore (lv' := [(4, vI 0), (3, vI z_12), (7, vI z_11), (6, vI z_10), (5, vI qi), (0, vR la), (1, vI w), (2, vR na)]) hx hb dX1_value_112 hlv (by decide) rfl (fun ls hlv => ?_)
                  refine lv_aload_n hx hb dX1_value_114 rfl (lv_at hlv 5 rfl) ?_
                  refine va_get (D := D) (ci := 1) (v := vR l3) (C := RX1) (T := TX1) (N := 4) hx hb hts hi1 hown hG.1 hP 0 rfl rfl 3 (by decide) lf20 (fun _ h9 => h9) rfl dX1_value_115 ?_
                  refine lv_iload hx hb dX1_value_118 (lv_at hlv 0 rfl) ?_
                  refine va_iald hx hb hG.1 hP 3 0 rfl rfl (iI_in (by omega) (by decide)) dX1_value_120 ?_
                  refine lt_z (fun z_45 ez_45 lz_45 hz_45 => ?_)
                  refine iz_ne (tgt := 129) hx hb dX1_value_121 (by decide) (by omega) (fun c_46 => ?_) (fun c_46 => ?_)
                  · refine lv_iload_n hx hb dX1_value_129 rfl (lv_at hlv 1 rfl) ?_
                    refine lv_istore_n (lv' := [(3, vI z_12), (4, vI 0), (7, vI z_11), (6, vI z_10), (5, vI qi), (0, vR la), (1, vI w), (2, vR na)]) hx hb dX1_value_130 rfl hlv (by decide) rfl (fun ls hlv => ?_)
                    refine lv_goto (tgt := 228) hx hb dX1_value_131 (by decide) ?_
                    obtain ⟨z_47, hz_47⟩ : ∃ z : Int, z = qi + 1 := ⟨_, rfl⟩
                    refine lv_iinc (v := iI z_47) (lv' := [(5, vI z_47), (3, vI z_12), (4, vI 0), (7, vI z_11), (6, vI z_10), (0, vR la), (1, vI w), (2, vR na)]) hx hb dX1_value_228 hlv (k := 4) rfl (by rw [hz_47]; exact (Int32.ofInt_add _ _).symm) (by decide) rfl (fun ls hlv => ?_)
                    refine lv_goto (tgt := 20) hx hb dX1_value_231 (by decide) ?_
                    exact ih20 z_12 0 z_47 vg H locs ls (by omega) (by omega) (by show (0 : Int) ≤ 0 ∧ (0 : Int) ≤ 40; decide) (by omega)  (hP.sub [0, 1, 2, 3, 4] rfl) (hD.sub [0, 1, 2, 3, 4] (by decide) rfl) hS (lv_sub hlv [0, 2, 1, 5, 6, 7] rfl)
                  · refine lv_iload hx hb dX1_value_124 (lv_at hlv 2 rfl) ?_
                    refine lv_goto (tgt := 130) hx hb dX1_value_126 (by decide) ?_
                    refine lv_istore_n (lv' := [(3, vI z_11), (4, vI 0), (7, vI z_11), (6, vI z_10), (5, vI qi), (0, vR la), (1, vI w), (2, vR na)]) hx hb dX1_value_130 rfl hlv (by decide) rfl (fun ls hlv => ?_)
                    refine lv_goto (tgt := 228) hx hb dX1_value_131 (by decide) ?_
                    obtain ⟨z_48, hz_48⟩ : ∃ z : Int, z = qi + 1 := ⟨_, rfl⟩
                    refine lv_iinc (v := iI z_48) (lv' := [(5, vI z_48), (3, vI z_11), (4, vI 0), (7, vI z_11), (6, vI z_10), (0, vR la), (1, vI w), (2, vR na)]) hx hb dX1_value_228 hlv (k := 4) rfl (by rw [hz_48]; exact (Int32.ofInt_add _ _).symm) (by decide) rfl (fun ls hlv => ?_)
                    refine lv_goto (tgt := 20) hx hb dX1_value_231 (by decide) ?_
                    exact ih20 z_11 0 z_48 vg H locs ls (by omega) (by omega) (by show (0 : Int) ≤ 0 ∧ (0 : Int) ≤ 40; decide) (by omega)  (hP.sub [0, 1, 2, 3, 4] rfl) (hD.sub [0, 1, 2, 3, 4] (by decide) rfl) hS (lv_sub hlv [0, 2, 1, 5, 6, 7] rfl)
                · refine lv_iload hx hb dX1_value_104 (lv_at hlv 4 rfl) ?_
                  refine lv_iconst (v := iI 1) hx hb dX1_value_106 (by decide) ?_
                  refine lv_isub hx hb dX1_value_107 ?_
                  refine lt_e (e0 := qt - 1) (Int32.ofInt_sub _ _).symm (fun z_49 hz_49 => ?_)
                  refine lv_goto (tgt := 112) hx hb dX1_value_108 (by decide) ?_
                  refine lv_istore (lv' := [(4, vI z_49), (3, vI z_12), (7, vI z_11), (6, vI z_10), (5, vI qi), (0, vR la), (1, vI w), (2, vR na)]) hx hb dX1_value_112 hlv (by decide) rfl (fun ls hlv => ?_)
                  refine lv_aload_n hx hb dX1_value_114 rfl (lv_at hlv 5 rfl) ?_
                  refine va_get (D := D) (ci := 1) (v := vR l3) (C := RX1) (T := TX1) (N := 4) hx hb hts hi1 hown hG.1 hP 0 rfl rfl 3 (by decide) lf20 (fun _ h9 => h9) rfl dX1_value_115 ?_
                  refine lv_iload hx hb dX1_value_118 (lv_at hlv 0 rfl) ?_
                  refine va_iald hx hb hG.1 hP 3 0 rfl rfl (iI_in (by omega) (by decide)) dX1_value_120 ?_
                  refine lt_z (fun z_50 ez_50 lz_50 hz_50 => ?_)
                  refine iz_ne (tgt := 129) hx hb dX1_value_121 (by decide) (by omega) (fun c_51 => ?_) (fun c_51 => ?_)
                  · refine lv_iload_n hx hb dX1_value_129 rfl (lv_at hlv 1 rfl) ?_
                    refine lv_istore_n (lv' := [(3, vI z_12), (4, vI z_49), (7, vI z_11), (6, vI z_10), (5, vI qi), (0, vR la), (1, vI w), (2, vR na)]) hx hb dX1_value_130 rfl hlv (by decide) rfl (fun ls hlv => ?_)
                    refine lv_goto (tgt := 228) hx hb dX1_value_131 (by decide) ?_
                    obtain ⟨z_52, hz_52⟩ : ∃ z : Int, z = qi + 1 := ⟨_, rfl⟩
                    refine lv_iinc (v := iI z_52) (lv' := [(5, vI z_52), (3, vI z_12), (4, vI z_49), (7, vI z_11), (6, vI z_10), (0, vR la), (1, vI w), (2, vR na)]) hx hb dX1_value_228 hlv (k := 4) rfl (by rw [hz_52]; exact (Int32.ofInt_add _ _).symm) (by decide) rfl (fun ls hlv => ?_)
                    refine lv_goto (tgt := 20) hx hb dX1_value_231 (by decide) ?_
                    exact ih20 z_12 z_49 z_52 vg H locs ls (by omega) (by omega) (by omega) (by omega)  (hP.sub [0, 1, 2, 3, 4] rfl) (hD.sub [0, 1, 2, 3, 4] (by decide) rfl) hS (lv_sub hlv [0, 2, 1, 5, 6, 7] rfl)
                  · refine lv_iload hx hb dX1_value_124 (lv_at hlv 2 rfl) ?_
                    refine lv_goto (tgt := 130) hx hb dX1_value_126 (by decide) ?_
                    refine lv_istore_n (lv' := [(3, vI z_11), (4, vI z_49), (7, vI z_11), (6, vI z_10), (5, vI qi), (0, vR la), (1, vI w), (2, vR na)]) hx hb dX1_value_130 rfl hlv (by decide) rfl (fun ls hlv => ?_)
                    refine lv_goto (tgt := 228) hx hb dX1_value_131 (by decide) ?_
                    obtain ⟨z_53, hz_53⟩ : ∃ z : Int, z = qi + 1 := ⟨_, rfl⟩
                    refine lv_iinc (v := iI z_53) (lv' := [(5, vI z_53), (3, vI z_11), (4, vI z_49), (7, vI z_11), (6, vI z_10), (0, vR la), (1, vI w), (2, vR na)]) hx hb dX1_value_228 hlv (k := 4) rfl (by rw [hz_53]; exact (Int32.ofInt_add _ _).symm) (by decide) rfl (fun ls hlv => ?_)
                    refine lv_goto (tgt := 20) hx hb dX1_value_231 (by decide) ?_
                    exact ih20 z_11 z_49 z_53 vg H locs ls (by omega) (by omega) (by omega) (by omega)  (hP.sub [0, 1, 2, 3, 4] rfl) (hD.sub [0, 1, 2, 3, 4] (by decide) rfl) hS (lv_sub hlv [0, 2, 1, 5, 6, 7] rfl)
            · refine lv_iload hx hb dX1_value_86 (lv_at hlv 1 rfl) ?_
              refine lv_istore_n (lv' := [(3, vI z_11), (7, vI z_11), (6, vI z_10), (5, vI qi), (4, vI qt), (0, vR la), (1, vI w), (2, vR na)]) hx hb dX1_value_88 rfl hlv (by decide) rfl (fun ls hlv => ?_)
              refine lv_goto (tgt := 228) hx hb dX1_value_89 (by decide) ?_
              obtain ⟨z_54, hz_54⟩ : ∃ z : Int, z = qi + 1 := ⟨_, rfl⟩
              refine lv_iinc (v := iI z_54) (lv' := [(5, vI z_54), (3, vI z_11), (7, vI z_11), (6, vI z_10), (4, vI qt), (0, vR la), (1, vI w), (2, vR na)]) hx hb dX1_value_228 hlv (k := 3) rfl (by rw [hz_54]; exact (Int32.ofInt_add _ _).symm) (by decide) rfl (fun ls hlv => ?_)
              refine lv_goto (tgt := 20) hx hb dX1_value_231 (by decide) ?_
              exact ih20 z_11 qt z_54 vg H locs ls (by omega) (by omega) (by first | exact hl20_1 | omega) (by omega)  (hP.sub [0, 1, 2, 3, 4] rfl) (hD.sub [0, 1, 2, 3, 4] (by decide) rfl) hS (lv_sub hlv [0, 4, 1, 5, 6, 7] rfl)
          · refine lv_aload_n hx hb dX1_value_72 rfl (lv_at hlv 5 rfl) ?_
            refine va_get (D := D) (ci := 1) (v := vR l3) (C := RX1) (T := TX1) (N := 4) hx hb hts hi1 hown hG.1 hP 0 rfl rfl 3 (by decide) lf20 (fun _ h9 => h9) rfl dX1_value_73 ?_
            refine lv_iconst (v := iI 0) hx hb dX1_value_76 (by decide) ?_
            refine va_iald hx hb hG.1 hP 3 0 rfl rfl (iI_in (by omega) (by decide)) dX1_value_77 ?_
            refine lt_z (fun z_55 ez_55 lz_55 hz_55 => ?_)
            refine W.widen (k := 0) (n := 0) (Nat.le_of_ble_eq_true rfl) (Nat.le_of_ble_eq_true rfl) ?_
            exact W.iret (v := iI z_55) hx hb hr (fun t ht hW => ⟨⟨iI z_55, ((fun k => ([] : List Nat).getD k 0), (fun k => ([z_55] : List Int).getD k 0), (fun k => ([vg] : List (Nat → Int32)).getD k (fun _ => 0))), rfl, ⟨rfl, (by show ((-2147483648) ≤ z_55 ∧ z_55 ≤ 2147483647); omega), hst⟩, at9 ht hP hD [0, 1, 2, 3, 4] (by decide +kernel) rfl⟩, hS.F ht⟩) hS.2.2 dX1_value_78
end
