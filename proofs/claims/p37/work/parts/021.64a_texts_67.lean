section
theorem st_4 {D : va_G} {cy : Nat → ClassId} {sa : Nat → Nat} {U : State} (h : GC D cy sa U) : vk_R RX12 133 "clear" (sn sa 34) U := by
  have e : 200 + (34 : Int).toNat = 234 := by decide
  show vk_R RX12 133 "clear" (sa (200 + (34 : Int).toNat)) U
  rw [e]
  exact h.2.2.1 4 (RX12, 133, "clear", 234) rfl
theorem st_5 {D : va_G} {cy : Nat → ClassId} {sa : Nat → Nat} {U : State} (h : GC D cy sa U) : vk_R RX12 139 "raise" (sn sa 35) U := by
  have e : 200 + (35 : Int).toNat = 235 := by decide
  show vk_R RX12 139 "raise" (sa (200 + (35 : Int).toNat)) U
  rw [e]
  exact h.2.2.1 5 (RX12, 139, "raise", 235) rfl
theorem st_6 {D : va_G} {cy : Nat → ClassId} {sa : Nat → Nat} {U : State} (h : GC D cy sa U) : vk_R RX12 141 "lower" (sn sa 36) U := by
  have e : 200 + (36 : Int).toNat = 236 := by decide
  show vk_R RX12 141 "lower" (sa (200 + (36 : Int).toNat)) U
  rw [e]
  exact h.2.2.1 6 (RX12, 141, "lower", 236) rfl
theorem st_7 {D : va_G} {cy : Nat → ClassId} {sa : Nat → Nat} {U : State} (h : GC D cy sa U) : vk_R RX12 143 "bore" (sn sa 37) U := by
  have e : 200 + (37 : Int).toNat = 237 := by decide
  show vk_R RX12 143 "bore" (sa (200 + (37 : Int).toNat)) U
  rw [e]
  exact h.2.2.1 7 (RX12, 143, "bore", 237) rfl
theorem st_8 {D : va_G} {cy : Nat → ClassId} {sa : Nat → Nat} {U : State} (h : GC D cy sa U) : vk_R RX12 154 "size" (sn sa 29) U := by
  have e : 200 + (29 : Int).toNat = 229 := by decide
  show vk_R RX12 154 "size" (sa (200 + (29 : Int).toNat)) U
  rw [e]
  exact h.2.2.1 8 (RX12, 154, "size", 229) rfl
theorem st_9 {D : va_G} {cy : Nat → ClassId} {sa : Nat → Nat} {U : State} (h : GC D cy sa U) : vk_R RX12 155 "high" (sn sa 30) U := by
  have e : 200 + (30 : Int).toNat = 230 := by decide
  show vk_R RX12 155 "high" (sa (200 + (30 : Int).toNat)) U
  rw [e]
  exact h.2.2.1 9 (RX12, 155, "high", 230) rfl
theorem st_10 {D : va_G} {cy : Nat → ClassId} {sa : Nat → Nat} {U : State} (h : GC D cy sa U) : vk_R RX12 157 "drain" (sn sa 31) U := by
  have e : 200 + (31 : Int).toNat = 231 := by decide
  show vk_R RX12 157 "drain" (sa (200 + (31 : Int).toNat)) U
  rw [e]
  exact h.2.2.1 10 (RX12, 157, "drain", 231) rfl
theorem st_11 {D : va_G} {cy : Nat → ClassId} {sa : Nat → Nat} {U : State} (h : GC D cy sa U) : vk_R RX12 162 "person" (sn sa 32) U := by
  have e : 200 + (32 : Int).toNat = 232 := by decide
  show vk_R RX12 162 "person" (sa (200 + (32 : Int).toNat)) U
  rw [e]
  exact h.2.2.1 11 (RX12, 162, "person", 232) rfl
theorem st_12 {D : va_G} {cy : Nat → ClassId} {sa : Nat → Nat} {U : State} (h : GC D cy sa U) : vk_R RX12 185 "shelter" (sn sa 33) U := by
  have e : 200 + (33 : Int).toNat = 233 := by decide
  show vk_R RX12 185 "shelter" (sa (200 + (33 : Int).toNat)) U
  rw [e]
  exact h.2.2.1 12 (RX12, 185, "shelter", 233) rfl
theorem st_13 {D : va_G} {cy : Nat → ClassId} {sa : Nat → Nat} {U : State} (h : GC D cy sa U) : vk_R RX12 207 "rain" (sn sa 38) U := by
  have e : 200 + (38 : Int).toNat = 238 := by decide
  show vk_R RX12 207 "rain" (sa (200 + (38 : Int).toNat)) U
  rw [e]
  exact h.2.2.1 13 (RX12, 207, "rain", 238) rfl
theorem st_14 {D : va_G} {cy : Nat → ClassId} {sa : Nat → Nat} {U : State} (h : GC D cy sa U) : vk_R RX12 215 "depth" (sn sa 50) U := by
  have e : 200 + (50 : Int).toNat = 250 := by decide
  show vk_R RX12 215 "depth" (sa (200 + (50 : Int).toNat)) U
  rw [e]
  exact h.2.2.1 14 (RX12, 215, "depth", 250) rfl
theorem st_15 {D : va_G} {cy : Nat → ClassId} {sa : Nat → Nat} {U : State} (h : GC D cy sa U) : vk_R RX12 217 "pace" (sn sa 51) U := by
  have e : 200 + (51 : Int).toNat = 251 := by decide
  show vk_R RX12 217 "pace" (sa (200 + (51 : Int).toNat)) U
  rw [e]
  exact h.2.2.1 15 (RX12, 217, "pace", 251) rfl
theorem st_16 {D : va_G} {cy : Nat → ClassId} {sa : Nat → Nat} {U : State} (h : GC D cy sa U) : vk_R RX12 219 "tyre" (sn sa 52) U := by
  have e : 200 + (52 : Int).toNat = 252 := by decide
  show vk_R RX12 219 "tyre" (sa (200 + (52 : Int).toNat)) U
  rw [e]
  exact h.2.2.1 16 (RX12, 219, "tyre", 252) rfl
theorem st_17 {D : va_G} {cy : Nat → ClassId} {sa : Nat → Nat} {U : State} (h : GC D cy sa U) : vk_R RX12 221 "row" (sn sa 53) U := by
  have e : 200 + (53 : Int).toNat = 253 := by decide
  show vk_R RX12 221 "row" (sa (200 + (53 : Int).toNat)) U
  rw [e]
  exact h.2.2.1 17 (RX12, 221, "row", 253) rfl
theorem st_18 {D : va_G} {cy : Nat → ClassId} {sa : Nat → Nat} {U : State} (h : GC D cy sa U) : vk_R RX12 223 "far" (sn sa 54) U := by
  have e : 200 + (54 : Int).toNat = 254 := by decide
  show vk_R RX12 223 "far" (sa (200 + (54 : Int).toNat)) U
  rw [e]
  exact h.2.2.1 18 (RX12, 223, "far", 254) rfl
theorem st_19 {D : va_G} {cy : Nat → ClassId} {sa : Nat → Nat} {U : State} (h : GC D cy sa U) : vk_R RX12 225 "people" (sn sa 55) U := by
  have e : 200 + (55 : Int).toNat = 255 := by decide
  show vk_R RX12 225 "people" (sa (200 + (55 : Int).toNat)) U
  rw [e]
  exact h.2.2.1 19 (RX12, 225, "people", 255) rfl
theorem st_20 {D : va_G} {cy : Nat → ClassId} {sa : Nat → Nat} {U : State} (h : GC D cy sa U) : vk_R RX12 242 "if" (sn sa 44) U := by
  have e : 200 + (44 : Int).toNat = 244 := by decide
  show vk_R RX12 242 "if" (sa (200 + (44 : Int).toNat)) U
  rw [e]
  exact h.2.2.1 20 (RX12, 242, "if", 244) rfl
theorem st_21 {D : va_G} {cy : Nat → ClassId} {sa : Nat → Nat} {U : State} (h : GC D cy sa U) : vk_R RX12 247 "then" (sn sa 45) U := by
  have e : 200 + (45 : Int).toNat = 245 := by decide
  show vk_R RX12 247 "then" (sa (200 + (45 : Int).toNat)) U
  rw [e]
  exact h.2.2.1 21 (RX12, 247, "then", 245) rfl
theorem st_22 {D : va_G} {cy : Nat → ClassId} {sa : Nat → Nat} {U : State} (h : GC D cy sa U) : vk_R RX12 252 "else" (sn sa 46) U := by
  have e : 200 + (46 : Int).toNat = 246 := by decide
  show vk_R RX12 252 "else" (sa (200 + (46 : Int).toNat)) U
  rw [e]
  exact h.2.2.1 22 (RX12, 252, "else", 246) rfl
theorem st_23 {D : va_G} {cy : Nat → ClassId} {sa : Nat → Nat} {U : State} (h : GC D cy sa U) : vk_R RX12 257 "not" (sn sa 49) U := by
  have e : 200 + (49 : Int).toNat = 249 := by decide
  show vk_R RX12 257 "not" (sa (200 + (49 : Int).toNat)) U
  rw [e]
  exact h.2.2.1 23 (RX12, 257, "not", 249) rfl
theorem st_24 {D : va_G} {cy : Nat → ClassId} {sa : Nat → Nat} {U : State} (h : GC D cy sa U) : vk_R RX12 262 "and" (sn sa 48) U := by
  have e : 200 + (48 : Int).toNat = 248 := by decide
  show vk_R RX12 262 "and" (sa (200 + (48 : Int).toNat)) U
  rw [e]
  exact h.2.2.1 24 (RX12, 262, "and", 248) rfl
theorem st_25 {D : va_G} {cy : Nat → ClassId} {sa : Nat → Nat} {U : State} (h : GC D cy sa U) : vk_R RX12 267 "or" (sn sa 47) U := by
  have e : 200 + (47 : Int).toNat = 247 := by decide
  show vk_R RX12 267 "or" (sa (200 + (47 : Int).toNat)) U
  rw [e]
  exact h.2.2.1 25 (RX12, 267, "or", 247) rfl
theorem st_26 {D : va_G} {cy : Nat → ClassId} {sa : Nat → Nat} {U : State} (h : GC D cy sa U) : vk_R RX12 269 "throw" (sn sa 39) U := by
  have e : 200 + (39 : Int).toNat = 239 := by decide
  show vk_R RX12 269 "throw" (sa (200 + (39 : Int).toNat)) U
  rw [e]
  exact h.2.2.1 26 (RX12, 269, "throw", 239) rfl
theorem st_27 {D : va_G} {cy : Nat → ClassId} {sa : Nat → Nat} {U : State} (h : GC D cy sa U) : vk_R RX12 271 "reach" (sn sa 40) U := by
  have e : 200 + (40 : Int).toNat = 240 := by decide
  show vk_R RX12 271 "reach" (sa (200 + (40 : Int).toNat)) U
  rw [e]
  exact h.2.2.1 27 (RX12, 271, "reach", 240) rfl
theorem st_28 {D : va_G} {cy : Nat → ClassId} {sa : Nat → Nat} {U : State} (h : GC D cy sa U) : vk_R RX12 273 "wet" (sn sa 41) U := by
  have e : 200 + (41 : Int).toNat = 241 := by decide
  show vk_R RX12 273 "wet" (sa (200 + (41 : Int).toNat)) U
  rw [e]
  exact h.2.2.1 28 (RX12, 273, "wet", 241) rfl
theorem st_29 {D : va_G} {cy : Nat → ClassId} {sa : Nat → Nat} {U : State} (h : GC D cy sa U) : vk_R RX12 275 "slow" (sn sa 42) U := by
  have e : 200 + (42 : Int).toNat = 242 := by decide
  show vk_R RX12 275 "slow" (sa (200 + (42 : Int).toNat)) U
  rw [e]
  exact h.2.2.1 29 (RX12, 275, "slow", 242) rfl
theorem st_30 {D : va_G} {cy : Nat → ClassId} {sa : Nat → Nat} {U : State} (h : GC D cy sa U) : vk_R RX12 277 "out" (sn sa 43) U := by
  have e : 200 + (43 : Int).toNat = 243 := by decide
  show vk_R RX12 277 "out" (sa (200 + (43 : Int).toNat)) U
  rw [e]
  exact h.2.2.1 30 (RX12, 277, "out", 243) rfl
end
section
theorem dX12_begins_0 : decode cX12_begins 0 = .ok (.aload_n 0, 1) := by decide +kernel
theorem dX12_begins_1 : decode cX12_begins 1 = .ok (.iconst 0, 1) := by decide +kernel
theorem dX12_begins_10 : decode cX12_begins 10 = .ok (.aload_n 0, 1) := by decide +kernel
theorem dX12_begins_11 : decode cX12_begins 11 = .ok (.iload_n 1, 1) := by decide +kernel
theorem dX12_begins_12 : decode cX12_begins 12 = .ok (.putfield 89, 3) := by decide +kernel
theorem dX12_begins_15 : decode cX12_begins 15 = .ok (.aload_n 0, 1) := by decide +kernel
theorem dX12_begins_16 : decode cX12_begins 16 = .ok (.iconst 0, 1) := by decide +kernel
theorem dX12_begins_17 : decode cX12_begins 17 = .ok (.putfield 86, 3) := by decide +kernel
theorem dX12_begins_2 : decode cX12_begins 2 = .ok (.putfield 77, 3) := by decide +kernel
theorem dX12_begins_20 : decode cX12_begins 20 = .ok (.aload_n 0, 1) := by decide +kernel
theorem dX12_begins_21 : decode cX12_begins 21 = .ok (.iconst (-1), 1) := by decide +kernel
theorem dX12_begins_22 : decode cX12_begins 22 = .ok (.putfield 80, 3) := by decide +kernel
theorem dX12_begins_25 : decode cX12_begins 25 = .ok (.aload_n 0, 1) := by decide +kernel
theorem dX12_begins_26 : decode cX12_begins 26 = .ok (.iconst 0, 1) := by decide +kernel
theorem dX12_begins_27 : decode cX12_begins 27 = .ok (.putfield 120, 3) := by decide +kernel
theorem dX12_begins_30 : decode cX12_begins 30 = .ok (.return_, 1) := by decide +kernel
theorem dX12_begins_5 : decode cX12_begins 5 = .ok (.aload_n 0, 1) := by decide +kernel
theorem dX12_begins_6 : decode cX12_begins 6 = .ok (.iconst (-1), 1) := by decide +kernel
theorem dX12_begins_7 : decode cX12_begins 7 = .ok (.putfield 17, 3) := by decide +kernel
theorem dX12_fault_0 : decode cX12_fault 0 = .ok (.aload_n 0, 1) := by decide +kernel
theorem dX12_fault_1 : decode cX12_fault 1 = .ok (.iconst 0, 1) := by decide +kernel
theorem dX12_fault_2 : decode cX12_fault 2 = .ok (.putfield 1, 3) := by decide +kernel
theorem dX12_fault_5 : decode cX12_fault 5 = .ok (.aload_n 0, 1) := by decide +kernel
theorem dX12_fault_6 : decode cX12_fault 6 = .ok (.getfield 17, 3) := by decide +kernel
theorem dX12_fault_9 : decode cX12_fault 9 = .ok (.ireturn, 1) := by decide +kernel
theorem dX12_isMore_0 : decode cX12_isMore 0 = .ok (.aload_n 0, 1) := by decide +kernel
theorem dX12_isMore_1 : decode cX12_isMore 1 = .ok (.invokevirtual 92, 3) := by decide +kernel
theorem dX12_isMore_10 : decode cX12_isMore 10 = .ok (.getfield 89, 3) := by decide +kernel
theorem dX12_isMore_13 : decode cX12_isMore 13 = .ok (.if_icmp .ge 7, 3) := by decide +kernel
theorem dX12_isMore_16 : decode cX12_isMore 16 = .ok (.iconst 1, 1) := by decide +kernel
theorem dX12_isMore_17 : decode cX12_isMore 17 = .ok (.goto 4, 3) := by decide +kernel
theorem dX12_isMore_20 : decode cX12_isMore 20 = .ok (.iconst 0, 1) := by decide +kernel
theorem dX12_isMore_21 : decode cX12_isMore 21 = .ok (.ireturn, 1) := by decide +kernel
theorem dX12_isMore_4 : decode cX12_isMore 4 = .ok (.pop, 1) := by decide +kernel
theorem dX12_isMore_5 : decode cX12_isMore 5 = .ok (.aload_n 0, 1) := by decide +kernel
theorem dX12_isMore_6 : decode cX12_isMore 6 = .ok (.getfield 86, 3) := by decide +kernel
theorem dX12_isMore_9 : decode cX12_isMore 9 = .ok (.aload_n 0, 1) := by decide +kernel
theorem dX12_pass_0 : decode cX12_pass 0 = .ok (.aload_n 0, 1) := by decide +kernel
theorem dX12_pass_1 : decode cX12_pass 1 = .ok (.getfield 86, 3) := by decide +kernel
theorem dX12_pass_11 : decode cX12_pass 11 = .ok (.aload_n 0, 1) := by decide +kernel
theorem dX12_pass_12 : decode cX12_pass 12 = .ok (.getfield 20, 3) := by decide +kernel
theorem dX12_pass_15 : decode cX12_pass 15 = .ok (.aload_n 0, 1) := by decide +kernel
theorem dX12_pass_16 : decode cX12_pass 16 = .ok (.getfield 86, 3) := by decide +kernel
theorem dX12_pass_19 : decode cX12_pass 19 = .ok (.iaload, 1) := by decide +kernel
theorem dX12_pass_20 : decode cX12_pass 20 = .ok (.invokestatic 96, 3) := by decide +kernel
theorem dX12_pass_23 : decode cX12_pass 23 = .ok (.ifCond .eq 16, 3) := by decide +kernel
theorem dX12_pass_26 : decode cX12_pass 26 = .ok (.aload_n 0, 1) := by decide +kernel
theorem dX12_pass_27 : decode cX12_pass 27 = .ok (.dup, 1) := by decide +kernel
theorem dX12_pass_28 : decode cX12_pass 28 = .ok (.getfield 86, 3) := by decide +kernel
theorem dX12_pass_31 : decode cX12_pass 31 = .ok (.iconst 1, 1) := by decide +kernel
theorem dX12_pass_32 : decode cX12_pass 32 = .ok (.iadd, 1) := by decide +kernel
theorem dX12_pass_33 : decode cX12_pass 33 = .ok (.putfield 86, 3) := by decide +kernel
theorem dX12_pass_36 : decode cX12_pass 36 = .ok (.goto (-36), 3) := by decide +kernel
theorem dX12_pass_39 : decode cX12_pass 39 = .ok (.return_, 1) := by decide +kernel
theorem dX12_pass_4 : decode cX12_pass 4 = .ok (.aload_n 0, 1) := by decide +kernel
theorem dX12_pass_5 : decode cX12_pass 5 = .ok (.getfield 89, 3) := by decide +kernel
theorem dX12_pass_8 : decode cX12_pass 8 = .ok (.if_icmp .ge 31, 3) := by decide +kernel
theorem dX12_readNumber_0 : decode cX12_readNumber 0 = .ok (.aload_n 0, 1) := by decide +kernel
theorem dX12_readNumber_1 : decode cX12_readNumber 1 = .ok (.invokevirtual 109, 3) := by decide +kernel
theorem dX12_readNumber_10 : decode cX12_readNumber 10 = .ok (.invokevirtual 92, 3) := by decide +kernel
theorem dX12_readNumber_101 : decode cX12_readNumber 101 = .ok (.aload_n 0, 1) := by decide +kernel
theorem dX12_readNumber_102 : decode cX12_readNumber 102 = .ok (.dup, 1) := by decide +kernel
theorem dX12_readNumber_103 : decode cX12_readNumber 103 = .ok (.getfield 86, 3) := by decide +kernel
theorem dX12_readNumber_106 : decode cX12_readNumber 106 = .ok (.iconst 1, 1) := by decide +kernel
theorem dX12_readNumber_107 : decode cX12_readNumber 107 = .ok (.iadd, 1) := by decide +kernel
theorem dX12_readNumber_108 : decode cX12_readNumber 108 = .ok (.putfield 86, 3) := by decide +kernel
theorem dX12_readNumber_111 : decode cX12_readNumber 111 = .ok (.goto (-70), 3) := by decide +kernel
theorem dX12_readNumber_114 : decode cX12_readNumber 114 = .ok (.iload 5, 2) := by decide +kernel
theorem dX12_readNumber_116 : decode cX12_readNumber 116 = .ok (.iload_n 1, 1) := by decide +kernel
theorem dX12_readNumber_117 : decode cX12_readNumber 117 = .ok (.if_icmp .lt 9, 3) := by decide +kernel
theorem dX12_readNumber_120 : decode cX12_readNumber 120 = .ok (.iload 5, 2) := by decide +kernel
theorem dX12_readNumber_122 : decode cX12_readNumber 122 = .ok (.iload_n 2, 1) := by decide +kernel
theorem dX12_readNumber_123 : decode cX12_readNumber 123 = .ok (.if_icmp .le 12, 3) := by decide +kernel
theorem dX12_readNumber_126 : decode cX12_readNumber 126 = .ok (.aload_n 0, 1) := by decide +kernel
theorem dX12_readNumber_127 : decode cX12_readNumber 127 = .ok (.iconst 2, 1) := by decide +kernel
theorem dX12_readNumber_128 : decode cX12_readNumber 128 = .ok (.iload 4, 2) := by decide +kernel
theorem dX12_readNumber_13 : decode cX12_readNumber 13 = .ok (.istore_n 3, 1) := by decide +kernel
theorem dX12_readNumber_130 : decode cX12_readNumber 130 = .ok (.invokevirtual 116, 3) := by decide +kernel
theorem dX12_readNumber_133 : decode cX12_readNumber 133 = .ok (.iconst 0, 1) := by decide +kernel
theorem dX12_readNumber_134 : decode cX12_readNumber 134 = .ok (.ireturn, 1) := by decide +kernel
theorem dX12_readNumber_135 : decode cX12_readNumber 135 = .ok (.iload 5, 2) := by decide +kernel
theorem dX12_readNumber_137 : decode cX12_readNumber 137 = .ok (.ireturn, 1) := by decide +kernel
theorem dX12_readNumber_14 : decode cX12_readNumber 14 = .ok (.aload_n 0, 1) := by decide +kernel
theorem dX12_readNumber_15 : decode cX12_readNumber 15 = .ok (.getfield 86, 3) := by decide +kernel
theorem dX12_readNumber_18 : decode cX12_readNumber 18 = .ok (.istore 4, 2) := by decide +kernel
theorem dX12_readNumber_20 : decode cX12_readNumber 20 = .ok (.iconst 0, 1) := by decide +kernel
theorem dX12_readNumber_21 : decode cX12_readNumber 21 = .ok (.istore 5, 2) := by decide +kernel
theorem dX12_readNumber_23 : decode cX12_readNumber 23 = .ok (.iload_n 3, 1) := by decide +kernel
theorem dX12_readNumber_24 : decode cX12_readNumber 24 = .ok (.invokestatic 113, 3) := by decide +kernel
theorem dX12_readNumber_27 : decode cX12_readNumber 27 = .ok (.ifCond .ne 14, 3) := by decide +kernel
theorem dX12_readNumber_30 : decode cX12_readNumber 30 = .ok (.aload_n 0, 1) := by decide +kernel
theorem dX12_readNumber_31 : decode cX12_readNumber 31 = .ok (.iconst 1, 1) := by decide +kernel
theorem dX12_readNumber_32 : decode cX12_readNumber 32 = .ok (.aload_n 0, 1) := by decide +kernel
theorem dX12_readNumber_33 : decode cX12_readNumber 33 = .ok (.getfield 86, 3) := by decide +kernel
theorem dX12_readNumber_36 : decode cX12_readNumber 36 = .ok (.invokevirtual 116, 3) := by decide +kernel
theorem dX12_readNumber_39 : decode cX12_readNumber 39 = .ok (.iconst 0, 1) := by decide +kernel
theorem dX12_readNumber_4 : decode cX12_readNumber 4 = .ok (.ifCond .ne 5, 3) := by decide +kernel
theorem dX12_readNumber_40 : decode cX12_readNumber 40 = .ok (.ireturn, 1) := by decide +kernel
theorem dX12_readNumber_41 : decode cX12_readNumber 41 = .ok (.aload_n 0, 1) := by decide +kernel
theorem dX12_readNumber_42 : decode cX12_readNumber 42 = .ok (.getfield 86, 3) := by decide +kernel
theorem dX12_readNumber_45 : decode cX12_readNumber 45 = .ok (.aload_n 0, 1) := by decide +kernel
theorem dX12_readNumber_46 : decode cX12_readNumber 46 = .ok (.getfield 89, 3) := by decide +kernel
theorem dX12_readNumber_49 : decode cX12_readNumber 49 = .ok (.if_icmp .ge 65, 3) := by decide +kernel
theorem dX12_readNumber_52 : decode cX12_readNumber 52 = .ok (.aload_n 0, 1) := by decide +kernel
theorem dX12_readNumber_53 : decode cX12_readNumber 53 = .ok (.getfield 20, 3) := by decide +kernel
theorem dX12_readNumber_56 : decode cX12_readNumber 56 = .ok (.aload_n 0, 1) := by decide +kernel
theorem dX12_readNumber_57 : decode cX12_readNumber 57 = .ok (.getfield 86, 3) := by decide +kernel
theorem dX12_readNumber_60 : decode cX12_readNumber 60 = .ok (.iaload, 1) := by decide +kernel
theorem dX12_readNumber_61 : decode cX12_readNumber 61 = .ok (.invokestatic 113, 3) := by decide +kernel
theorem dX12_readNumber_64 : decode cX12_readNumber 64 = .ok (.ifCond .eq 50, 3) := by decide +kernel
theorem dX12_readNumber_67 : decode cX12_readNumber 67 = .ok (.iload 5, 2) := by decide +kernel
theorem dX12_readNumber_69 : decode cX12_readNumber 69 = .ok (.sipush 9999, 3) := by decide +kernel
theorem dX12_readNumber_7 : decode cX12_readNumber 7 = .ok (.iconst 0, 1) := by decide +kernel
theorem dX12_readNumber_72 : decode cX12_readNumber 72 = .ok (.if_icmp .le 9, 3) := by decide +kernel
theorem dX12_readNumber_75 : decode cX12_readNumber 75 = .ok (.sipush 10000, 3) := by decide +kernel
theorem dX12_readNumber_78 : decode cX12_readNumber 78 = .ok (.goto 21, 3) := by decide +kernel
theorem dX12_readNumber_8 : decode cX12_readNumber 8 = .ok (.ireturn, 1) := by decide +kernel
theorem dX12_readNumber_81 : decode cX12_readNumber 81 = .ok (.bipush 10, 2) := by decide +kernel
theorem dX12_readNumber_83 : decode cX12_readNumber 83 = .ok (.iload 5, 2) := by decide +kernel
theorem dX12_readNumber_85 : decode cX12_readNumber 85 = .ok (.imul, 1) := by decide +kernel
theorem dX12_readNumber_86 : decode cX12_readNumber 86 = .ok (.aload_n 0, 1) := by decide +kernel
theorem dX12_readNumber_87 : decode cX12_readNumber 87 = .ok (.getfield 20, 3) := by decide +kernel
theorem dX12_readNumber_9 : decode cX12_readNumber 9 = .ok (.aload_n 0, 1) := by decide +kernel
theorem dX12_readNumber_90 : decode cX12_readNumber 90 = .ok (.aload_n 0, 1) := by decide +kernel
theorem dX12_readNumber_91 : decode cX12_readNumber 91 = .ok (.getfield 86, 3) := by decide +kernel
theorem dX12_readNumber_94 : decode cX12_readNumber 94 = .ok (.iaload, 1) := by decide +kernel
theorem dX12_readNumber_95 : decode cX12_readNumber 95 = .ok (.iadd, 1) := by decide +kernel
theorem dX12_readNumber_96 : decode cX12_readNumber 96 = .ok (.bipush 48, 2) := by decide +kernel
theorem dX12_readNumber_98 : decode cX12_readNumber 98 = .ok (.isub, 1) := by decide +kernel
theorem dX12_readNumber_99 : decode cX12_readNumber 99 = .ok (.istore 5, 2) := by decide +kernel
theorem dX12_result_0 : decode cX12_result 0 = .ok (.aload_n 0, 1) := by decide +kernel
theorem dX12_result_1 : decode cX12_result 1 = .ok (.aload_n 0, 1) := by decide +kernel
theorem dX12_result_12 : decode cX12_result 12 = .ok (.ifCond .eq 7, 3) := by decide +kernel
theorem dX12_result_15 : decode cX12_result 15 = .ok (.iload_n 1, 1) := by decide +kernel
theorem dX12_result_16 : decode cX12_result 16 = .ok (.goto 10, 3) := by decide +kernel
theorem dX12_result_19 : decode cX12_result 19 = .ok (.aload_n 0, 1) := by decide +kernel
theorem dX12_result_2 : decode cX12_result 2 = .ok (.getfield 80, 3) := by decide +kernel
theorem dX12_result_20 : decode cX12_result 20 = .ok (.getfield 83, 3) := by decide +kernel
theorem dX12_result_23 : decode cX12_result 23 = .ok (.bipush 10, 2) := by decide +kernel
theorem dX12_result_25 : decode cX12_result 25 = .ok (.isub, 1) := by decide +kernel
theorem dX12_result_26 : decode cX12_result 26 = .ok (.ireturn, 1) := by decide +kernel
theorem dX12_result_5 : decode cX12_result 5 = .ok (.putfield 17, 3) := by decide +kernel
theorem dX12_result_8 : decode cX12_result 8 = .ok (.aload_n 0, 1) := by decide +kernel
theorem dX12_result_9 : decode cX12_result 9 = .ok (.invokevirtual 109, 3) := by decide +kernel
theorem dX12_sign_0 : decode cX12_sign 0 = .ok (.aload_n 0, 1) := by decide +kernel
theorem dX12_sign_1 : decode cX12_sign 1 = .ok (.invokevirtual 109, 3) := by decide +kernel
theorem dX12_sign_11 : decode cX12_sign 11 = .ok (.iload_n 1, 1) := by decide +kernel
theorem dX12_sign_12 : decode cX12_sign 12 = .ok (.if_icmp .eq 12, 3) := by decide +kernel
theorem dX12_sign_15 : decode cX12_sign 15 = .ok (.aload_n 0, 1) := by decide +kernel
theorem dX12_sign_16 : decode cX12_sign 16 = .ok (.iconst 1, 1) := by decide +kernel
theorem dX12_sign_17 : decode cX12_sign 17 = .ok (.aload_n 0, 1) := by decide +kernel
theorem dX12_sign_18 : decode cX12_sign 18 = .ok (.getfield 86, 3) := by decide +kernel
theorem dX12_sign_21 : decode cX12_sign 21 = .ok (.invokevirtual 116, 3) := by decide +kernel
theorem dX12_sign_24 : decode cX12_sign 24 = .ok (.aload_n 0, 1) := by decide +kernel
theorem dX12_sign_25 : decode cX12_sign 25 = .ok (.invokevirtual 109, 3) := by decide +kernel
theorem dX12_sign_28 : decode cX12_sign 28 = .ok (.ifCond .eq 13, 3) := by decide +kernel
theorem dX12_sign_31 : decode cX12_sign 31 = .ok (.aload_n 0, 1) := by decide +kernel
theorem dX12_sign_32 : decode cX12_sign 32 = .ok (.dup, 1) := by decide +kernel
theorem dX12_sign_33 : decode cX12_sign 33 = .ok (.getfield 86, 3) := by decide +kernel
theorem dX12_sign_36 : decode cX12_sign 36 = .ok (.iconst 1, 1) := by decide +kernel
theorem dX12_sign_37 : decode cX12_sign 37 = .ok (.iadd, 1) := by decide +kernel
theorem dX12_sign_38 : decode cX12_sign 38 = .ok (.putfield 86, 3) := by decide +kernel
theorem dX12_sign_4 : decode cX12_sign 4 = .ok (.ifCond .eq 20, 3) := by decide +kernel
theorem dX12_sign_41 : decode cX12_sign 41 = .ok (.return_, 1) := by decide +kernel
theorem dX12_sign_7 : decode cX12_sign 7 = .ok (.aload_n 0, 1) := by decide +kernel
theorem dX12_sign_8 : decode cX12_sign 8 = .ok (.invokevirtual 92, 3) := by decide +kernel
theorem dX12_workOf_0 : decode cX12_workOf 0 = .ok (.iload_n 0, 1) := by decide +kernel
theorem dX12_workOf_1 : decode cX12_workOf 1 = .ok (.ldc 133, 2) := by decide +kernel
theorem dX12_workOf_10 : decode cX12_workOf 10 = .ok (.goto 43, 3) := by decide +kernel
theorem dX12_workOf_13 : decode cX12_workOf 13 = .ok (.iload_n 0, 1) := by decide +kernel
theorem dX12_workOf_14 : decode cX12_workOf 14 = .ok (.ldc 139, 2) := by decide +kernel
theorem dX12_workOf_16 : decode cX12_workOf 16 = .ok (.invokestatic 135, 3) := by decide +kernel
theorem dX12_workOf_19 : decode cX12_workOf 19 = .ok (.if_icmp .ne 7, 3) := by decide +kernel
theorem dX12_workOf_22 : decode cX12_workOf 22 = .ok (.iconst 1, 1) := by decide +kernel
theorem dX12_workOf_23 : decode cX12_workOf 23 = .ok (.goto 30, 3) := by decide +kernel
theorem dX12_workOf_26 : decode cX12_workOf 26 = .ok (.iload_n 0, 1) := by decide +kernel
theorem dX12_workOf_27 : decode cX12_workOf 27 = .ok (.ldc 141, 2) := by decide +kernel
theorem dX12_workOf_29 : decode cX12_workOf 29 = .ok (.invokestatic 135, 3) := by decide +kernel
theorem dX12_workOf_3 : decode cX12_workOf 3 = .ok (.invokestatic 135, 3) := by decide +kernel
theorem dX12_workOf_32 : decode cX12_workOf 32 = .ok (.if_icmp .ne 7, 3) := by decide +kernel
theorem dX12_workOf_35 : decode cX12_workOf 35 = .ok (.iconst 2, 1) := by decide +kernel
theorem dX12_workOf_36 : decode cX12_workOf 36 = .ok (.goto 17, 3) := by decide +kernel
theorem dX12_workOf_39 : decode cX12_workOf 39 = .ok (.iload_n 0, 1) := by decide +kernel
theorem dX12_workOf_40 : decode cX12_workOf 40 = .ok (.ldc 143, 2) := by decide +kernel
theorem dX12_workOf_42 : decode cX12_workOf 42 = .ok (.invokestatic 135, 3) := by decide +kernel
theorem dX12_workOf_45 : decode cX12_workOf 45 = .ok (.if_icmp .ne 7, 3) := by decide +kernel
theorem dX12_workOf_48 : decode cX12_workOf 48 = .ok (.iconst 3, 1) := by decide +kernel
theorem dX12_workOf_49 : decode cX12_workOf 49 = .ok (.goto 4, 3) := by decide +kernel
theorem dX12_workOf_52 : decode cX12_workOf 52 = .ok (.iconst (-1), 1) := by decide +kernel
theorem dX12_workOf_53 : decode cX12_workOf 53 = .ok (.ireturn, 1) := by decide +kernel
theorem dX12_workOf_6 : decode cX12_workOf 6 = .ok (.if_icmp .ne 7, 3) := by decide +kernel
theorem dX12_workOf_9 : decode cX12_workOf 9 = .ok (.iconst 0, 1) := by decide +kernel
def vs_m_pass : List Cond := .code yX12_pass cX12_pass 1 none :: (([.fieldLink RX12 86 "KerbSplashModel" "at" "I", .fieldLink RX12 89 "KerbSplashModel" "size" "I", .fieldLink RX12 20 "KerbSplashModel" "tape" "[I"] : List Cond) ++ ((wsX120) ++ ((va_wsS RX12 96 yX12_isSmall vs_m_isSmall) ++ ([]))))
theorem gd_m_pass : vs_m_pass.all goodWord = true := gd_C (by decide +kernel) (gd_A (by decide +kernel) (gd_A (by decide +kernel) (gd_A (gd_S gd_m_isSmall (by decide +kernel)) rfl)))
set_option maxHeartbeats 4000000 in
set_option maxRecDepth 100000 in
theorem m_pass (l : Launch) (hl : l.stackTraces = false) (D : va_G) (cy : Nat → ClassId) (sa : Nat → Nat) (mm m1 m9 m10 m11 m12 m13 m14 m15 m19 m20 m21 m23 m24 m25 m26 m27 m28 m33 m35 : Nat) (th tp sz_ ap bad bk opn fp im nr nl sp_ wtc wcl ir ip shu sfa swr : Int) (f9 : Nat → Int32) (sz : Nat) (hr_th : (-2147483648) ≤ th ∧ th ≤ 2147483647) (hr_tp : 0 ≤ tp ∧ tp ≤ 600) (hr_sz_ : 0 ≤ sz_ ∧ sz_ ≤ 600) (hr_ap : 0 ≤ ap ∧ ap ≤ 602) (hr_bad : (-1) ≤ bad ∧ bad ≤ 602) (hr_bk : 0 ≤ bk ∧ bk ≤ 4) (hr_opn : 0 ≤ opn ∧ opn ≤ 7) (hr_fp : (-2147483648) ≤ fp ∧ fp ≤ 2147483647) (hr_im : 0 ≤ im ∧ im ≤ 3) (hr_nr : 0 ≤ nr ∧ nr ≤ 4) (hr_nl : 0 ≤ nl ∧ nl ≤ 4) (hr_sp_ : 0 ≤ sp_ ∧ sp_ ≤ 602) (hr_wtc : (-2147483648) ≤ wtc ∧ wtc ≤ 2147483647) (hr_wcl : 0 ≤ wcl ∧ wcl ≤ 95) (hr_ir : 0 ≤ ir ∧ ir ≤ 5) (hr_ip : (-2147483648) ≤ ip ∧ ip ≤ 2147483647) (hr_shu : (-2147483648) ≤ shu ∧ shu ≤ 2147483647) (hr_sfa : (-2147483648) ≤ sfa ∧ sfa ≤ 2147483647) (hr_swr : (-2147483648) ≤ swr ∧ swr ≤ 2147483647) (hf9 : inv_ 600 0 255 f9) : mV9 l yX12_pass vs_m_pass ({ frames := 1, cells := 0, slots := 0, locals := 20 }) D cy sa sz [vR mm] [zO mm 12 [vI th, vR m1, vI tp, vI sz_, vI ap, vI bad, vI bk, vI opn, vI fp, vR m9, vR m10, vR m11, vR m12, vR m13, vR m14, vR m15, vI im, vI nr, vI nl, vR m19, vR m20, vR m21, vI sp_, vR m23, vR m24, vR m25, vR m26, vR m27, vR m28, vI wtc, vI wcl, vI ir, vI ip, vR m33, vI shu, vR m35, vI sfa, vI swr], zI m9 (cy 0) 600 f9] (fun u : SV => (0 ≤ u.2.1 0 ∧ u.2.1 0 ≤ 602) ∧ (ap ≤ u.2.1 0) ∧ (ap ≤ sz_ → u.2.1 0 ≤ sz_) ∧ (ap < sz_ → 97 ≤ nz f9 ap.toNat → nz f9 ap.toNat ≤ 122 → ap < u.2.1 0) ∧ inv_ 600 0 255 f9) (fun u : SV => [zO mm 12 [vI th, vR m1, vI tp, vI sz_, vI (u.2.1 0), vI bad, vI bk, vI opn, vI fp, vR m9, vR m10, vR m11, vR m12, vR m13, vR m14, vR m15, vI im, vI nr, vI nl, vR m19, vR m20, vR m21, vI sp_, vR m23, vR m24, vR m25, vR m26, vR m27, vR m28, vI wtc, vI wcl, vI ir, vI ip, vR m33, vI shu, vR m35, vI sfa, vI swr], zI m9 (cy 0) 600 f9]) 0 0 := by
  refine Met.ofW (cc := cX12_pass) (maxL := 1) (ret := none) (by decide) rfl ?_
  intro p e s m args below meth c s₁ B hml hv
  obtain ⟨rfl, hsz, hP, hG, hD0, hT⟩ := hv
  have hx := B.exec
  have hb := B.bytes
  have hr := B.returns
  have hts := atoms_spec (ws := vs_m_pass) B.pre
  have hown : s.vm.findClass RX12 = some m.cls := findClass_of_methodNamed B.named
  have hlocks := B.notSynchronized
  subst hsz
  have hD := hD0.self (sz := s.heap.size)
  generalize hAe : va_A [zO mm 12 [vI th, vR m1, vI tp, vI sz_, vI ap, vI bad, vI bk, vI opn, vI fp, vR m9, vR m10, vR m11, vR m12, vR m13, vR m14, vR m15, vI im, vI nr, vI nl, vR m19, vR m20, vR m21, vI sp_, vR m23, vR m24, vR m25, vR m26, vR m27, vR m28, vI wtc, vI wcl, vI ir, vI ip, vR m33, vI shu, vR m35, vI sfa, vI swr], zI m9 (cy 0) 600 f9] s.heap.size = A at hD hT ⊢
  have hA : ∀ q : Nat, s.heap.size ≤ q → A q := fun q h => by rw [← hAe]; exact Or.inr h
  have hS : va_S A s.heap s.heap [] := va_S.rf
  have hl0 := lv_entry ([vR mm]) (n := 1) (Nat.le_of_ble_eq_true rfl)
  rw [lg_entry_eq]
  generalize (lg_sl ([vR mm]) ++ List.replicate (1 - (lg_sl ([vR mm])).length) Slot.unset).toArray = ls at hl0 ⊢
  have hlv : lv_has ls 1 [(0, vR mm)] := hl0
  have lf86 := hts (.fieldLink RX12 86 "KerbSplashModel" "at" "I") (List.mem_of_getElem? (i := 1) rfl)
  have hi12 : ∀ w ∈ wsX120, w ∈ vs_m_pass := fun w h => List.mem_cons_of_mem _ (List.mem_append_right _ (List.mem_append_left _ h))
  have lf89 := hts (.fieldLink RX12 89 "KerbSplashModel" "size" "I") (List.mem_of_getElem? (i := 2) rfl)
  have lf20 := hts (.fieldLink RX12 20 "KerbSplashModel" "tape" "[I") (List.mem_of_getElem? (i := 3) rfl)
  have gg_1 : GoodIn vs_m_pass (va_wsS RX12 96 yX12_isSmall vs_m_isSmall) := goodIn_sub (fun w h => List.mem_cons_of_mem _ (List.mem_append_right _ (List.mem_append_right _ (List.mem_append_left _ h)))) (gd_S gd_m_isSmall (by decide +kernel))
  refine lv_aload_n hx hb dX12_pass_0 rfl (lv_at hlv 0 rfl) ?_
  refine va_get (D := D) (ci := 12) (v := vI ap) (C := RX12) (T := TX12) (N := 38) hx hb hts hi12 hown hG.1 hP 0 rfl rfl 4 (by decide) lf86 (fun _ h9 => h9) rfl dX12_pass_1 ?_
  refine lv_aload_n hx hb dX12_pass_4 rfl (lv_at hlv 0 rfl) ?_
  refine va_get (D := D) (ci := 12) (v := vI sz_) (C := RX12) (T := TX12) (N := 38) hx hb hts hi12 hown hG.1 hP 0 rfl rfl 3 (by decide) lf89 (fun _ h9 => h9) rfl dX12_pass_5 ?_
  refine ir_ge (tgt := 39) hx hb dX12_pass_8 (by decide) (by first | exact rgw hr_ap (by decide) (by decide) | omega) (by first | exact rgw hr_sz_ (by decide) (by decide) | omega) (fun c_1 => ?_) (fun c_1 => ?_)
  · refine W.widen (k := 0) (n := 0) (Nat.le_of_ble_eq_true rfl) (Nat.le_of_ble_eq_true rfl) ?_
    exact W.vret hx hb hr (fun t ht hW => ⟨⟨((fun k => ([] : List Nat).getD k 0), (fun k => ([ap] : List Int).getD k 0), (fun k => ([] : List (Nat → Int32)).getD k (fun _ => 0))), rfl, ⟨(by show (0 ≤ ap ∧ ap ≤ 602); first | exact hr_ap | omega), (by show (ap ≤ ap); omega), (by show (ap ≤ sz_ → ap ≤ sz_); omega), (by show (ap < sz_ → 97 ≤ nz f9 ap.toNat → nz f9 ap.toNat ≤ 122 → ap < ap); omega), hf9⟩, at9 ht hP hD [0, 1] (by decide +kernel) rfl⟩, hS.F ht⟩) hS.2.2 dX12_pass_39
  · refine lv_aload_n hx hb dX12_pass_11 rfl (lv_at hlv 0 rfl) ?_
    refine va_get (D := D) (ci := 12) (v := vR m9) (C := RX12) (T := TX12) (N := 38) hx hb hts hi12 hown hG.1 hP 0 rfl rfl 9 (by decide) lf20 (fun _ h9 => h9) rfl dX12_pass_12 ?_
    refine lv_aload_n hx hb dX12_pass_15 rfl (lv_at hlv 0 rfl) ?_
    refine va_get (D := D) (ci := 12) (v := vI ap) (C := RX12) (T := TX12) (N := 38) hx hb hts hi12 hown hG.1 hP 0 rfl rfl 4 (by decide) lf86 (fun _ h9 => h9) rfl dX12_pass_16 ?_
    refine va_iald hx hb hG.1 hP 1 0 rfl rfl (iI_in (by omega) (by decide)) dX12_pass_19 ?_
    refine lt_nz (i := ap) (by omega) (fun z_2 hz_2 lz_2 uz_2 => ?_)
    have hbz_2_6 := inv_nz hf9 (k := ap.toNat) (by omega)
    refine cjr_i [true, true] (fun pre9 => (va_runS (As := [vI z_2]) (rest := []) ⟨hx, hb, hml, hown, hts⟩ (m_isSmall l hl D cy sa z_2 s.heap.size (by omega)) (va_cwS 1 hts gg_1 rfl rfl rfl (by decide +kernel) ⟨Nat.le_of_ble_eq_true rfl, Nat.le_of_ble_eq_true rfl⟩) ⟨pcW.blind, pre9⟩ rfl rfl hlv.1 rfl (lv_room (Nat.le_of_ble_eq_true rfl)) dX12_pass_20 ⟨Nat.le_of_ble_eq_true rfl, Nat.le_of_ble_eq_true rfl⟩)) hP hD hS hA hG hT [] rfl (by decide +kernel) (fun r1 u1 H locs hw1 hq9 hS => ?_)
    obtain ⟨rfl, hq1_1, hq1_2, hq1_3⟩ := hw1
    obtain ⟨hP, hD⟩ := pd9 [zO mm 12 [vI th, vR m1, vI tp, vI sz_, vI ap, vI bad, vI bk, vI opn, vI fp, vR m9, vR m10, vR m11, vR m12, vR m13, vR m14, vR m15, vI im, vI nr, vI nl, vR m19, vR m20, vR m21, vI sp_, vR m23, vR m24, vR m25, vR m26, vR m27, vR m28, vI wtc, vI wcl, vI ir, vI ip, vR m33, vI shu, vR m35, vI sfa, vI swr], zI m9 (cy 0) 600 f9] hq9
    refine iz_eq (tgt := 39) hx hb dX12_pass_23 (by decide) (by first | exact rgw hq1_1 (by decide) (by decide) | omega) (fun c_3 => ?_) (fun c_3 => ?_)
    · refine W.widen (k := 0) (n := 0) (Nat.le_of_ble_eq_true rfl) (Nat.le_of_ble_eq_true rfl) ?_
      exact W.vret hx hb hr (fun t ht hW => ⟨⟨((fun k => ([] : List Nat).getD k 0), (fun k => ([ap] : List Int).getD k 0), (fun k => ([] : List (Nat → Int32)).getD k (fun _ => 0))), rfl, ⟨(by show (0 ≤ ap ∧ ap ≤ 602); first | exact hr_ap | omega), (by show (ap ≤ ap); omega), (by show (ap ≤ sz_ → ap ≤ sz_); omega), (by show (ap < sz_ → 97 ≤ nz f9 ap.toNat → nz f9 ap.toNat ≤ 122 → ap < ap); omega), hf9⟩, at9 ht hP hD [0, 1] (by decide +kernel) rfl⟩, hS.F ht⟩) hS.2.2 dX12_pass_39
    · refine lv_aload_n hx hb dX12_pass_26 rfl (lv_at hlv 0 rfl) ?_
      refine lv_dup hx hb dX12_pass_27 rfl ?_
      refine va_get (D := D) (ci := 12) (v := vI ap) (C := RX12) (T := TX12) (N := 38) hx hb hts hi12 hown hG.1 hP 0 rfl rfl 4 (by decide) lf86 (fun _ h9 => h9) rfl dX12_pass_28 ?_
      refine lv_iconst (v := iI 1) hx hb dX12_pass_31 (by decide) ?_
      refine lv_iadd hx hb dX12_pass_32 ?_
      refine lt_e (e0 := ap + 1) (Int32.ofInt_add _ _).symm (fun z_4 hz_4 => ?_)
      refine va_put (D := D) (ci := 12) (v := vI z_4) (ty := .int) (C := RX12) (T := TX12) (N := 38) hx hb hts hi12 tyX12 tyX12_ok nmX12 hown hG.1 hP hD hS 0 rfl rfl 4 (by decide) lf86 (fun _ h9 => h9) rfl (by decide +kernel) rfl rfl (Nat.le_of_ble_eq_true rfl) dX12_pass_33 (fun H locs hP hD hS => ?_)
      obtain ⟨hP, hD⟩ := pw9 [zO mm 12 [vI th, vR m1, vI tp, vI sz_, vI z_4, vI bad, vI bk, vI opn, vI fp, vR m9, vR m10, vR m11, vR m12, vR m13, vR m14, vR m15, vI im, vI nr, vI nl, vR m19, vR m20, vR m21, vI sp_, vR m23, vR m24, vR m25, vR m26, vR m27, vR m28, vI wtc, vI wcl, vI ir, vI ip, vR m33, vI shu, vR m35, vI sfa, vI swr], zI m9 (cy 0) 600 f9] hP hD
      refine lv_goto (tgt := 0) hx hb dX12_pass_36 (by decide) ?_
      refine (?_ : ∀ (fu : Nat) (x : Int) (H : Heap) (locs : List Loc) (ls : Array Slot), 602 - x < (fu : Int) → (0 ≤ x ∧ x ≤ 602) → (ap < x) → (ap ≤ sz_ → x ≤ sz_) → va_P D vwCl [zO mm 12 [vI th, vR m1, vI tp, vI sz_, vI x, vI bad, vI bk, vI opn, vI fp, vR m9, vR m10, vR m11, vR m12, vR m13, vR m14, vR m15, vI im, vI nr, vI nl, vR m19, vR m20, vR m21, vI sp_, vR m23, vR m24, vR m25, vR m26, vR m27, vR m28, vI wtc, vI wcl, vI ir, vI ip, vR m33, vI shu, vR m35, vI sfa, vI swr], zI m9 (cy 0) 600 f9] H → va_D A [zO mm 12 [vI th, vR m1, vI tp, vI sz_, vI x, vI bad, vI bk, vI opn, vI fp, vR m9, vR m10, vR m11, vR m12, vR m13, vR m14, vR m15, vI im, vI nr, vI nl, vR m19, vR m20, vR m21, vI sp_, vR m23, vR m24, vR m25, vR m26, vR m27, vR m28, vI wtc, vI wcl, vI ir, vI ip, vR m33, vI shu, vR m35, vI sfa, vI swr], zI m9 (cy 0) 600 f9] → va_S A s.heap H locs → lv_has ls 1 [(0, vR mm)] → W p l e _ s m _ below meth c H locs _ _ _ (F0 m 0 ls [])) (((602 - z_4) + 1 : Int)).toNat z_4 _ _ _ (by omega) (by omega) (by omega) (by omega)  hP hD hS hlv
      clear hP hD hS hlv
      intro fu
      induction fu with
      | zero => intro x H locs ls hm0 hl0_0 hl0_1 hl0_2  hP hD hS hlv; omega
      | succ fu ih0 =>
        intro x H locs ls hm0 hl0_0 hl0_1 hl0_2  hP hD hS hlv
        refine lv_aload_n hx hb dX12_pass_0 rfl (lv_at hlv 0 rfl) ?_
        refine va_get (D := D) (ci := 12) (v := vI x) (C := RX12) (T := TX12) (N := 38) hx hb hts hi12 hown hG.1 hP 0 rfl rfl 4 (by decide) lf86 (fun _ h9 => h9) rfl dX12_pass_1 ?_
        refine lv_aload_n hx hb dX12_pass_4 rfl (lv_at hlv 0 rfl) ?_
        refine va_get (D := D) (ci := 12) (v := vI sz_) (C := RX12) (T := TX12) (N := 38) hx hb hts hi12 hown hG.1 hP 0 rfl rfl 3 (by decide) lf89 (fun _ h9 => h9) rfl dX12_pass_5 ?_
        refine ir_ge (tgt := 39) hx hb dX12_pass_8 (by decide) (by first | exact rgw hl0_0 (by decide) (by decide) | omega) (by first | exact rgw hr_sz_ (by decide) (by decide) | omega) (fun c_5 => ?_) (fun c_5 => ?_)
        · refine W.widen (k := 0) (n := 0) (Nat.le_of_ble_eq_true rfl) (Nat.le_of_ble_eq_true rfl) ?_
          exact W.vret hx hb hr (fun t ht hW => ⟨⟨((fun k => ([] : List Nat).getD k 0), (fun k => ([x] : List Int).getD k 0), (fun k => ([] : List (Nat → Int32)).getD k (fun _ => 0))), rfl, ⟨(by show (0 ≤ x ∧ x ≤ 602); first | exact hl0_0 | omega), (by show (ap ≤ x); omega), (by show (ap ≤ sz_ → x ≤ sz_); omega), (by show (ap < sz_ → 97 ≤ nz f9 ap.toNat → nz f9 ap.toNat ≤ 122 → ap < x); omega), hf9⟩, at9 ht hP hD [0, 1] (by decide +kernel) rfl⟩, hS.F ht⟩) hS.2.2 dX12_pass_39
        · refine lv_aload_n hx hb dX12_pass_11 rfl (lv_at hlv 0 rfl) ?_
          refine va_get (D := D) (ci := 12) (v := vR m9) (C := RX12) (T := TX12) (N := 38) hx hb hts hi12 hown hG.1 hP 0 rfl rfl 9 (by decide) lf20 (fun _ h9 => h9) rfl dX12_pass_12 ?_
          refine lv_aload_n hx hb dX12_pass_15 rfl (lv_at hlv 0 rfl) ?_
          refine va_get (D := D) (ci := 12) (v := vI x) (C := RX12) (T := TX12) (N := 38) hx hb hts hi12 hown hG.1 hP 0 rfl rfl 4 (by decide) lf86 (fun _ h9 => h9) rfl dX12_pass_16 ?_
          refine va_iald hx hb hG.1 hP 1 0 rfl rfl (iI_in (by omega) (by decide)) dX12_pass_19 ?_
          refine lt_nz (i := x) (by omega) (fun z_6 hz_6 lz_6 uz_6 => ?_)
          have hbz_6_6 := inv_nz hf9 (k := x.toNat) (by omega)
          refine cjr_i [true, true] (fun pre9 => (va_runS (As := [vI z_6]) (rest := []) ⟨hx, hb, hml, hown, hts⟩ (m_isSmall l hl D cy sa z_6 H.size (by omega)) (va_cwS 1 hts gg_1 rfl rfl rfl (by decide +kernel) ⟨Nat.le_of_ble_eq_true rfl, Nat.le_of_ble_eq_true rfl⟩) ⟨pcW.blind, pre9⟩ rfl rfl hlv.1 rfl (lv_room (Nat.le_of_ble_eq_true rfl)) dX12_pass_20 ⟨Nat.le_of_ble_eq_true rfl, Nat.le_of_ble_eq_true rfl⟩)) hP hD hS hA hG hT [] rfl (by decide +kernel) (fun r2 u2 H locs hw2 hq9 hS => ?_)
          obtain ⟨rfl, hq2_1, hq2_2, hq2_3⟩ := hw2
          obtain ⟨hP, hD⟩ := pd9 [zO mm 12 [vI th, vR m1, vI tp, vI sz_, vI x, vI bad, vI bk, vI opn, vI fp, vR m9, vR m10, vR m11, vR m12, vR m13, vR m14, vR m15, vI im, vI nr, vI nl, vR m19, vR m20, vR m21, vI sp_, vR m23, vR m24, vR m25, vR m26, vR m27, vR m28, vI wtc, vI wcl, vI ir, vI ip, vR m33, vI shu, vR m35, vI sfa, vI swr], zI m9 (cy 0) 600 f9] hq9
          refine iz_eq (tgt := 39) hx hb dX12_pass_23 (by decide) (by first | exact rgw hq2_1 (by decide) (by decide) | omega) (fun c_7 => ?_) (fun c_7 => ?_)
          · refine W.widen (k := 0) (n := 0) (Nat.le_of_ble_eq_true rfl) (Nat.le_of_ble_eq_true rfl) ?_
            exact W.vret hx hb hr (fun t ht hW => ⟨⟨((fun k => ([] : List Nat).getD k 0), (fun k => ([x] : List Int).getD k 0), (fun k => ([] : List (Nat → Int32)).getD k (fun _ => 0))), rfl, ⟨(by show (0 ≤ x ∧ x ≤ 602); first | exact hl0_0 | omega), (by show (ap ≤ x); omega), (by show (ap ≤ sz_ → x ≤ sz_); omega), (by show (ap < sz_ → 97 ≤ nz f9 ap.toNat → nz f9 ap.toNat ≤ 122 → ap < x); omega), hf9⟩, at9 ht hP hD [0, 1] (by decide +kernel) rfl⟩, hS.F ht⟩) hS.2.2 dX12_pass_39
          · refine lv_aload_n hx hb dX12_pass_26 rfl (lv_at hlv 0 rfl) ?_
            refine lv_dup hx hb dX12_pass_27 rfl ?_
            refine va_get (D := D) (ci := 12) (v := vI x) (C := RX12) (T := TX12) (N := 38) hx hb hts hi12 hown hG.1 hP 0 rfl rfl 4 (by decide) lf86 (fun _ h9 => h9) rfl dX12_pass_28 ?_
            refine lv_iconst (v := iI 1) hx hb dX12_pass_31 (by decide) ?_
            refine lv_iadd hx hb dX12_pass_32 ?_
            refine lt_e (e0 := x + 1) (Int32.ofInt_add _ _).symm (fun z_8 hz_8 => ?_)
            refine va_put (D := D) (ci := 12) (v := vI z_8) (ty := .int) (C := RX12) (T := TX12) (N := 38) hx hb hts hi12 tyX12 tyX12_ok nmX12 hown hG.1 hP hD hS 0 rfl rfl 4 (by decide) lf86 (fun _ h9 => h9) rfl (by decide +kernel) rfl rfl (Nat.le_of_ble_eq_true rfl) dX12_pass_33 (fun H locs hP hD hS => ?_)
            obtain ⟨hP, hD⟩ := pw9 [zO mm 12 [vI th, vR m1, vI tp, vI sz_, vI z_8, vI bad, vI bk, vI opn, vI fp, vR m9, vR m10, vR m11, vR m12, vR m13, vR m14, vR m15, vI im, vI nr, vI nl, vR m19, vR m20, vR m21, vI sp_, vR m23, vR m24, vR m25, vR m26, vR m27, vR m28, vI wtc, vI wcl, vI ir, vI ip, vR m33, vI shu, vR m35, vI sfa, vI swr], zI m9 (cy 0) 600 f9] hP hD
            refine lv_goto (tgt := 0) hx hb dX12_pass_36 (by decide) ?_
            exact ih0 z_8 H locs ls (by omega) (by omega) (by omega) (by omega)  (hP.sub [0, 1] rfl) (hD.sub [0, 1] (by decide) rfl) hS (lv_sub hlv [0] rfl)
def vs_m_number : List Cond := .code yX12_readNumber cX12_readNumber 6 (some .int) :: (([.fieldLink RX12 86 "KerbSplashModel" "at" "I", .fieldLink RX12 89 "KerbSplashModel" "size" "I", .fieldLink RX12 20 "KerbSplashModel" "tape" "[I"] : List Cond) ++ ((wsV RX12 109 RX12 yX12_fine vs_m_fine) ++ ((wsV RX12 92 RX12 yX12_here vs_m_here) ++ ((wsX120) ++ ((va_wsS RX12 113 yX12_isDigit vs_m_isDigit) ++ ((wsV RX12 116 RX12 yX12_wrong vs_m_wrong) ++ ([])))))))
theorem gd_m_number : vs_m_number.all goodWord = true := gd_C (by decide +kernel) (gd_A (by decide +kernel) (gd_A (gd_V gd_m_fine (by decide +kernel)) (gd_A (gd_V gd_m_here (by decide +kernel)) (gd_A (by decide +kernel) (gd_A (gd_S gd_m_isDigit (by decide +kernel)) (gd_A (gd_V gd_m_wrong (by decide +kernel)) rfl))))))
set_option maxHeartbeats 4000000 in
set_option maxRecDepth 100000 in
theorem m_number (l : Launch) (hl : l.stackTraces = false) (D : va_G) (cy : Nat → ClassId) (sa : Nat → Nat) (mm m1 m9 m10 m11 m12 m13 m14 m15 m19 m20 m21 m23 m24 m25 m26 m27 m28 m33 m35 : Nat) (th tp sz_ ap bad bk opn fp im nr nl sp_ wtc wcl ir ip shu sfa swr : Int) (f9 : Nat → Int32) (lo hi : Int) (sz : Nat) (hr_th : (-2147483648) ≤ th ∧ th ≤ 2147483647) (hr_tp : 0 ≤ tp ∧ tp ≤ 600) (hr_sz_ : 0 ≤ sz_ ∧ sz_ ≤ 600) (hr_ap : 0 ≤ ap ∧ ap ≤ 602) (hr_bad : (-1) ≤ bad ∧ bad ≤ 602) (hr_bk : 0 ≤ bk ∧ bk ≤ 4) (hr_opn : 0 ≤ opn ∧ opn ≤ 7) (hr_fp : (-2147483648) ≤ fp ∧ fp ≤ 2147483647) (hr_im : 0 ≤ im ∧ im ≤ 3) (hr_nr : 0 ≤ nr ∧ nr ≤ 4) (hr_nl : 0 ≤ nl ∧ nl ≤ 4) (hr_sp_ : 0 ≤ sp_ ∧ sp_ ≤ 602) (hr_wtc : (-2147483648) ≤ wtc ∧ wtc ≤ 2147483647) (hr_wcl : 0 ≤ wcl ∧ wcl ≤ 95) (hr_ir : 0 ≤ ir ∧ ir ≤ 5) (hr_ip : (-2147483648) ≤ ip ∧ ip ≤ 2147483647) (hr_shu : (-2147483648) ≤ shu ∧ shu ≤ 2147483647) (hr_sfa : (-2147483648) ≤ sfa ∧ sfa ≤ 2147483647) (hr_swr : (-2147483648) ≤ swr ∧ swr ≤ 2147483647) (hr_lo : (-1) ≤ lo ∧ lo ≤ 99999) (hr_hi : (-1) ≤ hi ∧ hi ≤ 9999) (hf9 : inv_ 600 0 255 f9) : mI9 l yX12_readNumber vs_m_number ({ frames := 1, cells := 0, slots := 0, locals := 22 }) D cy sa sz [vR mm, vI lo, vI hi] [zO mm 12 [vI th, vR m1, vI tp, vI sz_, vI ap, vI bad, vI bk, vI opn, vI fp, vR m9, vR m10, vR m11, vR m12, vR m13, vR m14, vR m15, vI im, vI nr, vI nl, vR m19, vR m20, vR m21, vI sp_, vR m23, vR m24, vR m25, vR m26, vR m27, vR m28, vI wtc, vI wcl, vI ir, vI ip, vR m33, vI shu, vR m35, vI sfa, vI swr], zI m9 (cy 0) 600 f9] (fun (r : Int32) (u : SV) => r = iI (u.2.1 0) ∧ (0 ≤ u.2.1 1 ∧ u.2.1 1 ≤ 602) ∧ ((-1) ≤ u.2.1 2 ∧ u.2.1 2 ≤ 602) ∧ (0 ≤ u.2.1 3 ∧ u.2.1 3 ≤ 4) ∧ (0 ≤ u.2.1 0 ∧ u.2.1 0 ≤ 99999) ∧ (ap ≤ u.2.1 1) ∧ (ap ≤ sz_ → u.2.1 1 ≤ sz_) ∧ (u.2.1 2 = -1 → bad = -1 ∧ lo ≤ u.2.1 0 ∧ u.2.1 0 ≤ hi ∧ ap < u.2.1 1) ∧ (bad ≠ -1 → u.2.1 1 = ap ∧ u.2.1 2 = bad) ∧ (u.2.1 2 ≠ -1 → u.2.1 0 = 0) ∧ inv_ 600 0 255 f9) (fun u : SV => [zO mm 12 [vI th, vR m1, vI tp, vI sz_, vI (u.2.1 1), vI (u.2.1 2), vI (u.2.1 3), vI opn, vI fp, vR m9, vR m10, vR m11, vR m12, vR m13, vR m14, vR m15, vI im, vI nr, vI nl, vR m19, vR m20, vR m21, vI sp_, vR m23, vR m24, vR m25, vR m26, vR m27, vR m28, vI wtc, vI wcl, vI ir, vI ip, vR m33, vI shu, vR m35, vI sfa, vI swr], zI m9 (cy 0) 600 f9]) 0 0 := by
  refine Met.ofW (cc := cX12_readNumber) (maxL := 6) (ret := (some .int)) (by decide) rfl ?_
  intro p e s m args below meth c s₁ B hml hv
  obtain ⟨rfl, hsz, hP, hG, hD0, hT⟩ := hv
  have hx := B.exec
  have hb := B.bytes
  have hr := B.returns
  have hts := atoms_spec (ws := vs_m_number) B.pre
  have hown : s.vm.findClass RX12 = some m.cls := findClass_of_methodNamed B.named
  have hlocks := B.notSynchronized
  subst hsz
  have hD := hD0.self (sz := s.heap.size)
  generalize hAe : va_A [zO mm 12 [vI th, vR m1, vI tp, vI sz_, vI ap, vI bad, vI bk, vI opn, vI fp, vR m9, vR m10, vR m11, vR m12, vR m13, vR m14, vR m15, vI im, vI nr, vI nl, vR m19, vR m20, vR m21, vI sp_, vR m23, vR m24, vR m25, vR m26, vR m27, vR m28, vI wtc, vI wcl, vI ir, vI ip, vR m33, vI shu, vR m35, vI sfa, vI swr], zI m9 (cy 0) 600 f9] s.heap.size = A at hD hT ⊢
  have hA : ∀ q : Nat, s.heap.size ≤ q → A q := fun q h => by rw [← hAe]; exact Or.inr h
  have hS : va_S A s.heap s.heap [] := va_S.rf
  have hl0 := lv_entry ([vR mm, vI lo, vI hi]) (n := 6) (Nat.le_of_ble_eq_true rfl)
  rw [lg_entry_eq]
  generalize (lg_sl ([vR mm, vI lo, vI hi]) ++ List.replicate (6 - (lg_sl ([vR mm, vI lo, vI hi])).length) Slot.unset).toArray = ls at hl0 ⊢
  have hlv : lv_has ls 6 [(0, vR mm), (1, vI lo), (2, vI hi)] := hl0
  have gg_0 : GoodIn vs_m_number (wsV RX12 109 RX12 yX12_fine vs_m_fine) := goodIn_sub (fun w h => List.mem_cons_of_mem _ (List.mem_append_right _ (List.mem_append_left _ h))) (gd_V gd_m_fine (by decide +kernel))
  have gg_1 : GoodIn vs_m_number (wsV RX12 92 RX12 yX12_here vs_m_here) := goodIn_sub (fun w h => List.mem_cons_of_mem _ (List.mem_append_right _ (List.mem_append_right _ (List.mem_append_left _ h)))) (gd_V gd_m_here (by decide +kernel))
  have lf86 := hts (.fieldLink RX12 86 "KerbSplashModel" "at" "I") (List.mem_of_getElem? (i := 1) rfl)
  have hi12 : ∀ w ∈ wsX120, w ∈ vs_m_number := fun w h => List.mem_cons_of_mem _ (List.mem_append_right _ (List.mem_append_right _ (List.mem_append_right _ (List.mem_append_left _ h))))
  have gg_3 : GoodIn vs_m_number (va_wsS RX12 113 yX12_isDigit vs_m_isDigit) := goodIn_sub (fun w h => List.mem_cons_of_mem _ (List.mem_append_right _ (List.mem_append_right _ (List.mem_append_right _ (List.mem_append_right _ (List.mem_append_left _ h)))))) (gd_S gd_m_isDigit (by decide +kernel))
  have lf89 := hts (.fieldLink RX12 89 "KerbSplashModel" "size" "I") (List.mem_of_getElem? (i := 2) rfl)
  have gg_4 : GoodIn vs_m_number (wsV RX12 116 RX12 yX12_wrong vs_m_wrong) := goodIn_sub (fun w h => List.mem_cons_of_mem _ (List.mem_append_right _ (List.mem_append_right _ (List.mem_append_right _ (List.mem_append_right _ (List.mem_append_right _ (List.mem_append_left _ h))))))) (gd_V gd_m_wrong (by decide +kernel))
  have lf20 := hts (.fieldLink RX12 20 "KerbSplashModel" "tape" "[I") (List.mem_of_getElem? (i := 3) rfl)
  refine lv_aload_n hx hb dX12_readNumber_0 rfl (lv_at hlv 0 rfl) ?_
  refine cjr_i [false, true] (fun pre9 => (va_runV (As := []) (rest := []) ⟨hx, hb, hml, hown, hts⟩ (m_fine l hl D cy sa mm m1 m9 m10 m11 m12 m13 m14 m15 m19 m20 m21 m23 m24 m25 m26 m27 m28 m33 m35 th tp sz_ ap bad bk opn fp im nr nl sp_ wtc wcl ir ip shu sfa swr s.heap.size (by first | exact hr_th | omega) (by first | exact hr_tp | omega) (by first | exact hr_sz_ | omega) (by first | exact hr_ap | omega) (by first | exact hr_bad | omega) (by first | exact hr_bk | omega) (by first | exact hr_opn | omega) (by first | exact hr_fp | omega) (by first | exact hr_im | omega) (by first | exact hr_nr | omega) (by first | exact hr_nl | omega) (by first | exact hr_sp_ | omega) (by first | exact hr_wtc | omega) (by first | exact hr_wcl | omega) (by first | exact hr_ir | omega) (by first | exact hr_ip | omega) (by first | exact hr_shu | omega) (by first | exact hr_sfa | omega) (by first | exact hr_swr | omega)) (cwV 0 hts gg_0 rfl rfl rfl (by decide +kernel) ⟨Nat.le_of_ble_eq_true rfl, Nat.le_of_ble_eq_true rfl⟩) ⟨pcW.blind, (va_recv hG.1 hP (ci := 12) (q0 := 0) rfl rfl), pre9⟩ rfl rfl hlv.1 rfl (lv_room (Nat.le_of_ble_eq_true rfl)) dX12_readNumber_1 ⟨Nat.le_of_ble_eq_true rfl, Nat.le_of_ble_eq_true rfl⟩)) hP hD hS hA hG hT [0] rfl (by decide +kernel) (fun r1 u1 H locs hw1 hq9 hS => ?_)
  obtain ⟨rfl, hq1_1, hq1_2, hq1_3⟩ := hw1
  obtain ⟨hP, hD⟩ := pd9 [zI m9 (cy 0) 600 f9, zO mm 12 [vI th, vR m1, vI tp, vI sz_, vI ap, vI bad, vI bk, vI opn, vI fp, vR m9, vR m10, vR m11, vR m12, vR m13, vR m14, vR m15, vI im, vI nr, vI nl, vR m19, vR m20, vR m21, vI sp_, vR m23, vR m24, vR m25, vR m26, vR m27, vR m28, vI wtc, vI wcl, vI ir, vI ip, vR m33, vI shu, vR m35, vI sfa, vI swr]] hq9
  refine iz_ne (tgt := 9) hx hb dX12_readNumber_4 (by decide) (by first | exact rgw hq1_1 (by decide) (by decide) | omega) (fun c_1 => ?_) (fun c_1 => ?_)
  · refine lv_aload_n hx hb dX12_readNumber_9 rfl (lv_at hlv 0 rfl) ?_
    refine cjr_i [false, false] (fun pre9 => (va_runV (As := []) (rest := []) ⟨hx, hb, hml, hown, hts⟩ (m_here l hl D cy sa mm m1 m9 m10 m11 m12 m13 m14 m15 m19 m20 m21 m23 m24 m25 m26 m27 m28 m33 m35 th tp sz_ ap bad bk opn fp im nr nl sp_ wtc wcl ir ip shu sfa swr f9 H.size (by first | exact hr_th | omega) (by first | exact hr_tp | omega) (by first | exact hr_sz_ | omega) (by first | exact hr_ap | omega) (by first | exact hr_bad | omega) (by first | exact hr_bk | omega) (by first | exact hr_opn | omega) (by first | exact hr_fp | omega) (by first | exact hr_im | omega) (by first | exact hr_nr | omega) (by first | exact hr_nl | omega) (by first | exact hr_sp_ | omega) (by first | exact hr_wtc | omega) (by first | exact hr_wcl | omega) (by first | exact hr_ir | omega) (by first | exact hr_ip | omega) (by first | exact hr_shu | omega) (by first | exact hr_sfa | omega) (by first | exact hr_swr | omega) hf9) (cwV 0 hts gg_1 rfl rfl rfl (by decide +kernel) ⟨Nat.le_of_ble_eq_true rfl, Nat.le_of_ble_eq_true rfl⟩) ⟨pcW.blind, (va_recv hG.1 hP (ci := 12) (q0 := 1) rfl rfl), pre9⟩ rfl rfl hlv.1 rfl (lv_room (Nat.le_of_ble_eq_true rfl)) dX12_readNumber_10 ⟨Nat.le_of_ble_eq_true rfl, Nat.le_of_ble_eq_true rfl⟩)) hP hD hS hA hG hT [1, 0] rfl (by decide +kernel) (fun r2 u2 H locs hw2 hq9 hS => ?_)
    obtain ⟨rfl, hq2_1, hq2_2, hq2_3, hq2_4, hq2_5, hq2_6, hq2_7, hq2_8, hq2_9⟩ := hw2
    obtain ⟨hP, hD⟩ := pd9 [zO mm 12 [vI th, vR m1, vI tp, vI sz_, vI (u2.2.1 1), vI bad, vI bk, vI opn, vI fp, vR m9, vR m10, vR m11, vR m12, vR m13, vR m14, vR m15, vI im, vI nr, vI nl, vR m19, vR m20, vR m21, vI sp_, vR m23, vR m24, vR m25, vR m26, vR m27, vR m28, vI wtc, vI wcl, vI ir, vI ip, vR m33, vI shu, vR m35, vI sfa, vI swr], zI m9 (cy 0) 600 f9] hq9
    refine lv_istore_n (lv' := [(3, vI (u2.2.1 0)), (0, vR mm), (1, vI lo), (2, vI hi)]) hx hb dX12_readNumber_13 rfl hlv (by decide) rfl (fun ls hlv => ?_)
    refine lv_aload_n hx hb dX12_readNumber_14 rfl (lv_at hlv 1 rfl) ?_
    refine va_get (D := D) (ci := 12) (v := vI (u2.2.1 1)) (C := RX12) (T := TX12) (N := 38) hx hb hts hi12 hown hG.1 hP 0 rfl rfl 4 (by decide) lf86 (fun _ h9 => h9) rfl dX12_readNumber_15 ?_
    refine lv_istore (lv' := [(4, vI (u2.2.1 1)), (3, vI (u2.2.1 0)), (0, vR mm), (1, vI lo), (2, vI hi)]) hx hb dX12_readNumber_18 hlv (by decide) rfl (fun ls hlv => ?_)
    refine lv_iconst (v := iI 0) hx hb dX12_readNumber_20 (by decide) ?_
    refine lv_istore (lv' := [(5, vI 0), (4, vI (u2.2.1 1)), (3, vI (u2.2.1 0)), (0, vR mm), (1, vI lo), (2, vI hi)]) hx hb dX12_readNumber_21 hlv (by decide) rfl (fun ls hlv => ?_)
    refine lv_iload_n hx hb dX12_readNumber_23 rfl (lv_at hlv 2 rfl) ?_
    refine cjr_i [true, true] (fun pre9 => (va_runS (As := [vI (u2.2.1 0)]) (rest := []) ⟨hx, hb, hml, hown, hts⟩ (m_isDigit l hl D cy sa (u2.2.1 0) H.size (by first | exact rgw hq2_2 (by decide) (by decide) | omega)) (va_cwS 1 hts gg_3 rfl rfl rfl (by decide +kernel) ⟨Nat.le_of_ble_eq_true rfl, Nat.le_of_ble_eq_true rfl⟩) ⟨pcW.blind, pre9⟩ rfl rfl hlv.1 rfl (lv_room (Nat.le_of_ble_eq_true rfl)) dX12_readNumber_24 ⟨Nat.le_of_ble_eq_true rfl, Nat.le_of_ble_eq_true rfl⟩)) hP hD hS hA hG hT [] rfl (by decide +kernel) (fun r3 u3 H locs hw3 hq9 hS => ?_)
    obtain ⟨rfl, hq3_1, hq3_2, hq3_3⟩ := hw3
    obtain ⟨hP, hD⟩ := pd9 [zO mm 12 [vI th, vR m1, vI tp, vI sz_, vI (u2.2.1 1), vI bad, vI bk, vI opn, vI fp, vR m9, vR m10, vR m11, vR m12, vR m13, vR m14, vR m15, vI im, vI nr, vI nl, vR m19, vR m20, vR m21, vI sp_, vR m23, vR m24, vR m25, vR m26, vR m27, vR m28, vI wtc, vI wcl, vI ir, vI ip, vR m33, vI shu, vR m35, vI sfa, vI swr], zI m9 (cy 0) 600 f9] hq9
    refine iz_ne (tgt := 41) hx hb dX12_readNumber_27 (by decide) (by first | exact rgw hq3_1 (by decide) (by decide) | omega) (fun c_2 => ?_) (fun c_2 => ?_)
    · refine lv_aload_n hx hb dX12_readNumber_41 rfl (lv_at hlv 3 rfl) ?_
      refine va_get (D := D) (ci := 12) (v := vI (u2.2.1 1)) (C := RX12) (T := TX12) (N := 38) hx hb hts hi12 hown hG.1 hP 0 rfl rfl 4 (by decide) lf86 (fun _ h9 => h9) rfl dX12_readNumber_42 ?_
      refine lv_aload_n hx hb dX12_readNumber_45 rfl (lv_at hlv 3 rfl) ?_
      refine va_get (D := D) (ci := 12) (v := vI sz_) (C := RX12) (T := TX12) (N := 38) hx hb hts hi12 hown hG.1 hP 0 rfl rfl 3 (by decide) lf89 (fun _ h9 => h9) rfl dX12_readNumber_46 ?_
      refine ir_ge (tgt := 114) hx hb dX12_readNumber_49 (by decide) (by first | exact rgw hq2_1 (by decide) (by decide) | omega) (by first | exact rgw hr_sz_ (by decide) (by decide) | omega) (fun c_3 => ?_) (fun c_3 => ?_)
      · refine lv_iload hx hb dX12_readNumber_114 (lv_at hlv 0 rfl) ?_
        refine lv_iload_n hx hb dX12_readNumber_116 rfl (lv_at hlv 4 rfl) ?_
        refine ir_lt (tgt := 126) hx hb dX12_readNumber_117 (by decide) (by show ((-2147483648) : Int) ≤ 0 ∧ (0 : Int) ≤ 2147483647; decide) (by first | exact rgw hr_lo (by decide) (by decide) | omega) (fun c_4 => ?_) (fun c_4 => ?_)
        · refine lv_aload_n hx hb dX12_readNumber_126 rfl (lv_at hlv 3 rfl) ?_
          refine lv_iconst (v := iI 2) hx hb dX12_readNumber_127 (by decide) ?_
          refine lv_iload hx hb dX12_readNumber_128 (lv_at hlv 1 rfl) ?_
          refine cjr_v [false, true] (fun pre9 => (va_runV (As := [vI 2, vI (u2.2.1 1)]) (rest := []) ⟨hx, hb, hml, hown, hts⟩ (m_wrong l hl D cy sa mm m1 m9 m10 m11 m12 m13 m14 m15 m19 m20 m21 m23 m24 m25 m26 m27 m28 m33 m35 th tp sz_ (u2.2.1 1) bad bk opn fp im nr nl sp_ wtc wcl ir ip shu sfa swr 2 (u2.2.1 1) H.size (by first | exact hr_th | omega) (by first | exact hr_tp | omega) (by first | exact hr_sz_ | omega) (by first | exact hq2_1 | omega) (by first | exact hr_bad | omega) (by first | exact hr_bk | omega) (by first | exact hr_opn | omega) (by first | exact hr_fp | omega) (by first | exact hr_im | omega) (by first | exact hr_nr | omega) (by first | exact hr_nl | omega) (by first | exact hr_sp_ | omega) (by first | exact hr_wtc | omega) (by first | exact hr_wcl | omega) (by first | exact hr_ir | omega) (by first | exact hr_ip | omega) (by first | exact hr_shu | omega) (by first | exact hr_sfa | omega) (by first | exact hr_swr | omega) (by show (1 : Int) ≤ 2 ∧ (2 : Int) ≤ 4; decide) (by first | exact hq2_1 | omega)) (cwV 2 hts gg_4 rfl rfl rfl (by decide +kernel) ⟨Nat.le_of_ble_eq_true rfl, Nat.le_of_ble_eq_true rfl⟩) ⟨pcW.blind, (va_recv hG.1 hP (ci := 12) (q0 := 0) rfl rfl), pre9⟩ rfl rfl hlv.1 rfl (lv_room (Nat.le_of_ble_eq_true rfl)) dX12_readNumber_130 ⟨Nat.le_of_ble_eq_true rfl, Nat.le_of_ble_eq_true rfl⟩)) hP hD hS hA hG hT [0] rfl (by decide +kernel) (fun u4 H locs hw4 hq9 hS => ?_)
          obtain ⟨hq4_0, hq4_1, hq4_2, hq4_3⟩ := hw4
          obtain ⟨hP, hD⟩ := pd9 [zI m9 (cy 0) 600 f9, zO mm 12 [vI th, vR m1, vI tp, vI sz_, vI (u2.2.1 1), vI (u4.2.1 0), vI (u4.2.1 1), vI opn, vI fp, vR m9, vR m10, vR m11, vR m12, vR m13, vR m14, vR m15, vI im, vI nr, vI nl, vR m19, vR m20, vR m21, vI sp_, vR m23, vR m24, vR m25, vR m26, vR m27, vR m28, vI wtc, vI wcl, vI ir, vI ip, vR m33, vI shu, vR m35, vI sfa, vI swr]] hq9
          refine lv_iconst (v := iI 0) hx hb dX12_readNumber_133 (by decide) ?_
          refine W.widen (k := 0) (n := 0) (Nat.le_of_ble_eq_true rfl) (Nat.le_of_ble_eq_true rfl) ?_
          exact W.iret (v := iI 0) hx hb hr (fun t ht hW => ⟨⟨iI 0, ((fun k => ([] : List Nat).getD k 0), (fun k => ([0, (u2.2.1 1), (u4.2.1 0), (u4.2.1 1)] : List Int).getD k 0), (fun k => ([] : List (Nat → Int32)).getD k (fun _ => 0))), rfl, ⟨rfl, (by show (0 ≤ (u2.2.1 1) ∧ (u2.2.1 1) ≤ 602); first | exact hq2_1 | omega), (by show ((-1) ≤ (u4.2.1 0) ∧ (u4.2.1 0) ≤ 602); first | exact rgw hq4_0 (by decide) (by decide) | omega), (by show (0 ≤ (u4.2.1 1) ∧ (u4.2.1 1) ≤ 4); first | exact hq4_1 | omega), (by show (0 ≤ 0 ∧ 0 ≤ 99999); show (0 : Int) ≤ 0 ∧ (0 : Int) ≤ 99999; decide), (by show (ap ≤ (u2.2.1 1)); omega), (by show (ap ≤ sz_ → (u2.2.1 1) ≤ sz_); first | exact hq2_8 | omega), (by show ((u4.2.1 0) = -1 → bad = -1 ∧ lo ≤ 0 ∧ 0 ≤ hi ∧ ap < (u2.2.1 1)); omega), (by show (bad ≠ -1 → (u2.2.1 1) = ap ∧ (u4.2.1 0) = bad); omega), (by show ((u4.2.1 0) ≠ -1 → 0 = 0); omega), hq2_9⟩, at9 ht hP hD [1, 0] (by decide +kernel) rfl⟩, hS.F ht⟩) hS.2.2 dX12_readNumber_134
        · refine lv_iload hx hb dX12_readNumber_120 (lv_at hlv 0 rfl) ?_
          refine lv_iload_n hx hb dX12_readNumber_122 rfl (lv_at hlv 5 rfl) ?_
          refine ir_le (tgt := 135) hx hb dX12_readNumber_123 (by decide) (by show ((-2147483648) : Int) ≤ 0 ∧ (0 : Int) ≤ 2147483647; decide) (by first | exact rgw hr_hi (by decide) (by decide) | omega) (fun c_5 => ?_) (fun c_5 => ?_)
          · refine lv_iload hx hb dX12_readNumber_135 (lv_at hlv 0 rfl) ?_
            refine W.widen (k := 0) (n := 0) (Nat.le_of_ble_eq_true rfl) (Nat.le_of_ble_eq_true rfl) ?_
            exact W.iret (v := iI 0) hx hb hr (fun t ht hW => ⟨⟨iI 0, ((fun k => ([] : List Nat).getD k 0), (fun k => ([0, (u2.2.1 1), bad, bk] : List Int).getD k 0), (fun k => ([] : List (Nat → Int32)).getD k (fun _ => 0))), rfl, ⟨rfl, (by show (0 ≤ (u2.2.1 1) ∧ (u2.2.1 1) ≤ 602); first | exact hq2_1 | omega), (by show ((-1) ≤ bad ∧ bad ≤ 602); first | exact hr_bad | omega), (by show (0 ≤ bk ∧ bk ≤ 4); first | exact hr_bk | omega), (by show (0 ≤ 0 ∧ 0 ≤ 99999); show (0 : Int) ≤ 0 ∧ (0 : Int) ≤ 99999; decide), (by show (ap ≤ (u2.2.1 1)); omega), (by show (ap ≤ sz_ → (u2.2.1 1) ≤ sz_); first | exact hq2_8 | omega), (by show (bad = -1 → bad = -1 ∧ lo ≤ 0 ∧ 0 ≤ hi ∧ ap < (u2.2.1 1)); omega), (by show (bad ≠ -1 → (u2.2.1 1) = ap ∧ bad = bad); omega), (by show (bad ≠ -1 → 0 = 0); omega), hq2_9⟩, at9 ht hP hD [0, 1] (by decide +kernel) rfl⟩, hS.F ht⟩) hS.2.2 dX12_readNumber_137
          · refine lv_aload_n hx hb dX12_readNumber_126 rfl (lv_at hlv 3 rfl) ?_
            refine lv_iconst (v := iI 2) hx hb dX12_readNumber_127 (by decide) ?_
            refine lv_iload hx hb dX12_readNumber_128 (lv_at hlv 1 rfl) ?_
            refine cjr_v [false, true] (fun pre9 => (va_runV (As := [vI 2, vI (u2.2.1 1)]) (rest := []) ⟨hx, hb, hml, hown, hts⟩ (m_wrong l hl D cy sa mm m1 m9 m10 m11 m12 m13 m14 m15 m19 m20 m21 m23 m24 m25 m26 m27 m28 m33 m35 th tp sz_ (u2.2.1 1) bad bk opn fp im nr nl sp_ wtc wcl ir ip shu sfa swr 2 (u2.2.1 1) H.size (by first | exact hr_th | omega) (by first | exact hr_tp | omega) (by first | exact hr_sz_ | omega) (by first | exact hq2_1 | omega) (by first | exact hr_bad | omega) (by first | exact hr_bk | omega) (by first | exact hr_opn | omega) (by first | exact hr_fp | omega) (by first | exact hr_im | omega) (by first | exact hr_nr | omega) (by first | exact hr_nl | omega) (by first | exact hr_sp_ | omega) (by first | exact hr_wtc | omega) (by first | exact hr_wcl | omega) (by first | exact hr_ir | omega) (by first | exact hr_ip | omega) (by first | exact hr_shu | omega) (by first | exact hr_sfa | omega) (by first | exact hr_swr | omega) (by show (1 : Int) ≤ 2 ∧ (2 : Int) ≤ 4; decide) (by first | exact hq2_1 | omega)) (cwV 2 hts gg_4 rfl rfl rfl (by decide +kernel) ⟨Nat.le_of_ble_eq_true rfl, Nat.le_of_ble_eq_true rfl⟩) ⟨pcW.blind, (va_recv hG.1 hP (ci := 12) (q0 := 0) rfl rfl), pre9⟩ rfl rfl hlv.1 rfl (lv_room (Nat.le_of_ble_eq_true rfl)) dX12_readNumber_130 ⟨Nat.le_of_ble_eq_true rfl, Nat.le_of_ble_eq_true rfl⟩)) hP hD hS hA hG hT [0] rfl (by decide +kernel) (fun u5 H locs hw5 hq9 hS => ?_)
            obtain ⟨hq5_0, hq5_1, hq5_2, hq5_3⟩ := hw5
            obtain ⟨hP, hD⟩ := pd9 [zI m9 (cy 0) 600 f9, zO mm 12 [vI th, vR m1, vI tp, vI sz_, vI (u2.2.1 1), vI (u5.2.1 0), vI (u5.2.1 1), vI opn, vI fp, vR m9, vR m10, vR m11, vR m12, vR m13, vR m14, vR m15, vI im, vI nr, vI nl, vR m19, vR m20, vR m21, vI sp_, vR m23, vR m24, vR m25, vR m26, vR m27, vR m28, vI wtc, vI wcl, vI ir, vI ip, vR m33, vI shu, vR m35, vI sfa, vI swr]] hq9
            refine lv_iconst (v := iI 0) hx hb dX12_readNumber_133 (by decide) ?_
            refine W.widen (k := 0) (n := 0) (Nat.le_of_ble_eq_true rfl) (Nat.le_of_ble_eq_true rfl) ?_
            exact W.iret (v := iI 0) hx hb hr (fun t ht hW => ⟨⟨iI 0, ((fun k => ([] : List Nat).getD k 0), (fun k => ([0, (u2.2.1 1), (u5.2.1 0), (u5.2.1 1)] : List Int).getD k 0), (fun k => ([] : List (Nat → Int32)).getD k (fun _ => 0))), rfl, ⟨rfl, (by show (0 ≤ (u2.2.1 1) ∧ (u2.2.1 1) ≤ 602); first | exact hq2_1 | omega), (by show ((-1) ≤ (u5.2.1 0) ∧ (u5.2.1 0) ≤ 602); first | exact rgw hq5_0 (by decide) (by decide) | omega), (by show (0 ≤ (u5.2.1 1) ∧ (u5.2.1 1) ≤ 4); first | exact hq5_1 | omega), (by show (0 ≤ 0 ∧ 0 ≤ 99999); show (0 : Int) ≤ 0 ∧ (0 : Int) ≤ 99999; decide), (by show (ap ≤ (u2.2.1 1)); omega), (by show (ap ≤ sz_ → (u2.2.1 1) ≤ sz_); first | exact hq2_8 | omega), (by show ((u5.2.1 0) = -1 → bad = -1 ∧ lo ≤ 0 ∧ 0 ≤ hi ∧ ap < (u2.2.1 1)); omega), (by show (bad ≠ -1 → (u2.2.1 1) = ap ∧ (u5.2.1 0) = bad); omega), (by show ((u5.2.1 0) ≠ -1 → 0 = 0); omega), hq2_9⟩, at9 ht hP hD [1, 0] (by decide +kernel) rfl⟩, hS.F ht⟩) hS.2.2 dX12_readNumber_134
      · refine lv_aload_n hx hb dX12_readNumber_52 rfl (lv_at hlv 3 rfl) ?_
        refine va_get (D := D) (ci := 12) (v := vR m9) (C := RX12) (T := TX12) (N := 38) hx hb hts hi12 hown hG.1 hP 0 rfl rfl 9 (by decide) lf20 (fun _ h9 => h9) rfl dX12_readNumber_53 ?_
        refine lv_aload_n hx hb dX12_readNumber_56 rfl (lv_at hlv 3 rfl) ?_
        refine va_get (D := D) (ci := 12) (v := vI (u2.2.1 1)) (C := RX12) (T := TX12) (N := 38) hx hb hts hi12 hown hG.1 hP 0 rfl rfl 4 (by decide) lf86 (fun _ h9 => h9) rfl dX12_readNumber_57 ?_
        refine va_iald hx hb hG.1 hP 1 0 rfl rfl (iI_in (by omega) (by decide)) dX12_readNumber_60 ?_
        refine lt_nz (i := (u2.2.1 1)) (by omega) (fun z_6 hz_6 lz_6 uz_6 => ?_)
        have hbz_6_6 := inv_nz hq2_9 (k := (u2.2.1 1).toNat) (by omega)
        refine cjr_i [true, true] (fun pre9 => (va_runS (As := [vI z_6]) (rest := []) ⟨hx, hb, hml, hown, hts⟩ (m_isDigit l hl D cy sa z_6 H.size (by omega)) (va_cwS 1 hts gg_3 rfl rfl rfl (by decide +kernel) ⟨Nat.le_of_ble_eq_true rfl, Nat.le_of_ble_eq_true rfl⟩) ⟨pcW.blind, pre9⟩ rfl rfl hlv.1 rfl (lv_room (Nat.le_of_ble_eq_true rfl)) dX12_readNumber_61 ⟨Nat.le_of_ble_eq_true rfl, Nat.le_of_ble_eq_true rfl⟩)) hP hD hS hA hG hT [] rfl (by decide +kernel) (fun r6 u6 H locs hw6 hq9 hS => ?_)
        obtain ⟨rfl, hq6_1, hq6_2, hq6_3⟩ := hw6
        obtain ⟨hP, hD⟩ := pd9 [zO mm 12 [vI th, vR m1, vI tp, vI sz_, vI (u2.2.1 1), vI bad, vI bk, vI opn, vI fp, vR m9, vR m10, vR m11, vR m12, vR m13, vR m14, vR m15, vI im, vI nr, vI nl, vR m19, vR m20, vR m21, vI sp_, vR m23, vR m24, vR m25, vR m26, vR m27, vR m28, vI wtc, vI wcl, vI ir, vI ip, vR m33, vI shu, vR m35, vI sfa, vI swr], zI m9 (cy 0) 600 f9] hq9
        refine iz_eq (tgt := 114) hx hb dX12_readNumber_64 (by decide) (by first | exact rgw hq6_1 (by decide) (by decide) | omega) (fun c_7 => ?_) (fun c_7 => ?_)
        · refine lv_iload hx hb dX12_readNumber_114 (lv_at hlv 0 rfl) ?_
          refine lv_iload_n hx hb dX12_readNumber_116 rfl (lv_at hlv 4 rfl) ?_
          refine ir_lt (tgt := 126) hx hb dX12_readNumber_117 (by decide) (by show ((-2147483648) : Int) ≤ 0 ∧ (0 : Int) ≤ 2147483647; decide) (by first | exact rgw hr_lo (by decide) (by decide) | omega) (fun c_8 => ?_) (fun c_8 => ?_)
          · refine lv_aload_n hx hb dX12_readNumber_126 rfl (lv_at hlv 3 rfl) ?_
            refine lv_iconst (v := iI 2) hx hb dX12_readNumber_127 (by decide) ?_
            refine lv_iload hx hb dX12_readNumber_128 (lv_at hlv 1 rfl) ?_
            refine cjr_v [false, true] (fun pre9 => (va_runV (As := [vI 2, vI (u2.2.1 1)]) (rest := []) ⟨hx, hb, hml, hown, hts⟩ (m_wrong l hl D cy sa mm m1 m9 m10 m11 m12 m13 m14 m15 m19 m20 m21 m23 m24 m25 m26 m27 m28 m33 m35 th tp sz_ (u2.2.1 1) bad bk opn fp im nr nl sp_ wtc wcl ir ip shu sfa swr 2 (u2.2.1 1) H.size (by first | exact hr_th | omega) (by first | exact hr_tp | omega) (by first | exact hr_sz_ | omega) (by first | exact hq2_1 | omega) (by first | exact hr_bad | omega) (by first | exact hr_bk | omega) (by first | exact hr_opn | omega) (by first | exact hr_fp | omega) (by first | exact hr_im | omega) (by first | exact hr_nr | omega) (by first | exact hr_nl | omega) (by first | exact hr_sp_ | omega) (by first | exact hr_wtc | omega) (by first | exact hr_wcl | omega) (by first | exact hr_ir | omega) (by first | exact hr_ip | omega) (by first | exact hr_shu | omega) (by first | exact hr_sfa | omega) (by first | exact hr_swr | omega) (by show (1 : Int) ≤ 2 ∧ (2 : Int) ≤ 4; decide) (by first | exact hq2_1 | omega)) (cwV 2 hts gg_4 rfl rfl rfl (by decide +kernel) ⟨Nat.le_of_ble_eq_true rfl, Nat.le_of_ble_eq_true rfl⟩) ⟨pcW.blind, (va_recv hG.1 hP (ci := 12) (q0 := 0) rfl rfl), pre9⟩ rfl rfl hlv.1 rfl (lv_room (Nat.le_of_ble_eq_true rfl)) dX12_readNumber_130 ⟨Nat.le_of_ble_eq_true rfl, Nat.le_of_ble_eq_true rfl⟩)) hP hD hS hA hG hT [0] rfl (by decide +kernel) (fun u7 H locs hw7 hq9 hS => ?_)
            obtain ⟨hq7_0, hq7_1, hq7_2, hq7_3⟩ := hw7
            obtain ⟨hP, hD⟩ := pd9 [zI m9 (cy 0) 600 f9, zO mm 12 [vI th, vR m1, vI tp, vI sz_, vI (u2.2.1 1), vI (u7.2.1 0), vI (u7.2.1 1), vI opn, vI fp, vR m9, vR m10, vR m11, vR m12, vR m13, vR m14, vR m15, vI im, vI nr, vI nl, vR m19, vR m20, vR m21, vI sp_, vR m23, vR m24, vR m25, vR m26, vR m27, vR m28, vI wtc, vI wcl, vI ir, vI ip, vR m33, vI shu, vR m35, vI sfa, vI swr]] hq9
            refine lv_iconst (v := iI 0) hx hb dX12_readNumber_133 (by decide) ?_
            refine W.widen (k := 0) (n := 0) (Nat.le_of_ble_eq_true rfl) (Nat.le_of_ble_eq_true rfl) ?_
            exact W.iret (v := iI 0) hx hb hr (fun t ht hW => ⟨⟨iI 0, ((fun k => ([] : List Nat).getD k 0), (fun k => ([0, (u2.2.1 1), (u7.2.1 0), (u7.2.1 1)] : List Int).getD k 0), (fun k => ([] : List (Nat → Int32)).getD k (fun _ => 0))), rfl, ⟨rfl, (by show (0 ≤ (u2.2.1 1) ∧ (u2.2.1 1) ≤ 602); first | exact hq2_1 | omega), (by show ((-1) ≤ (u7.2.1 0) ∧ (u7.2.1 0) ≤ 602); first | exact rgw hq7_0 (by decide) (by decide) | omega), (by show (0 ≤ (u7.2.1 1) ∧ (u7.2.1 1) ≤ 4); first | exact hq7_1 | omega), (by show (0 ≤ 0 ∧ 0 ≤ 99999); show (0 : Int) ≤ 0 ∧ (0 : Int) ≤ 99999; decide), (by show (ap ≤ (u2.2.1 1)); omega), (by show (ap ≤ sz_ → (u2.2.1 1) ≤ sz_); first | exact hq2_8 | omega), (by show ((u7.2.1 0) = -1 → bad = -1 ∧ lo ≤ 0 ∧ 0 ≤ hi ∧ ap < (u2.2.1 1)); omega), (by show (bad ≠ -1 → (u2.2.1 1) = ap ∧ (u7.2.1 0) = bad); omega), (by show ((u7.2.1 0) ≠ -1 → 0 = 0); omega), hq2_9⟩, at9 ht hP hD [1, 0] (by decide +kernel) rfl⟩, hS.F ht⟩) hS.2.2 dX12_readNumber_134
          · refine lv_iload hx hb dX12_readNumber_120 (lv_at hlv 0 rfl) ?_
            refine lv_iload_n hx hb dX12_readNumber_122 rfl (lv_at hlv 5 rfl) ?_
            refine ir_le (tgt := 135) hx hb dX12_readNumber_123 (by decide) (by show ((-2147483648) : Int) ≤ 0 ∧ (0 : Int) ≤ 2147483647; decide) (by first | exact rgw hr_hi (by decide) (by decide) | omega) (fun c_9 => ?_) (fun c_9 => ?_)
            · refine lv_iload hx hb dX12_readNumber_135 (lv_at hlv 0 rfl) ?_
              refine W.widen (k := 0) (n := 0) (Nat.le_of_ble_eq_true rfl) (Nat.le_of_ble_eq_true rfl) ?_
              exact W.iret (v := iI 0) hx hb hr (fun t ht hW => ⟨⟨iI 0, ((fun k => ([] : List Nat).getD k 0), (fun k => ([0, (u2.2.1 1), bad, bk] : List Int).getD k 0), (fun k => ([] : List (Nat → Int32)).getD k (fun _ => 0))), rfl, ⟨rfl, (by show (0 ≤ (u2.2.1 1) ∧ (u2.2.1 1) ≤ 602); first | exact hq2_1 | omega), (by show ((-1) ≤ bad ∧ bad ≤ 602); first | exact hr_bad | omega), (by show (0 ≤ bk ∧ bk ≤ 4); first | exact hr_bk | omega), (by show (0 ≤ 0 ∧ 0 ≤ 99999); show (0 : Int) ≤ 0 ∧ (0 : Int) ≤ 99999; decide), (by show (ap ≤ (u2.2.1 1)); omega), (by show (ap ≤ sz_ → (u2.2.1 1) ≤ sz_); first | exact hq2_8 | omega), (by show (bad = -1 → bad = -1 ∧ lo ≤ 0 ∧ 0 ≤ hi ∧ ap < (u2.2.1 1)); omega), (by show (bad ≠ -1 → (u2.2.1 1) = ap ∧ bad = bad); omega), (by show (bad ≠ -1 → 0 = 0); omega), hq2_9⟩, at9 ht hP hD [0, 1] (by decide +kernel) rfl⟩, hS.F ht⟩) hS.2.2 dX12_readNumber_137
            · refine lv_aload_n hx hb dX12_readNumber_126 rfl (lv_at hlv 3 rfl) ?_
              refine lv_iconst (v := iI 2) hx hb dX12_readNumber_127 (by decide) ?_
              refine lv_iload hx hb dX12_readNumber_128 (lv_at hlv 1 rfl) ?_
              refine cjr_v [false, true] (fun pre9 => (va_runV (As := [vI 2, vI (u2.2.1 1)]) (rest := []) ⟨hx, hb, hml, hown, hts⟩ (m_wrong l hl D cy sa mm m1 m9 m10 m11 m12 m13 m14 m15 m19 m20 m21 m23 m24 m25 m26 m27 m28 m33 m35 th tp sz_ (u2.2.1 1) bad bk opn fp im nr nl sp_ wtc wcl ir ip shu sfa swr 2 (u2.2.1 1) H.size (by first | exact hr_th | omega) (by first | exact hr_tp | omega) (by first | exact hr_sz_ | omega) (by first | exact hq2_1 | omega) (by first | exact hr_bad | omega) (by first | exact hr_bk | omega) (by first | exact hr_opn | omega) (by first | exact hr_fp | omega) (by first | exact hr_im | omega) (by first | exact hr_nr | omega) (by first | exact hr_nl | omega) (by first | exact hr_sp_ | omega) (by first | exact hr_wtc | omega) (by first | exact hr_wcl | omega) (by first | exact hr_ir | omega) (by first | exact hr_ip | omega) (by first | exact hr_shu | omega) (by first | exact hr_sfa | omega) (by first | exact hr_swr | omega) (by show (1 : Int) ≤ 2 ∧ (2 : Int) ≤ 4; decide) (by first | exact hq2_1 | omega)) (cwV 2 hts gg_4 rfl rfl rfl (by decide +kernel) ⟨Nat.le_of_ble_eq_true rfl, Nat.le_of_ble_eq_true rfl⟩) ⟨pcW.blind, (va_recv hG.1 hP (ci := 12) (q0 := 0) rfl rfl), pre9⟩ rfl rfl hlv.1 rfl (lv_room (Nat.le_of_ble_eq_true rfl)) dX12_readNumber_130 ⟨Nat.le_of_ble_eq_true rfl, Nat.le_of_ble_eq_true rfl⟩)) hP hD hS hA hG hT [0] rfl (by decide +kernel) (fun u8 H locs hw8 hq9 hS => ?_)
              obtain ⟨hq8_0, hq8_1, hq8_2, hq8_3⟩ := hw8
              obtain ⟨hP, hD⟩ := pd9 [zI m9 (cy 0) 600 f9, zO mm 12 [vI th, vR m1, vI tp, vI sz_, vI (u2.2.1 1), vI (u8.2.1 0), vI (u8.2.1 1), vI opn, vI fp, vR m9, vR m10, vR m11, vR m12, vR m13, vR m14, vR m15, vI im, vI nr, vI nl, vR m19, vR m20, vR m21, vI sp_, vR m23, vR m24, vR m25, vR m26, vR m27, vR m28, vI wtc, vI wcl, vI ir, vI ip, vR m33, vI shu, vR m35, vI sfa, vI swr]] hq9
              refine lv_iconst (v := iI 0) hx hb dX12_readNumber_133 (by decide) ?_
              refine W.widen (k := 0) (n := 0) (Nat.le_of_ble_eq_true rfl) (Nat.le_of_ble_eq_true rfl) ?_
              exact W.iret (v := iI 0) hx hb hr (fun t ht hW => ⟨⟨iI 0, ((fun k => ([] : List Nat).getD k 0), (fun k => ([0, (u2.2.1 1), (u8.2.1 0), (u8.2.1 1)] : List Int).getD k 0), (fun k => ([] : List (Nat → Int32)).getD k (fun _ => 0))), rfl, ⟨rfl, (by show (0 ≤ (u2.2.1 1) ∧ (u2.2.1 1) ≤ 602); first | exact hq2_1 | omega), (by show ((-1) ≤ (u8.2.1 0) ∧ (u8.2.1 0) ≤ 602); first | exact rgw hq8_0 (by decide) (by decide) | omega), (by show (0 ≤ (u8.2.1 1) ∧ (u8.2.1 1) ≤ 4); first | exact hq8_1 | omega), (by show (0 ≤ 0 ∧ 0 ≤ 99999); show (0 : Int) ≤ 0 ∧ (0 : Int) ≤ 99999; decide), (by show (ap ≤ (u2.2.1 1)); omega), (by show (ap ≤ sz_ → (u2.2.1 1) ≤ sz_); first | exact hq2_8 | omega), (by show ((u8.2.1 0) = -1 → bad = -1 ∧ lo ≤ 0 ∧ 0 ≤ hi ∧ ap < (u2.2.1 1)); omega), (by show (bad ≠ -1 → (u2.2.1 1) = ap ∧ (u8.2.1 0) = bad); omega), (by show ((u8.2.1 0) ≠ -1 → 0 = 0); omega), hq2_9⟩, at9 ht hP hD [1, 0] (by decide +kernel) rfl⟩, hS.F ht⟩) hS.2.2 dX12_readNumber_134
        · refine lv_iload hx hb dX12_readNumber_67 (lv_at hlv 0 rfl) ?_
          refine lv_sipush (v := iI 9999) hx hb dX12_readNumber_69 (by decide) ?_
          refine ir_le (tgt := 81) hx hb dX12_readNumber_72 (by decide) (by show ((-2147483648) : Int) ≤ 0 ∧ (0 : Int) ≤ 2147483647; decide) (by show ((-2147483648) : Int) ≤ 9999 ∧ (9999 : Int) ≤ 2147483647; decide) (fun c_10 => ?_) (fun c_10 => by exfalso; omega)
          refine lv_bipush (v := iI 10) hx hb dX12_readNumber_81 (by decide) ?_
          refine lv_iload hx hb dX12_readNumber_83 (lv_at hlv 0 rfl) ?_
          refine lv_imul hx hb dX12_readNumber_85 ?_
          refine lt_i (y := iI 0) (by decide) ?_
          refine lv_aload_n hx hb dX12_readNumber_86 rfl (lv_at hlv 3 rfl) ?_
          refine va_get (D := D) (ci := 12) (v := vR m9) (C := RX12) (T := TX12) (N := 38) hx hb hts hi12 hown hG.1 hP 0 rfl rfl 9 (by decide) lf20 (fun _ h9 => h9) rfl dX12_readNumber_87 ?_
          refine lv_aload_n hx hb dX12_readNumber_90 rfl (lv_at hlv 3 rfl) ?_
          refine va_get (D := D) (ci := 12) (v := vI (u2.2.1 1)) (C := RX12) (T := TX12) (N := 38) hx hb hts hi12 hown hG.1 hP 0 rfl rfl 4 (by decide) lf86 (fun _ h9 => h9) rfl dX12_readNumber_91 ?_
          refine va_iald hx hb hG.1 hP 1 0 rfl rfl (iI_in (by omega) (by decide)) dX12_readNumber_94 ?_
          refine lt_nz (i := (u2.2.1 1)) (by omega) (fun z_11 hz_11 lz_11 uz_11 => ?_)
          have hbz_11_13 := inv_nz hq2_9 (k := (u2.2.1 1).toNat) (by omega)
          refine lv_iadd hx hb dX12_readNumber_95 ?_
          refine lt_e (e0 := 0 + z_11) (Int32.ofInt_add _ _).symm (fun z_12 hz_12 => ?_)
          refine lv_bipush (v := iI 48) hx hb dX12_readNumber_96 (by decide) ?_
          refine lv_isub hx hb dX12_readNumber_98 ?_
          refine lt_e (e0 := z_12 - 48) (Int32.ofInt_sub _ _).symm (fun z_13 hz_13 => ?_)
          refine lv_istore (lv' := [(5, vI z_13), (4, vI (u2.2.1 1)), (3, vI (u2.2.1 0)), (0, vR mm), (1, vI lo), (2, vI hi)]) hx hb dX12_readNumber_99 hlv (by decide) rfl (fun ls hlv => ?_)
          refine lv_aload_n hx hb dX12_readNumber_101 rfl (lv_at hlv 3 rfl) ?_
          refine lv_dup hx hb dX12_readNumber_102 rfl ?_
          refine va_get (D := D) (ci := 12) (v := vI (u2.2.1 1)) (C := RX12) (T := TX12) (N := 38) hx hb hts hi12 hown hG.1 hP 0 rfl rfl 4 (by decide) lf86 (fun _ h9 => h9) rfl dX12_readNumber_103 ?_
          refine lv_iconst (v := iI 1) hx hb dX12_readNumber_106 (by decide) ?_
          refine lv_iadd hx hb dX12_readNumber_107 ?_
          refine lt_e (e0 := (u2.2.1 1) + 1) (Int32.ofInt_add _ _).symm (fun z_14 hz_14 => ?_)
          refine va_put (D := D) (ci := 12) (v := vI z_14) (ty := .int) (C := RX12) (T := TX12) (N := 38) hx hb hts hi12 tyX12 tyX12_ok nmX12 hown hG.1 hP hD hS 0 rfl rfl 4 (by decide) lf86 (fun _ h9 => h9) rfl (by decide +kernel) rfl rfl (Nat.le_of_ble_eq_true rfl) dX12_readNumber_108 (fun H locs hP hD hS => ?_)
          obtain ⟨hP, hD⟩ := pw9 [zO mm 12 [vI th, vR m1, vI tp, vI sz_, vI z_14, vI bad, vI bk, vI opn, vI fp, vR m9, vR m10, vR m11, vR m12, vR m13, vR m14, vR m15, vI im, vI nr, vI nl, vR m19, vR m20, vR m21, vI sp_, vR m23, vR m24, vR m25, vR m26, vR m27, vR m28, vI wtc, vI wcl, vI ir, vI ip, vR m33, vI shu, vR m35, vI sfa, vI swr], zI m9 (cy 0) 600 f9] hP hD
          refine lv_goto (tgt := 41) hx hb dX12_readNumber_111 (by decide) ?_
          refine (?_ : ∀ (fu : Nat) (qv : Int) (x : Int) (H : Heap) (locs : List Loc) (ls : Array Slot), 602 - x < (fu : Int) → (0 ≤ qv ∧ qv ≤ 99999) → (0 ≤ x ∧ x ≤ 602) → ((u2.2.1 1) < x) → (ap ≤ sz_ → x ≤ sz_) → va_P D vwCl [zO mm 12 [vI th, vR m1, vI tp, vI sz_, vI x, vI bad, vI bk, vI opn, vI fp, vR m9, vR m10, vR m11, vR m12, vR m13, vR m14, vR m15, vI im, vI nr, vI nl, vR m19, vR m20, vR m21, vI sp_, vR m23, vR m24, vR m25, vR m26, vR m27, vR m28, vI wtc, vI wcl, vI ir, vI ip, vR m33, vI shu, vR m35, vI sfa, vI swr], zI m9 (cy 0) 600 f9] H → va_D A [zO mm 12 [vI th, vR m1, vI tp, vI sz_, vI x, vI bad, vI bk, vI opn, vI fp, vR m9, vR m10, vR m11, vR m12, vR m13, vR m14, vR m15, vI im, vI nr, vI nl, vR m19, vR m20, vR m21, vI sp_, vR m23, vR m24, vR m25, vR m26, vR m27, vR m28, vI wtc, vI wcl, vI ir, vI ip, vR m33, vI shu, vR m35, vI sfa, vI swr], zI m9 (cy 0) 600 f9] → va_S A s.heap H locs → lv_has ls 6 [(5, vI qv), (4, vI (u2.2.1 1)), (3, vI (u2.2.1 0)), (0, vR mm), (1, vI lo), (2, vI hi)] → W p l e _ s m _ below meth c H locs _ _ _ (F0 m 41 ls [])) (((602 - z_14) + 1 : Int)).toNat z_13 z_14 _ _ _ (by omega) (by omega) (by omega) (by omega) (by omega)  hP hD hS hlv
          clear hP hD hS hlv
          intro fu
          induction fu with
          | zero => intro qv x H locs ls hm41 hl41_0 hl41_1 hl41_2 hl41_3  hP hD hS hlv; omega
          | succ fu ih41 =>
            intro qv x H locs ls hm41 hl41_0 hl41_1 hl41_2 hl41_3  hP hD hS hlv
            refine lv_aload_n hx hb dX12_readNumber_41 rfl (lv_at hlv 3 rfl) ?_
            refine va_get (D := D) (ci := 12) (v := vI x) (C := RX12) (T := TX12) (N := 38) hx hb hts hi12 hown hG.1 hP 0 rfl rfl 4 (by decide) lf86 (fun _ h9 => h9) rfl dX12_readNumber_42 ?_
            refine lv_aload_n hx hb dX12_readNumber_45 rfl (lv_at hlv 3 rfl) ?_
            refine va_get (D := D) (ci := 12) (v := vI sz_) (C := RX12) (T := TX12) (N := 38) hx hb hts hi12 hown hG.1 hP 0 rfl rfl 3 (by decide) lf89 (fun _ h9 => h9) rfl dX12_readNumber_46 ?_
            refine ir_ge (tgt := 114) hx hb dX12_readNumber_49 (by decide) (by first | exact rgw hl41_1 (by decide) (by decide) | omega) (by first | exact rgw hr_sz_ (by decide) (by decide) | omega) (fun c_15 => ?_) (fun c_15 => ?_)
            · refine lv_iload hx hb dX12_readNumber_114 (lv_at hlv 0 rfl) ?_
              refine lv_iload_n hx hb dX12_readNumber_116 rfl (lv_at hlv 4 rfl) ?_
              refine ir_lt (tgt := 126) hx hb dX12_readNumber_117 (by decide) (by first | exact rgw hl41_0 (by decide) (by decide) | omega) (by first | exact rgw hr_lo (by decide) (by decide) | omega) (fun c_16 => ?_) (fun c_16 => ?_)
              · refine lv_aload_n hx hb dX12_readNumber_126 rfl (lv_at hlv 3 rfl) ?_
                refine lv_iconst (v := iI 2) hx hb dX12_readNumber_127 (by decide) ?_
                refine lv_iload hx hb dX12_readNumber_128 (lv_at hlv 1 rfl) ?_
                refine cjr_v [false, true] (fun pre9 => (va_runV (As := [vI 2, vI (u2.2.1 1)]) (rest := []) ⟨hx, hb, hml, hown, hts⟩ (m_wrong l hl D cy sa mm m1 m9 m10 m11 m12 m13 m14 m15 m19 m20 m21 m23 m24 m25 m26 m27 m28 m33 m35 th tp sz_ x bad bk opn fp im nr nl sp_ wtc wcl ir ip shu sfa swr 2 (u2.2.1 1) H.size (by first | exact hr_th | omega) (by first | exact hr_tp | omega) (by first | exact hr_sz_ | omega) (by first | exact hl41_1 | omega) (by first | exact hr_bad | omega) (by first | exact hr_bk | omega) (by first | exact hr_opn | omega) (by first | exact hr_fp | omega) (by first | exact hr_im | omega) (by first | exact hr_nr | omega) (by first | exact hr_nl | omega) (by first | exact hr_sp_ | omega) (by first | exact hr_wtc | omega) (by first | exact hr_wcl | omega) (by first | exact hr_ir | omega) (by first | exact hr_ip | omega) (by first | exact hr_shu | omega) (by first | exact hr_sfa | omega) (by first | exact hr_swr | omega) (by show (1 : Int) ≤ 2 ∧ (2 : Int) ≤ 4; decide) (by first | exact hq2_1 | omega)) (cwV 2 hts gg_4 rfl rfl rfl (by decide +kernel) ⟨Nat.le_of_ble_eq_true rfl, Nat.le_of_ble_eq_true rfl⟩) ⟨pcW.blind, (va_recv hG.1 hP (ci := 12) (q0 := 0) rfl rfl), pre9⟩ rfl rfl hlv.1 rfl (lv_room (Nat.le_of_ble_eq_true rfl)) dX12_readNumber_130 ⟨Nat.le_of_ble_eq_true rfl, Nat.le_of_ble_eq_true rfl⟩)) hP hD hS hA hG hT [0] rfl (by decide +kernel) (fun u9 H locs hw9 hq9 hS => ?_)
                obtain ⟨hq9_0, hq9_1, hq9_2, hq9_3⟩ := hw9
                obtain ⟨hP, hD⟩ := pd9 [zI m9 (cy 0) 600 f9, zO mm 12 [vI th, vR m1, vI tp, vI sz_, vI x, vI (u9.2.1 0), vI (u9.2.1 1), vI opn, vI fp, vR m9, vR m10, vR m11, vR m12, vR m13, vR m14, vR m15, vI im, vI nr, vI nl, vR m19, vR m20, vR m21, vI sp_, vR m23, vR m24, vR m25, vR m26, vR m27, vR m28, vI wtc, vI wcl, vI ir, vI ip, vR m33, vI shu, vR m35, vI sfa, vI swr]] hq9
                refine lv_iconst (v := iI 0) hx hb dX12_readNumber_133 (by decide) ?_
                refine W.widen (k := 0) (n := 0) (Nat.le_of_ble_eq_true rfl) (Nat.le_of_ble_eq_true rfl) ?_
                exact W.iret (v := iI 0) hx hb hr (fun t ht hW => ⟨⟨iI 0, ((fun k => ([] : List Nat).getD k 0), (fun k => ([0, x, (u9.2.1 0), (u9.2.1 1)] : List Int).getD k 0), (fun k => ([] : List (Nat → Int32)).getD k (fun _ => 0))), rfl, ⟨rfl, (by show (0 ≤ x ∧ x ≤ 602); first | exact hl41_1 | omega), (by show ((-1) ≤ (u9.2.1 0) ∧ (u9.2.1 0) ≤ 602); first | exact rgw hq9_0 (by decide) (by decide) | omega), (by show (0 ≤ (u9.2.1 1) ∧ (u9.2.1 1) ≤ 4); first | exact hq9_1 | omega), (by show (0 ≤ 0 ∧ 0 ≤ 99999); show (0 : Int) ≤ 0 ∧ (0 : Int) ≤ 99999; decide), (by show (ap ≤ x); omega), (by show (ap ≤ sz_ → x ≤ sz_); omega), (by show ((u9.2.1 0) = -1 → bad = -1 ∧ lo ≤ 0 ∧ 0 ≤ hi ∧ ap < x); omega), (by show (bad ≠ -1 → x = ap ∧ (u9.2.1 0) = bad); omega), (by show ((u9.2.1 0) ≠ -1 → 0 = 0); omega), hq2_9⟩, at9 ht hP hD [1, 0] (by decide +kernel) rfl⟩, hS.F ht⟩) hS.2.2 dX12_readNumber_134
              · refine lv_iload hx hb dX12_readNumber_120 (lv_at hlv 0 rfl) ?_
                refine lv_iload_n hx hb dX12_readNumber_122 rfl (lv_at hlv 5 rfl) ?_
                refine ir_le (tgt := 135) hx hb dX12_readNumber_123 (by decide) (by first | exact rgw hl41_0 (by decide) (by decide) | omega) (by first | exact rgw hr_hi (by decide) (by decide) | omega) (fun c_17 => ?_) (fun c_17 => ?_)
                · refine lv_iload hx hb dX12_readNumber_135 (lv_at hlv 0 rfl) ?_
                  refine W.widen (k := 0) (n := 0) (Nat.le_of_ble_eq_true rfl) (Nat.le_of_ble_eq_true rfl) ?_
                  exact W.iret (v := iI qv) hx hb hr (fun t ht hW => ⟨⟨iI qv, ((fun k => ([] : List Nat).getD k 0), (fun k => ([qv, x, bad, bk] : List Int).getD k 0), (fun k => ([] : List (Nat → Int32)).getD k (fun _ => 0))), rfl, ⟨rfl, (by show (0 ≤ x ∧ x ≤ 602); first | exact hl41_1 | omega), (by show ((-1) ≤ bad ∧ bad ≤ 602); first | exact hr_bad | omega), (by show (0 ≤ bk ∧ bk ≤ 4); first | exact hr_bk | omega), (by show (0 ≤ qv ∧ qv ≤ 99999); first | exact hl41_0 | omega), (by show (ap ≤ x); omega), (by show (ap ≤ sz_ → x ≤ sz_); omega), (by show (bad = -1 → bad = -1 ∧ lo ≤ qv ∧ qv ≤ hi ∧ ap < x); omega), (by show (bad ≠ -1 → x = ap ∧ bad = bad); omega), (by show (bad ≠ -1 → qv = 0); omega), hq2_9⟩, at9 ht hP hD [0, 1] (by decide +kernel) rfl⟩, hS.F ht⟩) hS.2.2 dX12_readNumber_137
                · refine lv_aload_n hx hb dX12_readNumber_126 rfl (lv_at hlv 3 rfl) ?_
                  refine lv_iconst (v := iI 2) hx hb dX12_readNumber_127 (by decide) ?_
                  refine lv_iload hx hb dX12_readNumber_128 (lv_at hlv 1 rfl) ?_
                  refine cjr_v [false, true] (fun pre9 => (va_runV (As := [vI 2, vI (u2.2.1 1)]) (rest := []) ⟨hx, hb, hml, hown, hts⟩ (m_wrong l hl D cy sa mm m1 m9 m10 m11 m12 m13 m14 m15 m19 m20 m21 m23 m24 m25 m26 m27 m28 m33 m35 th tp sz_ x bad bk opn fp im nr nl sp_ wtc wcl ir ip shu sfa swr 2 (u2.2.1 1) H.size (by first | exact hr_th | omega) (by first | exact hr_tp | omega) (by first | exact hr_sz_ | omega) (by first | exact hl41_1 | omega) (by first | exact hr_bad | omega) (by first | exact hr_bk | omega) (by first | exact hr_opn | omega) (by first | exact hr_fp | omega) (by first | exact hr_im | omega) (by first | exact hr_nr | omega) (by first | exact hr_nl | omega) (by first | exact hr_sp_ | omega) (by first | exact hr_wtc | omega) (by first | exact hr_wcl | omega) (by first | exact hr_ir | omega) (by first | exact hr_ip | omega) (by first | exact hr_shu | omega) (by first | exact hr_sfa | omega) (by first | exact hr_swr | omega) (by show (1 : Int) ≤ 2 ∧ (2 : Int) ≤ 4; decide) (by first | exact hq2_1 | omega)) (cwV 2 hts gg_4 rfl rfl rfl (by decide +kernel) ⟨Nat.le_of_ble_eq_true rfl, Nat.le_of_ble_eq_true rfl⟩) ⟨pcW.blind, (va_recv hG.1 hP (ci := 12) (q0 := 0) rfl rfl), pre9⟩ rfl rfl hlv.1 rfl (lv_room (Nat.le_of_ble_eq_true rfl)) dX12_readNumber_130 ⟨Nat.le_of_ble_eq_true rfl, Nat.le_of_ble_eq_true rfl⟩)) hP hD hS hA hG hT [0] rfl (by decide +kernel) (fun u10 H locs hw10 hq9 hS => ?_)
                  obtain ⟨hq10_0, hq10_1, hq10_2, hq10_3⟩ := hw10
                  obtain ⟨hP, hD⟩ := pd9 [zI m9 (cy 0) 600 f9, zO mm 12 [vI th, vR m1, vI tp, vI sz_, vI x, vI (u10.2.1 0), vI (u10.2.1 1), vI opn, vI fp, vR m9, vR m10, vR m11, vR m12, vR m13, vR m14, vR m15, vI im, vI nr, vI nl, vR m19, vR m20, vR m21, vI sp_, vR m23, vR m24, vR m25, vR m26, vR m27, vR m28, vI wtc, vI wcl, vI ir, vI ip, vR m33, vI shu, vR m35, vI sfa, vI swr]] hq9
                  refine lv_iconst (v := iI 0) hx hb dX12_readNumber_133 (by decide) ?_
                  refine W.widen (k := 0) (n := 0) (Nat.le_of_ble_eq_true rfl) (Nat.le_of_ble_eq_true rfl) ?_
                  exact W.iret (v := iI 0) hx hb hr (fun t ht hW => ⟨⟨iI 0, ((fun k => ([] : List Nat).getD k 0), (fun k => ([0, x, (u10.2.1 0), (u10.2.1 1)] : List Int).getD k 0), (fun k => ([] : List (Nat → Int32)).getD k (fun _ => 0))), rfl, ⟨rfl, (by show (0 ≤ x ∧ x ≤ 602); first | exact hl41_1 | omega), (by show ((-1) ≤ (u10.2.1 0) ∧ (u10.2.1 0) ≤ 602); first | exact rgw hq10_0 (by decide) (by decide) | omega), (by show (0 ≤ (u10.2.1 1) ∧ (u10.2.1 1) ≤ 4); first | exact hq10_1 | omega), (by show (0 ≤ 0 ∧ 0 ≤ 99999); show (0 : Int) ≤ 0 ∧ (0 : Int) ≤ 99999; decide), (by show (ap ≤ x); omega), (by show (ap ≤ sz_ → x ≤ sz_); omega), (by show ((u10.2.1 0) = -1 → bad = -1 ∧ lo ≤ 0 ∧ 0 ≤ hi ∧ ap < x); omega), (by show (bad ≠ -1 → x = ap ∧ (u10.2.1 0) = bad); omega), (by show ((u10.2.1 0) ≠ -1 → 0 = 0); omega), hq2_9⟩, at9 ht hP hD [1, 0] (by decide +kernel) rfl⟩, hS.F ht⟩) hS.2.2 dX12_readNumber_134
            · refine lv_aload_n hx hb dX12_readNumber_52 rfl (lv_at hlv 3 rfl) ?_
              refine va_get (D := D) (ci := 12) (v := vR m9) (C := RX12) (T := TX12) (N := 38) hx hb hts hi12 hown hG.1 hP 0 rfl rfl 9 (by decide) lf20 (fun _ h9 => h9) rfl dX12_readNumber_53 ?_
              refine lv_aload_n hx hb dX12_readNumber_56 rfl (lv_at hlv 3 rfl) ?_
              refine va_get (D := D) (ci := 12) (v := vI x) (C := RX12) (T := TX12) (N := 38) hx hb hts hi12 hown hG.1 hP 0 rfl rfl 4 (by decide) lf86 (fun _ h9 => h9) rfl dX12_readNumber_57 ?_
              refine va_iald hx hb hG.1 hP 1 0 rfl rfl (iI_in (by omega) (by decide)) dX12_readNumber_60 ?_
              refine lt_nz (i := x) (by omega) (fun z_18 hz_18 lz_18 uz_18 => ?_)
              have hbz_18_6 := inv_nz hq2_9 (k := x.toNat) (by omega)
              refine cjr_i [true, true] (fun pre9 => (va_runS (As := [vI z_18]) (rest := []) ⟨hx, hb, hml, hown, hts⟩ (m_isDigit l hl D cy sa z_18 H.size (by omega)) (va_cwS 1 hts gg_3 rfl rfl rfl (by decide +kernel) ⟨Nat.le_of_ble_eq_true rfl, Nat.le_of_ble_eq_true rfl⟩) ⟨pcW.blind, pre9⟩ rfl rfl hlv.1 rfl (lv_room (Nat.le_of_ble_eq_true rfl)) dX12_readNumber_61 ⟨Nat.le_of_ble_eq_true rfl, Nat.le_of_ble_eq_true rfl⟩)) hP hD hS hA hG hT [] rfl (by decide +kernel) (fun r11 u11 H locs hw11 hq9 hS => ?_)
              obtain ⟨rfl, hq11_1, hq11_2, hq11_3⟩ := hw11
              obtain ⟨hP, hD⟩ := pd9 [zO mm 12 [vI th, vR m1, vI tp, vI sz_, vI x, vI bad, vI bk, vI opn, vI fp, vR m9, vR m10, vR m11, vR m12, vR m13, vR m14, vR m15, vI im, vI nr, vI nl, vR m19, vR m20, vR m21, vI sp_, vR m23, vR m24, vR m25, vR m26, vR m27, vR m28, vI wtc, vI wcl, vI ir, vI ip, vR m33, vI shu, vR m35, vI sfa, vI swr], zI m9 (cy 0) 600 f9] hq9
              refine iz_eq (tgt := 114) hx hb dX12_readNumber_64 (by decide) (by first | exact rgw hq11_1 (by decide) (by decide) | omega) (fun c_19 => ?_) (fun c_19 => ?_)
              · refine lv_iload hx hb dX12_readNumber_114 (lv_at hlv 0 rfl) ?_
                refine lv_iload_n hx hb dX12_readNumber_116 rfl (lv_at hlv 4 rfl) ?_
                refine ir_lt (tgt := 126) hx hb dX12_readNumber_117 (by decide) (by first | exact rgw hl41_0 (by decide) (by decide) | omega) (by first | exact rgw hr_lo (by decide) (by decide) | omega) (fun c_20 => ?_) (fun c_20 => ?_)
                · refine lv_aload_n hx hb dX12_readNumber_126 rfl (lv_at hlv 3 rfl) ?_
                  refine lv_iconst (v := iI 2) hx hb dX12_readNumber_127 (by decide) ?_
                  refine lv_iload hx hb dX12_readNumber_128 (lv_at hlv 1 rfl) ?_
                  refine cjr_v [false, true] (fun pre9 => (va_runV (As := [vI 2, vI (u2.2.1 1)]) (rest := []) ⟨hx, hb, hml, hown, hts⟩ (m_wrong l hl D cy sa mm m1 m9 m10 m11 m12 m13 m14 m15 m19 m20 m21 m23 m24 m25 m26 m27 m28 m33 m35 th tp sz_ x bad bk opn fp im nr nl sp_ wtc wcl ir ip shu sfa swr 2 (u2.2.1 1) H.size (by first | exact hr_th | omega) (by first | exact hr_tp | omega) (by first | exact hr_sz_ | omega) (by first | exact hl41_1 | omega) (by first | exact hr_bad | omega) (by first | exact hr_bk | omega) (by first | exact hr_opn | omega) (by first | exact hr_fp | omega) (by first | exact hr_im | omega) (by first | exact hr_nr | omega) (by first | exact hr_nl | omega) (by first | exact hr_sp_ | omega) (by first | exact hr_wtc | omega) (by first | exact hr_wcl | omega) (by first | exact hr_ir | omega) (by first | exact hr_ip | omega) (by first | exact hr_shu | omega) (by first | exact hr_sfa | omega) (by first | exact hr_swr | omega) (by show (1 : Int) ≤ 2 ∧ (2 : Int) ≤ 4; decide) (by first | exact hq2_1 | omega)) (cwV 2 hts gg_4 rfl rfl rfl (by decide +kernel) ⟨Nat.le_of_ble_eq_true rfl, Nat.le_of_ble_eq_true rfl⟩) ⟨pcW.blind, (va_recv hG.1 hP (ci := 12) (q0 := 0) rfl rfl), pre9⟩ rfl rfl hlv.1 rfl (lv_room (Nat.le_of_ble_eq_true rfl)) dX12_readNumber_130 ⟨Nat.le_of_ble_eq_true rfl, Nat.le_of_ble_eq_true rfl⟩)) hP hD hS hA hG hT [0] rfl (by decide +kernel) (fun u12 H locs hw12 hq9 hS => ?_)
                  obtain ⟨hq12_0, hq12_1, hq12_2, hq12_3⟩ := hw12
                  obtain ⟨hP, hD⟩ := pd9 [zI m9 (cy 0) 600 f9, zO mm 12 [vI th, vR m1, vI tp, vI sz_, vI x, vI (u12.2.1 0), vI (u12.2.1 1), vI opn, vI fp, vR m9, vR m10, vR m11, vR m12, vR m13, vR m14, vR m15, vI im, vI nr, vI nl, vR m19, vR m20, vR m21, vI sp_, vR m23, vR m24, vR m25, vR m26, vR m27, vR m28, vI wtc, vI wcl, vI ir, vI ip, vR m33, vI shu, vR m35, vI sfa, vI swr]] hq9
                  refine lv_iconst (v := iI 0) hx hb dX12_readNumber_133 (by decide) ?_
                  refine W.widen (k := 0) (n := 0) (Nat.le_of_ble_eq_true rfl) (Nat.le_of_ble_eq_true rfl) ?_
                  exact W.iret (v := iI 0) hx hb hr (fun t ht hW => ⟨⟨iI 0, ((fun k => ([] : List Nat).getD k 0), (fun k => ([0, x, (u12.2.1 0), (u12.2.1 1)] : List Int).getD k 0), (fun k => ([] : List (Nat → Int32)).getD k (fun _ => 0))), rfl, ⟨rfl, (by show (0 ≤ x ∧ x ≤ 602); first | exact hl41_1 | omega), (by show ((-1) ≤ (u12.2.1 0) ∧ (u12.2.1 0) ≤ 602); first | exact rgw hq12_0 (by decide) (by decide) | omega), (by show (0 ≤ (u12.2.1 1) ∧ (u12.2.1 1) ≤ 4); first | exact hq12_1 | omega), (by show (0 ≤ 0 ∧ 0 ≤ 99999); show (0 : Int) ≤ 0 ∧ (0 : Int) ≤ 99999; decide), (by show (ap ≤ x); omega), (by show (ap ≤ sz_ → x ≤ sz_); omega), (by show ((u12.2.1 0) = -1 → bad = -1 ∧ lo ≤ 0 ∧ 0 ≤ hi ∧ ap < x); omega), (by show (bad ≠ -1 → x = ap ∧ (u12.2.1 0) = bad); omega), (by show ((u12.2.1 0) ≠ -1 → 0 = 0); omega), hq2_9⟩, at9 ht hP hD [1, 0] (by decide +kernel) rfl⟩, hS.F ht⟩) hS.2.2 dX12_readNumber_134
                · refine lv_iload hx hb dX12_readNumber_120 (lv_at hlv 0 rfl) ?_
                  refine lv_iload_n hx hb dX12_readNumber_122 rfl (lv_at hlv 5 rfl) ?_
                  refine ir_le (tgt := 135) hx hb dX12_readNumber_123 (by decide) (by first | exact rgw hl41_0 (by decide) (by decide) | omega) (by first | exact rgw hr_hi (by decide) (by decide) | omega) (fun c_21 => ?_) (fun c_21 => ?_)
                  · refine lv_iload hx hb dX12_readNumber_135 (lv_at hlv 0 rfl) ?_
                    refine W.widen (k := 0) (n := 0) (Nat.le_of_ble_eq_true rfl) (Nat.le_of_ble_eq_true rfl) ?_
                    exact W.iret (v := iI qv) hx hb hr (fun t ht hW => ⟨⟨iI qv, ((fun k => ([] : List Nat).getD k 0), (fun k => ([qv, x, bad, bk] : List Int).getD k 0), (fun k => ([] : List (Nat → Int32)).getD k (fun _ => 0))), rfl, ⟨rfl, (by show (0 ≤ x ∧ x ≤ 602); first | exact hl41_1 | omega), (by show ((-1) ≤ bad ∧ bad ≤ 602); first | exact hr_bad | omega), (by show (0 ≤ bk ∧ bk ≤ 4); first | exact hr_bk | omega), (by show (0 ≤ qv ∧ qv ≤ 99999); first | exact hl41_0 | omega), (by show (ap ≤ x); omega), (by show (ap ≤ sz_ → x ≤ sz_); omega), (by show (bad = -1 → bad = -1 ∧ lo ≤ qv ∧ qv ≤ hi ∧ ap < x); omega), (by show (bad ≠ -1 → x = ap ∧ bad = bad); omega), (by show (bad ≠ -1 → qv = 0); omega), hq2_9⟩, at9 ht hP hD [0, 1] (by decide +kernel) rfl⟩, hS.F ht⟩) hS.2.2 dX12_readNumber_137
                  · refine lv_aload_n hx hb dX12_readNumber_126 rfl (lv_at hlv 3 rfl) ?_
                    refine lv_iconst (v := iI 2) hx hb dX12_readNumber_127 (by decide) ?_
                    refine lv_iload hx hb dX12_readNumber_128 (lv_at hlv 1 rfl) ?_
                    refine cjr_v [false, true] (fun pre9 => (va_runV (As := [vI 2, vI (u2.2.1 1)]) (rest := []) ⟨hx, hb, hml, hown, hts⟩ (m_wrong l hl D cy sa mm m1 m9 m10 m11 m12 m13 m14 m15 m19 m20 m21 m23 m24 m25 m26 m27 m28 m33 m35 th tp sz_ x bad bk opn fp im nr nl sp_ wtc wcl ir ip shu sfa swr 2 (u2.2.1 1) H.size (by first | exact hr_th | omega) (by first | exact hr_tp | omega) (by first | exact hr_sz_ | omega) (by first | exact hl41_1 | omega) (by first | exact hr_bad | omega) (by first | exact hr_bk | omega) (by first | exact hr_opn | omega) (by first | exact hr_fp | omega) (by first | exact hr_im | omega) (by first | exact hr_nr | omega) (by first | exact hr_nl | omega) (by first | exact hr_sp_ | omega) (by first | exact hr_wtc | omega) (by first | exact hr_wcl | omega) (by first | exact hr_ir | omega) (by first | exact hr_ip | omega) (by first | exact hr_shu | omega) (by first | exact hr_sfa | omega) (by first | exact hr_swr | omega) (by show (1 : Int) ≤ 2 ∧ (2 : Int) ≤ 4; decide) (by first | exact hq2_1 | omega)) (cwV 2 hts gg_4 rfl rfl rfl (by decide +kernel) ⟨Nat.le_of_ble_eq_true rfl, Nat.le_of_ble_eq_true rfl⟩) ⟨pcW.blind, (va_recv hG.1 hP (ci := 12) (q0 := 0) rfl rfl), pre9⟩ rfl rfl hlv.1 rfl (lv_room (Nat.le_of_ble_eq_true rfl)) dX12_readNumber_130 ⟨Nat.le_of_ble_eq_true rfl, Nat.le_of_ble_eq_true rfl⟩)) hP hD hS hA hG hT [0] rfl (by decide +kernel) (fun u13 H locs hw13 hq9 hS => ?_)
                    obtain ⟨hq13_0, hq13_1, hq13_2, hq13_3⟩ := hw13
                    obtain ⟨hP, hD⟩ := pd9 [zI m9 (cy 0) 600 f9, zO mm 12 [vI th, vR m1, vI tp, vI sz_, vI x, vI (u13.2.1 0), vI (u13.2.1 1), vI opn, vI fp, vR m9, vR m10, vR m11, vR m12, vR m13, vR m14, vR m15, vI im, vI nr, vI nl, vR m19, vR m20, vR m21, vI sp_, vR m23, vR m24, vR m25, vR m26, vR m27, vR m28, vI wtc, vI wcl, vI ir, vI ip, vR m33, vI shu, vR m35, vI sfa, vI swr]] hq9
                    refine lv_iconst (v := iI 0) hx hb dX12_readNumber_133 (by decide) ?_
                    refine W.widen (k := 0) (n := 0) (Nat.le_of_ble_eq_true rfl) (Nat.le_of_ble_eq_true rfl) ?_
                    exact W.iret (v := iI 0) hx hb hr (fun t ht hW => ⟨⟨iI 0, ((fun k => ([] : List Nat).getD k 0), (fun k => ([0, x, (u13.2.1 0), (u13.2.1 1)] : List Int).getD k 0), (fun k => ([] : List (Nat → Int32)).getD k (fun _ => 0))), rfl, ⟨rfl, (by show (0 ≤ x ∧ x ≤ 602); first | exact hl41_1 | omega), (by show ((-1) ≤ (u13.2.1 0) ∧ (u13.2.1 0) ≤ 602); first | exact rgw hq13_0 (by decide) (by decide) | omega), (by show (0 ≤ (u13.2.1 1) ∧ (u13.2.1 1) ≤ 4); first | exact hq13_1 | omega), (by show (0 ≤ 0 ∧ 0 ≤ 99999); show (0 : Int) ≤ 0 ∧ (0 : Int) ≤ 99999; decide), (by show (ap ≤ x); omega), (by show (ap ≤ sz_ → x ≤ sz_); omega), (by show ((u13.2.1 0) = -1 → bad = -1 ∧ lo ≤ 0 ∧ 0 ≤ hi ∧ ap < x); omega), (by show (bad ≠ -1 → x = ap ∧ (u13.2.1 0) = bad); omega), (by show ((u13.2.1 0) ≠ -1 → 0 = 0); omega), hq2_9⟩, at9 ht hP hD [1, 0] (by decide +kernel) rfl⟩, hS.F ht⟩) hS.2.2 dX12_readNumber_134
              · refine lv_iload hx hb dX12_readNumber_67 (lv_at hlv 0 rfl) ?_
                refine lv_sipush (v := iI 9999) hx hb dX12_readNumber_69 (by decide) ?_
                refine ir_le (tgt := 81) hx hb dX12_readNumber_72 (by decide) (by first | exact rgw hl41_0 (by decide) (by decide) | omega) (by show ((-2147483648) : Int) ≤ 9999 ∧ (9999 : Int) ≤ 2147483647; decide) (fun c_22 => ?_) (fun c_22 => ?_)
                · refine lv_bipush (v := iI 10) hx hb dX12_readNumber_81 (by decide) ?_
                  refine lv_iload hx hb dX12_readNumber_83 (lv_at hlv 0 rfl) ?_
                  refine lv_imul hx hb dX12_readNumber_85 ?_
                  refine lt_e (e0 := 10 * qv) (Int32.ofInt_mul _ _).symm (fun z_23 hz_23 => ?_)
                  refine lv_aload_n hx hb dX12_readNumber_86 rfl (lv_at hlv 3 rfl) ?_
                  refine va_get (D := D) (ci := 12) (v := vR m9) (C := RX12) (T := TX12) (N := 38) hx hb hts hi12 hown hG.1 hP 0 rfl rfl 9 (by decide) lf20 (fun _ h9 => h9) rfl dX12_readNumber_87 ?_
                  refine lv_aload_n hx hb dX12_readNumber_90 rfl (lv_at hlv 3 rfl) ?_
                  refine va_get (D := D) (ci := 12) (v := vI x) (C := RX12) (T := TX12) (N := 38) hx hb hts hi12 hown hG.1 hP 0 rfl rfl 4 (by decide) lf86 (fun _ h9 => h9) rfl dX12_readNumber_91 ?_
                  refine va_iald hx hb hG.1 hP 1 0 rfl rfl (iI_in (by omega) (by decide)) dX12_readNumber_94 ?_
                  refine lt_nz (i := x) (by omega) (fun z_24 hz_24 lz_24 uz_24 => ?_)
                  have hbz_24_10 := inv_nz hq2_9 (k := x.toNat) (by omega)
                  refine lv_iadd hx hb dX12_readNumber_95 ?_
                  refine lt_e (e0 := z_23 + z_24) (Int32.ofInt_add _ _).symm (fun z_25 hz_25 => ?_)
                  refine lv_bipush (v := iI 48) hx hb dX12_readNumber_96 (by decide) ?_
                  refine lv_isub hx hb dX12_readNumber_98 ?_
                  refine lt_e (e0 := z_25 - 48) (Int32.ofInt_sub _ _).symm (fun z_26 hz_26 => ?_)
                  refine lv_istore (lv' := [(5, vI z_26), (4, vI (u2.2.1 1)), (3, vI (u2.2.1 0)), (0, vR mm), (1, vI lo), (2, vI hi)]) hx hb dX12_readNumber_99 hlv (by decide) rfl (fun ls hlv => ?_)
                  refine lv_aload_n hx hb dX12_readNumber_101 rfl (lv_at hlv 3 rfl) ?_
                  refine lv_dup hx hb dX12_readNumber_102 rfl ?_
                  refine va_get (D := D) (ci := 12) (v := vI x) (C := RX12) (T := TX12) (N := 38) hx hb hts hi12 hown hG.1 hP 0 rfl rfl 4 (by decide) lf86 (fun _ h9 => h9) rfl dX12_readNumber_103 ?_
                  refine lv_iconst (v := iI 1) hx hb dX12_readNumber_106 (by decide) ?_
                  refine lv_iadd hx hb dX12_readNumber_107 ?_
                  refine lt_e (e0 := x + 1) (Int32.ofInt_add _ _).symm (fun z_27 hz_27 => ?_)
                  refine va_put (D := D) (ci := 12) (v := vI z_27) (ty := .int) (C := RX12) (T := TX12) (N := 38) hx hb hts hi12 tyX12 tyX12_ok nmX12 hown hG.1 hP hD hS 0 rfl rfl 4 (by decide) lf86 (fun _ h9 => h9) rfl (by decide +kernel) rfl rfl (Nat.le_of_ble_eq_true rfl) dX12_readNumber_108 (fun H locs hP hD hS => ?_)
                  obtain ⟨hP, hD⟩ := pw9 [zO mm 12 [vI th, vR m1, vI tp, vI sz_, vI z_27, vI bad, vI bk, vI opn, vI fp, vR m9, vR m10, vR m11, vR m12, vR m13, vR m14, vR m15, vI im, vI nr, vI nl, vR m19, vR m20, vR m21, vI sp_, vR m23, vR m24, vR m25, vR m26, vR m27, vR m28, vI wtc, vI wcl, vI ir, vI ip, vR m33, vI shu, vR m35, vI sfa, vI swr], zI m9 (cy 0) 600 f9] hP hD
                  refine lv_goto (tgt := 41) hx hb dX12_readNumber_111 (by decide) ?_
                  exact ih41 z_26 z_27 H locs ls (by omega) (by omega) (by omega) (by omega) (by omega)  (hP.sub [0, 1] rfl) (hD.sub [0, 1] (by decide) rfl) hS (lv_sub hlv [0, 1, 2, 3, 4, 5] rfl)
                · refine lv_sipush (v := iI 10000) hx hb dX12_readNumber_75 (by decide) ?_
                  refine lv_goto (tgt := 99) hx hb dX12_readNumber_78 (by decide) ?_
                  refine lv_istore (lv' := [(5, vI 10000), (4, vI (u2.2.1 1)), (3, vI (u2.2.1 0)), (0, vR mm), (1, vI lo), (2, vI hi)]) hx hb dX12_readNumber_99 hlv (by decide) rfl (fun ls hlv => ?_)
                  refine lv_aload_n hx hb dX12_readNumber_101 rfl (lv_at hlv 3 rfl) ?_
                  refine lv_dup hx hb dX12_readNumber_102 rfl ?_
                  refine va_get (D := D) (ci := 12) (v := vI x) (C := RX12) (T := TX12) (N := 38) hx hb hts hi12 hown hG.1 hP 0 rfl rfl 4 (by decide) lf86 (fun _ h9 => h9) rfl dX12_readNumber_103 ?_
                  refine lv_iconst (v := iI 1) hx hb dX12_readNumber_106 (by decide) ?_
                  refine lv_iadd hx hb dX12_readNumber_107 ?_
                  refine lt_e (e0 := x + 1) (Int32.ofInt_add _ _).symm (fun z_28 hz_28 => ?_)
                  refine va_put (D := D) (ci := 12) (v := vI z_28) (ty := .int) (C := RX12) (T := TX12) (N := 38) hx hb hts hi12 tyX12 tyX12_ok nmX12 hown hG.1 hP hD hS 0 rfl rfl 4 (by decide) lf86 (fun _ h9 => h9) rfl (by decide +kernel) rfl rfl (Nat.le_of_ble_eq_true rfl) dX12_readNumber_108 (fun H locs hP hD hS => ?_)
                  obtain ⟨hP, hD⟩ := pw9 [zO mm 12 [vI th, vR m1, vI tp, vI sz_, vI z_28, vI bad, vI bk, vI opn, vI fp, vR m9, vR m10, vR m11, vR m12, vR m13, vR m14, vR m15, vI im, vI nr, vI nl, vR m19, vR m20, vR m21, vI sp_, vR m23, vR m24, vR m25, vR m26, vR m27, vR m28, vI wtc, vI wcl, vI ir, vI ip, vR m33, vI shu, vR m35, vI sfa, vI swr], zI m9 (cy 0) 600 f9] hP hD
                  refine lv_goto (tgt := 41) hx hb dX12_readNumber_111 (by decide) ?_
                  exact ih41 10000 z_28 H locs ls (by omega) (by show (0 : Int) ≤ 10000 ∧ (10000 : Int) ≤ 99999; decide) (by omega) (by omega) (by omega)  (hP.sub [0, 1] rfl) (hD.sub [0, 1] (by decide) rfl) hS (lv_sub hlv [0, 1, 2, 3, 4, 5] rfl)
    · refine lv_aload_n hx hb dX12_readNumber_30 rfl (lv_at hlv 3 rfl) ?_
      refine lv_iconst (v := iI 1) hx hb dX12_readNumber_31 (by decide) ?_
      refine lv_aload_n hx hb dX12_readNumber_32 rfl (lv_at hlv 3 rfl) ?_
      refine va_get (D := D) (ci := 12) (v := vI (u2.2.1 1)) (C := RX12) (T := TX12) (N := 38) hx hb hts hi12 hown hG.1 hP 0 rfl rfl 4 (by decide) lf86 (fun _ h9 => h9) rfl dX12_readNumber_33 ?_
      refine cjr_v [false, true] (fun pre9 => (va_runV (As := [vI 1, vI (u2.2.1 1)]) (rest := []) ⟨hx, hb, hml, hown, hts⟩ (m_wrong l hl D cy sa mm m1 m9 m10 m11 m12 m13 m14 m15 m19 m20 m21 m23 m24 m25 m26 m27 m28 m33 m35 th tp sz_ (u2.2.1 1) bad bk opn fp im nr nl sp_ wtc wcl ir ip shu sfa swr 1 (u2.2.1 1) H.size (by first | exact hr_th | omega) (by first | exact hr_tp | omega) (by first | exact hr_sz_ | omega) (by first | exact hq2_1 | omega) (by first | exact hr_bad | omega) (by first | exact hr_bk | omega) (by first | exact hr_opn | omega) (by first | exact hr_fp | omega) (by first | exact hr_im | omega) (by first | exact hr_nr | omega) (by first | exact hr_nl | omega) (by first | exact hr_sp_ | omega) (by first | exact hr_wtc | omega) (by first | exact hr_wcl | omega) (by first | exact hr_ir | omega) (by first | exact hr_ip | omega) (by first | exact hr_shu | omega) (by first | exact hr_sfa | omega) (by first | exact hr_swr | omega) (by show (1 : Int) ≤ 1 ∧ (1 : Int) ≤ 4; decide) (by first | exact hq2_1 | omega)) (cwV 2 hts gg_4 rfl rfl rfl (by decide +kernel) ⟨Nat.le_of_ble_eq_true rfl, Nat.le_of_ble_eq_true rfl⟩) ⟨pcW.blind, (va_recv hG.1 hP (ci := 12) (q0 := 0) rfl rfl), pre9⟩ rfl rfl hlv.1 rfl (lv_room (Nat.le_of_ble_eq_true rfl)) dX12_readNumber_36 ⟨Nat.le_of_ble_eq_true rfl, Nat.le_of_ble_eq_true rfl⟩)) hP hD hS hA hG hT [0] rfl (by decide +kernel) (fun u14 H locs hw14 hq9 hS => ?_)
      obtain ⟨hq14_0, hq14_1, hq14_2, hq14_3⟩ := hw14
      obtain ⟨hP, hD⟩ := pd9 [zI m9 (cy 0) 600 f9, zO mm 12 [vI th, vR m1, vI tp, vI sz_, vI (u2.2.1 1), vI (u14.2.1 0), vI (u14.2.1 1), vI opn, vI fp, vR m9, vR m10, vR m11, vR m12, vR m13, vR m14, vR m15, vI im, vI nr, vI nl, vR m19, vR m20, vR m21, vI sp_, vR m23, vR m24, vR m25, vR m26, vR m27, vR m28, vI wtc, vI wcl, vI ir, vI ip, vR m33, vI shu, vR m35, vI sfa, vI swr]] hq9
      refine lv_iconst (v := iI 0) hx hb dX12_readNumber_39 (by decide) ?_
      refine W.widen (k := 0) (n := 0) (Nat.le_of_ble_eq_true rfl) (Nat.le_of_ble_eq_true rfl) ?_
      exact W.iret (v := iI 0) hx hb hr (fun t ht hW => ⟨⟨iI 0, ((fun k => ([] : List Nat).getD k 0), (fun k => ([0, (u2.2.1 1), (u14.2.1 0), (u14.2.1 1)] : List Int).getD k 0), (fun k => ([] : List (Nat → Int32)).getD k (fun _ => 0))), rfl, ⟨rfl, (by show (0 ≤ (u2.2.1 1) ∧ (u2.2.1 1) ≤ 602); first | exact hq2_1 | omega), (by show ((-1) ≤ (u14.2.1 0) ∧ (u14.2.1 0) ≤ 602); first | exact rgw hq14_0 (by decide) (by decide) | omega), (by show (0 ≤ (u14.2.1 1) ∧ (u14.2.1 1) ≤ 4); first | exact hq14_1 | omega), (by show (0 ≤ 0 ∧ 0 ≤ 99999); show (0 : Int) ≤ 0 ∧ (0 : Int) ≤ 99999; decide), (by show (ap ≤ (u2.2.1 1)); omega), (by show (ap ≤ sz_ → (u2.2.1 1) ≤ sz_); first | exact hq2_8 | omega), (by show ((u14.2.1 0) = -1 → bad = -1 ∧ lo ≤ 0 ∧ 0 ≤ hi ∧ ap < (u2.2.1 1)); omega), (by show (bad ≠ -1 → (u2.2.1 1) = ap ∧ (u14.2.1 0) = bad); omega), (by show ((u14.2.1 0) ≠ -1 → 0 = 0); omega), hq2_9⟩, at9 ht hP hD [1, 0] (by decide +kernel) rfl⟩, hS.F ht⟩) hS.2.2 dX12_readNumber_40
  · refine lv_iconst (v := iI 0) hx hb dX12_readNumber_7 (by decide) ?_
    refine W.widen (k := 0) (n := 0) (Nat.le_of_ble_eq_true rfl) (Nat.le_of_ble_eq_true rfl) ?_
    exact W.iret (v := iI 0) hx hb hr (fun t ht hW => ⟨⟨iI 0, ((fun k => ([] : List Nat).getD k 0), (fun k => ([0, ap, bad, bk] : List Int).getD k 0), (fun k => ([] : List (Nat → Int32)).getD k (fun _ => 0))), rfl, ⟨rfl, (by show (0 ≤ ap ∧ ap ≤ 602); first | exact hr_ap | omega), (by show ((-1) ≤ bad ∧ bad ≤ 602); first | exact hr_bad | omega), (by show (0 ≤ bk ∧ bk ≤ 4); first | exact hr_bk | omega), (by show (0 ≤ 0 ∧ 0 ≤ 99999); show (0 : Int) ≤ 0 ∧ (0 : Int) ≤ 99999; decide), (by show (ap ≤ ap); omega), (by show (ap ≤ sz_ → ap ≤ sz_); omega), (by show (bad = -1 → bad = -1 ∧ lo ≤ 0 ∧ 0 ≤ hi ∧ ap < ap); omega), (by show (bad ≠ -1 → ap = ap ∧ bad = bad); omega), (by show (bad ≠ -1 → 0 = 0); omega), hf9⟩, at9 ht hP hD [1, 0] (by decide +kernel) rfl⟩, hS.F ht⟩) hS.2.2 dX12_readNumber_8
def vs_m_sign : List Cond := .code yX12_sign cX12_sign 2 none :: (([.fieldLink RX12 86 "KerbSplashModel" "at" "I"] : List Cond) ++ ((wsV RX12 109 RX12 yX12_fine vs_m_fine) ++ ((wsV RX12 92 RX12 yX12_here vs_m_here) ++ ((wsX120) ++ ((wsV RX12 116 RX12 yX12_wrong vs_m_wrong) ++ ([]))))))
theorem gd_m_sign : vs_m_sign.all goodWord = true := gd_C (by decide +kernel) (gd_A (by decide +kernel) (gd_A (gd_V gd_m_fine (by decide +kernel)) (gd_A (gd_V gd_m_here (by decide +kernel)) (gd_A (by decide +kernel) (gd_A (gd_V gd_m_wrong (by decide +kernel)) rfl)))))
set_option maxHeartbeats 4000000 in
set_option maxRecDepth 100000 in
theorem m_sign (l : Launch) (hl : l.stackTraces = false) (D : va_G) (cy : Nat → ClassId) (sa : Nat → Nat) (mm m1 m9 m10 m11 m12 m13 m14 m15 m19 m20 m21 m23 m24 m25 m26 m27 m28 m33 m35 : Nat) (th tp sz_ ap bad bk opn fp im nr nl sp_ wtc wcl ir ip shu sfa swr : Int) (f9 : Nat → Int32) (n : Int) (sz : Nat) (hr_th : (-2147483648) ≤ th ∧ th ≤ 2147483647) (hr_tp : 0 ≤ tp ∧ tp ≤ 600) (hr_sz_ : 0 ≤ sz_ ∧ sz_ ≤ 600) (hr_ap : 0 ≤ ap ∧ ap ≤ 602) (hr_bad : (-1) ≤ bad ∧ bad ≤ 602) (hr_bk : 0 ≤ bk ∧ bk ≤ 4) (hr_opn : 0 ≤ opn ∧ opn ≤ 7) (hr_fp : (-2147483648) ≤ fp ∧ fp ≤ 2147483647) (hr_im : 0 ≤ im ∧ im ≤ 3) (hr_nr : 0 ≤ nr ∧ nr ≤ 4) (hr_nl : 0 ≤ nl ∧ nl ≤ 4) (hr_sp_ : 0 ≤ sp_ ∧ sp_ ≤ 602) (hr_wtc : (-2147483648) ≤ wtc ∧ wtc ≤ 2147483647) (hr_wcl : 0 ≤ wcl ∧ wcl ≤ 95) (hr_ir : 0 ≤ ir ∧ ir ≤ 5) (hr_ip : (-2147483648) ≤ ip ∧ ip ≤ 2147483647) (hr_shu : (-2147483648) ≤ shu ∧ shu ≤ 2147483647) (hr_sfa : (-2147483648) ≤ sfa ∧ sfa ≤ 2147483647) (hr_swr : (-2147483648) ≤ swr ∧ swr ≤ 2147483647) (hr_n : 1 ≤ n ∧ n ≤ 255) (hf9 : inv_ 600 0 255 f9) : mV9 l yX12_sign vs_m_sign ({ frames := 1, cells := 0, slots := 0, locals := 22 }) D cy sa sz [vR mm, vI n] [zO mm 12 [vI th, vR m1, vI tp, vI sz_, vI ap, vI bad, vI bk, vI opn, vI fp, vR m9, vR m10, vR m11, vR m12, vR m13, vR m14, vR m15, vI im, vI nr, vI nl, vR m19, vR m20, vR m21, vI sp_, vR m23, vR m24, vR m25, vR m26, vR m27, vR m28, vI wtc, vI wcl, vI ir, vI ip, vR m33, vI shu, vR m35, vI sfa, vI swr], zI m9 (cy 0) 600 f9] (fun u : SV => (0 ≤ u.2.1 0 ∧ u.2.1 0 ≤ 602) ∧ ((-1) ≤ u.2.1 1 ∧ u.2.1 1 ≤ 602) ∧ (0 ≤ u.2.1 2 ∧ u.2.1 2 ≤ 4) ∧ (ap ≤ u.2.1 0) ∧ (ap ≤ sz_ → u.2.1 0 ≤ sz_) ∧ (u.2.1 1 = -1 → bad = -1 ∧ ap < u.2.1 0) ∧ inv_ 600 0 255 f9) (fun u : SV => [zO mm 12 [vI th, vR m1, vI tp, vI sz_, vI (u.2.1 0), vI (u.2.1 1), vI (u.2.1 2), vI opn, vI fp, vR m9, vR m10, vR m11, vR m12, vR m13, vR m14, vR m15, vI im, vI nr, vI nl, vR m19, vR m20, vR m21, vI sp_, vR m23, vR m24, vR m25, vR m26, vR m27, vR m28, vI wtc, vI wcl, vI ir, vI ip, vR m33, vI shu, vR m35, vI sfa, vI swr], zI m9 (cy 0) 600 f9]) 0 0 := by
  refine Met.ofW (cc := cX12_sign) (maxL := 2) (ret := none) (by decide) rfl ?_
  intro p e s m args below meth c s₁ B hml hv
  obtain ⟨rfl, hsz, hP, hG, hD0, hT⟩ := hv
  have hx := B.exec
  have hb := B.bytes
  have hr := B.returns
  have hts := atoms_spec (ws := vs_m_sign) B.pre
  have hown : s.vm.findClass RX12 = some m.cls := findClass_of_methodNamed B.named
  have hlocks := B.notSynchronized
  subst hsz
  have hD := hD0.self (sz := s.heap.size)
  generalize hAe : va_A [zO mm 12 [vI th, vR m1, vI tp, vI sz_, vI ap, vI bad, vI bk, vI opn, vI fp, vR m9, vR m10, vR m11, vR m12, vR m13, vR m14, vR m15, vI im, vI nr, vI nl, vR m19, vR m20, vR m21, vI sp_, vR m23, vR m24, vR m25, vR m26, vR m27, vR m28, vI wtc, vI wcl, vI ir, vI ip, vR m33, vI shu, vR m35, vI sfa, vI swr], zI m9 (cy 0) 600 f9] s.heap.size = A at hD hT ⊢
  have hA : ∀ q : Nat, s.heap.size ≤ q → A q := fun q h => by rw [← hAe]; exact Or.inr h
  have hS : va_S A s.heap s.heap [] := va_S.rf
  have hl0 := lv_entry ([vR mm, vI n]) (n := 2) (Nat.le_of_ble_eq_true rfl)
  rw [lg_entry_eq]
  generalize (lg_sl ([vR mm, vI n]) ++ List.replicate (2 - (lg_sl ([vR mm, vI n])).length) Slot.unset).toArray = ls at hl0 ⊢
  have hlv : lv_has ls 2 [(0, vR mm), (1, vI n)] := hl0
  have gg_0 : GoodIn vs_m_sign (wsV RX12 109 RX12 yX12_fine vs_m_fine) := goodIn_sub (fun w h => List.mem_cons_of_mem _ (List.mem_append_right _ (List.mem_append_left _ h))) (gd_V gd_m_fine (by decide +kernel))
  have gg_1 : GoodIn vs_m_sign (wsV RX12 92 RX12 yX12_here vs_m_here) := goodIn_sub (fun w h => List.mem_cons_of_mem _ (List.mem_append_right _ (List.mem_append_right _ (List.mem_append_left _ h)))) (gd_V gd_m_here (by decide +kernel))
  have lf86 := hts (.fieldLink RX12 86 "KerbSplashModel" "at" "I") (List.mem_of_getElem? (i := 1) rfl)
  have hi12 : ∀ w ∈ wsX120, w ∈ vs_m_sign := fun w h => List.mem_cons_of_mem _ (List.mem_append_right _ (List.mem_append_right _ (List.mem_append_right _ (List.mem_append_left _ h))))
  have gg_3 : GoodIn vs_m_sign (wsV RX12 116 RX12 yX12_wrong vs_m_wrong) := goodIn_sub (fun w h => List.mem_cons_of_mem _ (List.mem_append_right _ (List.mem_append_right _ (List.mem_append_right _ (List.mem_append_right _ (List.mem_append_left _ h)))))) (gd_V gd_m_wrong (by decide +kernel))
  refine lv_aload_n hx hb dX12_sign_0 rfl (lv_at hlv 0 rfl) ?_
  refine cjr_i [false, true] (fun pre9 => (va_runV (As := []) (rest := []) ⟨hx, hb, hml, hown, hts⟩ (m_fine l hl D cy sa mm m1 m9 m10 m11 m12 m13 m14 m15 m19 m20 m21 m23 m24 m25 m26 m27 m28 m33 m35 th tp sz_ ap bad bk opn fp im nr nl sp_ wtc wcl ir ip shu sfa swr s.heap.size (by first | exact hr_th | omega) (by first | exact hr_tp | omega) (by first | exact hr_sz_ | omega) (by first | exact hr_ap | omega) (by first | exact hr_bad | omega) (by first | exact hr_bk | omega) (by first | exact hr_opn | omega) (by first | exact hr_fp | omega) (by first | exact hr_im | omega) (by first | exact hr_nr | omega) (by first | exact hr_nl | omega) (by first | exact hr_sp_ | omega) (by first | exact hr_wtc | omega) (by first | exact hr_wcl | omega) (by first | exact hr_ir | omega) (by first | exact hr_ip | omega) (by first | exact hr_shu | omega) (by first | exact hr_sfa | omega) (by first | exact hr_swr | omega)) (cwV 0 hts gg_0 rfl rfl rfl (by decide +kernel) ⟨Nat.le_of_ble_eq_true rfl, Nat.le_of_ble_eq_true rfl⟩) ⟨pcW.blind, (va_recv hG.1 hP (ci := 12) (q0 := 0) rfl rfl), pre9⟩ rfl rfl hlv.1 rfl (lv_room (Nat.le_of_ble_eq_true rfl)) dX12_sign_1 ⟨Nat.le_of_ble_eq_true rfl, Nat.le_of_ble_eq_true rfl⟩)) hP hD hS hA hG hT [0] rfl (by decide +kernel) (fun r1 u1 H locs hw1 hq9 hS => ?_)
  obtain ⟨rfl, hq1_1, hq1_2, hq1_3⟩ := hw1
  obtain ⟨hP, hD⟩ := pd9 [zI m9 (cy 0) 600 f9, zO mm 12 [vI th, vR m1, vI tp, vI sz_, vI ap, vI bad, vI bk, vI opn, vI fp, vR m9, vR m10, vR m11, vR m12, vR m13, vR m14, vR m15, vI im, vI nr, vI nl, vR m19, vR m20, vR m21, vI sp_, vR m23, vR m24, vR m25, vR m26, vR m27, vR m28, vI wtc, vI wcl, vI ir, vI ip, vR m33, vI shu, vR m35, vI sfa, vI swr]] hq9
  refine iz_eq (tgt := 24) hx hb dX12_sign_4 (by decide) (by first | exact rgw hq1_1 (by decide) (by decide) | omega) (fun c_1 => ?_) (fun c_1 => ?_)
  · refine lv_aload_n hx hb dX12_sign_24 rfl (lv_at hlv 0 rfl) ?_
    refine cjr_i [true, false] (fun pre9 => (va_runV (As := []) (rest := []) ⟨hx, hb, hml, hown, hts⟩ (m_fine l hl D cy sa mm m1 m9 m10 m11 m12 m13 m14 m15 m19 m20 m21 m23 m24 m25 m26 m27 m28 m33 m35 th tp sz_ ap bad bk opn fp im nr nl sp_ wtc wcl ir ip shu sfa swr H.size (by first | exact hr_th | omega) (by first | exact hr_tp | omega) (by first | exact hr_sz_ | omega) (by first | exact hr_ap | omega) (by first | exact hr_bad | omega) (by first | exact hr_bk | omega) (by first | exact hr_opn | omega) (by first | exact hr_fp | omega) (by first | exact hr_im | omega) (by first | exact hr_nr | omega) (by first | exact hr_nl | omega) (by first | exact hr_sp_ | omega) (by first | exact hr_wtc | omega) (by first | exact hr_wcl | omega) (by first | exact hr_ir | omega) (by first | exact hr_ip | omega) (by first | exact hr_shu | omega) (by first | exact hr_sfa | omega) (by first | exact hr_swr | omega)) (cwV 0 hts gg_0 rfl rfl rfl (by decide +kernel) ⟨Nat.le_of_ble_eq_true rfl, Nat.le_of_ble_eq_true rfl⟩) ⟨pcW.blind, (va_recv hG.1 hP (ci := 12) (q0 := 1) rfl rfl), pre9⟩ rfl rfl hlv.1 rfl (lv_room (Nat.le_of_ble_eq_true rfl)) dX12_sign_25 ⟨Nat.le_of_ble_eq_true rfl, Nat.le_of_ble_eq_true rfl⟩)) hP hD hS hA hG hT [1] rfl (by decide +kernel) (fun r2 u2 H locs hw2 hq9 hS => ?_)
    obtain ⟨rfl, hq2_1, hq2_2, hq2_3⟩ := hw2
    obtain ⟨hP, hD⟩ := pd9 [zI m9 (cy 0) 600 f9, zO mm 12 [vI th, vR m1, vI tp, vI sz_, vI ap, vI bad, vI bk, vI opn, vI fp, vR m9, vR m10, vR m11, vR m12, vR m13, vR m14, vR m15, vI im, vI nr, vI nl, vR m19, vR m20, vR m21, vI sp_, vR m23, vR m24, vR m25, vR m26, vR m27, vR m28, vI wtc, vI wcl, vI ir, vI ip, vR m33, vI shu, vR m35, vI sfa, vI swr]] hq9
    refine lt_i (y := iI 0) (by rw [show (u2.2.1 0) = 0 by omega]) ?_
    refine iz_eq (tgt := 41) hx hb dX12_sign_28 (by decide) (by show ((-2147483648) : Int) ≤ 0 ∧ (0 : Int) ≤ 2147483647; decide) (fun c_2 => ?_) (fun c_2 => by exfalso; omega)
    refine W.widen (k := 0) (n := 0) (Nat.le_of_ble_eq_true rfl) (Nat.le_of_ble_eq_true rfl) ?_
    exact W.vret hx hb hr (fun t ht hW => ⟨⟨((fun k => ([] : List Nat).getD k 0), (fun k => ([ap, bad, bk] : List Int).getD k 0), (fun k => ([] : List (Nat → Int32)).getD k (fun _ => 0))), rfl, ⟨(by show (0 ≤ ap ∧ ap ≤ 602); first | exact hr_ap | omega), (by show ((-1) ≤ bad ∧ bad ≤ 602); first | exact hr_bad | omega), (by show (0 ≤ bk ∧ bk ≤ 4); first | exact hr_bk | omega), (by show (ap ≤ ap); omega), (by show (ap ≤ sz_ → ap ≤ sz_); omega), (by show (bad = -1 → bad = -1 ∧ ap < ap); omega), hf9⟩, at9 ht hP hD [1, 0] (by decide +kernel) rfl⟩, hS.F ht⟩) hS.2.2 dX12_sign_41
  · refine lv_aload_n hx hb dX12_sign_7 rfl (lv_at hlv 0 rfl) ?_
    refine cjr_i [false, false] (fun pre9 => (va_runV (As := []) (rest := []) ⟨hx, hb, hml, hown, hts⟩ (m_here l hl D cy sa mm m1 m9 m10 m11 m12 m13 m14 m15 m19 m20 m21 m23 m24 m25 m26 m27 m28 m33 m35 th tp sz_ ap bad bk opn fp im nr nl sp_ wtc wcl ir ip shu sfa swr f9 H.size (by first | exact hr_th | omega) (by first | exact hr_tp | omega) (by first | exact hr_sz_ | omega) (by first | exact hr_ap | omega) (by first | exact hr_bad | omega) (by first | exact hr_bk | omega) (by first | exact hr_opn | omega) (by first | exact hr_fp | omega) (by first | exact hr_im | omega) (by first | exact hr_nr | omega) (by first | exact hr_nl | omega) (by first | exact hr_sp_ | omega) (by first | exact hr_wtc | omega) (by first | exact hr_wcl | omega) (by first | exact hr_ir | omega) (by first | exact hr_ip | omega) (by first | exact hr_shu | omega) (by first | exact hr_sfa | omega) (by first | exact hr_swr | omega) hf9) (cwV 0 hts gg_1 rfl rfl rfl (by decide +kernel) ⟨Nat.le_of_ble_eq_true rfl, Nat.le_of_ble_eq_true rfl⟩) ⟨pcW.blind, (va_recv hG.1 hP (ci := 12) (q0 := 1) rfl rfl), pre9⟩ rfl rfl hlv.1 rfl (lv_room (Nat.le_of_ble_eq_true rfl)) dX12_sign_8 ⟨Nat.le_of_ble_eq_true rfl, Nat.le_of_ble_eq_true rfl⟩)) hP hD hS hA hG hT [1, 0] rfl (by decide +kernel) (fun r3 u3 H locs hw3 hq9 hS => ?_)
    obtain ⟨rfl, hq3_1, hq3_2, hq3_3, hq3_4, hq3_5, hq3_6, hq3_7, hq3_8, hq3_9⟩ := hw3
    obtain ⟨hP, hD⟩ := pd9 [zO mm 12 [vI th, vR m1, vI tp, vI sz_, vI (u3.2.1 1), vI bad, vI bk, vI opn, vI fp, vR m9, vR m10, vR m11, vR m12, vR m13, vR m14, vR m15, vI im, vI nr, vI nl, vR m19, vR m20, vR m21, vI sp_, vR m23, vR m24, vR m25, vR m26, vR m27, vR m28, vI wtc, vI wcl, vI ir, vI ip, vR m33, vI shu, vR m35, vI sfa, vI swr], zI m9 (cy 0) 600 f9] hq9
    refine lv_iload_n hx hb dX12_sign_11 rfl (lv_at hlv 1 rfl) ?_
    refine ir_eq (tgt := 24) hx hb dX12_sign_12 (by decide) (by first | exact rgw hq3_2 (by decide) (by decide) | omega) (by first | exact rgw hr_n (by decide) (by decide) | omega) (fun c_3 => ?_) (fun c_3 => ?_)
    · refine lv_aload_n hx hb dX12_sign_24 rfl (lv_at hlv 0 rfl) ?_
      refine cjr_i [false, true] (fun pre9 => (va_runV (As := []) (rest := []) ⟨hx, hb, hml, hown, hts⟩ (m_fine l hl D cy sa mm m1 m9 m10 m11 m12 m13 m14 m15 m19 m20 m21 m23 m24 m25 m26 m27 m28 m33 m35 th tp sz_ (u3.2.1 1) bad bk opn fp im nr nl sp_ wtc wcl ir ip shu sfa swr H.size (by first | exact hr_th | omega) (by first | exact hr_tp | omega) (by first | exact hr_sz_ | omega) (by first | exact hq3_1 | omega) (by first | exact hr_bad | omega) (by first | exact hr_bk | omega) (by first | exact hr_opn | omega) (by first | exact hr_fp | omega) (by first | exact hr_im | omega) (by first | exact hr_nr | omega) (by first | exact hr_nl | omega) (by first | exact hr_sp_ | omega) (by first | exact hr_wtc | omega) (by first | exact hr_wcl | omega) (by first | exact hr_ir | omega) (by first | exact hr_ip | omega) (by first | exact hr_shu | omega) (by first | exact hr_sfa | omega) (by first | exact hr_swr | omega)) (cwV 0 hts gg_0 rfl rfl rfl (by decide +kernel) ⟨Nat.le_of_ble_eq_true rfl, Nat.le_of_ble_eq_true rfl⟩) ⟨pcW.blind, (va_recv hG.1 hP (ci := 12) (q0 := 0) rfl rfl), pre9⟩ rfl rfl hlv.1 rfl (lv_room (Nat.le_of_ble_eq_true rfl)) dX12_sign_25 ⟨Nat.le_of_ble_eq_true rfl, Nat.le_of_ble_eq_true rfl⟩)) hP hD hS hA hG hT [0] rfl (by decide +kernel) (fun r4 u4 H locs hw4 hq9 hS => ?_)
      obtain ⟨rfl, hq4_1, hq4_2, hq4_3⟩ := hw4
      obtain ⟨hP, hD⟩ := pd9 [zI m9 (cy 0) 600 f9, zO mm 12 [vI th, vR m1, vI tp, vI sz_, vI (u3.2.1 1), vI bad, vI bk, vI opn, vI fp, vR m9, vR m10, vR m11, vR m12, vR m13, vR m14, vR m15, vI im, vI nr, vI nl, vR m19, vR m20, vR m21, vI sp_, vR m23, vR m24, vR m25, vR m26, vR m27, vR m28, vI wtc, vI wcl, vI ir, vI ip, vR m33, vI shu, vR m35, vI sfa, vI swr]] hq9
      refine lt_i (y := iI 1) (by rw [show (u4.2.1 0) = 1 by omega]) ?_
      refine iz_eq (tgt := 41) hx hb dX12_sign_28 (by decide) (by show ((-2147483648) : Int) ≤ 1 ∧ (1 : Int) ≤ 2147483647; decide) (fun c_4 => by exfalso; omega) (fun c_4 => ?_)
      refine lv_aload_n hx hb dX12_sign_31 rfl (lv_at hlv 0 rfl) ?_
      refine lv_dup hx hb dX12_sign_32 rfl ?_
      refine va_get (D := D) (ci := 12) (v := vI (u3.2.1 1)) (C := RX12) (T := TX12) (N := 38) hx hb hts hi12 hown hG.1 hP 1 rfl rfl 4 (by decide) lf86 (fun _ h9 => h9) rfl dX12_sign_33 ?_
      refine lv_iconst (v := iI 1) hx hb dX12_sign_36 (by decide) ?_
      refine lv_iadd hx hb dX12_sign_37 ?_
      refine lt_e (e0 := (u3.2.1 1) + 1) (Int32.ofInt_add _ _).symm (fun z_5 hz_5 => ?_)
      refine va_put (D := D) (ci := 12) (v := vI z_5) (ty := .int) (C := RX12) (T := TX12) (N := 38) hx hb hts hi12 tyX12 tyX12_ok nmX12 hown hG.1 hP hD hS 1 rfl rfl 4 (by decide) lf86 (fun _ h9 => h9) rfl (by decide +kernel) rfl rfl (Nat.le_of_ble_eq_true rfl) dX12_sign_38 (fun H locs hP hD hS => ?_)
      obtain ⟨hP, hD⟩ := pw9 [zI m9 (cy 0) 600 f9, zO mm 12 [vI th, vR m1, vI tp, vI sz_, vI z_5, vI bad, vI bk, vI opn, vI fp, vR m9, vR m10, vR m11, vR m12, vR m13, vR m14, vR m15, vI im, vI nr, vI nl, vR m19, vR m20, vR m21, vI sp_, vR m23, vR m24, vR m25, vR m26, vR m27, vR m28, vI wtc, vI wcl, vI ir, vI ip, vR m33, vI shu, vR m35, vI sfa, vI swr]] hP hD
      refine W.widen (k := 0) (n := 0) (Nat.le_of_ble_eq_true rfl) (Nat.le_of_ble_eq_true rfl) ?_
      exact W.vret hx hb hr (fun t ht hW => ⟨⟨((fun k => ([] : List Nat).getD k 0), (fun k => ([z_5, bad, bk] : List Int).getD k 0), (fun k => ([] : List (Nat → Int32)).getD k (fun _ => 0))), rfl, ⟨(by show (0 ≤ z_5 ∧ z_5 ≤ 602); omega), (by show ((-1) ≤ bad ∧ bad ≤ 602); first | exact hr_bad | omega), (by show (0 ≤ bk ∧ bk ≤ 4); first | exact hr_bk | omega), (by show (ap ≤ z_5); omega), (by show (ap ≤ sz_ → z_5 ≤ sz_); omega), (by show (bad = -1 → bad = -1 ∧ ap < z_5); omega), hq3_9⟩, at9 ht hP hD [1, 0] (by decide +kernel) rfl⟩, hS.F ht⟩) hS.2.2 dX12_sign_41
    · refine lv_aload_n hx hb dX12_sign_15 rfl (lv_at hlv 0 rfl) ?_
      refine lv_iconst (v := iI 1) hx hb dX12_sign_16 (by decide) ?_
      refine lv_aload_n hx hb dX12_sign_17 rfl (lv_at hlv 0 rfl) ?_
      refine va_get (D := D) (ci := 12) (v := vI (u3.2.1 1)) (C := RX12) (T := TX12) (N := 38) hx hb hts hi12 hown hG.1 hP 0 rfl rfl 4 (by decide) lf86 (fun _ h9 => h9) rfl dX12_sign_18 ?_
      refine cjr_v [false, true] (fun pre9 => (va_runV (As := [vI 1, vI (u3.2.1 1)]) (rest := []) ⟨hx, hb, hml, hown, hts⟩ (m_wrong l hl D cy sa mm m1 m9 m10 m11 m12 m13 m14 m15 m19 m20 m21 m23 m24 m25 m26 m27 m28 m33 m35 th tp sz_ (u3.2.1 1) bad bk opn fp im nr nl sp_ wtc wcl ir ip shu sfa swr 1 (u3.2.1 1) H.size (by first | exact hr_th | omega) (by first | exact hr_tp | omega) (by first | exact hr_sz_ | omega) (by first | exact hq3_1 | omega) (by first | exact hr_bad | omega) (by first | exact hr_bk | omega) (by first | exact hr_opn | omega) (by first | exact hr_fp | omega) (by first | exact hr_im | omega) (by first | exact hr_nr | omega) (by first | exact hr_nl | omega) (by first | exact hr_sp_ | omega) (by first | exact hr_wtc | omega) (by first | exact hr_wcl | omega) (by first | exact hr_ir | omega) (by first | exact hr_ip | omega) (by first | exact hr_shu | omega) (by first | exact hr_sfa | omega) (by first | exact hr_swr | omega) (by show (1 : Int) ≤ 1 ∧ (1 : Int) ≤ 4; decide) (by first | exact hq3_1 | omega)) (cwV 2 hts gg_3 rfl rfl rfl (by decide +kernel) ⟨Nat.le_of_ble_eq_true rfl, Nat.le_of_ble_eq_true rfl⟩) ⟨pcW.blind, (va_recv hG.1 hP (ci := 12) (q0 := 0) rfl rfl), pre9⟩ rfl rfl hlv.1 rfl (lv_room (Nat.le_of_ble_eq_true rfl)) dX12_sign_21 ⟨Nat.le_of_ble_eq_true rfl, Nat.le_of_ble_eq_true rfl⟩)) hP hD hS hA hG hT [0] rfl (by decide +kernel) (fun u5 H locs hw5 hq9 hS => ?_)
      obtain ⟨hq5_0, hq5_1, hq5_2, hq5_3⟩ := hw5
      obtain ⟨hP, hD⟩ := pd9 [zI m9 (cy 0) 600 f9, zO mm 12 [vI th, vR m1, vI tp, vI sz_, vI (u3.2.1 1), vI (u5.2.1 0), vI (u5.2.1 1), vI opn, vI fp, vR m9, vR m10, vR m11, vR m12, vR m13, vR m14, vR m15, vI im, vI nr, vI nl, vR m19, vR m20, vR m21, vI sp_, vR m23, vR m24, vR m25, vR m26, vR m27, vR m28, vI wtc, vI wcl, vI ir, vI ip, vR m33, vI shu, vR m35, vI sfa, vI swr]] hq9
      refine lv_aload_n hx hb dX12_sign_24 rfl (lv_at hlv 0 rfl) ?_
      refine cjr_i [true, false] (fun pre9 => (va_runV (As := []) (rest := []) ⟨hx, hb, hml, hown, hts⟩ (m_fine l hl D cy sa mm m1 m9 m10 m11 m12 m13 m14 m15 m19 m20 m21 m23 m24 m25 m26 m27 m28 m33 m35 th tp sz_ (u3.2.1 1) (u5.2.1 0) (u5.2.1 1) opn fp im nr nl sp_ wtc wcl ir ip shu sfa swr H.size (by first | exact hr_th | omega) (by first | exact hr_tp | omega) (by first | exact hr_sz_ | omega) (by first | exact hq3_1 | omega) (by first | exact rgw hq5_0 (by decide) (by decide) | omega) (by first | exact hq5_1 | omega) (by first | exact hr_opn | omega) (by first | exact hr_fp | omega) (by first | exact hr_im | omega) (by first | exact hr_nr | omega) (by first | exact hr_nl | omega) (by first | exact hr_sp_ | omega) (by first | exact hr_wtc | omega) (by first | exact hr_wcl | omega) (by first | exact hr_ir | omega) (by first | exact hr_ip | omega) (by first | exact hr_shu | omega) (by first | exact hr_sfa | omega) (by first | exact hr_swr | omega)) (cwV 0 hts gg_0 rfl rfl rfl (by decide +kernel) ⟨Nat.le_of_ble_eq_true rfl, Nat.le_of_ble_eq_true rfl⟩) ⟨pcW.blind, (va_recv hG.1 hP (ci := 12) (q0 := 1) rfl rfl), pre9⟩ rfl rfl hlv.1 rfl (lv_room (Nat.le_of_ble_eq_true rfl)) dX12_sign_25 ⟨Nat.le_of_ble_eq_true rfl, Nat.le_of_ble_eq_true rfl⟩)) hP hD hS hA hG hT [1] rfl (by decide +kernel) (fun r6 u6 H locs hw6 hq9 hS => ?_)
      obtain ⟨rfl, hq6_1, hq6_2, hq6_3⟩ := hw6
      obtain ⟨hP, hD⟩ := pd9 [zI m9 (cy 0) 600 f9, zO mm 12 [vI th, vR m1, vI tp, vI sz_, vI (u3.2.1 1), vI (u5.2.1 0), vI (u5.2.1 1), vI opn, vI fp, vR m9, vR m10, vR m11, vR m12, vR m13, vR m14, vR m15, vI im, vI nr, vI nl, vR m19, vR m20, vR m21, vI sp_, vR m23, vR m24, vR m25, vR m26, vR m27, vR m28, vI wtc, vI wcl, vI ir, vI ip, vR m33, vI shu, vR m35, vI sfa, vI swr]] hq9
      refine lt_i (y := iI 0) (by rw [show (u6.2.1 0) = 0 by omega]) ?_
      refine iz_eq (tgt := 41) hx hb dX12_sign_28 (by decide) (by show ((-2147483648) : Int) ≤ 0 ∧ (0 : Int) ≤ 2147483647; decide) (fun c_6 => ?_) (fun c_6 => by exfalso; omega)
      refine W.widen (k := 0) (n := 0) (Nat.le_of_ble_eq_true rfl) (Nat.le_of_ble_eq_true rfl) ?_
      exact W.vret hx hb hr (fun t ht hW => ⟨⟨((fun k => ([] : List Nat).getD k 0), (fun k => ([(u3.2.1 1), (u5.2.1 0), (u5.2.1 1)] : List Int).getD k 0), (fun k => ([] : List (Nat → Int32)).getD k (fun _ => 0))), rfl, ⟨(by show (0 ≤ (u3.2.1 1) ∧ (u3.2.1 1) ≤ 602); first | exact hq3_1 | omega), (by show ((-1) ≤ (u5.2.1 0) ∧ (u5.2.1 0) ≤ 602); first | exact rgw hq5_0 (by decide) (by decide) | omega), (by show (0 ≤ (u5.2.1 1) ∧ (u5.2.1 1) ≤ 4); first | exact hq5_1 | omega), (by show (ap ≤ (u3.2.1 1)); omega), (by show (ap ≤ sz_ → (u3.2.1 1) ≤ sz_); first | exact hq3_8 | omega), (by show ((u5.2.1 0) = -1 → bad = -1 ∧ ap < (u3.2.1 1)); omega), hq3_9⟩, at9 ht hP hD [1, 0] (by decide +kernel) rfl⟩, hS.F ht⟩) hS.2.2 dX12_sign_41
def vs_m_isMore : List Cond := .code yX12_isMore cX12_isMore 1 (some .boolean) :: (([.fieldLink RX12 86 "KerbSplashModel" "at" "I", .fieldLink RX12 89 "KerbSplashModel" "size" "I"] : List Cond) ++ ((wsV RX12 92 RX12 yX12_here vs_m_here) ++ ((wsX120) ++ ([]))))
theorem gd_m_isMore : vs_m_isMore.all goodWord = true := gd_C (by decide +kernel) (gd_A (by decide +kernel) (gd_A (gd_V gd_m_here (by decide +kernel)) (gd_A (by decide +kernel) rfl)))
set_option maxHeartbeats 4000000 in
set_option maxRecDepth 100000 in
theorem m_isMore (l : Launch) (hl : l.stackTraces = false) (D : va_G) (cy : Nat → ClassId) (sa : Nat → Nat) (mm m1 m9 m10 m11 m12 m13 m14 m15 m19 m20 m21 m23 m24 m25 m26 m27 m28 m33 m35 : Nat) (th tp sz_ ap bad bk opn fp im nr nl sp_ wtc wcl ir ip shu sfa swr : Int) (f9 : Nat → Int32) (sz : Nat) (hr_th : (-2147483648) ≤ th ∧ th ≤ 2147483647) (hr_tp : 0 ≤ tp ∧ tp ≤ 600) (hr_sz_ : 0 ≤ sz_ ∧ sz_ ≤ 600) (hr_ap : 0 ≤ ap ∧ ap ≤ 602) (hr_bad : (-1) ≤ bad ∧ bad ≤ 602) (hr_bk : 0 ≤ bk ∧ bk ≤ 4) (hr_opn : 0 ≤ opn ∧ opn ≤ 7) (hr_fp : (-2147483648) ≤ fp ∧ fp ≤ 2147483647) (hr_im : 0 ≤ im ∧ im ≤ 3) (hr_nr : 0 ≤ nr ∧ nr ≤ 4) (hr_nl : 0 ≤ nl ∧ nl ≤ 4) (hr_sp_ : 0 ≤ sp_ ∧ sp_ ≤ 602) (hr_wtc : (-2147483648) ≤ wtc ∧ wtc ≤ 2147483647) (hr_wcl : 0 ≤ wcl ∧ wcl ≤ 95) (hr_ir : 0 ≤ ir ∧ ir ≤ 5) (hr_ip : (-2147483648) ≤ ip ∧ ip ≤ 2147483647) (hr_shu : (-2147483648) ≤ shu ∧ shu ≤ 2147483647) (hr_sfa : (-2147483648) ≤ sfa ∧ sfa ≤ 2147483647) (hr_swr : (-2147483648) ≤ swr ∧ swr ≤ 2147483647) (hf9 : inv_ 600 0 255 f9) : mI9 l yX12_isMore vs_m_isMore ({ frames := 1, cells := 0, slots := 0, locals := 20 }) D cy sa sz [vR mm] [zO mm 12 [vI th, vR m1, vI tp, vI sz_, vI ap, vI bad, vI bk, vI opn, vI fp, vR m9, vR m10, vR m11, vR m12, vR m13, vR m14, vR m15, vI im, vI nr, vI nl, vR m19, vR m20, vR m21, vI sp_, vR m23, vR m24, vR m25, vR m26, vR m27, vR m28, vI wtc, vI wcl, vI ir, vI ip, vR m33, vI shu, vR m35, vI sfa, vI swr], zI m9 (cy 0) 600 f9] (fun (r : Int32) (u : SV) => r = iI (u.2.1 0) ∧ (0 ≤ u.2.1 1 ∧ u.2.1 1 ≤ 602) ∧ (0 ≤ u.2.1 0 ∧ u.2.1 0 ≤ 1) ∧ (ap ≤ u.2.1 1) ∧ (ap ≤ sz_ → u.2.1 1 ≤ sz_) ∧ (u.2.1 0 = 1 → u.2.1 1 < sz_) ∧ inv_ 600 0 255 f9) (fun u : SV => [zO mm 12 [vI th, vR m1, vI tp, vI sz_, vI (u.2.1 1), vI bad, vI bk, vI opn, vI fp, vR m9, vR m10, vR m11, vR m12, vR m13, vR m14, vR m15, vI im, vI nr, vI nl, vR m19, vR m20, vR m21, vI sp_, vR m23, vR m24, vR m25, vR m26, vR m27, vR m28, vI wtc, vI wcl, vI ir, vI ip, vR m33, vI shu, vR m35, vI sfa, vI swr], zI m9 (cy 0) 600 f9]) 0 0 := by
  refine Met.ofW (cc := cX12_isMore) (maxL := 1) (ret := (some .boolean)) (by decide) rfl ?_
  intro p e s m args below meth c s₁ B hml hv
  obtain ⟨rfl, hsz, hP, hG, hD0, hT⟩ := hv
  have hx := B.exec
  have hb := B.bytes
  have hr := B.returns
  have hts := atoms_spec (ws := vs_m_isMore) B.pre
  have hown : s.vm.findClass RX12 = some m.cls := findClass_of_methodNamed B.named
  have hlocks := B.notSynchronized
  subst hsz
  have hD := hD0.self (sz := s.heap.size)
  generalize hAe : va_A [zO mm 12 [vI th, vR m1, vI tp, vI sz_, vI ap, vI bad, vI bk, vI opn, vI fp, vR m9, vR m10, vR m11, vR m12, vR m13, vR m14, vR m15, vI im, vI nr, vI nl, vR m19, vR m20, vR m21, vI sp_, vR m23, vR m24, vR m25, vR m26, vR m27, vR m28, vI wtc, vI wcl, vI ir, vI ip, vR m33, vI shu, vR m35, vI sfa, vI swr], zI m9 (cy 0) 600 f9] s.heap.size = A at hD hT ⊢
  have hA : ∀ q : Nat, s.heap.size ≤ q → A q := fun q h => by rw [← hAe]; exact Or.inr h
  have hS : va_S A s.heap s.heap [] := va_S.rf
  have hl0 := lv_entry ([vR mm]) (n := 1) (Nat.le_of_ble_eq_true rfl)
  rw [lg_entry_eq]
  generalize (lg_sl ([vR mm]) ++ List.replicate (1 - (lg_sl ([vR mm])).length) Slot.unset).toArray = ls at hl0 ⊢
  have hlv : lv_has ls 1 [(0, vR mm)] := hl0
  have gg_0 : GoodIn vs_m_isMore (wsV RX12 92 RX12 yX12_here vs_m_here) := goodIn_sub (fun w h => List.mem_cons_of_mem _ (List.mem_append_right _ (List.mem_append_left _ h))) (gd_V gd_m_here (by decide +kernel))
  have lf86 := hts (.fieldLink RX12 86 "KerbSplashModel" "at" "I") (List.mem_of_getElem? (i := 1) rfl)
  have hi12 : ∀ w ∈ wsX120, w ∈ vs_m_isMore := fun w h => List.mem_cons_of_mem _ (List.mem_append_right _ (List.mem_append_right _ (List.mem_append_left _ h)))
  have lf89 := hts (.fieldLink RX12 89 "KerbSplashModel" "size" "I") (List.mem_of_getElem? (i := 2) rfl)
  refine lv_aload_n hx hb dX12_isMore_0 rfl (lv_at hlv 0 rfl) ?_
  refine cjr_i [false, false] (fun pre9 => (va_runV (As := []) (rest := []) ⟨hx, hb, hml, hown, hts⟩ (m_here l hl D cy sa mm m1 m9 m10 m11 m12 m13 m14 m15 m19 m20 m21 m23 m24 m25 m26 m27 m28 m33 m35 th tp sz_ ap bad bk opn fp im nr nl sp_ wtc wcl ir ip shu sfa swr f9 s.heap.size (by first | exact hr_th | omega) (by first | exact hr_tp | omega) (by first | exact hr_sz_ | omega) (by first | exact hr_ap | omega) (by first | exact hr_bad | omega) (by first | exact hr_bk | omega) (by first | exact hr_opn | omega) (by first | exact hr_fp | omega) (by first | exact hr_im | omega) (by first | exact hr_nr | omega) (by first | exact hr_nl | omega) (by first | exact hr_sp_ | omega) (by first | exact hr_wtc | omega) (by first | exact hr_wcl | omega) (by first | exact hr_ir | omega) (by first | exact hr_ip | omega) (by first | exact hr_shu | omega) (by first | exact hr_sfa | omega) (by first | exact hr_swr | omega) hf9) (cwV 0 hts gg_0 rfl rfl rfl (by decide +kernel) ⟨Nat.le_of_ble_eq_true rfl, Nat.le_of_ble_eq_true rfl⟩) ⟨pcW.blind, (va_recv hG.1 hP (ci := 12) (q0 := 0) rfl rfl), pre9⟩ rfl rfl hlv.1 rfl (lv_room (Nat.le_of_ble_eq_true rfl)) dX12_isMore_1 ⟨Nat.le_of_ble_eq_true rfl, Nat.le_of_ble_eq_true rfl⟩)) hP hD hS hA hG hT [0, 1] rfl (by decide +kernel) (fun r1 u1 H locs hw1 hq9 hS => ?_)
  obtain ⟨rfl, hq1_1, hq1_2, hq1_3, hq1_4, hq1_5, hq1_6, hq1_7, hq1_8, hq1_9⟩ := hw1
  obtain ⟨hP, hD⟩ := pd9 [zO mm 12 [vI th, vR m1, vI tp, vI sz_, vI (u1.2.1 1), vI bad, vI bk, vI opn, vI fp, vR m9, vR m10, vR m11, vR m12, vR m13, vR m14, vR m15, vI im, vI nr, vI nl, vR m19, vR m20, vR m21, vI sp_, vR m23, vR m24, vR m25, vR m26, vR m27, vR m28, vI wtc, vI wcl, vI ir, vI ip, vR m33, vI shu, vR m35, vI sfa, vI swr], zI m9 (cy 0) 600 f9] hq9
  refine lv_pop hx hb dX12_isMore_4 rfl ?_
  refine lv_aload_n hx hb dX12_isMore_5 rfl (lv_at hlv 0 rfl) ?_
  refine va_get (D := D) (ci := 12) (v := vI (u1.2.1 1)) (C := RX12) (T := TX12) (N := 38) hx hb hts hi12 hown hG.1 hP 0 rfl rfl 4 (by decide) lf86 (fun _ h9 => h9) rfl dX12_isMore_6 ?_
  refine lv_aload_n hx hb dX12_isMore_9 rfl (lv_at hlv 0 rfl) ?_
  refine va_get (D := D) (ci := 12) (v := vI sz_) (C := RX12) (T := TX12) (N := 38) hx hb hts hi12 hown hG.1 hP 0 rfl rfl 3 (by decide) lf89 (fun _ h9 => h9) rfl dX12_isMore_10 ?_
  refine ir_ge (tgt := 20) hx hb dX12_isMore_13 (by decide) (by first | exact rgw hq1_1 (by decide) (by decide) | omega) (by first | exact rgw hr_sz_ (by decide) (by decide) | omega) (fun c_1 => ?_) (fun c_1 => ?_)
  · refine lv_iconst (v := iI 0) hx hb dX12_isMore_20 (by decide) ?_
    refine W.widen (k := 0) (n := 0) (Nat.le_of_ble_eq_true rfl) (Nat.le_of_ble_eq_true rfl) ?_
    exact W.zret (v := iI 0) hx hb hr (by first | rfl | decide) (fun t ht hW => ⟨⟨iI 0, ((fun k => ([] : List Nat).getD k 0), (fun k => ([0, (u1.2.1 1)] : List Int).getD k 0), (fun k => ([] : List (Nat → Int32)).getD k (fun _ => 0))), rfl, ⟨rfl, (by show (0 ≤ (u1.2.1 1) ∧ (u1.2.1 1) ≤ 602); first | exact hq1_1 | omega), (by show (0 ≤ 0 ∧ 0 ≤ 1); show (0 : Int) ≤ 0 ∧ (0 : Int) ≤ 1; decide), (by show (ap ≤ (u1.2.1 1)); omega), (by show (ap ≤ sz_ → (u1.2.1 1) ≤ sz_); first | exact hq1_8 | omega), (by show (0 = 1 → (u1.2.1 1) < sz_); omega), hq1_9⟩, at9 ht hP hD [0, 1] (by decide +kernel) rfl⟩, hS.F ht⟩) hS.2.2 dX12_isMore_21
  · refine lv_iconst (v := iI 1) hx hb dX12_isMore_16 (by decide) ?_
    refine lv_goto (tgt := 21) hx hb dX12_isMore_17 (by decide) ?_
    refine W.widen (k := 0) (n := 0) (Nat.le_of_ble_eq_true rfl) (Nat.le_of_ble_eq_true rfl) ?_
    exact W.zret (v := iI 1) hx hb hr (by first | rfl | decide) (fun t ht hW => ⟨⟨iI 1, ((fun k => ([] : List Nat).getD k 0), (fun k => ([1, (u1.2.1 1)] : List Int).getD k 0), (fun k => ([] : List (Nat → Int32)).getD k (fun _ => 0))), rfl, ⟨rfl, (by show (0 ≤ (u1.2.1 1) ∧ (u1.2.1 1) ≤ 602); first | exact hq1_1 | omega), (by show (0 ≤ 1 ∧ 1 ≤ 1); show (0 : Int) ≤ 1 ∧ (1 : Int) ≤ 1; decide), (by show (ap ≤ (u1.2.1 1)); omega), (by show (ap ≤ sz_ → (u1.2.1 1) ≤ sz_); first | exact hq1_8 | omega), (by show (1 = 1 → (u1.2.1 1) < sz_); omega), hq1_9⟩, at9 ht hP hD [0, 1] (by decide +kernel) rfl⟩, hS.F ht⟩) hS.2.2 dX12_isMore_21
def vs_m_begins : List Cond := .code yX12_begins cX12_begins 2 none :: (([.fieldLink RX12 77 "KerbSplashModel" "taped" "I", .fieldLink RX12 17 "KerbSplashModel" "faultAt" "I", .fieldLink RX12 89 "KerbSplashModel" "size" "I", .fieldLink RX12 86 "KerbSplashModel" "at" "I", .fieldLink RX12 80 "KerbSplashModel" "bad" "I", .fieldLink RX12 120 "KerbSplashModel" "opens" "I"] : List Cond) ++ ((wsX120) ++ ([])))
theorem gd_m_begins : vs_m_begins.all goodWord = true := gd_C (by decide +kernel) (gd_A (by decide +kernel) (gd_A (by decide +kernel) rfl))
set_option maxHeartbeats 4000000 in
set_option maxRecDepth 100000 in
theorem m_begins (l : Launch) (hl : l.stackTraces = false) (D : va_G) (cy : Nat → ClassId) (sa : Nat → Nat) (mm m1 m9 m10 m11 m12 m13 m14 m15 m19 m20 m21 m23 m24 m25 m26 m27 m28 m33 m35 : Nat) (th tp sz_ ap bad bk opn fp im nr nl sp_ wtc wcl ir ip shu sfa swr : Int) (n : Int) (sz : Nat) (hr_th : (-2147483648) ≤ th ∧ th ≤ 2147483647) (hr_tp : 0 ≤ tp ∧ tp ≤ 600) (hr_sz_ : 0 ≤ sz_ ∧ sz_ ≤ 600) (hr_ap : 0 ≤ ap ∧ ap ≤ 602) (hr_bad : (-1) ≤ bad ∧ bad ≤ 602) (hr_bk : 0 ≤ bk ∧ bk ≤ 4) (hr_opn : 0 ≤ opn ∧ opn ≤ 7) (hr_fp : (-2147483648) ≤ fp ∧ fp ≤ 2147483647) (hr_im : 0 ≤ im ∧ im ≤ 3) (hr_nr : 0 ≤ nr ∧ nr ≤ 4) (hr_nl : 0 ≤ nl ∧ nl ≤ 4) (hr_sp_ : 0 ≤ sp_ ∧ sp_ ≤ 602) (hr_wtc : (-2147483648) ≤ wtc ∧ wtc ≤ 2147483647) (hr_wcl : 0 ≤ wcl ∧ wcl ≤ 95) (hr_ir : 0 ≤ ir ∧ ir ≤ 5) (hr_ip : (-2147483648) ≤ ip ∧ ip ≤ 2147483647) (hr_shu : (-2147483648) ≤ shu ∧ shu ≤ 2147483647) (hr_sfa : (-2147483648) ≤ sfa ∧ sfa ≤ 2147483647) (hr_swr : (-2147483648) ≤ swr ∧ swr ≤ 2147483647) (hr_n : 0 ≤ n ∧ n ≤ 600) : mV9 l yX12_begins vs_m_begins ({ frames := 0, cells := 0, slots := 0, locals := 0 }) D cy sa sz [vR mm, vI n] [zO mm 12 [vI th, vR m1, vI tp, vI sz_, vI ap, vI bad, vI bk, vI opn, vI fp, vR m9, vR m10, vR m11, vR m12, vR m13, vR m14, vR m15, vI im, vI nr, vI nl, vR m19, vR m20, vR m21, vI sp_, vR m23, vR m24, vR m25, vR m26, vR m27, vR m28, vI wtc, vI wcl, vI ir, vI ip, vR m33, vI shu, vR m35, vI sfa, vI swr]] (fun u : SV => True) (fun u : SV => [zO mm 12 [vI th, vR m1, vI 0, vI n, vI 0, vI (-1), vI bk, vI 0, vI (-1), vR m9, vR m10, vR m11, vR m12, vR m13, vR m14, vR m15, vI im, vI nr, vI nl, vR m19, vR m20, vR m21, vI sp_, vR m23, vR m24, vR m25, vR m26, vR m27, vR m28, vI wtc, vI wcl, vI ir, vI ip, vR m33, vI shu, vR m35, vI sfa, vI swr]]) 0 0 := by
  refine Met.ofW (cc := cX12_begins) (maxL := 2) (ret := none) (by decide) rfl ?_
  intro p e s m args below meth c s₁ B hml hv
  obtain ⟨rfl, hsz, hP, hG, hD0, hT⟩ := hv
  have hx := B.exec
  have hb := B.bytes
  have hr := B.returns
  have hts := atoms_spec (ws := vs_m_begins) B.pre
  have hown : s.vm.findClass RX12 = some m.cls := findClass_of_methodNamed B.named
  have hlocks := B.notSynchronized
  subst hsz
  have hD := hD0.self (sz := s.heap.size)
  generalize hAe : va_A [zO mm 12 [vI th, vR m1, vI tp, vI sz_, vI ap, vI bad, vI bk, vI opn, vI fp, vR m9, vR m10, vR m11, vR m12, vR m13, vR m14, vR m15, vI im, vI nr, vI nl, vR m19, vR m20, vR m21, vI sp_, vR m23, vR m24, vR m25, vR m26, vR m27, vR m28, vI wtc, vI wcl, vI ir, vI ip, vR m33, vI shu, vR m35, vI sfa, vI swr]] s.heap.size = A at hD hT ⊢
  have hA : ∀ q : Nat, s.heap.size ≤ q → A q := fun q h => by rw [← hAe]; exact Or.inr h
  have hS : va_S A s.heap s.heap [] := va_S.rf
  have hl0 := lv_entry ([vR mm, vI n]) (n := 2) (Nat.le_of_ble_eq_true rfl)
  rw [lg_entry_eq]
  generalize (lg_sl ([vR mm, vI n]) ++ List.replicate (2 - (lg_sl ([vR mm, vI n])).length) Slot.unset).toArray = ls at hl0 ⊢
  have hlv : lv_has ls 2 [(0, vR mm), (1, vI n)] := hl0
  have lf77 := hts (.fieldLink RX12 77 "KerbSplashModel" "taped" "I") (List.mem_of_getElem? (i := 1) rfl)
  have hi12 : ∀ w ∈ wsX120, w ∈ vs_m_begins := fun w h => List.mem_cons_of_mem _ (List.mem_append_right _ (List.mem_append_left _ h))
  have lf17 := hts (.fieldLink RX12 17 "KerbSplashModel" "faultAt" "I") (List.mem_of_getElem? (i := 2) rfl)
  have lf89 := hts (.fieldLink RX12 89 "KerbSplashModel" "size" "I") (List.mem_of_getElem? (i := 3) rfl)
  have lf86 := hts (.fieldLink RX12 86 "KerbSplashModel" "at" "I") (List.mem_of_getElem? (i := 4) rfl)
  have lf80 := hts (.fieldLink RX12 80 "KerbSplashModel" "bad" "I") (List.mem_of_getElem? (i := 5) rfl)
  have lf120 := hts (.fieldLink RX12 120 "KerbSplashModel" "opens" "I") (List.mem_of_getElem? (i := 6) rfl)
  refine lv_aload_n hx hb dX12_begins_0 rfl (lv_at hlv 0 rfl) ?_
  refine lv_iconst (v := iI 0) hx hb dX12_begins_1 (by decide) ?_
  refine va_put (D := D) (ci := 12) (v := vI 0) (ty := .int) (C := RX12) (T := TX12) (N := 38) hx hb hts hi12 tyX12 tyX12_ok nmX12 hown hG.1 hP hD hS 0 rfl rfl 2 (by decide) lf77 (fun _ h9 => h9) rfl (by decide +kernel) rfl rfl (Nat.le_of_ble_eq_true rfl) dX12_begins_2 (fun H locs hP hD hS => ?_)
  obtain ⟨hP, hD⟩ := pw9 [zO mm 12 [vI th, vR m1, vI 0, vI sz_, vI ap, vI bad, vI bk, vI opn, vI fp, vR m9, vR m10, vR m11, vR m12, vR m13, vR m14, vR m15, vI im, vI nr, vI nl, vR m19, vR m20, vR m21, vI sp_, vR m23, vR m24, vR m25, vR m26, vR m27, vR m28, vI wtc, vI wcl, vI ir, vI ip, vR m33, vI shu, vR m35, vI sfa, vI swr]] hP hD
  refine lv_aload_n hx hb dX12_begins_5 rfl (lv_at hlv 0 rfl) ?_
  refine lv_iconst (v := iI (-1)) hx hb dX12_begins_6 (by decide) ?_
  refine va_put (D := D) (ci := 12) (v := vI (-1)) (ty := .int) (C := RX12) (T := TX12) (N := 38) hx hb hts hi12 tyX12 tyX12_ok nmX12 hown hG.1 hP hD hS 0 rfl rfl 8 (by decide) lf17 (fun _ h9 => h9) rfl (by decide +kernel) rfl rfl (Nat.le_of_ble_eq_true rfl) dX12_begins_7 (fun H locs hP hD hS => ?_)
  obtain ⟨hP, hD⟩ := pw9 [zO mm 12 [vI th, vR m1, vI 0, vI sz_, vI ap, vI bad, vI bk, vI opn, vI (-1), vR m9, vR m10, vR m11, vR m12, vR m13, vR m14, vR m15, vI im, vI nr, vI nl, vR m19, vR m20, vR m21, vI sp_, vR m23, vR m24, vR m25, vR m26, vR m27, vR m28, vI wtc, vI wcl, vI ir, vI ip, vR m33, vI shu, vR m35, vI sfa, vI swr]] hP hD
  refine lv_aload_n hx hb dX12_begins_10 rfl (lv_at hlv 0 rfl) ?_
  refine lv_iload_n hx hb dX12_begins_11 rfl (lv_at hlv 1 rfl) ?_
  refine va_put (D := D) (ci := 12) (v := vI n) (ty := .int) (C := RX12) (T := TX12) (N := 38) hx hb hts hi12 tyX12 tyX12_ok nmX12 hown hG.1 hP hD hS 0 rfl rfl 3 (by decide) lf89 (fun _ h9 => h9) rfl (by decide +kernel) rfl rfl (Nat.le_of_ble_eq_true rfl) dX12_begins_12 (fun H locs hP hD hS => ?_)
  obtain ⟨hP, hD⟩ := pw9 [zO mm 12 [vI th, vR m1, vI 0, vI n, vI ap, vI bad, vI bk, vI opn, vI (-1), vR m9, vR m10, vR m11, vR m12, vR m13, vR m14, vR m15, vI im, vI nr, vI nl, vR m19, vR m20, vR m21, vI sp_, vR m23, vR m24, vR m25, vR m26, vR m27, vR m28, vI wtc, vI wcl, vI ir, vI ip, vR m33, vI shu, vR m35, vI sfa, vI swr]] hP hD
  refine lv_aload_n hx hb dX12_begins_15 rfl (lv_at hlv 0 rfl) ?_
  refine lv_iconst (v := iI 0) hx hb dX12_begins_16 (by decide) ?_
  refine va_put (D := D) (ci := 12) (v := vI 0) (ty := .int) (C := RX12) (T := TX12) (N := 38) hx hb hts hi12 tyX12 tyX12_ok nmX12 hown hG.1 hP hD hS 0 rfl rfl 4 (by decide) lf86 (fun _ h9 => h9) rfl (by decide +kernel) rfl rfl (Nat.le_of_ble_eq_true rfl) dX12_begins_17 (fun H locs hP hD hS => ?_)
  obtain ⟨hP, hD⟩ := pw9 [zO mm 12 [vI th, vR m1, vI 0, vI n, vI 0, vI bad, vI bk, vI opn, vI (-1), vR m9, vR m10, vR m11, vR m12, vR m13, vR m14, vR m15, vI im, vI nr, vI nl, vR m19, vR m20, vR m21, vI sp_, vR m23, vR m24, vR m25, vR m26, vR m27, vR m28, vI wtc, vI wcl, vI ir, vI ip, vR m33, vI shu, vR m35, vI sfa, vI swr]] hP hD
  refine lv_aload_n hx hb dX12_begins_20 rfl (lv_at hlv 0 rfl) ?_
  refine lv_iconst (v := iI (-1)) hx hb dX12_begins_21 (by decide) ?_
  refine va_put (D := D) (ci := 12) (v := vI (-1)) (ty := .int) (C := RX12) (T := TX12) (N := 38) hx hb hts hi12 tyX12 tyX12_ok nmX12 hown hG.1 hP hD hS 0 rfl rfl 5 (by decide) lf80 (fun _ h9 => h9) rfl (by decide +kernel) rfl rfl (Nat.le_of_ble_eq_true rfl) dX12_begins_22 (fun H locs hP hD hS => ?_)
  obtain ⟨hP, hD⟩ := pw9 [zO mm 12 [vI th, vR m1, vI 0, vI n, vI 0, vI (-1), vI bk, vI opn, vI (-1), vR m9, vR m10, vR m11, vR m12, vR m13, vR m14, vR m15, vI im, vI nr, vI nl, vR m19, vR m20, vR m21, vI sp_, vR m23, vR m24, vR m25, vR m26, vR m27, vR m28, vI wtc, vI wcl, vI ir, vI ip, vR m33, vI shu, vR m35, vI sfa, vI swr]] hP hD
  refine lv_aload_n hx hb dX12_begins_25 rfl (lv_at hlv 0 rfl) ?_
  refine lv_iconst (v := iI 0) hx hb dX12_begins_26 (by decide) ?_
  refine va_put (D := D) (ci := 12) (v := vI 0) (ty := .int) (C := RX12) (T := TX12) (N := 38) hx hb hts hi12 tyX12 tyX12_ok nmX12 hown hG.1 hP hD hS 0 rfl rfl 7 (by decide) lf120 (fun _ h9 => h9) rfl (by decide +kernel) rfl rfl (Nat.le_of_ble_eq_true rfl) dX12_begins_27 (fun H locs hP hD hS => ?_)
  obtain ⟨hP, hD⟩ := pw9 [zO mm 12 [vI th, vR m1, vI 0, vI n, vI 0, vI (-1), vI bk, vI 0, vI (-1), vR m9, vR m10, vR m11, vR m12, vR m13, vR m14, vR m15, vI im, vI nr, vI nl, vR m19, vR m20, vR m21, vI sp_, vR m23, vR m24, vR m25, vR m26, vR m27, vR m28, vI wtc, vI wcl, vI ir, vI ip, vR m33, vI shu, vR m35, vI sfa, vI swr]] hP hD
  refine W.widen (k := 0) (n := 0) (Nat.le_of_ble_eq_true rfl) (Nat.le_of_ble_eq_true rfl) ?_
  exact W.vret hx hb hr (fun t ht hW => ⟨⟨((fun k => ([] : List Nat).getD k 0), (fun k => ([] : List Int).getD k 0), (fun k => ([] : List (Nat → Int32)).getD k (fun _ => 0))), rfl, trivial, at9 ht hP hD [0] (by decide +kernel) rfl⟩, hS.F ht⟩) hS.2.2 dX12_begins_30
def vs_m_result : List Cond := .code yX12_result cX12_result 2 (some .int) :: (([.fieldLink RX12 80 "KerbSplashModel" "bad" "I", .fieldLink RX12 17 "KerbSplashModel" "faultAt" "I", .fieldLink RX12 83 "KerbSplashModel" "badKind" "I"] : List Cond) ++ ((wsX120) ++ ((wsV RX12 109 RX12 yX12_fine vs_m_fine) ++ ([]))))
theorem gd_m_result : vs_m_result.all goodWord = true := gd_C (by decide +kernel) (gd_A (by decide +kernel) (gd_A (by decide +kernel) (gd_A (gd_V gd_m_fine (by decide +kernel)) rfl)))
set_option maxHeartbeats 4000000 in
set_option maxRecDepth 100000 in
theorem m_result (l : Launch) (hl : l.stackTraces = false) (D : va_G) (cy : Nat → ClassId) (sa : Nat → Nat) (mm m1 m9 m10 m11 m12 m13 m14 m15 m19 m20 m21 m23 m24 m25 m26 m27 m28 m33 m35 : Nat) (th tp sz_ ap bad bk opn fp im nr nl sp_ wtc wcl ir ip shu sfa swr : Int) (n : Int) (sz : Nat) (hr_th : (-2147483648) ≤ th ∧ th ≤ 2147483647) (hr_tp : 0 ≤ tp ∧ tp ≤ 600) (hr_sz_ : 0 ≤ sz_ ∧ sz_ ≤ 600) (hr_ap : 0 ≤ ap ∧ ap ≤ 602) (hr_bad : (-1) ≤ bad ∧ bad ≤ 602) (hr_bk : 0 ≤ bk ∧ bk ≤ 4) (hr_opn : 0 ≤ opn ∧ opn ≤ 7) (hr_fp : (-2147483648) ≤ fp ∧ fp ≤ 2147483647) (hr_im : 0 ≤ im ∧ im ≤ 3) (hr_nr : 0 ≤ nr ∧ nr ≤ 4) (hr_nl : 0 ≤ nl ∧ nl ≤ 4) (hr_sp_ : 0 ≤ sp_ ∧ sp_ ≤ 602) (hr_wtc : (-2147483648) ≤ wtc ∧ wtc ≤ 2147483647) (hr_wcl : 0 ≤ wcl ∧ wcl ≤ 95) (hr_ir : 0 ≤ ir ∧ ir ≤ 5) (hr_ip : (-2147483648) ≤ ip ∧ ip ≤ 2147483647) (hr_shu : (-2147483648) ≤ shu ∧ shu ≤ 2147483647) (hr_sfa : (-2147483648) ≤ sfa ∧ sfa ≤ 2147483647) (hr_swr : (-2147483648) ≤ swr ∧ swr ≤ 2147483647) (hr_n : (-2147483648) ≤ n ∧ n ≤ 2147483647) : mI9 l yX12_result vs_m_result ({ frames := 1, cells := 0, slots := 0, locals := 20 }) D cy sa sz [vR mm, vI n] [zO mm 12 [vI th, vR m1, vI tp, vI sz_, vI ap, vI bad, vI bk, vI opn, vI fp, vR m9, vR m10, vR m11, vR m12, vR m13, vR m14, vR m15, vI im, vI nr, vI nl, vR m19, vR m20, vR m21, vI sp_, vR m23, vR m24, vR m25, vR m26, vR m27, vR m28, vI wtc, vI wcl, vI ir, vI ip, vR m33, vI shu, vR m35, vI sfa, vI swr]] (fun (r : Int32) (u : SV) => r = iI (u.2.1 0) ∧ ((-2147483648) ≤ u.2.1 0 ∧ u.2.1 0 ≤ 2147483647) ∧ (bad = -1 → u.2.1 0 = n) ∧ (bad ≠ -1 → u.2.1 0 ≤ -6)) (fun u : SV => [zO mm 12 [vI th, vR m1, vI tp, vI sz_, vI ap, vI bad, vI bk, vI opn, vI bad, vR m9, vR m10, vR m11, vR m12, vR m13, vR m14, vR m15, vI im, vI nr, vI nl, vR m19, vR m20, vR m21, vI sp_, vR m23, vR m24, vR m25, vR m26, vR m27, vR m28, vI wtc, vI wcl, vI ir, vI ip, vR m33, vI shu, vR m35, vI sfa, vI swr]]) 0 0 := by
  refine Met.ofW (cc := cX12_result) (maxL := 2) (ret := (some .int)) (by decide) rfl ?_
  intro p e s m args below meth c s₁ B hml hv
  obtain ⟨rfl, hsz, hP, hG, hD0, hT⟩ := hv
  have hx := B.exec
  have hb := B.bytes
  have hr := B.returns
  have hts := atoms_spec (ws := vs_m_result) B.pre
  have hown : s.vm.findClass RX12 = some m.cls := findClass_of_methodNamed B.named
  have hlocks := B.notSynchronized
  subst hsz
  have hD := hD0.self (sz := s.heap.size)
  generalize hAe : va_A [zO mm 12 [vI th, vR m1, vI tp, vI sz_, vI ap, vI bad, vI bk, vI opn, vI fp, vR m9, vR m10, vR m11, vR m12, vR m13, vR m14, vR m15, vI im, vI nr, vI nl, vR m19, vR m20, vR m21, vI sp_, vR m23, vR m24, vR m25, vR m26, vR m27, vR m28, vI wtc, vI wcl, vI ir, vI ip, vR m33, vI shu, vR m35, vI sfa, vI swr]] s.heap.size = A at hD hT ⊢
  have hA : ∀ q : Nat, s.heap.size ≤ q → A q := fun q h => by rw [← hAe]; exact Or.inr h
  have hS : va_S A s.heap s.heap [] := va_S.rf
  have hl0 := lv_entry ([vR mm, vI n]) (n := 2) (Nat.le_of_ble_eq_true rfl)
  rw [lg_entry_eq]
  generalize (lg_sl ([vR mm, vI n]) ++ List.replicate (2 - (lg_sl ([vR mm, vI n])).length) Slot.unset).toArray = ls at hl0 ⊢
  have hlv : lv_has ls 2 [(0, vR mm), (1, vI n)] := hl0
  have lf80 := hts (.fieldLink RX12 80 "KerbSplashModel" "bad" "I") (List.mem_of_getElem? (i := 1) rfl)
  have hi12 : ∀ w ∈ wsX120, w ∈ vs_m_result := fun w h => List.mem_cons_of_mem _ (List.mem_append_right _ (List.mem_append_left _ h))
  have lf17 := hts (.fieldLink RX12 17 "KerbSplashModel" "faultAt" "I") (List.mem_of_getElem? (i := 2) rfl)
  have gg_1 : GoodIn vs_m_result (wsV RX12 109 RX12 yX12_fine vs_m_fine) := goodIn_sub (fun w h => List.mem_cons_of_mem _ (List.mem_append_right _ (List.mem_append_right _ (List.mem_append_left _ h)))) (gd_V gd_m_fine (by decide +kernel))
  have lf83 := hts (.fieldLink RX12 83 "KerbSplashModel" "badKind" "I") (List.mem_of_getElem? (i := 3) rfl)
  refine lv_aload_n hx hb dX12_result_0 rfl (lv_at hlv 0 rfl) ?_
  refine lv_aload_n hx hb dX12_result_1 rfl (lv_at hlv 0 rfl) ?_
  refine va_get (D := D) (ci := 12) (v := vI bad) (C := RX12) (T := TX12) (N := 38) hx hb hts hi12 hown hG.1 hP 0 rfl rfl 5 (by decide) lf80 (fun _ h9 => h9) rfl dX12_result_2 ?_
  refine va_put (D := D) (ci := 12) (v := vI bad) (ty := .int) (C := RX12) (T := TX12) (N := 38) hx hb hts hi12 tyX12 tyX12_ok nmX12 hown hG.1 hP hD hS 0 rfl rfl 8 (by decide) lf17 (fun _ h9 => h9) rfl (by decide +kernel) rfl rfl (Nat.le_of_ble_eq_true rfl) dX12_result_5 (fun H locs hP hD hS => ?_)
  obtain ⟨hP, hD⟩ := pw9 [zO mm 12 [vI th, vR m1, vI tp, vI sz_, vI ap, vI bad, vI bk, vI opn, vI bad, vR m9, vR m10, vR m11, vR m12, vR m13, vR m14, vR m15, vI im, vI nr, vI nl, vR m19, vR m20, vR m21, vI sp_, vR m23, vR m24, vR m25, vR m26, vR m27, vR m28, vI wtc, vI wcl, vI ir, vI ip, vR m33, vI shu, vR m35, vI sfa, vI swr]] hP hD
  refine lv_aload_n hx hb dX12_result_8 rfl (lv_at hlv 0 rfl) ?_
  refine cjr_i [false] (fun pre9 => (va_runV (As := []) (rest := []) ⟨hx, hb, hml, hown, hts⟩ (m_fine l hl D cy sa mm m1 m9 m10 m11 m12 m13 m14 m15 m19 m20 m21 m23 m24 m25 m26 m27 m28 m33 m35 th tp sz_ ap bad bk opn bad im nr nl sp_ wtc wcl ir ip shu sfa swr H.size (by first | exact hr_th | omega) (by first | exact hr_tp | omega) (by first | exact hr_sz_ | omega) (by first | exact hr_ap | omega) (by first | exact hr_bad | omega) (by first | exact hr_bk | omega) (by first | exact hr_opn | omega) (by first | exact rgw hr_bad (by decide) (by decide) | omega) (by first | exact hr_im | omega) (by first | exact hr_nr | omega) (by first | exact hr_nl | omega) (by first | exact hr_sp_ | omega) (by first | exact hr_wtc | omega) (by first | exact hr_wcl | omega) (by first | exact hr_ir | omega) (by first | exact hr_ip | omega) (by first | exact hr_shu | omega) (by first | exact hr_sfa | omega) (by first | exact hr_swr | omega)) (cwV 0 hts gg_1 rfl rfl rfl (by decide +kernel) ⟨Nat.le_of_ble_eq_true rfl, Nat.le_of_ble_eq_true rfl⟩) ⟨pcW.blind, (va_recv hG.1 hP (ci := 12) (q0 := 0) rfl rfl), pre9⟩ rfl rfl hlv.1 rfl (lv_room (Nat.le_of_ble_eq_true rfl)) dX12_result_9 ⟨Nat.le_of_ble_eq_true rfl, Nat.le_of_ble_eq_true rfl⟩)) hP hD hS hA hG hT [0] rfl (by decide +kernel) (fun r1 u1 H locs hw1 hq9 hS => ?_)
  obtain ⟨rfl, hq1_1, hq1_2, hq1_3⟩ := hw1
  obtain ⟨hP, hD⟩ := pd9 [zO mm 12 [vI th, vR m1, vI tp, vI sz_, vI ap, vI bad, vI bk, vI opn, vI bad, vR m9, vR m10, vR m11, vR m12, vR m13, vR m14, vR m15, vI im, vI nr, vI nl, vR m19, vR m20, vR m21, vI sp_, vR m23, vR m24, vR m25, vR m26, vR m27, vR m28, vI wtc, vI wcl, vI ir, vI ip, vR m33, vI shu, vR m35, vI sfa, vI swr]] hq9
  refine iz_eq (tgt := 19) hx hb dX12_result_12 (by decide) (by first | exact rgw hq1_1 (by decide) (by decide) | omega) (fun c_1 => ?_) (fun c_1 => ?_)
  · refine lv_aload_n hx hb dX12_result_19 rfl (lv_at hlv 0 rfl) ?_
    refine va_get (D := D) (ci := 12) (v := vI bk) (C := RX12) (T := TX12) (N := 38) hx hb hts hi12 hown hG.1 hP 0 rfl rfl 6 (by decide) lf83 (fun _ h9 => h9) rfl dX12_result_20 ?_
    refine lv_bipush (v := iI 10) hx hb dX12_result_23 (by decide) ?_
    refine lv_isub hx hb dX12_result_25 ?_
    refine lt_e (e0 := bk - 10) (Int32.ofInt_sub _ _).symm (fun z_2 hz_2 => ?_)
    refine W.widen (k := 0) (n := 0) (Nat.le_of_ble_eq_true rfl) (Nat.le_of_ble_eq_true rfl) ?_
    exact W.iret (v := iI z_2) hx hb hr (fun t ht hW => ⟨⟨iI z_2, ((fun k => ([] : List Nat).getD k 0), (fun k => ([z_2] : List Int).getD k 0), (fun k => ([] : List (Nat → Int32)).getD k (fun _ => 0))), rfl, ⟨rfl, (by show ((-2147483648) ≤ z_2 ∧ z_2 ≤ 2147483647); omega), (by show (bad = -1 → z_2 = n); omega), (by show (bad ≠ -1 → z_2 ≤ -6); omega)⟩, at9 ht hP hD [0] (by decide +kernel) rfl⟩, hS.F ht⟩) hS.2.2 dX12_result_26
  · refine lv_iload_n hx hb dX12_result_15 rfl (lv_at hlv 1 rfl) ?_
    refine lv_goto (tgt := 26) hx hb dX12_result_16 (by decide) ?_
    refine W.widen (k := 0) (n := 0) (Nat.le_of_ble_eq_true rfl) (Nat.le_of_ble_eq_true rfl) ?_
    exact W.iret (v := iI n) hx hb hr (fun t ht hW => ⟨⟨iI n, ((fun k => ([] : List Nat).getD k 0), (fun k => ([n] : List Int).getD k 0), (fun k => ([] : List (Nat → Int32)).getD k (fun _ => 0))), rfl, ⟨rfl, (by show ((-2147483648) ≤ n ∧ n ≤ 2147483647); first | exact hr_n | omega), (by show (bad = -1 → n = n); omega), (by show (bad ≠ -1 → n ≤ -6); omega)⟩, at9 ht hP hD [0] (by decide +kernel) rfl⟩, hS.F ht⟩) hS.2.2 dX12_result_26
def vs_m_fault : List Cond := .code yX12_fault cX12_fault 1 (some .int) :: (([.fieldLink RX12 1 "KerbSplashModel" "thrown" "I", .fieldLink RX12 17 "KerbSplashModel" "faultAt" "I"] : List Cond) ++ ((wsX120) ++ ([])))
set_option maxHeartbeats 4000000 in
set_option maxRecDepth 100000 in
theorem m_fault (l : Launch) (hl : l.stackTraces = false) (D : va_G) (cy : Nat → ClassId) (sa : Nat → Nat) (mm m1 m9 m10 m11 m12 m13 m14 m15 m19 m20 m21 m23 m24 m25 m26 m27 m28 m33 m35 : Nat) (th tp sz_ ap bad bk opn fp im nr nl sp_ wtc wcl ir ip shu sfa swr : Int) (sz : Nat) (hr_th : (-2147483648) ≤ th ∧ th ≤ 2147483647) (hr_tp : 0 ≤ tp ∧ tp ≤ 600) (hr_sz_ : 0 ≤ sz_ ∧ sz_ ≤ 600) (hr_ap : 0 ≤ ap ∧ ap ≤ 602) (hr_bad : (-1) ≤ bad ∧ bad ≤ 602) (hr_bk : 0 ≤ bk ∧ bk ≤ 4) (hr_opn : 0 ≤ opn ∧ opn ≤ 7) (hr_fp : (-2147483648) ≤ fp ∧ fp ≤ 2147483647) (hr_im : 0 ≤ im ∧ im ≤ 3) (hr_nr : 0 ≤ nr ∧ nr ≤ 4) (hr_nl : 0 ≤ nl ∧ nl ≤ 4) (hr_sp_ : 0 ≤ sp_ ∧ sp_ ≤ 602) (hr_wtc : (-2147483648) ≤ wtc ∧ wtc ≤ 2147483647) (hr_wcl : 0 ≤ wcl ∧ wcl ≤ 95) (hr_ir : 0 ≤ ir ∧ ir ≤ 5) (hr_ip : (-2147483648) ≤ ip ∧ ip ≤ 2147483647) (hr_shu : (-2147483648) ≤ shu ∧ shu ≤ 2147483647) (hr_sfa : (-2147483648) ≤ sfa ∧ sfa ≤ 2147483647) (hr_swr : (-2147483648) ≤ swr ∧ swr ≤ 2147483647) : mI9 l yX12_fault vs_m_fault ({ frames := 0, cells := 0, slots := 0, locals := 0 }) D cy sa sz [vR mm] [zO mm 12 [vI th, vR m1, vI tp, vI sz_, vI ap, vI bad, vI bk, vI opn, vI fp, vR m9, vR m10, vR m11, vR m12, vR m13, vR m14, vR m15, vI im, vI nr, vI nl, vR m19, vR m20, vR m21, vI sp_, vR m23, vR m24, vR m25, vR m26, vR m27, vR m28, vI wtc, vI wcl, vI ir, vI ip, vR m33, vI shu, vR m35, vI sfa, vI swr]] (fun (r : Int32) (u : SV) => r = iI (u.2.1 0) ∧ ((-2147483648) ≤ u.2.1 0 ∧ u.2.1 0 ≤ 2147483647)) (fun u : SV => [zO mm 12 [vI 0, vR m1, vI tp, vI sz_, vI ap, vI bad, vI bk, vI opn, vI fp, vR m9, vR m10, vR m11, vR m12, vR m13, vR m14, vR m15, vI im, vI nr, vI nl, vR m19, vR m20, vR m21, vI sp_, vR m23, vR m24, vR m25, vR m26, vR m27, vR m28, vI wtc, vI wcl, vI ir, vI ip, vR m33, vI shu, vR m35, vI sfa, vI swr]]) 0 0 := by
  refine Met.ofW (cc := cX12_fault) (maxL := 1) (ret := (some .int)) (by decide) rfl ?_
  intro p e s m args below meth c s₁ B hml hv
  obtain ⟨rfl, hsz, hP, hG, hD0, hT⟩ := hv
  have hx := B.exec
  have hb := B.bytes
  have hr := B.returns
  have hts := atoms_spec (ws := vs_m_fault) B.pre
  have hown : s.vm.findClass RX12 = some m.cls := findClass_of_methodNamed B.named
  have hlocks := B.notSynchronized
  subst hsz
  have hD := hD0.self (sz := s.heap.size)
  generalize hAe : va_A [zO mm 12 [vI th, vR m1, vI tp, vI sz_, vI ap, vI bad, vI bk, vI opn, vI fp, vR m9, vR m10, vR m11, vR m12, vR m13, vR m14, vR m15, vI im, vI nr, vI nl, vR m19, vR m20, vR m21, vI sp_, vR m23, vR m24, vR m25, vR m26, vR m27, vR m28, vI wtc, vI wcl, vI ir, vI ip, vR m33, vI shu, vR m35, vI sfa, vI swr]] s.heap.size = A at hD hT ⊢
  have hA : ∀ q : Nat, s.heap.size ≤ q → A q := fun q h => by rw [← hAe]; exact Or.inr h
  have hS : va_S A s.heap s.heap [] := va_S.rf
  have hl0 := lv_entry ([vR mm]) (n := 1) (Nat.le_of_ble_eq_true rfl)
  rw [lg_entry_eq]
  generalize (lg_sl ([vR mm]) ++ List.replicate (1 - (lg_sl ([vR mm])).length) Slot.unset).toArray = ls at hl0 ⊢
  have hlv : lv_has ls 1 [(0, vR mm)] := hl0
  have lf1 := hts (.fieldLink RX12 1 "KerbSplashModel" "thrown" "I") (List.mem_of_getElem? (i := 1) rfl)
  have hi12 : ∀ w ∈ wsX120, w ∈ vs_m_fault := fun w h => List.mem_cons_of_mem _ (List.mem_append_right _ (List.mem_append_left _ h))
  have lf17 := hts (.fieldLink RX12 17 "KerbSplashModel" "faultAt" "I") (List.mem_of_getElem? (i := 2) rfl)
  refine lv_aload_n hx hb dX12_fault_0 rfl (lv_at hlv 0 rfl) ?_
  refine lv_iconst (v := iI 0) hx hb dX12_fault_1 (by decide) ?_
  refine va_put (D := D) (ci := 12) (v := vI 0) (ty := .int) (C := RX12) (T := TX12) (N := 38) hx hb hts hi12 tyX12 tyX12_ok nmX12 hown hG.1 hP hD hS 0 rfl rfl 0 (by decide) lf1 (fun _ h9 => h9) rfl (by decide +kernel) rfl rfl (Nat.le_of_ble_eq_true rfl) dX12_fault_2 (fun H locs hP hD hS => ?_)
  obtain ⟨hP, hD⟩ := pw9 [zO mm 12 [vI 0, vR m1, vI tp, vI sz_, vI ap, vI bad, vI bk, vI opn, vI fp, vR m9, vR m10, vR m11, vR m12, vR m13, vR m14, vR m15, vI im, vI nr, vI nl, vR m19, vR m20, vR m21, vI sp_, vR m23, vR m24, vR m25, vR m26, vR m27, vR m28, vI wtc, vI wcl, vI ir, vI ip, vR m33, vI shu, vR m35, vI sfa, vI swr]] hP hD
  refine lv_aload_n hx hb dX12_fault_5 rfl (lv_at hlv 0 rfl) ?_
  refine va_get (D := D) (ci := 12) (v := vI fp) (C := RX12) (T := TX12) (N := 38) hx hb hts hi12 hown hG.1 hP 0 rfl rfl 8 (by decide) lf17 (fun _ h9 => h9) rfl dX12_fault_6 ?_
  refine W.widen (k := 0) (n := 0) (Nat.le_of_ble_eq_true rfl) (Nat.le_of_ble_eq_true rfl) ?_
  exact W.iret (v := iI fp) hx hb hr (fun t ht hW => ⟨⟨iI fp, ((fun k => ([] : List Nat).getD k 0), (fun k => ([fp] : List Int).getD k 0), (fun k => ([] : List (Nat → Int32)).getD k (fun _ => 0))), rfl, ⟨rfl, (by show ((-2147483648) ≤ fp ∧ fp ≤ 2147483647); first | exact hr_fp | omega)⟩, at9 ht hP hD [0] (by decide +kernel) rfl⟩, hS.F ht⟩) hS.2.2 dX12_fault_9
end
section
theorem dX12_readDrain_0 : decode cX12_readDrain 0 = .ok (.bipush 6, 2) := by decide +kernel
theorem dX12_readDrain_10 : decode cX12_readDrain 10 = .ok (.iadd, 1) := by decide +kernel
theorem dX12_readDrain_100 : decode cX12_readDrain 100 = .ok (.iastore, 1) := by decide +kernel
theorem dX12_readDrain_101 : decode cX12_readDrain 101 = .ok (.return_, 1) := by decide +kernel
theorem dX12_readDrain_11 : decode cX12_readDrain 11 = .ok (.istore_n 1, 1) := by decide +kernel
theorem dX12_readDrain_12 : decode cX12_readDrain 12 = .ok (.aload_n 0, 1) := by decide +kernel
theorem dX12_readDrain_13 : decode cX12_readDrain 13 = .ok (.invokevirtual 127, 3) := by decide +kernel
theorem dX12_readDrain_16 : decode cX12_readDrain 16 = .ok (.istore_n 2, 1) := by decide +kernel
theorem dX12_readDrain_17 : decode cX12_readDrain 17 = .ok (.aload_n 0, 1) := by decide +kernel
theorem dX12_readDrain_18 : decode cX12_readDrain 18 = .ok (.invokevirtual 130, 3) := by decide +kernel
theorem dX12_readDrain_2 : decode cX12_readDrain 2 = .ok (.iconst 3, 1) := by decide +kernel
theorem dX12_readDrain_21 : decode cX12_readDrain 21 = .ok (.istore_n 3, 1) := by decide +kernel
theorem dX12_readDrain_22 : decode cX12_readDrain 22 = .ok (.aload_n 0, 1) := by decide +kernel
theorem dX12_readDrain_23 : decode cX12_readDrain 23 = .ok (.iconst 1, 1) := by decide +kernel
theorem dX12_readDrain_24 : decode cX12_readDrain 24 = .ok (.bipush 99, 2) := by decide +kernel
theorem dX12_readDrain_26 : decode cX12_readDrain 26 = .ok (.invokevirtual 123, 3) := by decide +kernel
theorem dX12_readDrain_29 : decode cX12_readDrain 29 = .ok (.istore 4, 2) := by decide +kernel
theorem dX12_readDrain_3 : decode cX12_readDrain 3 = .ok (.aload_n 0, 1) := by decide +kernel
theorem dX12_readDrain_31 : decode cX12_readDrain 31 = .ok (.aload_n 0, 1) := by decide +kernel
theorem dX12_readDrain_32 : decode cX12_readDrain 32 = .ok (.iconst 0, 1) := by decide +kernel
theorem dX12_readDrain_33 : decode cX12_readDrain 33 = .ok (.bipush 16, 2) := by decide +kernel
theorem dX12_readDrain_35 : decode cX12_readDrain 35 = .ok (.invokevirtual 123, 3) := by decide +kernel
theorem dX12_readDrain_38 : decode cX12_readDrain 38 = .ok (.istore 5, 2) := by decide +kernel
theorem dX12_readDrain_4 : decode cX12_readDrain 4 = .ok (.getfield 26, 3) := by decide +kernel
theorem dX12_readDrain_40 : decode cX12_readDrain 40 = .ok (.aload_n 0, 1) := by decide +kernel
theorem dX12_readDrain_41 : decode cX12_readDrain 41 = .ok (.invokevirtual 109, 3) := by decide +kernel
theorem dX12_readDrain_44 : decode cX12_readDrain 44 = .ok (.ifCond .ne 4, 3) := by decide +kernel
theorem dX12_readDrain_47 : decode cX12_readDrain 47 = .ok (.return_, 1) := by decide +kernel
theorem dX12_readDrain_48 : decode cX12_readDrain 48 = .ok (.aload_n 0, 1) := by decide +kernel
theorem dX12_readDrain_49 : decode cX12_readDrain 49 = .ok (.getfield 26, 3) := by decide +kernel
theorem dX12_readDrain_52 : decode cX12_readDrain 52 = .ok (.iload_n 1, 1) := by decide +kernel
theorem dX12_readDrain_53 : decode cX12_readDrain 53 = .ok (.iload_n 2, 1) := by decide +kernel
theorem dX12_readDrain_54 : decode cX12_readDrain 54 = .ok (.iastore, 1) := by decide +kernel
theorem dX12_readDrain_55 : decode cX12_readDrain 55 = .ok (.aload_n 0, 1) := by decide +kernel
theorem dX12_readDrain_56 : decode cX12_readDrain 56 = .ok (.getfield 26, 3) := by decide +kernel
theorem dX12_readDrain_59 : decode cX12_readDrain 59 = .ok (.iload_n 1, 1) := by decide +kernel
theorem dX12_readDrain_60 : decode cX12_readDrain 60 = .ok (.iconst 1, 1) := by decide +kernel
theorem dX12_readDrain_61 : decode cX12_readDrain 61 = .ok (.iadd, 1) := by decide +kernel
theorem dX12_readDrain_62 : decode cX12_readDrain 62 = .ok (.iload_n 3, 1) := by decide +kernel
theorem dX12_readDrain_63 : decode cX12_readDrain 63 = .ok (.iastore, 1) := by decide +kernel
theorem dX12_readDrain_64 : decode cX12_readDrain 64 = .ok (.aload_n 0, 1) := by decide +kernel
theorem dX12_readDrain_65 : decode cX12_readDrain 65 = .ok (.getfield 26, 3) := by decide +kernel
theorem dX12_readDrain_68 : decode cX12_readDrain 68 = .ok (.iload_n 1, 1) := by decide +kernel
theorem dX12_readDrain_69 : decode cX12_readDrain 69 = .ok (.iconst 2, 1) := by decide +kernel
theorem dX12_readDrain_7 : decode cX12_readDrain 7 = .ok (.iconst 2, 1) := by decide +kernel
theorem dX12_readDrain_70 : decode cX12_readDrain 70 = .ok (.iadd, 1) := by decide +kernel
theorem dX12_readDrain_71 : decode cX12_readDrain 71 = .ok (.iload 4, 2) := by decide +kernel
theorem dX12_readDrain_73 : decode cX12_readDrain 73 = .ok (.iastore, 1) := by decide +kernel
theorem dX12_readDrain_74 : decode cX12_readDrain 74 = .ok (.aload_n 0, 1) := by decide +kernel
theorem dX12_readDrain_75 : decode cX12_readDrain 75 = .ok (.getfield 32, 3) := by decide +kernel
theorem dX12_readDrain_78 : decode cX12_readDrain 78 = .ok (.sipush 192, 3) := by decide +kernel
theorem dX12_readDrain_8 : decode cX12_readDrain 8 = .ok (.iaload, 1) := by decide +kernel
theorem dX12_readDrain_81 : decode cX12_readDrain 81 = .ok (.aload_n 0, 1) := by decide +kernel
theorem dX12_readDrain_82 : decode cX12_readDrain 82 = .ok (.getfield 26, 3) := by decide +kernel
theorem dX12_readDrain_85 : decode cX12_readDrain 85 = .ok (.iconst 2, 1) := by decide +kernel
theorem dX12_readDrain_86 : decode cX12_readDrain 86 = .ok (.iaload, 1) := by decide +kernel
theorem dX12_readDrain_87 : decode cX12_readDrain 87 = .ok (.iadd, 1) := by decide +kernel
theorem dX12_readDrain_88 : decode cX12_readDrain 88 = .ok (.iload 5, 2) := by decide +kernel
theorem dX12_readDrain_9 : decode cX12_readDrain 9 = .ok (.imul, 1) := by decide +kernel
theorem dX12_readDrain_90 : decode cX12_readDrain 90 = .ok (.iastore, 1) := by decide +kernel
theorem dX12_readDrain_91 : decode cX12_readDrain 91 = .ok (.aload_n 0, 1) := by decide +kernel
theorem dX12_readDrain_92 : decode cX12_readDrain 92 = .ok (.getfield 26, 3) := by decide +kernel
theorem dX12_readDrain_95 : decode cX12_readDrain 95 = .ok (.iconst 2, 1) := by decide +kernel
theorem dX12_readDrain_96 : decode cX12_readDrain 96 = .ok (.dup2, 1) := by decide +kernel
theorem dX12_readDrain_97 : decode cX12_readDrain 97 = .ok (.iaload, 1) := by decide +kernel
theorem dX12_readDrain_98 : decode cX12_readDrain 98 = .ok (.iconst 1, 1) := by decide +kernel
theorem dX12_readDrain_99 : decode cX12_readDrain 99 = .ok (.iadd, 1) := by decide +kernel
theorem dX12_readPerson_0 : decode cX12_readPerson 0 = .ok (.aload_n 0, 1) := by decide +kernel
theorem dX12_readPerson_1 : decode cX12_readPerson 1 = .ok (.invokevirtual 127, 3) := by decide +kernel
theorem dX12_readPerson_12 : decode cX12_readPerson 12 = .ok (.istore_n 2, 1) := by decide +kernel
theorem dX12_readPerson_13 : decode cX12_readPerson 13 = .ok (.aload_n 0, 1) := by decide +kernel
theorem dX12_readPerson_14 : decode cX12_readPerson 14 = .ok (.invokevirtual 109, 3) := by decide +kernel
theorem dX12_readPerson_17 : decode cX12_readPerson 17 = .ok (.ifCond .ne 4, 3) := by decide +kernel
theorem dX12_readPerson_20 : decode cX12_readPerson 20 = .ok (.return_, 1) := by decide +kernel
theorem dX12_readPerson_21 : decode cX12_readPerson 21 = .ok (.aload_n 0, 1) := by decide +kernel
theorem dX12_readPerson_22 : decode cX12_readPerson 22 = .ok (.getfield 32, 3) := by decide +kernel
theorem dX12_readPerson_25 : decode cX12_readPerson 25 = .ok (.sipush 216, 3) := by decide +kernel
theorem dX12_readPerson_28 : decode cX12_readPerson 28 = .ok (.aload_n 0, 1) := by decide +kernel
theorem dX12_readPerson_29 : decode cX12_readPerson 29 = .ok (.getfield 26, 3) := by decide +kernel
theorem dX12_readPerson_32 : decode cX12_readPerson 32 = .ok (.iconst 3, 1) := by decide +kernel
theorem dX12_readPerson_33 : decode cX12_readPerson 33 = .ok (.iaload, 1) := by decide +kernel
theorem dX12_readPerson_34 : decode cX12_readPerson 34 = .ok (.iadd, 1) := by decide +kernel
theorem dX12_readPerson_35 : decode cX12_readPerson 35 = .ok (.iload_n 1, 1) := by decide +kernel
theorem dX12_readPerson_36 : decode cX12_readPerson 36 = .ok (.iastore, 1) := by decide +kernel
theorem dX12_readPerson_37 : decode cX12_readPerson 37 = .ok (.aload_n 0, 1) := by decide +kernel
theorem dX12_readPerson_38 : decode cX12_readPerson 38 = .ok (.getfield 32, 3) := by decide +kernel
theorem dX12_readPerson_4 : decode cX12_readPerson 4 = .ok (.istore_n 1, 1) := by decide +kernel
theorem dX12_readPerson_41 : decode cX12_readPerson 41 = .ok (.sipush 225, 3) := by decide +kernel
theorem dX12_readPerson_44 : decode cX12_readPerson 44 = .ok (.aload_n 0, 1) := by decide +kernel
theorem dX12_readPerson_45 : decode cX12_readPerson 45 = .ok (.getfield 26, 3) := by decide +kernel
theorem dX12_readPerson_48 : decode cX12_readPerson 48 = .ok (.iconst 3, 1) := by decide +kernel
theorem dX12_readPerson_49 : decode cX12_readPerson 49 = .ok (.iaload, 1) := by decide +kernel
theorem dX12_readPerson_5 : decode cX12_readPerson 5 = .ok (.aload_n 0, 1) := by decide +kernel
theorem dX12_readPerson_50 : decode cX12_readPerson 50 = .ok (.iadd, 1) := by decide +kernel
theorem dX12_readPerson_51 : decode cX12_readPerson 51 = .ok (.iload_n 2, 1) := by decide +kernel
theorem dX12_readPerson_52 : decode cX12_readPerson 52 = .ok (.iastore, 1) := by decide +kernel
theorem dX12_readPerson_53 : decode cX12_readPerson 53 = .ok (.aload_n 0, 1) := by decide +kernel
theorem dX12_readPerson_54 : decode cX12_readPerson 54 = .ok (.getfield 26, 3) := by decide +kernel
theorem dX12_readPerson_57 : decode cX12_readPerson 57 = .ok (.iconst 3, 1) := by decide +kernel
theorem dX12_readPerson_58 : decode cX12_readPerson 58 = .ok (.dup2, 1) := by decide +kernel
theorem dX12_readPerson_59 : decode cX12_readPerson 59 = .ok (.iaload, 1) := by decide +kernel
theorem dX12_readPerson_6 : decode cX12_readPerson 6 = .ok (.iconst 0, 1) := by decide +kernel
theorem dX12_readPerson_60 : decode cX12_readPerson 60 = .ok (.iconst 1, 1) := by decide +kernel
theorem dX12_readPerson_61 : decode cX12_readPerson 61 = .ok (.iadd, 1) := by decide +kernel
theorem dX12_readPerson_62 : decode cX12_readPerson 62 = .ok (.iastore, 1) := by decide +kernel
theorem dX12_readPerson_63 : decode cX12_readPerson 63 = .ok (.return_, 1) := by decide +kernel
theorem dX12_readPerson_7 : decode cX12_readPerson 7 = .ok (.bipush 19, 2) := by decide +kernel
theorem dX12_readPerson_9 : decode cX12_readPerson 9 = .ok (.invokevirtual 123, 3) := by decide +kernel
theorem dX12_readShelter_0 : decode cX12_readShelter 0 = .ok (.aload_n 0, 1) := by decide +kernel
theorem dX12_readShelter_1 : decode cX12_readShelter 1 = .ok (.invokevirtual 127, 3) := by decide +kernel
theorem dX12_readShelter_11 : decode cX12_readShelter 11 = .ok (.iconst 0, 1) := by decide +kernel
theorem dX12_readShelter_12 : decode cX12_readShelter 12 = .ok (.iaload, 1) := by decide +kernel
theorem dX12_readShelter_13 : decode cX12_readShelter 13 = .ok (.iconst 1, 1) := by decide +kernel
theorem dX12_readShelter_14 : decode cX12_readShelter 14 = .ok (.isub, 1) := by decide +kernel
theorem dX12_readShelter_15 : decode cX12_readShelter 15 = .ok (.invokevirtual 123, 3) := by decide +kernel
theorem dX12_readShelter_18 : decode cX12_readShelter 18 = .ok (.istore_n 2, 1) := by decide +kernel
theorem dX12_readShelter_19 : decode cX12_readShelter 19 = .ok (.aload_n 0, 1) := by decide +kernel
theorem dX12_readShelter_20 : decode cX12_readShelter 20 = .ok (.invokevirtual 109, 3) := by decide +kernel
theorem dX12_readShelter_23 : decode cX12_readShelter 23 = .ok (.ifCond .ne 4, 3) := by decide +kernel
theorem dX12_readShelter_26 : decode cX12_readShelter 26 = .ok (.return_, 1) := by decide +kernel
theorem dX12_readShelter_27 : decode cX12_readShelter 27 = .ok (.aload_n 0, 1) := by decide +kernel
theorem dX12_readShelter_28 : decode cX12_readShelter 28 = .ok (.getfield 26, 3) := by decide +kernel
theorem dX12_readShelter_31 : decode cX12_readShelter 31 = .ok (.bipush 24, 2) := by decide +kernel
theorem dX12_readShelter_33 : decode cX12_readShelter 33 = .ok (.iconst 2, 1) := by decide +kernel
theorem dX12_readShelter_34 : decode cX12_readShelter 34 = .ok (.aload_n 0, 1) := by decide +kernel
theorem dX12_readShelter_35 : decode cX12_readShelter 35 = .ok (.getfield 26, 3) := by decide +kernel
theorem dX12_readShelter_38 : decode cX12_readShelter 38 = .ok (.iconst 4, 1) := by decide +kernel
theorem dX12_readShelter_39 : decode cX12_readShelter 39 = .ok (.iaload, 1) := by decide +kernel
theorem dX12_readShelter_4 : decode cX12_readShelter 4 = .ok (.istore_n 1, 1) := by decide +kernel
theorem dX12_readShelter_40 : decode cX12_readShelter 40 = .ok (.imul, 1) := by decide +kernel
theorem dX12_readShelter_41 : decode cX12_readShelter 41 = .ok (.iadd, 1) := by decide +kernel
theorem dX12_readShelter_42 : decode cX12_readShelter 42 = .ok (.iload_n 1, 1) := by decide +kernel
theorem dX12_readShelter_43 : decode cX12_readShelter 43 = .ok (.iastore, 1) := by decide +kernel
theorem dX12_readShelter_44 : decode cX12_readShelter 44 = .ok (.aload_n 0, 1) := by decide +kernel
theorem dX12_readShelter_45 : decode cX12_readShelter 45 = .ok (.getfield 26, 3) := by decide +kernel
theorem dX12_readShelter_48 : decode cX12_readShelter 48 = .ok (.bipush 24, 2) := by decide +kernel
theorem dX12_readShelter_5 : decode cX12_readShelter 5 = .ok (.aload_n 0, 1) := by decide +kernel
theorem dX12_readShelter_50 : decode cX12_readShelter 50 = .ok (.iconst 2, 1) := by decide +kernel
theorem dX12_readShelter_51 : decode cX12_readShelter 51 = .ok (.aload_n 0, 1) := by decide +kernel
theorem dX12_readShelter_52 : decode cX12_readShelter 52 = .ok (.getfield 26, 3) := by decide +kernel
theorem dX12_readShelter_55 : decode cX12_readShelter 55 = .ok (.iconst 4, 1) := by decide +kernel
theorem dX12_readShelter_56 : decode cX12_readShelter 56 = .ok (.iaload, 1) := by decide +kernel
theorem dX12_readShelter_57 : decode cX12_readShelter 57 = .ok (.imul, 1) := by decide +kernel
theorem dX12_readShelter_58 : decode cX12_readShelter 58 = .ok (.iadd, 1) := by decide +kernel
theorem dX12_readShelter_59 : decode cX12_readShelter 59 = .ok (.iconst 1, 1) := by decide +kernel
theorem dX12_readShelter_6 : decode cX12_readShelter 6 = .ok (.iload_n 1, 1) := by decide +kernel
theorem dX12_readShelter_60 : decode cX12_readShelter 60 = .ok (.iadd, 1) := by decide +kernel
theorem dX12_readShelter_61 : decode cX12_readShelter 61 = .ok (.iload_n 2, 1) := by decide +kernel
theorem dX12_readShelter_62 : decode cX12_readShelter 62 = .ok (.iastore, 1) := by decide +kernel
theorem dX12_readShelter_63 : decode cX12_readShelter 63 = .ok (.aload_n 0, 1) := by decide +kernel
theorem dX12_readShelter_64 : decode cX12_readShelter 64 = .ok (.getfield 26, 3) := by decide +kernel
theorem dX12_readShelter_67 : decode cX12_readShelter 67 = .ok (.iconst 4, 1) := by decide +kernel
theorem dX12_readShelter_68 : decode cX12_readShelter 68 = .ok (.dup2, 1) := by decide +kernel
theorem dX12_readShelter_69 : decode cX12_readShelter 69 = .ok (.iaload, 1) := by decide +kernel
theorem dX12_readShelter_7 : decode cX12_readShelter 7 = .ok (.aload_n 0, 1) := by decide +kernel
theorem dX12_readShelter_70 : decode cX12_readShelter 70 = .ok (.iconst 1, 1) := by decide +kernel
theorem dX12_readShelter_71 : decode cX12_readShelter 71 = .ok (.iadd, 1) := by decide +kernel
theorem dX12_readShelter_72 : decode cX12_readShelter 72 = .ok (.iastore, 1) := by decide +kernel
theorem dX12_readShelter_73 : decode cX12_readShelter 73 = .ok (.return_, 1) := by decide +kernel
theorem dX12_readShelter_8 : decode cX12_readShelter 8 = .ok (.getfield 26, 3) := by decide +kernel
theorem dX12_readX_0 : decode cX12_readX 0 = .ok (.aload_n 0, 1) := by decide +kernel
theorem dX12_readX_1 : decode cX12_readX 1 = .ok (.iconst 0, 1) := by decide +kernel
theorem dX12_readX_10 : decode cX12_readX 10 = .ok (.invokevirtual 123, 3) := by decide +kernel
theorem dX12_readX_13 : decode cX12_readX 13 = .ok (.ireturn, 1) := by decide +kernel
theorem dX12_readX_2 : decode cX12_readX 2 = .ok (.aload_n 0, 1) := by decide +kernel
theorem dX12_readX_3 : decode cX12_readX 3 = .ok (.getfield 26, 3) := by decide +kernel
theorem dX12_readX_6 : decode cX12_readX 6 = .ok (.iconst 0, 1) := by decide +kernel
theorem dX12_readX_7 : decode cX12_readX 7 = .ok (.iaload, 1) := by decide +kernel
theorem dX12_readX_8 : decode cX12_readX 8 = .ok (.iconst 1, 1) := by decide +kernel
theorem dX12_readX_9 : decode cX12_readX 9 = .ok (.isub, 1) := by decide +kernel
theorem dX12_readY_0 : decode cX12_readY 0 = .ok (.aload_n 0, 1) := by decide +kernel
theorem dX12_readY_1 : decode cX12_readY 1 = .ok (.iconst 0, 1) := by decide +kernel
theorem dX12_readY_10 : decode cX12_readY 10 = .ok (.invokevirtual 123, 3) := by decide +kernel
theorem dX12_readY_13 : decode cX12_readY 13 = .ok (.ireturn, 1) := by decide +kernel
theorem dX12_readY_2 : decode cX12_readY 2 = .ok (.aload_n 0, 1) := by decide +kernel
theorem dX12_readY_3 : decode cX12_readY 3 = .ok (.getfield 26, 3) := by decide +kernel
theorem dX12_readY_6 : decode cX12_readY 6 = .ok (.iconst 1, 1) := by decide +kernel
theorem dX12_readY_7 : decode cX12_readY 7 = .ok (.iaload, 1) := by decide +kernel
theorem dX12_readY_8 : decode cX12_readY 8 = .ok (.iconst 1, 1) := by decide +kernel
theorem dX12_readY_9 : decode cX12_readY 9 = .ok (.isub, 1) := by decide +kernel
end
section
theorem dX12_readWork_0 : decode cX12_readWork 0 = .ok (.bipush 28, 2) := by decide +kernel
theorem dX12_readWork_10 : decode cX12_readWork 10 = .ok (.iadd, 1) := by decide +kernel
theorem dX12_readWork_100 : decode cX12_readWork 100 = .ok (.iload_n 1, 1) := by decide +kernel
theorem dX12_readWork_101 : decode cX12_readWork 101 = .ok (.iastore, 1) := by decide +kernel
theorem dX12_readWork_102 : decode cX12_readWork 102 = .ok (.aload_n 0, 1) := by decide +kernel
theorem dX12_readWork_103 : decode cX12_readWork 103 = .ok (.getfield 26, 3) := by decide +kernel
theorem dX12_readWork_106 : decode cX12_readWork 106 = .ok (.iload_n 2, 1) := by decide +kernel
theorem dX12_readWork_107 : decode cX12_readWork 107 = .ok (.iconst 1, 1) := by decide +kernel
theorem dX12_readWork_108 : decode cX12_readWork 108 = .ok (.iadd, 1) := by decide +kernel
theorem dX12_readWork_109 : decode cX12_readWork 109 = .ok (.iload_n 3, 1) := by decide +kernel
theorem dX12_readWork_11 : decode cX12_readWork 11 = .ok (.istore_n 2, 1) := by decide +kernel
theorem dX12_readWork_110 : decode cX12_readWork 110 = .ok (.iastore, 1) := by decide +kernel
theorem dX12_readWork_111 : decode cX12_readWork 111 = .ok (.aload_n 0, 1) := by decide +kernel
theorem dX12_readWork_112 : decode cX12_readWork 112 = .ok (.getfield 26, 3) := by decide +kernel
theorem dX12_readWork_115 : decode cX12_readWork 115 = .ok (.iload_n 2, 1) := by decide +kernel
theorem dX12_readWork_116 : decode cX12_readWork 116 = .ok (.iconst 2, 1) := by decide +kernel
theorem dX12_readWork_117 : decode cX12_readWork 117 = .ok (.iadd, 1) := by decide +kernel
theorem dX12_readWork_118 : decode cX12_readWork 118 = .ok (.iload 4, 2) := by decide +kernel
theorem dX12_readWork_12 : decode cX12_readWork 12 = .ok (.iload_n 1, 1) := by decide +kernel
theorem dX12_readWork_120 : decode cX12_readWork 120 = .ok (.iastore, 1) := by decide +kernel
theorem dX12_readWork_121 : decode cX12_readWork 121 = .ok (.aload_n 0, 1) := by decide +kernel
theorem dX12_readWork_122 : decode cX12_readWork 122 = .ok (.getfield 26, 3) := by decide +kernel
theorem dX12_readWork_125 : decode cX12_readWork 125 = .ok (.iload_n 2, 1) := by decide +kernel
theorem dX12_readWork_126 : decode cX12_readWork 126 = .ok (.iconst 3, 1) := by decide +kernel
theorem dX12_readWork_127 : decode cX12_readWork 127 = .ok (.iadd, 1) := by decide +kernel
theorem dX12_readWork_128 : decode cX12_readWork 128 = .ok (.iload 5, 2) := by decide +kernel
theorem dX12_readWork_13 : decode cX12_readWork 13 = .ok (.ifCond .ne 19, 3) := by decide +kernel
theorem dX12_readWork_130 : decode cX12_readWork 130 = .ok (.iastore, 1) := by decide +kernel
theorem dX12_readWork_131 : decode cX12_readWork 131 = .ok (.aload_n 0, 1) := by decide +kernel
theorem dX12_readWork_132 : decode cX12_readWork 132 = .ok (.getfield 26, 3) := by decide +kernel
theorem dX12_readWork_135 : decode cX12_readWork 135 = .ok (.iload_n 2, 1) := by decide +kernel
theorem dX12_readWork_136 : decode cX12_readWork 136 = .ok (.iconst 4, 1) := by decide +kernel
theorem dX12_readWork_137 : decode cX12_readWork 137 = .ok (.iadd, 1) := by decide +kernel
theorem dX12_readWork_138 : decode cX12_readWork 138 = .ok (.iload 6, 2) := by decide +kernel
theorem dX12_readWork_140 : decode cX12_readWork 140 = .ok (.iastore, 1) := by decide +kernel
theorem dX12_readWork_141 : decode cX12_readWork 141 = .ok (.aload_n 0, 1) := by decide +kernel
theorem dX12_readWork_142 : decode cX12_readWork 142 = .ok (.getfield 26, 3) := by decide +kernel
theorem dX12_readWork_145 : decode cX12_readWork 145 = .ok (.iconst 5, 1) := by decide +kernel
theorem dX12_readWork_146 : decode cX12_readWork 146 = .ok (.dup2, 1) := by decide +kernel
theorem dX12_readWork_147 : decode cX12_readWork 147 = .ok (.iaload, 1) := by decide +kernel
theorem dX12_readWork_148 : decode cX12_readWork 148 = .ok (.iconst 1, 1) := by decide +kernel
theorem dX12_readWork_149 : decode cX12_readWork 149 = .ok (.iadd, 1) := by decide +kernel
theorem dX12_readWork_150 : decode cX12_readWork 150 = .ok (.iastore, 1) := by decide +kernel
theorem dX12_readWork_151 : decode cX12_readWork 151 = .ok (.return_, 1) := by decide +kernel
theorem dX12_readWork_16 : decode cX12_readWork 16 = .ok (.aload_n 0, 1) := by decide +kernel
theorem dX12_readWork_17 : decode cX12_readWork 17 = .ok (.iconst 0, 1) := by decide +kernel
theorem dX12_readWork_18 : decode cX12_readWork 18 = .ok (.aload_n 0, 1) := by decide +kernel
theorem dX12_readWork_19 : decode cX12_readWork 19 = .ok (.getfield 26, 3) := by decide +kernel
theorem dX12_readWork_2 : decode cX12_readWork 2 = .ok (.iconst 5, 1) := by decide +kernel
theorem dX12_readWork_22 : decode cX12_readWork 22 = .ok (.iconst 2, 1) := by decide +kernel
theorem dX12_readWork_23 : decode cX12_readWork 23 = .ok (.iaload, 1) := by decide +kernel
theorem dX12_readWork_24 : decode cX12_readWork 24 = .ok (.iconst 1, 1) := by decide +kernel
theorem dX12_readWork_25 : decode cX12_readWork 25 = .ok (.isub, 1) := by decide +kernel
theorem dX12_readWork_26 : decode cX12_readWork 26 = .ok (.invokevirtual 123, 3) := by decide +kernel
theorem dX12_readWork_29 : decode cX12_readWork 29 = .ok (.goto 7, 3) := by decide +kernel
theorem dX12_readWork_3 : decode cX12_readWork 3 = .ok (.aload_n 0, 1) := by decide +kernel
theorem dX12_readWork_32 : decode cX12_readWork 32 = .ok (.aload_n 0, 1) := by decide +kernel
theorem dX12_readWork_33 : decode cX12_readWork 33 = .ok (.invokevirtual 127, 3) := by decide +kernel
theorem dX12_readWork_36 : decode cX12_readWork 36 = .ok (.istore_n 3, 1) := by decide +kernel
theorem dX12_readWork_37 : decode cX12_readWork 37 = .ok (.iload_n 1, 1) := by decide +kernel
theorem dX12_readWork_38 : decode cX12_readWork 38 = .ok (.ifCond .ne 7, 3) := by decide +kernel
theorem dX12_readWork_4 : decode cX12_readWork 4 = .ok (.getfield 26, 3) := by decide +kernel
theorem dX12_readWork_41 : decode cX12_readWork 41 = .ok (.iconst 0, 1) := by decide +kernel
theorem dX12_readWork_42 : decode cX12_readWork 42 = .ok (.goto 7, 3) := by decide +kernel
theorem dX12_readWork_45 : decode cX12_readWork 45 = .ok (.aload_n 0, 1) := by decide +kernel
theorem dX12_readWork_46 : decode cX12_readWork 46 = .ok (.invokevirtual 130, 3) := by decide +kernel
theorem dX12_readWork_49 : decode cX12_readWork 49 = .ok (.istore 4, 2) := by decide +kernel
theorem dX12_readWork_51 : decode cX12_readWork 51 = .ok (.iload_n 1, 1) := by decide +kernel
theorem dX12_readWork_52 : decode cX12_readWork 52 = .ok (.ifCond .ne 7, 3) := by decide +kernel
theorem dX12_readWork_55 : decode cX12_readWork 55 = .ok (.iconst 0, 1) := by decide +kernel
theorem dX12_readWork_56 : decode cX12_readWork 56 = .ok (.goto 20, 3) := by decide +kernel
theorem dX12_readWork_59 : decode cX12_readWork 59 = .ok (.aload_n 0, 1) := by decide +kernel
theorem dX12_readWork_60 : decode cX12_readWork 60 = .ok (.iconst 1, 1) := by decide +kernel
theorem dX12_readWork_61 : decode cX12_readWork 61 = .ok (.iload_n 1, 1) := by decide +kernel
theorem dX12_readWork_62 : decode cX12_readWork 62 = .ok (.iconst 3, 1) := by decide +kernel
theorem dX12_readWork_63 : decode cX12_readWork 63 = .ok (.if_icmp .ne 8, 3) := by decide +kernel
theorem dX12_readWork_66 : decode cX12_readWork 66 = .ok (.bipush 99, 2) := by decide +kernel
theorem dX12_readWork_68 : decode cX12_readWork 68 = .ok (.goto 5, 3) := by decide +kernel
theorem dX12_readWork_7 : decode cX12_readWork 7 = .ok (.iconst 5, 1) := by decide +kernel
theorem dX12_readWork_71 : decode cX12_readWork 71 = .ok (.bipush 50, 2) := by decide +kernel
theorem dX12_readWork_73 : decode cX12_readWork 73 = .ok (.invokevirtual 123, 3) := by decide +kernel
theorem dX12_readWork_76 : decode cX12_readWork 76 = .ok (.istore 5, 2) := by decide +kernel
theorem dX12_readWork_78 : decode cX12_readWork 78 = .ok (.aload_n 0, 1) := by decide +kernel
theorem dX12_readWork_79 : decode cX12_readWork 79 = .ok (.iconst 1, 1) := by decide +kernel
theorem dX12_readWork_8 : decode cX12_readWork 8 = .ok (.iaload, 1) := by decide +kernel
theorem dX12_readWork_80 : decode cX12_readWork 80 = .ok (.bipush 99, 2) := by decide +kernel
theorem dX12_readWork_82 : decode cX12_readWork 82 = .ok (.invokevirtual 123, 3) := by decide +kernel
theorem dX12_readWork_85 : decode cX12_readWork 85 = .ok (.istore 6, 2) := by decide +kernel
theorem dX12_readWork_87 : decode cX12_readWork 87 = .ok (.aload_n 0, 1) := by decide +kernel
theorem dX12_readWork_88 : decode cX12_readWork 88 = .ok (.invokevirtual 109, 3) := by decide +kernel
theorem dX12_readWork_9 : decode cX12_readWork 9 = .ok (.imul, 1) := by decide +kernel
theorem dX12_readWork_91 : decode cX12_readWork 91 = .ok (.ifCond .ne 4, 3) := by decide +kernel
theorem dX12_readWork_94 : decode cX12_readWork 94 = .ok (.return_, 1) := by decide +kernel
theorem dX12_readWork_95 : decode cX12_readWork 95 = .ok (.aload_n 0, 1) := by decide +kernel
theorem dX12_readWork_96 : decode cX12_readWork 96 = .ok (.getfield 26, 3) := by decide +kernel
theorem dX12_readWork_99 : decode cX12_readWork 99 = .ok (.iload_n 2, 1) := by decide +kernel
end
