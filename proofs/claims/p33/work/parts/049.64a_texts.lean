theorem st_4 {D : va_G} {cy : Nat → ClassId} {sa : Nat → Nat} {U : State} (h : GC D cy sa U) : vk_R RX12 133 "clear" (sn sa 34) U := by
  have e : 200 + (34 : Int).toNat = 234 := by decide
  show vk_R RX12 133 "clear" (sa (200 + (34 : Int).toNat)) U
  rw [e]
  exact h.2.2.1 4 (RX12, 133, "clear", 234) rfl
theorem st_5 {D : va_G} {cy : Nat → ClassId} {sa : Nat → Nat} {U : State} (h : GC D cy sa U) : vk_R RX12 139 "raise" (sn sa 35) U := by
  have e : 200 + (35 : Int).toNat = 235 := by decide
  show vk_R RX12 139 "raise" (sa (200 + (35 : Int).toNat)) U
  rw [e]
  exact h.2.2.1 5 (RX12, 139, "raise", 235) rfl
theorem st_6 {D : va_G} {cy : Nat → ClassId} {sa : Nat → Nat} {U : State} (h : GC D cy sa U) : vk_R RX12 141 "lower" (sn sa 36) U := by
  have e : 200 + (36 : Int).toNat = 236 := by decide
  show vk_R RX12 141 "lower" (sa (200 + (36 : Int).toNat)) U
  rw [e]
  exact h.2.2.1 6 (RX12, 141, "lower", 236) rfl
theorem st_7 {D : va_G} {cy : Nat → ClassId} {sa : Nat → Nat} {U : State} (h : GC D cy sa U) : vk_R RX12 143 "bore" (sn sa 37) U := by
  have e : 200 + (37 : Int).toNat = 237 := by decide
  show vk_R RX12 143 "bore" (sa (200 + (37 : Int).toNat)) U
  rw [e]
  exact h.2.2.1 7 (RX12, 143, "bore", 237) rfl
theorem st_8 {D : va_G} {cy : Nat → ClassId} {sa : Nat → Nat} {U : State} (h : GC D cy sa U) : vk_R RX12 154 "size" (sn sa 29) U := by
  have e : 200 + (29 : Int).toNat = 229 := by decide
  show vk_R RX12 154 "size" (sa (200 + (29 : Int).toNat)) U
  rw [e]
  exact h.2.2.1 8 (RX12, 154, "size", 229) rfl
theorem st_9 {D : va_G} {cy : Nat → ClassId} {sa : Nat → Nat} {U : State} (h : GC D cy sa U) : vk_R RX12 155 "high" (sn sa 30) U := by
  have e : 200 + (30 : Int).toNat = 230 := by decide
  show vk_R RX12 155 "high" (sa (200 + (30 : Int).toNat)) U
  rw [e]
  exact h.2.2.1 9 (RX12, 155, "high", 230) rfl
theorem st_10 {D : va_G} {cy : Nat → ClassId} {sa : Nat → Nat} {U : State} (h : GC D cy sa U) : vk_R RX12 157 "drain" (sn sa 31) U := by
  have e : 200 + (31 : Int).toNat = 231 := by decide
  show vk_R RX12 157 "drain" (sa (200 + (31 : Int).toNat)) U
  rw [e]
  exact h.2.2.1 10 (RX12, 157, "drain", 231) rfl
theorem st_11 {D : va_G} {cy : Nat → ClassId} {sa : Nat → Nat} {U : State} (h : GC D cy sa U) : vk_R RX12 162 "person" (sn sa 32) U := by
  have e : 200 + (32 : Int).toNat = 232 := by decide
  show vk_R RX12 162 "person" (sa (200 + (32 : Int).toNat)) U
  rw [e]
  exact h.2.2.1 11 (RX12, 162, "person", 232) rfl
theorem st_12 {D : va_G} {cy : Nat → ClassId} {sa : Nat → Nat} {U : State} (h : GC D cy sa U) : vk_R RX12 185 "shelter" (sn sa 33) U := by
  have e : 200 + (33 : Int).toNat = 233 := by decide
  show vk_R RX12 185 "shelter" (sa (200 + (33 : Int).toNat)) U
  rw [e]
  exact h.2.2.1 12 (RX12, 185, "shelter", 233) rfl
theorem st_13 {D : va_G} {cy : Nat → ClassId} {sa : Nat → Nat} {U : State} (h : GC D cy sa U) : vk_R RX12 207 "rain" (sn sa 38) U := by
  have e : 200 + (38 : Int).toNat = 238 := by decide
  show vk_R RX12 207 "rain" (sa (200 + (38 : Int).toNat)) U
  rw [e]
  exact h.2.2.1 13 (RX12, 207, "rain", 238) rfl
theorem st_14 {D : va_G} {cy : Nat → ClassId} {sa : Nat → Nat} {U : State} (h : GC D cy sa U) : vk_R RX12 215 "depth" (sn sa 50) U := by
  have e : 200 + (50 : Int).toNat = 250 := by decide
  show vk_R RX12 215 "depth" (sa (200 + (50 : Int).toNat)) U
  rw [e]
  exact h.2.2.1 14 (RX12, 215, "depth", 250) rfl
theorem st_15 {D : va_G} {cy : Nat → ClassId} {sa : Nat → Nat} {U : State} (h : GC D cy sa U) : vk_R RX12 217 "pace" (sn sa 51) U := by
  have e : 200 + (51 : Int).toNat = 251 := by decide
  show vk_R RX12 217 "pace" (sa (200 + (51 : Int).toNat)) U
  rw [e]
  exact h.2.2.1 15 (RX12, 217, "pace", 251) rfl
theorem st_16 {D : va_G} {cy : Nat → ClassId} {sa : Nat → Nat} {U : State} (h : GC D cy sa U) : vk_R RX12 219 "tyre" (sn sa 52) U := by
  have e : 200 + (52 : Int).toNat = 252 := by decide
  show vk_R RX12 219 "tyre" (sa (200 + (52 : Int).toNat)) U
  rw [e]
  exact h.2.2.1 16 (RX12, 219, "tyre", 252) rfl
theorem st_17 {D : va_G} {cy : Nat → ClassId} {sa : Nat → Nat} {U : State} (h : GC D cy sa U) : vk_R RX12 221 "row" (sn sa 53) U := by
  have e : 200 + (53 : Int).toNat = 253 := by decide
  show vk_R RX12 221 "row" (sa (200 + (53 : Int).toNat)) U
  rw [e]
  exact h.2.2.1 17 (RX12, 221, "row", 253) rfl
theorem st_18 {D : va_G} {cy : Nat → ClassId} {sa : Nat → Nat} {U : State} (h : GC D cy sa U) : vk_R RX12 223 "far" (sn sa 54) U := by
  have e : 200 + (54 : Int).toNat = 254 := by decide
  show vk_R RX12 223 "far" (sa (200 + (54 : Int).toNat)) U
  rw [e]
  exact h.2.2.1 18 (RX12, 223, "far", 254) rfl
theorem st_19 {D : va_G} {cy : Nat → ClassId} {sa : Nat → Nat} {U : State} (h : GC D cy sa U) : vk_R RX12 225 "people" (sn sa 55) U := by
  have e : 200 + (55 : Int).toNat = 255 := by decide
  show vk_R RX12 225 "people" (sa (200 + (55 : Int).toNat)) U
  rw [e]
  exact h.2.2.1 19 (RX12, 225, "people", 255) rfl
theorem st_20 {D : va_G} {cy : Nat → ClassId} {sa : Nat → Nat} {U : State} (h : GC D cy sa U) : vk_R RX12 242 "if" (sn sa 44) U := by
  have e : 200 + (44 : Int).toNat = 244 := by decide
  show vk_R RX12 242 "if" (sa (200 + (44 : Int).toNat)) U
  rw [e]
  exact h.2.2.1 20 (RX12, 242, "if", 244) rfl
theorem st_21 {D : va_G} {cy : Nat → ClassId} {sa : Nat → Nat} {U : State} (h : GC D cy sa U) : vk_R RX12 247 "then" (sn sa 45) U := by
  have e : 200 + (45 : Int).toNat = 245 := by decide
  show vk_R RX12 247 "then" (sa (200 + (45 : Int).toNat)) U
  rw [e]
  exact h.2.2.1 21 (RX12, 247, "then", 245) rfl
theorem st_22 {D : va_G} {cy : Nat → ClassId} {sa : Nat → Nat} {U : State} (h : GC D cy sa U) : vk_R RX12 252 "else" (sn sa 46) U := by
  have e : 200 + (46 : Int).toNat = 246 := by decide
  show vk_R RX12 252 "else" (sa (200 + (46 : Int).toNat)) U
  rw [e]
  exact h.2.2.1 22 (RX12, 252, "else", 246) rfl
theorem st_23 {D : va_G} {cy : Nat → ClassId} {sa : Nat → Nat} {U : State} (h : GC D cy sa U) : vk_R RX12 257 "not" (sn sa 49) U := by
  have e : 200 + (49 : Int).toNat = 249 := by decide
  show vk_R RX12 257 "not" (sa (200 + (49 : Int).toNat)) U
  rw [e]
  exact h.2.2.1 23 (RX12, 257, "not", 249) rfl
theorem st_24 {D : va_G} {cy : Nat → ClassId} {sa : Nat → Nat} {U : State} (h : GC D cy sa U) : vk_R RX12 262 "and" (sn sa 48) U := by
  have e : 200 + (48 : Int).toNat = 248 := by decide
  show vk_R RX12 262 "and" (sa (200 + (48 : Int).toNat)) U
  rw [e]
  exact h.2.2.1 24 (RX12, 262, "and", 248) rfl
theorem st_25 {D : va_G} {cy : Nat → ClassId} {sa : Nat → Nat} {U : State} (h : GC D cy sa U) : vk_R RX12 267 "or" (sn sa 47) U := by
  have e : 200 + (47 : Int).toNat = 247 := by decide
  show vk_R RX12 267 "or" (sa (200 + (47 : Int).toNat)) U
  rw [e]
  exact h.2.2.1 25 (RX12, 267, "or", 247) rfl
theorem st_26 {D : va_G} {cy : Nat → ClassId} {sa : Nat → Nat} {U : State} (h : GC D cy sa U) : vk_R RX12 269 "throw" (sn sa 39) U := by
  have e : 200 + (39 : Int).toNat = 239 := by decide
  show vk_R RX12 269 "throw" (sa (200 + (39 : Int).toNat)) U
  rw [e]
  exact h.2.2.1 26 (RX12, 269, "throw", 239) rfl
theorem st_27 {D : va_G} {cy : Nat → ClassId} {sa : Nat → Nat} {U : State} (h : GC D cy sa U) : vk_R RX12 271 "reach" (sn sa 40) U := by
  have e : 200 + (40 : Int).toNat = 240 := by decide
  show vk_R RX12 271 "reach" (sa (200 + (40 : Int).toNat)) U
  rw [e]
  exact h.2.2.1 27 (RX12, 271, "reach", 240) rfl
theorem st_28 {D : va_G} {cy : Nat → ClassId} {sa : Nat → Nat} {U : State} (h : GC D cy sa U) : vk_R RX12 273 "wet" (sn sa 41) U := by
  have e : 200 + (41 : Int).toNat = 241 := by decide
  show vk_R RX12 273 "wet" (sa (200 + (41 : Int).toNat)) U
  rw [e]
  exact h.2.2.1 28 (RX12, 273, "wet", 241) rfl
theorem st_29 {D : va_G} {cy : Nat → ClassId} {sa : Nat → Nat} {U : State} (h : GC D cy sa U) : vk_R RX12 275 "slow" (sn sa 42) U := by
  have e : 200 + (42 : Int).toNat = 242 := by decide
  show vk_R RX12 275 "slow" (sa (200 + (42 : Int).toNat)) U
  rw [e]
  exact h.2.2.1 29 (RX12, 275, "slow", 242) rfl
theorem st_30 {D : va_G} {cy : Nat → ClassId} {sa : Nat → Nat} {U : State} (h : GC D cy sa U) : vk_R RX12 277 "out" (sn sa 43) U := by
  have e : 200 + (43 : Int).toNat = 243 := by decide
  show vk_R RX12 277 "out" (sa (200 + (43 : Int).toNat)) U
  rw [e]
  exact h.2.2.1 30 (RX12, 277, "out", 243) rfl
