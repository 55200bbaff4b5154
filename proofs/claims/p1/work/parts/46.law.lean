theorem dL_law__2115 : decode cL_law_ 2115 = .ok (.aload_n 1, 1) := by decide +kernel
theorem dL_law__2116 : decode cL_law_ 2116 = .ok (.aload_n 0, 1) := by decide +kernel
theorem dL_law__2117 : decode cL_law_ 2117 = .ok (.iload 4, 2) := by decide +kernel
theorem dL_law__2119 : decode cL_law_ 2119 = .ok (.iconst 1, 1) := by decide +kernel
theorem dL_law__2120 : decode cL_law_ 2120 = .ok (.iadd, 1) := by decide +kernel
theorem dL_law__2121 : decode cL_law_ 2121 = .ok (.iaload, 1) := by decide +kernel
theorem dL_law__2122 : decode cL_law_ 2122 = .ok (.aload_n 0, 1) := by decide +kernel
theorem dL_law__2123 : decode cL_law_ 2123 = .ok (.iload 4, 2) := by decide +kernel
theorem dL_law__2125 : decode cL_law_ 2125 = .ok (.iconst 2, 1) := by decide +kernel
theorem dL_law__2126 : decode cL_law_ 2126 = .ok (.iadd, 1) := by decide +kernel
theorem dL_law__2127 : decode cL_law_ 2127 = .ok (.iaload, 1) := by decide +kernel
theorem dL_law__2128 : decode cL_law_ 2128 = .ok (.aload_n 0, 1) := by decide +kernel
theorem dL_law__2129 : decode cL_law_ 2129 = .ok (.iload 4, 2) := by decide +kernel
theorem dL_law__2131 : decode cL_law_ 2131 = .ok (.iconst 3, 1) := by decide +kernel
theorem dL_law__2132 : decode cL_law_ 2132 = .ok (.iadd, 1) := by decide +kernel
theorem dL_law__2133 : decode cL_law_ 2133 = .ok (.iaload, 1) := by decide +kernel
theorem dL_law__2134 : decode cL_law_ 2134 = .ok (.aload_n 0, 1) := by decide +kernel
theorem dL_law__2135 : decode cL_law_ 2135 = .ok (.iload 4, 2) := by decide +kernel
theorem dL_law__2137 : decode cL_law_ 2137 = .ok (.iconst 4, 1) := by decide +kernel
theorem dL_law__2138 : decode cL_law_ 2138 = .ok (.iadd, 1) := by decide +kernel
theorem dL_law__2139 : decode cL_law_ 2139 = .ok (.iaload, 1) := by decide +kernel
theorem dL_law__2140 : decode cL_law_ 2140 = .ok (.aload_n 0, 1) := by decide +kernel
theorem dL_law__2141 : decode cL_law_ 2141 = .ok (.iload 4, 2) := by decide +kernel
theorem dL_law__2143 : decode cL_law_ 2143 = .ok (.iconst 5, 1) := by decide +kernel
theorem dL_law__2144 : decode cL_law_ 2144 = .ok (.iadd, 1) := by decide +kernel
theorem dL_law__2145 : decode cL_law_ 2145 = .ok (.iaload, 1) := by decide +kernel
theorem dL_law__2146 : decode cL_law_ 2146 = .ok (.aload_n 3, 1) := by decide +kernel
theorem dL_law__2147 : decode cL_law_ 2147 = .ok (.invokestatic 217, 3) := by decide +kernel
theorem dL_law__2150 : decode cL_law_ 2150 = .ok (.istore 5, 2) := by decide +kernel
theorem dL_law__2152 : decode cL_law_ 2152 = .ok (.aload_n 2, 1) := by decide +kernel
theorem dL_law__2153 : decode cL_law_ 2153 = .ok (.aload_n 0, 1) := by decide +kernel
theorem dL_law__2154 : decode cL_law_ 2154 = .ok (.iload 4, 2) := by decide +kernel
theorem dL_law__2156 : decode cL_law_ 2156 = .ok (.iconst 1, 1) := by decide +kernel
theorem dL_law__2157 : decode cL_law_ 2157 = .ok (.iadd, 1) := by decide +kernel
theorem dL_law__2158 : decode cL_law_ 2158 = .ok (.iaload, 1) := by decide +kernel
theorem dL_law__2159 : decode cL_law_ 2159 = .ok (.aload_n 0, 1) := by decide +kernel
theorem dL_law__2160 : decode cL_law_ 2160 = .ok (.iload 4, 2) := by decide +kernel
theorem dL_law__2162 : decode cL_law_ 2162 = .ok (.iconst 2, 1) := by decide +kernel
theorem dL_law__2163 : decode cL_law_ 2163 = .ok (.iadd, 1) := by decide +kernel
theorem dL_law__2164 : decode cL_law_ 2164 = .ok (.iaload, 1) := by decide +kernel
theorem dL_law__2165 : decode cL_law_ 2165 = .ok (.aload_n 0, 1) := by decide +kernel
theorem dL_law__2166 : decode cL_law_ 2166 = .ok (.iload 4, 2) := by decide +kernel
theorem dL_law__2168 : decode cL_law_ 2168 = .ok (.iconst 3, 1) := by decide +kernel
theorem dL_law__2169 : decode cL_law_ 2169 = .ok (.iadd, 1) := by decide +kernel
theorem dL_law__2170 : decode cL_law_ 2170 = .ok (.iaload, 1) := by decide +kernel
theorem dL_law__2171 : decode cL_law_ 2171 = .ok (.aload_n 0, 1) := by decide +kernel
theorem dL_law__2172 : decode cL_law_ 2172 = .ok (.iload 4, 2) := by decide +kernel
theorem dL_law__2174 : decode cL_law_ 2174 = .ok (.iconst 4, 1) := by decide +kernel
theorem dL_law__2175 : decode cL_law_ 2175 = .ok (.iadd, 1) := by decide +kernel
theorem dL_law__2176 : decode cL_law_ 2176 = .ok (.iaload, 1) := by decide +kernel
theorem dL_law__2177 : decode cL_law_ 2177 = .ok (.aload_n 0, 1) := by decide +kernel
theorem dL_law__2178 : decode cL_law_ 2178 = .ok (.iload 4, 2) := by decide +kernel
theorem dL_law__2180 : decode cL_law_ 2180 = .ok (.iconst 5, 1) := by decide +kernel
theorem dL_law__2181 : decode cL_law_ 2181 = .ok (.iadd, 1) := by decide +kernel
theorem dL_law__2182 : decode cL_law_ 2182 = .ok (.iaload, 1) := by decide +kernel
theorem dL_law__2183 : decode cL_law_ 2183 = .ok (.invokevirtual 219, 3) := by decide +kernel
theorem dL_law__2186 : decode cL_law_ 2186 = .ok (.istore 6, 2) := by decide +kernel
theorem dL_law__2188 : decode cL_law_ 2188 = .ok (.aload_n 2, 1) := by decide +kernel
theorem dL_law__2189 : decode cL_law_ 2189 = .ok (.invokevirtual 131, 3) := by decide +kernel
theorem dL_law__2192 : decode cL_law_ 2192 = .ok (.iload 5, 2) := by decide +kernel
theorem dL_law__2194 : decode cL_law_ 2194 = .ok (.if_icmp .eq 5, 3) := by decide +kernel
theorem dL_law__2199 : decode cL_law_ 2199 = .ok (.iload 5, 2) := by decide +kernel
theorem dL_law__2201 : decode cL_law_ 2201 = .ok (.ifCond .ne 15, 3) := by decide +kernel
theorem dL_law__2216 : decode cL_law_ 2216 = .ok (.goto 539, 3) := by decide +kernel
theorem dL_law__2219 : decode cL_law_ 2219 = .ok (.aload_n 1, 1) := by decide +kernel
theorem dL_law__2220 : decode cL_law_ 2220 = .ok (.aload_n 0, 1) := by decide +kernel
theorem dL_law__2221 : decode cL_law_ 2221 = .ok (.iload 4, 2) := by decide +kernel
theorem dL_law__2223 : decode cL_law_ 2223 = .ok (.iconst 1, 1) := by decide +kernel
theorem dL_law__2224 : decode cL_law_ 2224 = .ok (.iadd, 1) := by decide +kernel
theorem dL_law__2225 : decode cL_law_ 2225 = .ok (.iaload, 1) := by decide +kernel
theorem dL_law__2226 : decode cL_law_ 2226 = .ok (.aload_n 0, 1) := by decide +kernel
theorem dL_law__2227 : decode cL_law_ 2227 = .ok (.iload 4, 2) := by decide +kernel
theorem dL_law__2229 : decode cL_law_ 2229 = .ok (.iconst 2, 1) := by decide +kernel
theorem dL_law__2230 : decode cL_law_ 2230 = .ok (.iadd, 1) := by decide +kernel
theorem dL_law__2231 : decode cL_law_ 2231 = .ok (.iaload, 1) := by decide +kernel
theorem dL_law__2232 : decode cL_law_ 2232 = .ok (.aload_n 3, 1) := by decide +kernel
theorem dL_law__2233 : decode cL_law_ 2233 = .ok (.invokestatic 220, 3) := by decide +kernel
theorem dL_law__2236 : decode cL_law_ 2236 = .ok (.istore 5, 2) := by decide +kernel
theorem dL_law__2238 : decode cL_law_ 2238 = .ok (.aload_n 2, 1) := by decide +kernel
theorem dL_law__2239 : decode cL_law_ 2239 = .ok (.aload_n 0, 1) := by decide +kernel
theorem dL_law__2240 : decode cL_law_ 2240 = .ok (.iload 4, 2) := by decide +kernel
theorem dL_law__2242 : decode cL_law_ 2242 = .ok (.iconst 1, 1) := by decide +kernel
theorem dL_law__2243 : decode cL_law_ 2243 = .ok (.iadd, 1) := by decide +kernel
theorem dL_law__2244 : decode cL_law_ 2244 = .ok (.iaload, 1) := by decide +kernel
theorem dL_law__2245 : decode cL_law_ 2245 = .ok (.aload_n 0, 1) := by decide +kernel
theorem dL_law__2246 : decode cL_law_ 2246 = .ok (.iload 4, 2) := by decide +kernel
theorem dL_law__2248 : decode cL_law_ 2248 = .ok (.iconst 2, 1) := by decide +kernel
theorem dL_law__2249 : decode cL_law_ 2249 = .ok (.iadd, 1) := by decide +kernel
theorem dL_law__2250 : decode cL_law_ 2250 = .ok (.iaload, 1) := by decide +kernel
theorem dL_law__2251 : decode cL_law_ 2251 = .ok (.invokevirtual 222, 3) := by decide +kernel
theorem dL_law__2254 : decode cL_law_ 2254 = .ok (.istore 6, 2) := by decide +kernel
theorem dL_law__2256 : decode cL_law_ 2256 = .ok (.aload_n 2, 1) := by decide +kernel
theorem dL_law__2257 : decode cL_law_ 2257 = .ok (.invokevirtual 131, 3) := by decide +kernel
theorem dL_law__2260 : decode cL_law_ 2260 = .ok (.iload 5, 2) := by decide +kernel
theorem dL_law__2262 : decode cL_law_ 2262 = .ok (.if_icmp .eq 5, 3) := by decide +kernel
theorem dL_law__2267 : decode cL_law_ 2267 = .ok (.iload 5, 2) := by decide +kernel
theorem dL_law__2269 : decode cL_law_ 2269 = .ok (.ifCond .ne 15, 3) := by decide +kernel
theorem dL_law__2272 : decode cL_law_ 2272 = .ok (.aload_n 3, 1) := by decide +kernel
theorem dL_law__2273 : decode cL_law_ 2273 = .ok (.iconst 0, 1) := by decide +kernel
theorem dL_law__2274 : decode cL_law_ 2274 = .ok (.laload, 1) := by decide +kernel
theorem dL_law__2275 : decode cL_law_ 2275 = .ok (.iload 6, 2) := by decide +kernel
theorem dL_law__2277 : decode cL_law_ 2277 = .ok (.i2l, 1) := by decide +kernel
theorem dL_law__2278 : decode cL_law_ 2278 = .ok (.lcmp, 1) := by decide +kernel
theorem dL_law__2279 : decode cL_law_ 2279 = .ok (.ifCond .eq 5, 3) := by decide +kernel
theorem dL_law__2284 : decode cL_law_ 2284 = .ok (.goto 471, 3) := by decide +kernel
set_option maxHeartbeats 4000000 in
set_option maxRecDepth 100000 in
theorem law_mend {p : Program} {e : Env} {s : State} {m : MethodId} {below : List Frame} {meth : Method} {c : Code} (l : Launch) (hl : l.stackTraces = false) {b : Nat} {xs : Nat → Int32} {D : va_G} {cy : Nat → ClassId} {sa : Nat → Nat} {A : Nat → Prop} (hAe : A = fun q => s.heap.size ≤ q) (C0 : lw_At p s m meth c b 10 xs) (hG : GC D cy sa s) (hT : TH A s s.heap) (h63 : xs 0 &&& 63 = 27) : W p l e room_1 s m #[Value.ref b] below meth c s.heap [] 0 0 (lw_Z below #[Value.ref b] s) (entryFrame m ([Value.ref b] : List Value).toArray 7) := by
  obtain ⟨hx, hb, hr, hml, hown0, hts0, hX, hbl, hlocks, hgv⟩ := id C0
  have hown : s.vm.findClass RL = some m.cls := hown0
  have hts := hts0
  have hA : ∀ q : Nat, s.heap.size ≤ q → A q := fun q h => by rw [hAe]; exact h
  have hbA : ¬ A b := by rw [hAe]; exact Nat.not_le.mpr hbl
  have hS : va_S A s.heap s.heap [] := va_S.rf
  have hP : va_P D vwCl [] s.heap := fun k q h => by simp at h
  have hD : va_D A [] := ⟨fun i j p q h => by simp at h, fun k q h => by simp at h⟩
  have hl0 := lv_entry ([.ref b]) (n := 7) (Nat.le_of_ble_eq_true rfl)
  rw [lg_entry_eq]
  generalize (lg_sl ([.ref b]) ++ List.replicate (7 - (lg_sl ([.ref b])).length) Slot.unset).toArray = ls at hl0 ⊢
  have hlv : lv_has ls 7 [(0, .ref b)] := hl0
  have cl8 := hts (.classLink RL 8 RX11) lwd_0
  have in11 := hts (.instantiable RX11 14) lwd_1
  have ini11 := hts (.initialized RX11) lwd_2
  have ini_RX11 := hts (.initialized RX11) lwd_2
  have ml117 := hts (.methodLink RL 117 yX11_init) lwd_3
  have im_X11_init := hts (.instanceMethod yX11_init) lwd_4
  have cl118 := hts (.classLink RL 118 RX12) lwd_5
  have in12 := hts (.instantiable RX12 38) lwd_6
  have ini12 := hts (.initialized RX12) lwd_7
  have ini_RX12 := hts (.initialized RX12) lwd_7
  have ml120 := hts (.methodLink RL 120 yX12_init) lwd_8
  have im_X12_init := hts (.instanceMethod yX12_init) lwd_9
  have ac2 := hts (.arrayClass .long) lwd_10
  refine va_new (ci := 11) (fs := [.null, .null, .null, .int 0, .int 0, .null, .null, .null, .null, .null, .int 0, .null, .null, .null]) (C := RX11) (T := TX11) (N := 14) hx hb hts inX11 tyX11 tyX11_ok hown cl8 in11 ini11 hG.1 hP hD hS hA rfl (by decide) (Nat.le_of_ble_eq_true rfl) (Nat.le_of_ble_eq_true rfl) dL_law__0 (fun q_1 H hP hD hS => ?_)
  have hP : va_P D vwCl [(q_1, .inr (11, [.null, .null, .null, .int 0, .int 0, .null, .null, .null, .null, .null, .int 0, .null, .null, .null]))] H := hP
  have hD : va_D A [(q_1, .inr (11, [.null, .null, .null, .int 0, .int 0, .null, .null, .null, .null, .null, .int 0, .null, .null, .null]))] := hD
  refine lv_dup hx hb dL_law__3 rfl ?_
  refine cj_v (wr := []) (va_runI (As := []) (rest := [.ref q_1]) ⟨hx, hb, hml, hown, hts⟩ (c_K_mend l hl D cy sa q_1 H.size) (cwI 0 hts gl_X11_init rfl rfl rfl ini_RX11 ml117 im_X11_init rfl (by decide +kernel) ⟨Nat.le_of_ble_eq_true rfl, Nat.le_of_ble_eq_true rfl⟩) ⟨pcW.blind, (pcW.mk hP hD hS hA hG hT [0] rfl (by decide))⟩ rfl rfl hlv.1 rfl (lv_room (Nat.le_of_ble_eq_true rfl)) dL_law__4 ⟨Nat.le_of_ble_eq_true rfl, Nat.le_of_ble_eq_true rfl⟩) hP hD hS hA [0] [] rfl rfl (by decide) (by decide) (fun u1 H locs hw1 hP hD hS => ?_)
  have hP : va_P D vwCl [(q_1, .inr (11, [.ref (u1.1 0), .ref (u1.1 1), .ref (u1.1 2), .int 0, .int 0, .ref (u1.1 5), .ref (u1.1 6), .ref (u1.1 7), .ref (u1.1 8), .ref (u1.1 9), .int 0, .ref (u1.1 11), .ref (u1.1 12), .ref (u1.1 13)])), ((u1.1 5), .inr (6, [.int 0, .int 0, .ref (u1.1 21), .ref (u1.1 22), .int 0, .int 0, .ref (u1.1 23), .int 0, .ref (u1.1 24), .int 0, .int 0, .ref (u1.1 25), .int 0, .ref (u1.1 26), .int 0, .int 0, .int 0, .int 0, .int 0])), ((u1.1 13), .inl (cy 0, 4, .inl (fun _ => 0)))] H := hP
  have hD : va_D A [(q_1, .inr (11, [.ref (u1.1 0), .ref (u1.1 1), .ref (u1.1 2), .int 0, .int 0, .ref (u1.1 5), .ref (u1.1 6), .ref (u1.1 7), .ref (u1.1 8), .ref (u1.1 9), .int 0, .ref (u1.1 11), .ref (u1.1 12), .ref (u1.1 13)])), ((u1.1 5), .inr (6, [.int 0, .int 0, .ref (u1.1 21), .ref (u1.1 22), .int 0, .int 0, .ref (u1.1 23), .int 0, .ref (u1.1 24), .int 0, .int 0, .ref (u1.1 25), .int 0, .ref (u1.1 26), .int 0, .int 0, .int 0, .int 0, .int 0])), ((u1.1 13), .inl (cy 0, 4, .inl (fun _ => 0)))] := hD
  refine lv_astore_n (lv' := [(1, .ref q_1), (0, .ref b)]) hx hb dL_law__7 rfl hlv (by decide) rfl (fun ls hlv => ?_)
  refine va_new (ci := 12) (fs := [.int 0, .null, .int 0, .int 0, .int 0, .int 0, .int 0, .int 0, .int 0, .null, .null, .null, .null, .null, .null, .null, .int 0, .int 0, .int 0, .null, .null, .null, .int 0, .null, .null, .null, .null, .null, .null, .int 0, .int 0, .int 0, .int 0, .null, .int 0, .null, .int 0, .int 0]) (C := RX12) (T := TX12) (N := 38) hx hb hts inX12 tyX12 tyX12_ok hown cl118 in12 ini12 hG.1 hP hD hS hA rfl (by decide) (Nat.le_of_ble_eq_true rfl) (Nat.le_of_ble_eq_true rfl) dL_law__8 (fun q_2 H hP hD hS => ?_)
  have hP : va_P D vwCl [(q_1, .inr (11, [.ref (u1.1 0), .ref (u1.1 1), .ref (u1.1 2), .int 0, .int 0, .ref (u1.1 5), .ref (u1.1 6), .ref (u1.1 7), .ref (u1.1 8), .ref (u1.1 9), .int 0, .ref (u1.1 11), .ref (u1.1 12), .ref (u1.1 13)])), ((u1.1 5), .inr (6, [.int 0, .int 0, .ref (u1.1 21), .ref (u1.1 22), .int 0, .int 0, .ref (u1.1 23), .int 0, .ref (u1.1 24), .int 0, .int 0, .ref (u1.1 25), .int 0, .ref (u1.1 26), .int 0, .int 0, .int 0, .int 0, .int 0])), ((u1.1 13), .inl (cy 0, 4, .inl (fun _ => 0))), (q_2, .inr (12, [.int 0, .null, .int 0, .int 0, .int 0, .int 0, .int 0, .int 0, .int 0, .null, .null, .null, .null, .null, .null, .null, .int 0, .int 0, .int 0, .null, .null, .null, .int 0, .null, .null, .null, .null, .null, .null, .int 0, .int 0, .int 0, .int 0, .null, .int 0, .null, .int 0, .int 0]))] H := hP
  have hD : va_D A [(q_1, .inr (11, [.ref (u1.1 0), .ref (u1.1 1), .ref (u1.1 2), .int 0, .int 0, .ref (u1.1 5), .ref (u1.1 6), .ref (u1.1 7), .ref (u1.1 8), .ref (u1.1 9), .int 0, .ref (u1.1 11), .ref (u1.1 12), .ref (u1.1 13)])), ((u1.1 5), .inr (6, [.int 0, .int 0, .ref (u1.1 21), .ref (u1.1 22), .int 0, .int 0, .ref (u1.1 23), .int 0, .ref (u1.1 24), .int 0, .int 0, .ref (u1.1 25), .int 0, .ref (u1.1 26), .int 0, .int 0, .int 0, .int 0, .int 0])), ((u1.1 13), .inl (cy 0, 4, .inl (fun _ => 0))), (q_2, .inr (12, [.int 0, .null, .int 0, .int 0, .int 0, .int 0, .int 0, .int 0, .int 0, .null, .null, .null, .null, .null, .null, .null, .int 0, .int 0, .int 0, .null, .null, .null, .int 0, .null, .null, .null, .null, .null, .null, .int 0, .int 0, .int 0, .int 0, .null, .int 0, .null, .int 0, .int 0]))] := hD
  refine lv_dup hx hb dL_law__11 rfl ?_
  refine cj_v (wr := [(q_1, .inr (11, [.ref (u1.1 0), .ref (u1.1 1), .ref (u1.1 2), .int 0, .int 0, .ref (u1.1 5), .ref (u1.1 6), .ref (u1.1 7), .ref (u1.1 8), .ref (u1.1 9), .int 0, .ref (u1.1 11), .ref (u1.1 12), .ref (u1.1 13)])), ((u1.1 5), .inr (6, [.int 0, .int 0, .ref (u1.1 21), .ref (u1.1 22), .int 0, .int 0, .ref (u1.1 23), .int 0, .ref (u1.1 24), .int 0, .int 0, .ref (u1.1 25), .int 0, .ref (u1.1 26), .int 0, .int 0, .int 0, .int 0, .int 0])), ((u1.1 13), .inl (cy 0, 4, .inl (fun _ => 0)))]) (va_runI (As := []) (rest := [.ref q_2]) ⟨hx, hb, hml, hown, hts⟩ (c_M_mend l hl D cy sa q_2 H.size) (cwI 0 hts gl_X12_init rfl rfl rfl ini_RX12 ml120 im_X12_init rfl (by decide +kernel) ⟨Nat.le_of_ble_eq_true rfl, Nat.le_of_ble_eq_true rfl⟩) ⟨pcW.blind, (pcW.mk hP hD hS hA hG hT [3] rfl (by decide))⟩ rfl rfl hlv.1 rfl (lv_room (Nat.le_of_ble_eq_true rfl)) dL_law__12 ⟨Nat.le_of_ble_eq_true rfl, Nat.le_of_ble_eq_true rfl⟩) hP hD hS hA [3] [0, 1, 2] rfl rfl (by decide) (by decide) (fun u2 H locs hw2 hP hD hS => ?_)
  have hP : va_P D vwCl [(q_1, .inr (11, [.ref (u1.1 0), .ref (u1.1 1), .ref (u1.1 2), .int 0, .int 0, .ref (u1.1 5), .ref (u1.1 6), .ref (u1.1 7), .ref (u1.1 8), .ref (u1.1 9), .int 0, .ref (u1.1 11), .ref (u1.1 12), .ref (u1.1 13)])), ((u1.1 5), .inr (6, [.int 0, .int 0, .ref (u1.1 21), .ref (u1.1 22), .int 0, .int 0, .ref (u1.1 23), .int 0, .ref (u1.1 24), .int 0, .int 0, .ref (u1.1 25), .int 0, .ref (u1.1 26), .int 0, .int 0, .int 0, .int 0, .int 0])), ((u1.1 13), .inl (cy 0, 4, .inl (fun _ => 0))), (q_2, .inr (12, [.int 0, .ref (u2.1 1), .int 0, .int 0, .int 0, .int 0, .int 0, .int 0, .int (-1), .ref (u2.1 9), .ref (u2.1 10), .ref (u2.1 11), .ref (u2.1 12), .ref (u2.1 13), .ref (u2.1 14), .ref (u2.1 15), .int 0, .int 0, .int 0, .ref (u2.1 19), .ref (u2.1 20), .ref (u2.1 21), .int 0, .ref (u2.1 23), .ref (u2.1 24), .ref (u2.1 25), .ref (u2.1 26), .ref (u2.1 27), .ref (u2.1 28), .int 0, .int 0, .int 0, .int 0, .ref (u2.1 33), .int (-1), .ref (u2.1 35), .int 0, .int 0])), ((u2.1 1), .inl (cy 0, 4, .inl (fun _ => 0))), ((u2.1 10), .inl (cy 0, 68, .inl (fun _ => 0)))] H := hP
  have hD : va_D A [(q_1, .inr (11, [.ref (u1.1 0), .ref (u1.1 1), .ref (u1.1 2), .int 0, .int 0, .ref (u1.1 5), .ref (u1.1 6), .ref (u1.1 7), .ref (u1.1 8), .ref (u1.1 9), .int 0, .ref (u1.1 11), .ref (u1.1 12), .ref (u1.1 13)])), ((u1.1 5), .inr (6, [.int 0, .int 0, .ref (u1.1 21), .ref (u1.1 22), .int 0, .int 0, .ref (u1.1 23), .int 0, .ref (u1.1 24), .int 0, .int 0, .ref (u1.1 25), .int 0, .ref (u1.1 26), .int 0, .int 0, .int 0, .int 0, .int 0])), ((u1.1 13), .inl (cy 0, 4, .inl (fun _ => 0))), (q_2, .inr (12, [.int 0, .ref (u2.1 1), .int 0, .int 0, .int 0, .int 0, .int 0, .int 0, .int (-1), .ref (u2.1 9), .ref (u2.1 10), .ref (u2.1 11), .ref (u2.1 12), .ref (u2.1 13), .ref (u2.1 14), .ref (u2.1 15), .int 0, .int 0, .int 0, .ref (u2.1 19), .ref (u2.1 20), .ref (u2.1 21), .int 0, .ref (u2.1 23), .ref (u2.1 24), .ref (u2.1 25), .ref (u2.1 26), .ref (u2.1 27), .ref (u2.1 28), .int 0, .int 0, .int 0, .int 0, .ref (u2.1 33), .int (-1), .ref (u2.1 35), .int 0, .int 0])), ((u2.1 1), .inl (cy 0, 4, .inl (fun _ => 0))), ((u2.1 10), .inl (cy 0, 68, .inl (fun _ => 0)))] := hD
  refine lv_astore_n (lv' := [(2, .ref q_2), (1, .ref q_1), (0, .ref b)]) hx hb dL_law__15 rfl hlv (by decide) rfl (fun ls hlv => ?_)
  refine lv_iconst (v := 1) hx hb dL_law__16 (by decide) ?_
  refine nw_a (atype := .long) (cy := cy) (a0 := (1, .inr (.inl (fun _ => 0)))) (N' := 1) hx hb ac2 (ty := .long) rfl 2 rfl (fun C h => nomatch h) hG.1 hP hD hS hA (fun cA => rfl) (by decide) (by decide) (Nat.le_of_ble_eq_true rfl) (Nat.le_of_ble_eq_true rfl) (Nat.le_of_ble_eq_true rfl) dL_law__17 (fun q_3 H hP hD hS => ?_)
  have hP : va_P D vwCl [(q_1, .inr (11, [.ref (u1.1 0), .ref (u1.1 1), .ref (u1.1 2), .int 0, .int 0, .ref (u1.1 5), .ref (u1.1 6), .ref (u1.1 7), .ref (u1.1 8), .ref (u1.1 9), .int 0, .ref (u1.1 11), .ref (u1.1 12), .ref (u1.1 13)])), ((u1.1 5), .inr (6, [.int 0, .int 0, .ref (u1.1 21), .ref (u1.1 22), .int 0, .int 0, .ref (u1.1 23), .int 0, .ref (u1.1 24), .int 0, .int 0, .ref (u1.1 25), .int 0, .ref (u1.1 26), .int 0, .int 0, .int 0, .int 0, .int 0])), ((u1.1 13), .inl (cy 0, 4, .inl (fun _ => 0))), (q_2, .inr (12, [.int 0, .ref (u2.1 1), .int 0, .int 0, .int 0, .int 0, .int 0, .int 0, .int (-1), .ref (u2.1 9), .ref (u2.1 10), .ref (u2.1 11), .ref (u2.1 12), .ref (u2.1 13), .ref (u2.1 14), .ref (u2.1 15), .int 0, .int 0, .int 0, .ref (u2.1 19), .ref (u2.1 20), .ref (u2.1 21), .int 0, .ref (u2.1 23), .ref (u2.1 24), .ref (u2.1 25), .ref (u2.1 26), .ref (u2.1 27), .ref (u2.1 28), .int 0, .int 0, .int 0, .int 0, .ref (u2.1 33), .int (-1), .ref (u2.1 35), .int 0, .int 0])), ((u2.1 1), .inl (cy 0, 4, .inl (fun _ => 0))), ((u2.1 10), .inl (cy 0, 68, .inl (fun _ => 0))), (q_3, .inl (cy 2, 1, .inr (.inl (fun _ => 0))))] H := hP
  have hD : va_D A [(q_1, .inr (11, [.ref (u1.1 0), .ref (u1.1 1), .ref (u1.1 2), .int 0, .int 0, .ref (u1.1 5), .ref (u1.1 6), .ref (u1.1 7), .ref (u1.1 8), .ref (u1.1 9), .int 0, .ref (u1.1 11), .ref (u1.1 12), .ref (u1.1 13)])), ((u1.1 5), .inr (6, [.int 0, .int 0, .ref (u1.1 21), .ref (u1.1 22), .int 0, .int 0, .ref (u1.1 23), .int 0, .ref (u1.1 24), .int 0, .int 0, .ref (u1.1 25), .int 0, .ref (u1.1 26), .int 0, .int 0, .int 0, .int 0, .int 0])), ((u1.1 13), .inl (cy 0, 4, .inl (fun _ => 0))), (q_2, .inr (12, [.int 0, .ref (u2.1 1), .int 0, .int 0, .int 0, .int 0, .int 0, .int 0, .int (-1), .ref (u2.1 9), .ref (u2.1 10), .ref (u2.1 11), .ref (u2.1 12), .ref (u2.1 13), .ref (u2.1 14), .ref (u2.1 15), .int 0, .int 0, .int 0, .ref (u2.1 19), .ref (u2.1 20), .ref (u2.1 21), .int 0, .ref (u2.1 23), .ref (u2.1 24), .ref (u2.1 25), .ref (u2.1 26), .ref (u2.1 27), .ref (u2.1 28), .int 0, .int 0, .int 0, .int 0, .ref (u2.1 33), .int (-1), .ref (u2.1 35), .int 0, .int 0])), ((u2.1 1), .inl (cy 0, 4, .inl (fun _ => 0))), ((u2.1 10), .inl (cy 0, 68, .inl (fun _ => 0))), (q_3, .inl (cy 2, 1, .inr (.inl (fun _ => 0))))] := hD
  refine lv_astore_n (lv' := [(3, .ref q_3), (2, .ref q_2), (1, .ref q_1), (0, .ref b)]) hx hb dL_law__19 rfl hlv (by decide) rfl (fun ls hlv => ?_)
  refine lv_iconst (v := 0) hx hb dL_law__20 (by decide) ?_
  refine lv_istore (lv' := [(4, .int 0), (3, .ref q_3), (2, .ref q_2), (1, .ref q_1), (0, .ref b)]) hx hb dL_law__21 hlv (by decide) rfl (fun ls hlv => ?_)
  refine lv_iload hx hb dL_law__23 (lv_at hlv 0 rfl) ?_
  refine lv_aload_n hx hb dL_law__25 rfl (lv_at hlv 4 rfl) ?_
  refine va_slen hx hb hX hbl hbA hS dL_law__26 ?_
  refine lt_i (y := 10) (by decide) ?_
  refine lv_bipush (v := 10) hx hb dL_law__27 (by decide) ?_
  refine lv_isub hx hb dL_law__29 ?_
  refine lt_i (y := 0) (by decide) ?_
  refine lv_icmp_gt (tgt := 2761) hx hb dL_law__30 (by decide) (fun c => absurd c (by decide)) (fun _ => ?_)
  refine lv_aload_n hx hb dL_law__33 rfl (lv_at hlv 4 rfl) ?_
  refine lv_iload hx hb dL_law__34 (lv_at hlv 0 rfl) ?_
  refine va_sld hx hb hX hbl hbA hS (vpd (by decide)) dL_law__36 ?_
  refine lt_i (y := xs 0) rfl ?_
  refine lv_bipush (v := 63) hx hb dL_law__37 (by decide) ?_
  refine lv_iand hx hb dL_law__39 ?_
  refine lt_i (y := 27) h63 ?_
  refine lv_tableIn (tgt := 2115) hx hb dL_law__40 (by decide) (by decide) rfl (by decide) ?_
  refine lv_aload_n hx hb dL_law__2115 rfl (lv_at hlv 3 rfl) ?_
  refine lv_aload_n hx hb dL_law__2116 rfl (lv_at hlv 4 rfl) ?_
  refine lv_iload hx hb dL_law__2117 (lv_at hlv 0 rfl) ?_
  refine lv_iconst (v := 1) hx hb dL_law__2119 (by decide) ?_
  refine lv_iadd hx hb dL_law__2120 ?_
  refine lt_i (y := 1) (by decide) ?_
  refine va_sld hx hb hX hbl hbA hS (vpd (by decide)) dL_law__2121 ?_
  refine lt_i (y := xs 1) rfl ?_
  refine lv_aload_n hx hb dL_law__2122 rfl (lv_at hlv 4 rfl) ?_
  refine lv_iload hx hb dL_law__2123 (lv_at hlv 0 rfl) ?_
  refine lv_iconst (v := 2) hx hb dL_law__2125 (by decide) ?_
  refine lv_iadd hx hb dL_law__2126 ?_
  refine lt_i (y := 2) (by decide) ?_
  refine va_sld hx hb hX hbl hbA hS (vpd (by decide)) dL_law__2127 ?_
  refine lt_i (y := xs 2) rfl ?_
  refine lv_aload_n hx hb dL_law__2128 rfl (lv_at hlv 4 rfl) ?_
  refine lv_iload hx hb dL_law__2129 (lv_at hlv 0 rfl) ?_
  refine lv_iconst (v := 3) hx hb dL_law__2131 (by decide) ?_
  refine lv_iadd hx hb dL_law__2132 ?_
  refine lt_i (y := 3) (by decide) ?_
  refine va_sld hx hb hX hbl hbA hS (vpd (by decide)) dL_law__2133 ?_
  refine lt_i (y := xs 3) rfl ?_
  refine lv_aload_n hx hb dL_law__2134 rfl (lv_at hlv 4 rfl) ?_
  refine lv_iload hx hb dL_law__2135 (lv_at hlv 0 rfl) ?_
  refine lv_iconst (v := 4) hx hb dL_law__2137 (by decide) ?_
  refine lv_iadd hx hb dL_law__2138 ?_
  refine lt_i (y := 4) (by decide) ?_
  refine va_sld hx hb hX hbl hbA hS (vpd (by decide)) dL_law__2139 ?_
  refine lt_i (y := xs 4) rfl ?_
  refine lv_aload_n hx hb dL_law__2140 rfl (lv_at hlv 4 rfl) ?_
  refine lv_iload hx hb dL_law__2141 (lv_at hlv 0 rfl) ?_
  refine lv_iconst (v := 5) hx hb dL_law__2143 (by decide) ?_
  refine lv_iadd hx hb dL_law__2144 ?_
  refine lt_i (y := 5) (by decide) ?_
  refine va_sld hx hb hX hbl hbA hS (vpd (by decide)) dL_law__2145 ?_
  refine lt_i (y := xs 5) rfl ?_
  refine lv_aload_n hx hb dL_law__2146 rfl (lv_at hlv 1 rfl) ?_
  refine cj_i (wr := [(q_2, .inr (12, [.int 0, .ref (u2.1 1), .int 0, .int 0, .int 0, .int 0, .int 0, .int 0, .int (-1), .ref (u2.1 9), .ref (u2.1 10), .ref (u2.1 11), .ref (u2.1 12), .ref (u2.1 13), .ref (u2.1 14), .ref (u2.1 15), .int 0, .int 0, .int 0, .ref (u2.1 19), .ref (u2.1 20), .ref (u2.1 21), .int 0, .ref (u2.1 23), .ref (u2.1 24), .ref (u2.1 25), .ref (u2.1 26), .ref (u2.1 27), .ref (u2.1 28), .int 0, .int 0, .int 0, .int 0, .ref (u2.1 33), .int (-1), .ref (u2.1 35), .int 0, .int 0])), ((u2.1 1), .inl (cy 0, 4, .inl (fun _ => 0))), ((u2.1 10), .inl (cy 0, 68, .inl (fun _ => 0)))]) (vx_runSW (As := [.ref q_1, .int (xs 1), .int (xs 2), .int (xs 3), .int (xs 4), .int (xs 5), .ref q_3]) (rest := []) ⟨hx, hb, hml, hown, hts⟩ (w_mend l hl D cy sa q_1 u1.1 (xs 1) (xs 2) (xs 3) (xs 4) (xs 5) q_3 H.size) (vx_cwSW 7 hts gl_w_mend rfl rfl rfl (by decide +kernel) ⟨Nat.le_of_ble_eq_true rfl, Nat.le_of_ble_eq_true rfl⟩) ⟨pcW.blind, (pcW.mk hP hD hS hA hG hT [0, 1, 2, 6] rfl (by decide))⟩ rfl rfl hlv.1 rfl (lv_room (Nat.le_of_ble_eq_true rfl)) dL_law__2147 ⟨Nat.le_of_ble_eq_true rfl, Nat.le_of_ble_eq_true rfl⟩) hP hD hS hA [0, 1, 2, 6] [3, 4, 5] rfl rfl (by decide) (by decide) (fun r3 u3 H locs hw3 hP hD hS => ?_)
  obtain rfl := hw3
  have hP : va_P D vwCl [(q_2, .inr (12, [.int 0, .ref (u2.1 1), .int 0, .int 0, .int 0, .int 0, .int 0, .int 0, .int (-1), .ref (u2.1 9), .ref (u2.1 10), .ref (u2.1 11), .ref (u2.1 12), .ref (u2.1 13), .ref (u2.1 14), .ref (u2.1 15), .int 0, .int 0, .int 0, .ref (u2.1 19), .ref (u2.1 20), .ref (u2.1 21), .int 0, .ref (u2.1 23), .ref (u2.1 24), .ref (u2.1 25), .ref (u2.1 26), .ref (u2.1 27), .ref (u2.1 28), .int 0, .int 0, .int 0, .int 0, .ref (u2.1 33), .int (-1), .ref (u2.1 35), .int 0, .int 0])), ((u2.1 1), .inl (cy 0, 4, .inl (fun _ => 0))), ((u2.1 10), .inl (cy 0, 68, .inl (fun _ => 0))), (q_3, .inl (cy 2, 1, .inr (.inl (fun _ => (u3.2.1 0 : Int32).toInt64))))] H := hP
  have hD : va_D A [(q_2, .inr (12, [.int 0, .ref (u2.1 1), .int 0, .int 0, .int 0, .int 0, .int 0, .int 0, .int (-1), .ref (u2.1 9), .ref (u2.1 10), .ref (u2.1 11), .ref (u2.1 12), .ref (u2.1 13), .ref (u2.1 14), .ref (u2.1 15), .int 0, .int 0, .int 0, .ref (u2.1 19), .ref (u2.1 20), .ref (u2.1 21), .int 0, .ref (u2.1 23), .ref (u2.1 24), .ref (u2.1 25), .ref (u2.1 26), .ref (u2.1 27), .ref (u2.1 28), .int 0, .int 0, .int 0, .int 0, .ref (u2.1 33), .int (-1), .ref (u2.1 35), .int 0, .int 0])), ((u2.1 1), .inl (cy 0, 4, .inl (fun _ => 0))), ((u2.1 10), .inl (cy 0, 68, .inl (fun _ => 0))), (q_3, .inl (cy 2, 1, .inr (.inl (fun _ => (u3.2.1 0 : Int32).toInt64))))] := hD
  refine lv_istore (lv' := [(5, .int 1), (4, .int 0), (3, .ref q_3), (2, .ref q_2), (1, .ref q_1), (0, .ref b)]) hx hb dL_law__2150 hlv (by decide) rfl (fun ls hlv => ?_)
  refine lv_aload_n hx hb dL_law__2152 rfl (lv_at hlv 3 rfl) ?_
  refine lv_aload_n hx hb dL_law__2153 rfl (lv_at hlv 5 rfl) ?_
  refine lv_iload hx hb dL_law__2154 (lv_at hlv 1 rfl) ?_
  refine lv_iconst (v := 1) hx hb dL_law__2156 (by decide) ?_
  refine lv_iadd hx hb dL_law__2157 ?_
  refine lt_i (y := 1) (by decide) ?_
  refine va_sld hx hb hX hbl hbA hS (vpd (by decide)) dL_law__2158 ?_
  refine lt_i (y := xs 1) rfl ?_
  refine lv_aload_n hx hb dL_law__2159 rfl (lv_at hlv 5 rfl) ?_
  refine lv_iload hx hb dL_law__2160 (lv_at hlv 1 rfl) ?_
  refine lv_iconst (v := 2) hx hb dL_law__2162 (by decide) ?_
  refine lv_iadd hx hb dL_law__2163 ?_
  refine lt_i (y := 2) (by decide) ?_
  refine va_sld hx hb hX hbl hbA hS (vpd (by decide)) dL_law__2164 ?_
  refine lt_i (y := xs 2) rfl ?_
  refine lv_aload_n hx hb dL_law__2165 rfl (lv_at hlv 5 rfl) ?_
  refine lv_iload hx hb dL_law__2166 (lv_at hlv 1 rfl) ?_
  refine lv_iconst (v := 3) hx hb dL_law__2168 (by decide) ?_
  refine lv_iadd hx hb dL_law__2169 ?_
  refine lt_i (y := 3) (by decide) ?_
  refine va_sld hx hb hX hbl hbA hS (vpd (by decide)) dL_law__2170 ?_
  refine lt_i (y := xs 3) rfl ?_
  refine lv_aload_n hx hb dL_law__2171 rfl (lv_at hlv 5 rfl) ?_
  refine lv_iload hx hb dL_law__2172 (lv_at hlv 1 rfl) ?_
  refine lv_iconst (v := 4) hx hb dL_law__2174 (by decide) ?_
  refine lv_iadd hx hb dL_law__2175 ?_
  refine lt_i (y := 4) (by decide) ?_
  refine va_sld hx hb hX hbl hbA hS (vpd (by decide)) dL_law__2176 ?_
  refine lt_i (y := xs 4) rfl ?_
  refine lv_aload_n hx hb dL_law__2177 rfl (lv_at hlv 5 rfl) ?_
  refine lv_iload hx hb dL_law__2178 (lv_at hlv 1 rfl) ?_
  refine lv_iconst (v := 5) hx hb dL_law__2180 (by decide) ?_
  refine lv_iadd hx hb dL_law__2181 ?_
  refine lt_i (y := 5) (by decide) ?_
  refine va_sld hx hb hX hbl hbA hS (vpd (by decide)) dL_law__2182 ?_
  refine lt_i (y := xs 5) rfl ?_
  refine cj_i (wr := [(q_3, .inl (cy 2, 1, .inr (.inl (fun _ => (u3.2.1 0 : Int32).toInt64))))]) (va_runV (As := [.int (xs 1), .int (xs 2), .int (xs 3), .int (xs 4), .int (xs 5)]) (rest := []) ⟨hx, hb, hml, hown, hts⟩ (m_mend l hl D cy sa q_2 u2.1 (xs 1) (xs 2) (xs 3) (xs 4) (xs 5) H.size) (cwV 5 hts gl_m_mend rfl rfl rfl (by decide +kernel) ⟨Nat.le_of_ble_eq_true rfl, Nat.le_of_ble_eq_true rfl⟩) ⟨pcW.blind, (va_recv hG.1 hP (ci := 12) (q0 := 0) rfl rfl), (pcW.mk hP hD hS hA hG hT [0, 1, 2] rfl (by decide))⟩ rfl rfl hlv.1 rfl (lv_room (Nat.le_of_ble_eq_true rfl)) dL_law__2183 ⟨Nat.le_of_ble_eq_true rfl, Nat.le_of_ble_eq_true rfl⟩) hP hD hS hA [0, 1, 2] [3] rfl rfl (by decide) (by decide) (fun r4 u4 H locs hw4 hP hD hS => ?_)
  obtain rfl := hw4
  have hP : va_P D vwCl [(q_3, .inl (cy 2, 1, .inr (.inl (fun _ => (u3.2.1 0 : Int32).toInt64)))), (q_2, .inr (12, [.int 1, .ref (u2.1 1), .int 0, .int 0, .int 0, .int 0, .int 0, .int 0, .int (-1), .ref (u2.1 9), .ref (u2.1 10), .ref (u2.1 11), .ref (u2.1 12), .ref (u2.1 13), .ref (u2.1 14), .ref (u2.1 15), .int 0, .int 0, .int 0, .ref (u2.1 19), .ref (u2.1 20), .ref (u2.1 21), .int 0, .ref (u2.1 23), .ref (u2.1 24), .ref (u2.1 25), .ref (u2.1 26), .ref (u2.1 27), .ref (u2.1 28), .int 0, .int 0, .int 0, .int 0, .ref (u2.1 33), .int (-1), .ref (u2.1 35), .int 0, .int 0]))] H := hP
  have hD : va_D A [(q_3, .inl (cy 2, 1, .inr (.inl (fun _ => (u3.2.1 0 : Int32).toInt64)))), (q_2, .inr (12, [.int 1, .ref (u2.1 1), .int 0, .int 0, .int 0, .int 0, .int 0, .int 0, .int (-1), .ref (u2.1 9), .ref (u2.1 10), .ref (u2.1 11), .ref (u2.1 12), .ref (u2.1 13), .ref (u2.1 14), .ref (u2.1 15), .int 0, .int 0, .int 0, .ref (u2.1 19), .ref (u2.1 20), .ref (u2.1 21), .int 0, .ref (u2.1 23), .ref (u2.1 24), .ref (u2.1 25), .ref (u2.1 26), .ref (u2.1 27), .ref (u2.1 28), .int 0, .int 0, .int 0, .int 0, .ref (u2.1 33), .int (-1), .ref (u2.1 35), .int 0, .int 0]))] := hD
  refine lv_istore (lv' := [(6, .int 0), (5, .int 1), (4, .int 0), (3, .ref q_3), (2, .ref q_2), (1, .ref q_1), (0, .ref b)]) hx hb dL_law__2186 hlv (by decide) rfl (fun ls hlv => ?_)
  refine lv_aload_n hx hb dL_law__2188 rfl (lv_at hlv 4 rfl) ?_
  refine cj_i (wr := [(q_3, .inl (cy 2, 1, .inr (.inl (fun _ => (u3.2.1 0 : Int32).toInt64))))]) (va_runV (As := []) (rest := []) ⟨hx, hb, hml, hown, hts⟩ (c_thrown l hl D cy sa q_2 u2.1 1 0 0 0 0 0 0 (-1) 0 0 0 0 0 0 0 0 (-1) 0 0 H.size) (cwV 0 hts gl_c_thrown rfl rfl rfl (by decide +kernel) ⟨Nat.le_of_ble_eq_true rfl, Nat.le_of_ble_eq_true rfl⟩) ⟨pcW.blind, (va_recv hG.1 hP (ci := 12) (q0 := 1) rfl rfl), (pcW.mk hP hD hS hA hG hT [1] rfl (by decide))⟩ rfl rfl hlv.1 rfl (lv_room (Nat.le_of_ble_eq_true rfl)) dL_law__2189 ⟨Nat.le_of_ble_eq_true rfl, Nat.le_of_ble_eq_true rfl⟩) hP hD hS hA [1] [0] rfl rfl (by decide) (by decide) (fun r5 u5 H locs hw5 hP hD hS => ?_)
  obtain rfl := hw5
  have hP : va_P D vwCl [(q_3, .inl (cy 2, 1, .inr (.inl (fun _ => (u3.2.1 0 : Int32).toInt64))))] H := hP
  have hD : va_D A [(q_3, .inl (cy 2, 1, .inr (.inl (fun _ => (u3.2.1 0 : Int32).toInt64))))] := hD
  refine lv_iload hx hb dL_law__2192 (lv_at hlv 1 rfl) ?_
  refine lv_icmp_eq (tgt := 2199) hx hb dL_law__2194 (by decide) (fun _ => ?_) (fun c => absurd (by decide) c)
  refine lv_iload hx hb dL_law__2199 (lv_at hlv 1 rfl) ?_
  refine lv_if_ne (tgt := 2216) hx hb dL_law__2201 (by decide) (fun _ => ?_) (fun c => absurd c (by decide))
  refine lv_goto (tgt := 2755) hx hb dL_law__2216 (by decide) ?_
  refine lv_iinc (v := 10) (lv' := [(4, .int 10), (6, .int 0), (5, .int 1), (3, .ref q_3), (2, .ref q_2), (1, .ref q_1), (0, .ref b)]) hx hb dL_law__2755 hlv (k := 2) rfl (by decide) (by decide) rfl (fun ls hlv => ?_)
  refine lv_goto (tgt := 23) hx hb dL_law__2758 (by decide) ?_
  refine lv_iload hx hb dL_law__23 (lv_at hlv 0 rfl) ?_
  refine lv_aload_n hx hb dL_law__25 rfl (lv_at hlv 6 rfl) ?_
  refine va_slen hx hb hX hbl hbA hS dL_law__26 ?_
  refine lt_i (y := 10) (by decide) ?_
  refine lv_bipush (v := 10) hx hb dL_law__27 (by decide) ?_
  refine lv_isub hx hb dL_law__29 ?_
  refine lt_i (y := 0) (by decide) ?_
  refine lv_icmp_gt (tgt := 2761) hx hb dL_law__30 (by decide) (fun _ => ?_) (fun c => absurd (by decide) c)
  refine lv_iconst (v := 1) hx hb dL_law__2761 (by decide) ?_
  refine va_forget (fun q hq => by have h9 := hS.2.2 q hq; rw [hAe] at h9; exact h9) ?_
  refine W.widen (k := 600002) (n := 7302232) (Nat.le_of_ble_eq_true rfl) (Nat.le_of_ble_eq_true rfl) ?_
  exact lw_ret hx hb hr hlocks dL_law__2762
set_option maxHeartbeats 4000000 in
set_option maxRecDepth 100000 in
theorem law_share0 {p : Program} {e : Env} {s : State} {m : MethodId} {below : List Frame} {meth : Method} {c : Code} (l : Launch) (hl : l.stackTraces = false) {b : Nat} {xs : Nat → Int32} {D : va_G} {cy : Nat → ClassId} {sa : Nat → Nat} {A : Nat → Prop} (hAe : A = fun q => s.heap.size ≤ q) (C0 : lw_At p s m meth c b 10 xs) (hG : GC D cy sa s) (hT : TH A s s.heap) (h63 : xs 0 &&& 63 = 28) (hv1 : xs 1 = 0) : W p l e room_1 s m #[Value.ref b] below meth c s.heap [] 0 0 (lw_Z below #[Value.ref b] s) (entryFrame m ([Value.ref b] : List Value).toArray 7) := by
  obtain ⟨hx, hb, hr, hml, hown0, hts0, hX, hbl, hlocks, hgv⟩ := id C0
  have hown : s.vm.findClass RL = some m.cls := hown0
  have hts := hts0
  have hA : ∀ q : Nat, s.heap.size ≤ q → A q := fun q h => by rw [hAe]; exact h
  have hbA : ¬ A b := by rw [hAe]; exact Nat.not_le.mpr hbl
  have hS : va_S A s.heap s.heap [] := va_S.rf
  have hP : va_P D vwCl [] s.heap := fun k q h => by simp at h
  have hD : va_D A [] := ⟨fun i j p q h => by simp at h, fun k q h => by simp at h⟩
  have hl0 := lv_entry ([.ref b]) (n := 7) (Nat.le_of_ble_eq_true rfl)
  rw [lg_entry_eq]
  generalize (lg_sl ([.ref b]) ++ List.replicate (7 - (lg_sl ([.ref b])).length) Slot.unset).toArray = ls at hl0 ⊢
  have hlv : lv_has ls 7 [(0, .ref b)] := hl0
  have cl8 := hts (.classLink RL 8 RX11) lwd_0
  have in11 := hts (.instantiable RX11 14) lwd_1
  have ini11 := hts (.initialized RX11) lwd_2
  have ini_RX11 := hts (.initialized RX11) lwd_2
  have ml117 := hts (.methodLink RL 117 yX11_init) lwd_3
  have im_X11_init := hts (.instanceMethod yX11_init) lwd_4
  have cl118 := hts (.classLink RL 118 RX12) lwd_5
  have in12 := hts (.instantiable RX12 38) lwd_6
  have ini12 := hts (.initialized RX12) lwd_7
  have ini_RX12 := hts (.initialized RX12) lwd_7
  have ml120 := hts (.methodLink RL 120 yX12_init) lwd_8
  have im_X12_init := hts (.instanceMethod yX12_init) lwd_9
  have ac2 := hts (.arrayClass .long) lwd_10
  refine va_new (ci := 11) (fs := [.null, .null, .null, .int 0, .int 0, .null, .null, .null, .null, .null, .int 0, .null, .null, .null]) (C := RX11) (T := TX11) (N := 14) hx hb hts inX11 tyX11 tyX11_ok hown cl8 in11 ini11 hG.1 hP hD hS hA rfl (by decide) (Nat.le_of_ble_eq_true rfl) (Nat.le_of_ble_eq_true rfl) dL_law__0 (fun q_1 H hP hD hS => ?_)
  have hP : va_P D vwCl [(q_1, .inr (11, [.null, .null, .null, .int 0, .int 0, .null, .null, .null, .null, .null, .int 0, .null, .null, .null]))] H := hP
  have hD : va_D A [(q_1, .inr (11, [.null, .null, .null, .int 0, .int 0, .null, .null, .null, .null, .null, .int 0, .null, .null, .null]))] := hD
  refine lv_dup hx hb dL_law__3 rfl ?_
  refine cj_v (wr := []) (va_runI (As := []) (rest := [.ref q_1]) ⟨hx, hb, hml, hown, hts⟩ (c_K_share0 l hl D cy sa q_1 H.size) (cwI 0 hts gl_X11_init rfl rfl rfl ini_RX11 ml117 im_X11_init rfl (by decide +kernel) ⟨Nat.le_of_ble_eq_true rfl, Nat.le_of_ble_eq_true rfl⟩) ⟨pcW.blind, (pcW.mk hP hD hS hA hG hT [0] rfl (by decide))⟩ rfl rfl hlv.1 rfl (lv_room (Nat.le_of_ble_eq_true rfl)) dL_law__4 ⟨Nat.le_of_ble_eq_true rfl, Nat.le_of_ble_eq_true rfl⟩) hP hD hS hA [0] [] rfl rfl (by decide) (by decide) (fun u1 H locs hw1 hP hD hS => ?_)
  have hP : va_P D vwCl [(q_1, .inr (11, [.ref (u1.1 0), .ref (u1.1 1), .ref (u1.1 2), .int 0, .int 0, .ref (u1.1 5), .ref (u1.1 6), .ref (u1.1 7), .ref (u1.1 8), .ref (u1.1 9), .int 0, .ref (u1.1 11), .ref (u1.1 12), .ref (u1.1 13)])), ((u1.1 7), .inr (4, [.int 0, .ref (u1.1 41), .int 0, .ref (u1.1 42), .ref (u1.1 43)])), ((u1.1 43), .inl (cy 0, 4, .inl shF)), ((u1.1 13), .inl (cy 0, 4, .inl (fun _ => 0)))] H := hP
  have hD : va_D A [(q_1, .inr (11, [.ref (u1.1 0), .ref (u1.1 1), .ref (u1.1 2), .int 0, .int 0, .ref (u1.1 5), .ref (u1.1 6), .ref (u1.1 7), .ref (u1.1 8), .ref (u1.1 9), .int 0, .ref (u1.1 11), .ref (u1.1 12), .ref (u1.1 13)])), ((u1.1 7), .inr (4, [.int 0, .ref (u1.1 41), .int 0, .ref (u1.1 42), .ref (u1.1 43)])), ((u1.1 43), .inl (cy 0, 4, .inl shF)), ((u1.1 13), .inl (cy 0, 4, .inl (fun _ => 0)))] := hD
  refine lv_astore_n (lv' := [(1, .ref q_1), (0, .ref b)]) hx hb dL_law__7 rfl hlv (by decide) rfl (fun ls hlv => ?_)
  refine va_new (ci := 12) (fs := [.int 0, .null, .int 0, .int 0, .int 0, .int 0, .int 0, .int 0, .int 0, .null, .null, .null, .null, .null, .null, .null, .int 0, .int 0, .int 0, .null, .null, .null, .int 0, .null, .null, .null, .null, .null, .null, .int 0, .int 0, .int 0, .int 0, .null, .int 0, .null, .int 0, .int 0]) (C := RX12) (T := TX12) (N := 38) hx hb hts inX12 tyX12 tyX12_ok hown cl118 in12 ini12 hG.1 hP hD hS hA rfl (by decide) (Nat.le_of_ble_eq_true rfl) (Nat.le_of_ble_eq_true rfl) dL_law__8 (fun q_2 H hP hD hS => ?_)
  have hP : va_P D vwCl [(q_1, .inr (11, [.ref (u1.1 0), .ref (u1.1 1), .ref (u1.1 2), .int 0, .int 0, .ref (u1.1 5), .ref (u1.1 6), .ref (u1.1 7), .ref (u1.1 8), .ref (u1.1 9), .int 0, .ref (u1.1 11), .ref (u1.1 12), .ref (u1.1 13)])), ((u1.1 7), .inr (4, [.int 0, .ref (u1.1 41), .int 0, .ref (u1.1 42), .ref (u1.1 43)])), ((u1.1 43), .inl (cy 0, 4, .inl shF)), ((u1.1 13), .inl (cy 0, 4, .inl (fun _ => 0))), (q_2, .inr (12, [.int 0, .null, .int 0, .int 0, .int 0, .int 0, .int 0, .int 0, .int 0, .null, .null, .null, .null, .null, .null, .null, .int 0, .int 0, .int 0, .null, .null, .null, .int 0, .null, .null, .null, .null, .null, .null, .int 0, .int 0, .int 0, .int 0, .null, .int 0, .null, .int 0, .int 0]))] H := hP
  have hD : va_D A [(q_1, .inr (11, [.ref (u1.1 0), .ref (u1.1 1), .ref (u1.1 2), .int 0, .int 0, .ref (u1.1 5), .ref (u1.1 6), .ref (u1.1 7), .ref (u1.1 8), .ref (u1.1 9), .int 0, .ref (u1.1 11), .ref (u1.1 12), .ref (u1.1 13)])), ((u1.1 7), .inr (4, [.int 0, .ref (u1.1 41), .int 0, .ref (u1.1 42), .ref (u1.1 43)])), ((u1.1 43), .inl (cy 0, 4, .inl shF)), ((u1.1 13), .inl (cy 0, 4, .inl (fun _ => 0))), (q_2, .inr (12, [.int 0, .null, .int 0, .int 0, .int 0, .int 0, .int 0, .int 0, .int 0, .null, .null, .null, .null, .null, .null, .null, .int 0, .int 0, .int 0, .null, .null, .null, .int 0, .null, .null, .null, .null, .null, .null, .int 0, .int 0, .int 0, .int 0, .null, .int 0, .null, .int 0, .int 0]))] := hD
  refine lv_dup hx hb dL_law__11 rfl ?_
  refine cj_v (wr := [(q_1, .inr (11, [.ref (u1.1 0), .ref (u1.1 1), .ref (u1.1 2), .int 0, .int 0, .ref (u1.1 5), .ref (u1.1 6), .ref (u1.1 7), .ref (u1.1 8), .ref (u1.1 9), .int 0, .ref (u1.1 11), .ref (u1.1 12), .ref (u1.1 13)])), ((u1.1 7), .inr (4, [.int 0, .ref (u1.1 41), .int 0, .ref (u1.1 42), .ref (u1.1 43)])), ((u1.1 43), .inl (cy 0, 4, .inl shF)), ((u1.1 13), .inl (cy 0, 4, .inl (fun _ => 0)))]) (va_runI (As := []) (rest := [.ref q_2]) ⟨hx, hb, hml, hown, hts⟩ (c_M_share0 l hl D cy sa q_2 H.size) (cwI 0 hts gl_X12_init rfl rfl rfl ini_RX12 ml120 im_X12_init rfl (by decide +kernel) ⟨Nat.le_of_ble_eq_true rfl, Nat.le_of_ble_eq_true rfl⟩) ⟨pcW.blind, (pcW.mk hP hD hS hA hG hT [4] rfl (by decide))⟩ rfl rfl hlv.1 rfl (lv_room (Nat.le_of_ble_eq_true rfl)) dL_law__12 ⟨Nat.le_of_ble_eq_true rfl, Nat.le_of_ble_eq_true rfl⟩) hP hD hS hA [4] [0, 1, 2, 3] rfl rfl (by decide) (by decide) (fun u2 H locs hw2 hP hD hS => ?_)
  have hP : va_P D vwCl [(q_1, .inr (11, [.ref (u1.1 0), .ref (u1.1 1), .ref (u1.1 2), .int 0, .int 0, .ref (u1.1 5), .ref (u1.1 6), .ref (u1.1 7), .ref (u1.1 8), .ref (u1.1 9), .int 0, .ref (u1.1 11), .ref (u1.1 12), .ref (u1.1 13)])), ((u1.1 7), .inr (4, [.int 0, .ref (u1.1 41), .int 0, .ref (u1.1 42), .ref (u1.1 43)])), ((u1.1 43), .inl (cy 0, 4, .inl shF)), ((u1.1 13), .inl (cy 0, 4, .inl (fun _ => 0))), (q_2, .inr (12, [.int 0, .ref (u2.1 1), .int 0, .int 0, .int 0, .int 0, .int 0, .int 0, .int (-1), .ref (u2.1 9), .ref (u2.1 10), .ref (u2.1 11), .ref (u2.1 12), .ref (u2.1 13), .ref (u2.1 14), .ref (u2.1 15), .int 0, .int 0, .int 0, .ref (u2.1 19), .ref (u2.1 20), .ref (u2.1 21), .int 0, .ref (u2.1 23), .ref (u2.1 24), .ref (u2.1 25), .ref (u2.1 26), .ref (u2.1 27), .ref (u2.1 28), .int 0, .int 0, .int 0, .int 0, .ref (u2.1 33), .int (-1), .ref (u2.1 35), .int 0, .int 0])), ((u2.1 1), .inl (cy 0, 4, .inl (fun _ => 0))), ((u2.1 12), .inl (cy 0, 389, .inl sF))] H := hP
  have hD : va_D A [(q_1, .inr (11, [.ref (u1.1 0), .ref (u1.1 1), .ref (u1.1 2), .int 0, .int 0, .ref (u1.1 5), .ref (u1.1 6), .ref (u1.1 7), .ref (u1.1 8), .ref (u1.1 9), .int 0, .ref (u1.1 11), .ref (u1.1 12), .ref (u1.1 13)])), ((u1.1 7), .inr (4, [.int 0, .ref (u1.1 41), .int 0, .ref (u1.1 42), .ref (u1.1 43)])), ((u1.1 43), .inl (cy 0, 4, .inl shF)), ((u1.1 13), .inl (cy 0, 4, .inl (fun _ => 0))), (q_2, .inr (12, [.int 0, .ref (u2.1 1), .int 0, .int 0, .int 0, .int 0, .int 0, .int 0, .int (-1), .ref (u2.1 9), .ref (u2.1 10), .ref (u2.1 11), .ref (u2.1 12), .ref (u2.1 13), .ref (u2.1 14), .ref (u2.1 15), .int 0, .int 0, .int 0, .ref (u2.1 19), .ref (u2.1 20), .ref (u2.1 21), .int 0, .ref (u2.1 23), .ref (u2.1 24), .ref (u2.1 25), .ref (u2.1 26), .ref (u2.1 27), .ref (u2.1 28), .int 0, .int 0, .int 0, .int 0, .ref (u2.1 33), .int (-1), .ref (u2.1 35), .int 0, .int 0])), ((u2.1 1), .inl (cy 0, 4, .inl (fun _ => 0))), ((u2.1 12), .inl (cy 0, 389, .inl sF))] := hD
  refine lv_astore_n (lv' := [(2, .ref q_2), (1, .ref q_1), (0, .ref b)]) hx hb dL_law__15 rfl hlv (by decide) rfl (fun ls hlv => ?_)
  refine lv_iconst (v := 1) hx hb dL_law__16 (by decide) ?_
  refine nw_a (atype := .long) (cy := cy) (a0 := (1, .inr (.inl (fun _ => 0)))) (N' := 1) hx hb ac2 (ty := .long) rfl 2 rfl (fun C h => nomatch h) hG.1 hP hD hS hA (fun cA => rfl) (by decide) (by decide) (Nat.le_of_ble_eq_true rfl) (Nat.le_of_ble_eq_true rfl) (Nat.le_of_ble_eq_true rfl) dL_law__17 (fun q_3 H hP hD hS => ?_)
  have hP : va_P D vwCl [(q_1, .inr (11, [.ref (u1.1 0), .ref (u1.1 1), .ref (u1.1 2), .int 0, .int 0, .ref (u1.1 5), .ref (u1.1 6), .ref (u1.1 7), .ref (u1.1 8), .ref (u1.1 9), .int 0, .ref (u1.1 11), .ref (u1.1 12), .ref (u1.1 13)])), ((u1.1 7), .inr (4, [.int 0, .ref (u1.1 41), .int 0, .ref (u1.1 42), .ref (u1.1 43)])), ((u1.1 43), .inl (cy 0, 4, .inl shF)), ((u1.1 13), .inl (cy 0, 4, .inl (fun _ => 0))), (q_2, .inr (12, [.int 0, .ref (u2.1 1), .int 0, .int 0, .int 0, .int 0, .int 0, .int 0, .int (-1), .ref (u2.1 9), .ref (u2.1 10), .ref (u2.1 11), .ref (u2.1 12), .ref (u2.1 13), .ref (u2.1 14), .ref (u2.1 15), .int 0, .int 0, .int 0, .ref (u2.1 19), .ref (u2.1 20), .ref (u2.1 21), .int 0, .ref (u2.1 23), .ref (u2.1 24), .ref (u2.1 25), .ref (u2.1 26), .ref (u2.1 27), .ref (u2.1 28), .int 0, .int 0, .int 0, .int 0, .ref (u2.1 33), .int (-1), .ref (u2.1 35), .int 0, .int 0])), ((u2.1 1), .inl (cy 0, 4, .inl (fun _ => 0))), ((u2.1 12), .inl (cy 0, 389, .inl sF)), (q_3, .inl (cy 2, 1, .inr (.inl (fun _ => 0))))] H := hP
  have hD : va_D A [(q_1, .inr (11, [.ref (u1.1 0), .ref (u1.1 1), .ref (u1.1 2), .int 0, .int 0, .ref (u1.1 5), .ref (u1.1 6), .ref (u1.1 7), .ref (u1.1 8), .ref (u1.1 9), .int 0, .ref (u1.1 11), .ref (u1.1 12), .ref (u1.1 13)])), ((u1.1 7), .inr (4, [.int 0, .ref (u1.1 41), .int 0, .ref (u1.1 42), .ref (u1.1 43)])), ((u1.1 43), .inl (cy 0, 4, .inl shF)), ((u1.1 13), .inl (cy 0, 4, .inl (fun _ => 0))), (q_2, .inr (12, [.int 0, .ref (u2.1 1), .int 0, .int 0, .int 0, .int 0, .int 0, .int 0, .int (-1), .ref (u2.1 9), .ref (u2.1 10), .ref (u2.1 11), .ref (u2.1 12), .ref (u2.1 13), .ref (u2.1 14), .ref (u2.1 15), .int 0, .int 0, .int 0, .ref (u2.1 19), .ref (u2.1 20), .ref (u2.1 21), .int 0, .ref (u2.1 23), .ref (u2.1 24), .ref (u2.1 25), .ref (u2.1 26), .ref (u2.1 27), .ref (u2.1 28), .int 0, .int 0, .int 0, .int 0, .ref (u2.1 33), .int (-1), .ref (u2.1 35), .int 0, .int 0])), ((u2.1 1), .inl (cy 0, 4, .inl (fun _ => 0))), ((u2.1 12), .inl (cy 0, 389, .inl sF)), (q_3, .inl (cy 2, 1, .inr (.inl (fun _ => 0))))] := hD
  refine lv_astore_n (lv' := [(3, .ref q_3), (2, .ref q_2), (1, .ref q_1), (0, .ref b)]) hx hb dL_law__19 rfl hlv (by decide) rfl (fun ls hlv => ?_)
  refine lv_iconst (v := 0) hx hb dL_law__20 (by decide) ?_
  refine lv_istore (lv' := [(4, .int 0), (3, .ref q_3), (2, .ref q_2), (1, .ref q_1), (0, .ref b)]) hx hb dL_law__21 hlv (by decide) rfl (fun ls hlv => ?_)
  refine lv_iload hx hb dL_law__23 (lv_at hlv 0 rfl) ?_
  refine lv_aload_n hx hb dL_law__25 rfl (lv_at hlv 4 rfl) ?_
  refine va_slen hx hb hX hbl hbA hS dL_law__26 ?_
  refine lt_i (y := 10) (by decide) ?_
  refine lv_bipush (v := 10) hx hb dL_law__27 (by decide) ?_
  refine lv_isub hx hb dL_law__29 ?_
  refine lt_i (y := 0) (by decide) ?_
  refine lv_icmp_gt (tgt := 2761) hx hb dL_law__30 (by decide) (fun c => absurd c (by decide)) (fun _ => ?_)
  refine lv_aload_n hx hb dL_law__33 rfl (lv_at hlv 4 rfl) ?_
  refine lv_iload hx hb dL_law__34 (lv_at hlv 0 rfl) ?_
  refine va_sld hx hb hX hbl hbA hS (vpd (by decide)) dL_law__36 ?_
  refine lt_i (y := xs 0) rfl ?_
  refine lv_bipush (v := 63) hx hb dL_law__37 (by decide) ?_
  refine lv_iand hx hb dL_law__39 ?_
  refine lt_i (y := 28) h63 ?_
  refine lv_tableIn (tgt := 2219) hx hb dL_law__40 (by decide) (by decide) rfl (by decide) ?_
  refine lv_aload_n hx hb dL_law__2219 rfl (lv_at hlv 3 rfl) ?_
  refine lv_aload_n hx hb dL_law__2220 rfl (lv_at hlv 4 rfl) ?_
  refine lv_iload hx hb dL_law__2221 (lv_at hlv 0 rfl) ?_
  refine lv_iconst (v := 1) hx hb dL_law__2223 (by decide) ?_
  refine lv_iadd hx hb dL_law__2224 ?_
  refine lt_i (y := 1) (by decide) ?_
  refine va_sld hx hb hX hbl hbA hS (vpd (by decide)) dL_law__2225 ?_
  refine lt_i (y := 0) hv1 ?_
  refine lv_aload_n hx hb dL_law__2226 rfl (lv_at hlv 4 rfl) ?_
  refine lv_iload hx hb dL_law__2227 (lv_at hlv 0 rfl) ?_
  refine lv_iconst (v := 2) hx hb dL_law__2229 (by decide) ?_
  refine lv_iadd hx hb dL_law__2230 ?_
  refine lt_i (y := 2) (by decide) ?_
  refine va_sld hx hb hX hbl hbA hS (vpd (by decide)) dL_law__2231 ?_
  refine lt_i (y := xs 2) rfl ?_
  refine lv_aload_n hx hb dL_law__2232 rfl (lv_at hlv 1 rfl) ?_
  refine cj_i (wr := [(q_2, .inr (12, [.int 0, .ref (u2.1 1), .int 0, .int 0, .int 0, .int 0, .int 0, .int 0, .int (-1), .ref (u2.1 9), .ref (u2.1 10), .ref (u2.1 11), .ref (u2.1 12), .ref (u2.1 13), .ref (u2.1 14), .ref (u2.1 15), .int 0, .int 0, .int 0, .ref (u2.1 19), .ref (u2.1 20), .ref (u2.1 21), .int 0, .ref (u2.1 23), .ref (u2.1 24), .ref (u2.1 25), .ref (u2.1 26), .ref (u2.1 27), .ref (u2.1 28), .int 0, .int 0, .int 0, .int 0, .ref (u2.1 33), .int (-1), .ref (u2.1 35), .int 0, .int 0])), ((u2.1 1), .inl (cy 0, 4, .inl (fun _ => 0))), ((u2.1 12), .inl (cy 0, 389, .inl sF))]) (vx_runSW (As := [.ref q_1, .int 0, .int (xs 2), .ref q_3]) (rest := []) ⟨hx, hb, hml, hown, hts⟩ (w_share l hl D cy sa q_1 u1.1 0 (xs 2) q_3 H.size) (vx_cwSW 4 hts gl_w_share rfl rfl rfl (by decide +kernel) ⟨Nat.le_of_ble_eq_true rfl, Nat.le_of_ble_eq_true rfl⟩) ⟨pcW.blind, (pcW.mk hP hD hS hA hG hT [0, 1, 2, 3, 7] rfl (by decide))⟩ rfl rfl hlv.1 rfl (lv_room (Nat.le_of_ble_eq_true rfl)) dL_law__2233 ⟨Nat.le_of_ble_eq_true rfl, Nat.le_of_ble_eq_true rfl⟩) hP hD hS hA [0, 1, 2, 3, 7] [4, 5, 6] rfl rfl (by decide) (by decide) (fun r3 u3 H locs hw3 hP hD hS => ?_)
  rcases hw3 with ⟨hg3, rfl, he3_0⟩ | ⟨hg3, rfl⟩
  · rw [he3_0] at hP hD
    have hP : va_P D vwCl [(q_2, .inr (12, [.int 0, .ref (u2.1 1), .int 0, .int 0, .int 0, .int 0, .int 0, .int 0, .int (-1), .ref (u2.1 9), .ref (u2.1 10), .ref (u2.1 11), .ref (u2.1 12), .ref (u2.1 13), .ref (u2.1 14), .ref (u2.1 15), .int 0, .int 0, .int 0, .ref (u2.1 19), .ref (u2.1 20), .ref (u2.1 21), .int 0, .ref (u2.1 23), .ref (u2.1 24), .ref (u2.1 25), .ref (u2.1 26), .ref (u2.1 27), .ref (u2.1 28), .int 0, .int 0, .int 0, .int 0, .ref (u2.1 33), .int (-1), .ref (u2.1 35), .int 0, .int 0])), ((u2.1 1), .inl (cy 0, 4, .inl (fun _ => 0))), ((u2.1 12), .inl (cy 0, 389, .inl sF)), (q_3, .inl (cy 2, 1, .inr (.inl (fun _ => (1 : Int32).toInt64))))] H := hP
    have hD : va_D A [(q_2, .inr (12, [.int 0, .ref (u2.1 1), .int 0, .int 0, .int 0, .int 0, .int 0, .int 0, .int (-1), .ref (u2.1 9), .ref (u2.1 10), .ref (u2.1 11), .ref (u2.1 12), .ref (u2.1 13), .ref (u2.1 14), .ref (u2.1 15), .int 0, .int 0, .int 0, .ref (u2.1 19), .ref (u2.1 20), .ref (u2.1 21), .int 0, .ref (u2.1 23), .ref (u2.1 24), .ref (u2.1 25), .ref (u2.1 26), .ref (u2.1 27), .ref (u2.1 28), .int 0, .int 0, .int 0, .int 0, .ref (u2.1 33), .int (-1), .ref (u2.1 35), .int 0, .int 0])), ((u2.1 1), .inl (cy 0, 4, .inl (fun _ => 0))), ((u2.1 12), .inl (cy 0, 389, .inl sF)), (q_3, .inl (cy 2, 1, .inr (.inl (fun _ => (1 : Int32).toInt64))))] := hD
    refine lv_istore (lv' := [(5, .int 0), (4, .int 0), (3, .ref q_3), (2, .ref q_2), (1, .ref q_1), (0, .ref b)]) hx hb dL_law__2236 hlv (by decide) rfl (fun ls hlv => ?_)
    refine lv_aload_n hx hb dL_law__2238 rfl (lv_at hlv 3 rfl) ?_
    refine lv_aload_n hx hb dL_law__2239 rfl (lv_at hlv 5 rfl) ?_
    refine lv_iload hx hb dL_law__2240 (lv_at hlv 1 rfl) ?_
    refine lv_iconst (v := 1) hx hb dL_law__2242 (by decide) ?_
    refine lv_iadd hx hb dL_law__2243 ?_
    refine lt_i (y := 1) (by decide) ?_
    refine va_sld hx hb hX hbl hbA hS (vpd (by decide)) dL_law__2244 ?_
    refine lt_i (y := 0) hv1 ?_
    refine lv_aload_n hx hb dL_law__2245 rfl (lv_at hlv 5 rfl) ?_
    refine lv_iload hx hb dL_law__2246 (lv_at hlv 1 rfl) ?_
    refine lv_iconst (v := 2) hx hb dL_law__2248 (by decide) ?_
    refine lv_iadd hx hb dL_law__2249 ?_
    refine lt_i (y := 2) (by decide) ?_
    refine va_sld hx hb hX hbl hbA hS (vpd (by decide)) dL_law__2250 ?_
    refine lt_i (y := xs 2) rfl ?_
    refine cj_i (wr := [(q_3, .inl (cy 2, 1, .inr (.inl (fun _ => (1 : Int32).toInt64))))]) (va_runV (As := [.int 0, .int (xs 2)]) (rest := []) ⟨hx, hb, hml, hown, hts⟩ (m_share0 l hl D cy sa q_2 u2.1 (xs 2) H.size) (cwV 2 hts gl_m_share0 rfl rfl rfl (by decide +kernel) ⟨Nat.le_of_ble_eq_true rfl, Nat.le_of_ble_eq_true rfl⟩) ⟨pcW.blind, (va_recv hG.1 hP (ci := 12) (q0 := 0) rfl rfl), (pcW.mk hP hD hS hA hG hT [0, 1, 2] rfl (by decide))⟩ rfl rfl hlv.1 rfl (lv_room (Nat.le_of_ble_eq_true rfl)) dL_law__2251 ⟨Nat.le_of_ble_eq_true rfl, Nat.le_of_ble_eq_true rfl⟩) hP hD hS hA [0, 1, 2] [3] rfl rfl (by decide) (by decide) (fun r4 u4 H locs hw4 hP hD hS => ?_)
    rcases hw4 with ⟨hg4, rfl, he4_0⟩ | ⟨hg4, rfl, he4_0⟩
    · exact absurd hg4 (fun q => absurd hg3.2 q)
    · rw [he4_0] at hP hD
      have hP : va_P D vwCl [(q_3, .inl (cy 2, 1, .inr (.inl (fun _ => (1 : Int32).toInt64)))), (q_2, .inr (12, [.int 0, .ref (u2.1 1), .int 0, .int 0, .int 0, .int 0, .int 0, .int 0, .int (-1), .ref (u2.1 9), .ref (u2.1 10), .ref (u2.1 11), .ref (u2.1 12), .ref (u2.1 13), .ref (u2.1 14), .ref (u2.1 15), .int 0, .int 0, .int 0, .ref (u2.1 19), .ref (u2.1 20), .ref (u2.1 21), .int 0, .ref (u2.1 23), .ref (u2.1 24), .ref (u2.1 25), .ref (u2.1 26), .ref (u2.1 27), .ref (u2.1 28), .int 0, .int 0, .int 0, .int 0, .ref (u2.1 33), .int (-1), .ref (u2.1 35), .int 0, .int 0]))] H := hP
      have hD : va_D A [(q_3, .inl (cy 2, 1, .inr (.inl (fun _ => (1 : Int32).toInt64)))), (q_2, .inr (12, [.int 0, .ref (u2.1 1), .int 0, .int 0, .int 0, .int 0, .int 0, .int 0, .int (-1), .ref (u2.1 9), .ref (u2.1 10), .ref (u2.1 11), .ref (u2.1 12), .ref (u2.1 13), .ref (u2.1 14), .ref (u2.1 15), .int 0, .int 0, .int 0, .ref (u2.1 19), .ref (u2.1 20), .ref (u2.1 21), .int 0, .ref (u2.1 23), .ref (u2.1 24), .ref (u2.1 25), .ref (u2.1 26), .ref (u2.1 27), .ref (u2.1 28), .int 0, .int 0, .int 0, .int 0, .ref (u2.1 33), .int (-1), .ref (u2.1 35), .int 0, .int 0]))] := hD
      refine lv_istore (lv' := [(6, .int 1), (5, .int 0), (4, .int 0), (3, .ref q_3), (2, .ref q_2), (1, .ref q_1), (0, .ref b)]) hx hb dL_law__2254 hlv (by decide) rfl (fun ls hlv => ?_)
      refine lv_aload_n hx hb dL_law__2256 rfl (lv_at hlv 4 rfl) ?_
      refine cj_i (wr := [(q_3, .inl (cy 2, 1, .inr (.inl (fun _ => (1 : Int32).toInt64))))]) (va_runV (As := []) (rest := []) ⟨hx, hb, hml, hown, hts⟩ (c_thrown l hl D cy sa q_2 u2.1 0 0 0 0 0 0 0 (-1) 0 0 0 0 0 0 0 0 (-1) 0 0 H.size) (cwV 0 hts gl_c_thrown rfl rfl rfl (by decide +kernel) ⟨Nat.le_of_ble_eq_true rfl, Nat.le_of_ble_eq_true rfl⟩) ⟨pcW.blind, (va_recv hG.1 hP (ci := 12) (q0 := 1) rfl rfl), (pcW.mk hP hD hS hA hG hT [1] rfl (by decide))⟩ rfl rfl hlv.1 rfl (lv_room (Nat.le_of_ble_eq_true rfl)) dL_law__2257 ⟨Nat.le_of_ble_eq_true rfl, Nat.le_of_ble_eq_true rfl⟩) hP hD hS hA [1] [0] rfl rfl (by decide) (by decide) (fun r5 u5 H locs hw5 hP hD hS => ?_)
      obtain rfl := hw5
      have hP : va_P D vwCl [(q_3, .inl (cy 2, 1, .inr (.inl (fun _ => (1 : Int32).toInt64))))] H := hP
      have hD : va_D A [(q_3, .inl (cy 2, 1, .inr (.inl (fun _ => (1 : Int32).toInt64))))] := hD
      refine lv_iload hx hb dL_law__2260 (lv_at hlv 1 rfl) ?_
      refine lv_icmp_eq (tgt := 2267) hx hb dL_law__2262 (by decide) (fun _ => ?_) (fun c => absurd (by decide) c)
      refine lv_iload hx hb dL_law__2267 (lv_at hlv 1 rfl) ?_
      refine lv_if_ne (tgt := 2284) hx hb dL_law__2269 (by decide) (fun c => absurd (by decide) c) (fun _ => ?_)
      refine lv_aload_n hx hb dL_law__2272 rfl (lv_at hlv 3 rfl) ?_
      refine lv_iconst (v := 0) hx hb dL_law__2273 (by decide) ?_
      refine va_lald hx hb hG.1 hP 0 2 rfl rfl (vpd (by decide)) dL_law__2274 ?_
      refine ltv (y := .long ((1 : Int32).toInt64)) rfl ?_
      refine lv_iload hx hb dL_law__2275 (lv_at hlv 0 rfl) ?_
      refine lv_i2l (v := (1 : Int32).toInt64) hx hb dL_law__2277 rfl ?_
      refine W.lcmp hx hb dL_law__2278 ?_
      refine lt_i (y := 0) (lcmp_self _) ?_
      refine lv_if_eq (tgt := 2284) hx hb dL_law__2279 (by decide) (fun _ => ?_) (fun c => absurd (by decide) c)
      refine lv_goto (tgt := 2755) hx hb dL_law__2284 (by decide) ?_
      refine lv_iinc (v := 10) (lv' := [(4, .int 10), (6, .int 1), (5, .int 0), (3, .ref q_3), (2, .ref q_2), (1, .ref q_1), (0, .ref b)]) hx hb dL_law__2755 hlv (k := 2) rfl (by decide) (by decide) rfl (fun ls hlv => ?_)
      refine lv_goto (tgt := 23) hx hb dL_law__2758 (by decide) ?_
      refine lv_iload hx hb dL_law__23 (lv_at hlv 0 rfl) ?_
      refine lv_aload_n hx hb dL_law__25 rfl (lv_at hlv 6 rfl) ?_
      refine va_slen hx hb hX hbl hbA hS dL_law__26 ?_
      refine lt_i (y := 10) (by decide) ?_
      refine lv_bipush (v := 10) hx hb dL_law__27 (by decide) ?_
      refine lv_isub hx hb dL_law__29 ?_
      refine lt_i (y := 0) (by decide) ?_
      refine lv_icmp_gt (tgt := 2761) hx hb dL_law__30 (by decide) (fun _ => ?_) (fun c => absurd (by decide) c)
      refine lv_iconst (v := 1) hx hb dL_law__2761 (by decide) ?_
      refine va_forget (fun q hq => by have h9 := hS.2.2 q hq; rw [hAe] at h9; exact h9) ?_
      refine W.widen (k := 600002) (n := 7302232) (Nat.le_of_ble_eq_true rfl) (Nat.le_of_ble_eq_true rfl) ?_
      exact lw_ret hx hb hr hlocks dL_law__2762
  · have hP : va_P D vwCl [(q_2, .inr (12, [.int 0, .ref (u2.1 1), .int 0, .int 0, .int 0, .int 0, .int 0, .int 0, .int (-1), .ref (u2.1 9), .ref (u2.1 10), .ref (u2.1 11), .ref (u2.1 12), .ref (u2.1 13), .ref (u2.1 14), .ref (u2.1 15), .int 0, .int 0, .int 0, .ref (u2.1 19), .ref (u2.1 20), .ref (u2.1 21), .int 0, .ref (u2.1 23), .ref (u2.1 24), .ref (u2.1 25), .ref (u2.1 26), .ref (u2.1 27), .ref (u2.1 28), .int 0, .int 0, .int 0, .int 0, .ref (u2.1 33), .int (-1), .ref (u2.1 35), .int 0, .int 0])), ((u2.1 1), .inl (cy 0, 4, .inl (fun _ => 0))), ((u2.1 12), .inl (cy 0, 389, .inl sF)), (q_3, .inl (cy 2, 1, .inr (.inl (fun _ => (u3.2.1 0 : Int32).toInt64))))] H := hP
    have hD : va_D A [(q_2, .inr (12, [.int 0, .ref (u2.1 1), .int 0, .int 0, .int 0, .int 0, .int 0, .int 0, .int (-1), .ref (u2.1 9), .ref (u2.1 10), .ref (u2.1 11), .ref (u2.1 12), .ref (u2.1 13), .ref (u2.1 14), .ref (u2.1 15), .int 0, .int 0, .int 0, .ref (u2.1 19), .ref (u2.1 20), .ref (u2.1 21), .int 0, .ref (u2.1 23), .ref (u2.1 24), .ref (u2.1 25), .ref (u2.1 26), .ref (u2.1 27), .ref (u2.1 28), .int 0, .int 0, .int 0, .int 0, .ref (u2.1 33), .int (-1), .ref (u2.1 35), .int 0, .int 0])), ((u2.1 1), .inl (cy 0, 4, .inl (fun _ => 0))), ((u2.1 12), .inl (cy 0, 389, .inl sF)), (q_3, .inl (cy 2, 1, .inr (.inl (fun _ => (u3.2.1 0 : Int32).toInt64))))] := hD
    refine lv_istore (lv' := [(5, .int 1), (4, .int 0), (3, .ref q_3), (2, .ref q_2), (1, .ref q_1), (0, .ref b)]) hx hb dL_law__2236 hlv (by decide) rfl (fun ls hlv => ?_)
    refine lv_aload_n hx hb dL_law__2238 rfl (lv_at hlv 3 rfl) ?_
    refine lv_aload_n hx hb dL_law__2239 rfl (lv_at hlv 5 rfl) ?_
    refine lv_iload hx hb dL_law__2240 (lv_at hlv 1 rfl) ?_
    refine lv_iconst (v := 1) hx hb dL_law__2242 (by decide) ?_
    refine lv_iadd hx hb dL_law__2243 ?_
    refine lt_i (y := 1) (by decide) ?_
    refine va_sld hx hb hX hbl hbA hS (vpd (by decide)) dL_law__2244 ?_
    refine lt_i (y := 0) hv1 ?_
    refine lv_aload_n hx hb dL_law__2245 rfl (lv_at hlv 5 rfl) ?_
    refine lv_iload hx hb dL_law__2246 (lv_at hlv 1 rfl) ?_
    refine lv_iconst (v := 2) hx hb dL_law__2248 (by decide) ?_
    refine lv_iadd hx hb dL_law__2249 ?_
    refine lt_i (y := 2) (by decide) ?_
    refine va_sld hx hb hX hbl hbA hS (vpd (by decide)) dL_law__2250 ?_
    refine lt_i (y := xs 2) rfl ?_
    refine cj_i (wr := [(q_3, .inl (cy 2, 1, .inr (.inl (fun _ => (u3.2.1 0 : Int32).toInt64))))]) (va_runV (As := [.int 0, .int (xs 2)]) (rest := []) ⟨hx, hb, hml, hown, hts⟩ (m_share0 l hl D cy sa q_2 u2.1 (xs 2) H.size) (cwV 2 hts gl_m_share0 rfl rfl rfl (by decide +kernel) ⟨Nat.le_of_ble_eq_true rfl, Nat.le_of_ble_eq_true rfl⟩) ⟨pcW.blind, (va_recv hG.1 hP (ci := 12) (q0 := 0) rfl rfl), (pcW.mk hP hD hS hA hG hT [0, 1, 2] rfl (by decide))⟩ rfl rfl hlv.1 rfl (lv_room (Nat.le_of_ble_eq_true rfl)) dL_law__2251 ⟨Nat.le_of_ble_eq_true rfl, Nat.le_of_ble_eq_true rfl⟩) hP hD hS hA [0, 1, 2] [3] rfl rfl (by decide) (by decide) (fun r6 u6 H locs hw6 hP hD hS => ?_)
    rcases hw6 with ⟨hg6, rfl, he6_0⟩ | ⟨hg6, rfl, he6_0⟩
    · rw [he6_0] at hP hD
      have hP : va_P D vwCl [(q_3, .inl (cy 2, 1, .inr (.inl (fun _ => (u3.2.1 0 : Int32).toInt64)))), (q_2, .inr (12, [.int 1, .ref (u2.1 1), .int 0, .int 0, .int 0, .int 0, .int 0, .int 0, .int (-1), .ref (u2.1 9), .ref (u2.1 10), .ref (u2.1 11), .ref (u2.1 12), .ref (u2.1 13), .ref (u2.1 14), .ref (u2.1 15), .int 0, .int 0, .int 0, .ref (u2.1 19), .ref (u2.1 20), .ref (u2.1 21), .int 0, .ref (u2.1 23), .ref (u2.1 24), .ref (u2.1 25), .ref (u2.1 26), .ref (u2.1 27), .ref (u2.1 28), .int 0, .int 0, .int 0, .int 0, .ref (u2.1 33), .int (-1), .ref (u2.1 35), .int 0, .int 0]))] H := hP
      have hD : va_D A [(q_3, .inl (cy 2, 1, .inr (.inl (fun _ => (u3.2.1 0 : Int32).toInt64)))), (q_2, .inr (12, [.int 1, .ref (u2.1 1), .int 0, .int 0, .int 0, .int 0, .int 0, .int 0, .int (-1), .ref (u2.1 9), .ref (u2.1 10), .ref (u2.1 11), .ref (u2.1 12), .ref (u2.1 13), .ref (u2.1 14), .ref (u2.1 15), .int 0, .int 0, .int 0, .ref (u2.1 19), .ref (u2.1 20), .ref (u2.1 21), .int 0, .ref (u2.1 23), .ref (u2.1 24), .ref (u2.1 25), .ref (u2.1 26), .ref (u2.1 27), .ref (u2.1 28), .int 0, .int 0, .int 0, .int 0, .ref (u2.1 33), .int (-1), .ref (u2.1 35), .int 0, .int 0]))] := hD
      refine lv_istore (lv' := [(6, .int 0), (5, .int 1), (4, .int 0), (3, .ref q_3), (2, .ref q_2), (1, .ref q_1), (0, .ref b)]) hx hb dL_law__2254 hlv (by decide) rfl (fun ls hlv => ?_)
      refine lv_aload_n hx hb dL_law__2256 rfl (lv_at hlv 4 rfl) ?_
      refine cj_i (wr := [(q_3, .inl (cy 2, 1, .inr (.inl (fun _ => (u3.2.1 0 : Int32).toInt64))))]) (va_runV (As := []) (rest := []) ⟨hx, hb, hml, hown, hts⟩ (c_thrown l hl D cy sa q_2 u2.1 1 0 0 0 0 0 0 (-1) 0 0 0 0 0 0 0 0 (-1) 0 0 H.size) (cwV 0 hts gl_c_thrown rfl rfl rfl (by decide +kernel) ⟨Nat.le_of_ble_eq_true rfl, Nat.le_of_ble_eq_true rfl⟩) ⟨pcW.blind, (va_recv hG.1 hP (ci := 12) (q0 := 1) rfl rfl), (pcW.mk hP hD hS hA hG hT [1] rfl (by decide))⟩ rfl rfl hlv.1 rfl (lv_room (Nat.le_of_ble_eq_true rfl)) dL_law__2257 ⟨Nat.le_of_ble_eq_true rfl, Nat.le_of_ble_eq_true rfl⟩) hP hD hS hA [1] [0] rfl rfl (by decide) (by decide) (fun r7 u7 H locs hw7 hP hD hS => ?_)
      obtain rfl := hw7
      have hP : va_P D vwCl [(q_3, .inl (cy 2, 1, .inr (.inl (fun _ => (u3.2.1 0 : Int32).toInt64))))] H := hP
      have hD : va_D A [(q_3, .inl (cy 2, 1, .inr (.inl (fun _ => (u3.2.1 0 : Int32).toInt64))))] := hD
      refine lv_iload hx hb dL_law__2260 (lv_at hlv 1 rfl) ?_
      refine lv_icmp_eq (tgt := 2267) hx hb dL_law__2262 (by decide) (fun _ => ?_) (fun c => absurd (by decide) c)
      refine lv_iload hx hb dL_law__2267 (lv_at hlv 1 rfl) ?_
      refine lv_if_ne (tgt := 2284) hx hb dL_law__2269 (by decide) (fun _ => ?_) (fun c => absurd c (by decide))
      refine lv_goto (tgt := 2755) hx hb dL_law__2284 (by decide) ?_
      refine lv_iinc (v := 10) (lv' := [(4, .int 10), (6, .int 0), (5, .int 1), (3, .ref q_3), (2, .ref q_2), (1, .ref q_1), (0, .ref b)]) hx hb dL_law__2755 hlv (k := 2) rfl (by decide) (by decide) rfl (fun ls hlv => ?_)
      refine lv_goto (tgt := 23) hx hb dL_law__2758 (by decide) ?_
      refine lv_iload hx hb dL_law__23 (lv_at hlv 0 rfl) ?_
      refine lv_aload_n hx hb dL_law__25 rfl (lv_at hlv 6 rfl) ?_
      refine va_slen hx hb hX hbl hbA hS dL_law__26 ?_
      refine lt_i (y := 10) (by decide) ?_
      refine lv_bipush (v := 10) hx hb dL_law__27 (by decide) ?_
      refine lv_isub hx hb dL_law__29 ?_
      refine lt_i (y := 0) (by decide) ?_
      refine lv_icmp_gt (tgt := 2761) hx hb dL_law__30 (by decide) (fun _ => ?_) (fun c => absurd (by decide) c)
      refine lv_iconst (v := 1) hx hb dL_law__2761 (by decide) ?_
      refine va_forget (fun q hq => by have h9 := hS.2.2 q hq; rw [hAe] at h9; exact h9) ?_
      refine W.widen (k := 600002) (n := 7302232) (Nat.le_of_ble_eq_true rfl) (Nat.le_of_ble_eq_true rfl) ?_
      exact lw_ret hx hb hr hlocks dL_law__2762
    · exact absurd hg6 (fun q => hg3 ⟨(by decide), q⟩)
set_option maxHeartbeats 4000000 in
set_option maxRecDepth 100000 in
theorem law_share1 {p : Program} {e : Env} {s : State} {m : MethodId} {below : List Frame} {meth : Method} {c : Code} (l : Launch) (hl : l.stackTraces = false) {b : Nat} {xs : Nat → Int32} {D : va_G} {cy : Nat → ClassId} {sa : Nat → Nat} {A : Nat → Prop} (hAe : A = fun q => s.heap.size ≤ q) (C0 : lw_At p s m meth c b 10 xs) (hG : GC D cy sa s) (hT : TH A s s.heap) (h63 : xs 0 &&& 63 = 28) (hv1 : xs 1 = 1) : W p l e room_1 s m #[Value.ref b] below meth c s.heap [] 0 0 (lw_Z below #[Value.ref b] s) (entryFrame m ([Value.ref b] : List Value).toArray 7) := by
  obtain ⟨hx, hb, hr, hml, hown0, hts0, hX, hbl, hlocks, hgv⟩ := id C0
  have hown : s.vm.findClass RL = some m.cls := hown0
  have hts := hts0
  have hA : ∀ q : Nat, s.heap.size ≤ q → A q := fun q h => by rw [hAe]; exact h
  have hbA : ¬ A b := by rw [hAe]; exact Nat.not_le.mpr hbl
  have hS : va_S A s.heap s.heap [] := va_S.rf
  have hP : va_P D vwCl [] s.heap := fun k q h => by simp at h
  have hD : va_D A [] := ⟨fun i j p q h => by simp at h, fun k q h => by simp at h⟩
  have hl0 := lv_entry ([.ref b]) (n := 7) (Nat.le_of_ble_eq_true rfl)
  rw [lg_entry_eq]
  generalize (lg_sl ([.ref b]) ++ List.replicate (7 - (lg_sl ([.ref b])).length) Slot.unset).toArray = ls at hl0 ⊢
  have hlv : lv_has ls 7 [(0, .ref b)] := hl0
  have cl8 := hts (.classLink RL 8 RX11) lwd_0
  have in11 := hts (.instantiable RX11 14) lwd_1
  have ini11 := hts (.initialized RX11) lwd_2
  have ini_RX11 := hts (.initialized RX11) lwd_2
  have ml117 := hts (.methodLink RL 117 yX11_init) lwd_3
  have im_X11_init := hts (.instanceMethod yX11_init) lwd_4
  have cl118 := hts (.classLink RL 118 RX12) lwd_5
  have in12 := hts (.instantiable RX12 38) lwd_6
  have ini12 := hts (.initialized RX12) lwd_7
  have ini_RX12 := hts (.initialized RX12) lwd_7
  have ml120 := hts (.methodLink RL 120 yX12_init) lwd_8
  have im_X12_init := hts (.instanceMethod yX12_init) lwd_9
  have ac2 := hts (.arrayClass .long) lwd_10
  refine va_new (ci := 11) (fs := [.null, .null, .null, .int 0, .int 0, .null, .null, .null, .null, .null, .int 0, .null, .null, .null]) (C := RX11) (T := TX11) (N := 14) hx hb hts inX11 tyX11 tyX11_ok hown cl8 in11 ini11 hG.1 hP hD hS hA rfl (by decide) (Nat.le_of_ble_eq_true rfl) (Nat.le_of_ble_eq_true rfl) dL_law__0 (fun q_1 H hP hD hS => ?_)
  have hP : va_P D vwCl [(q_1, .inr (11, [.null, .null, .null, .int 0, .int 0, .null, .null, .null, .null, .null, .int 0, .null, .null, .null]))] H := hP
  have hD : va_D A [(q_1, .inr (11, [.null, .null, .null, .int 0, .int 0, .null, .null, .null, .null, .null, .int 0, .null, .null, .null]))] := hD
  refine lv_dup hx hb dL_law__3 rfl ?_
  refine cj_v (wr := []) (va_runI (As := []) (rest := [.ref q_1]) ⟨hx, hb, hml, hown, hts⟩ (c_K_share1 l hl D cy sa q_1 H.size) (cwI 0 hts gl_X11_init rfl rfl rfl ini_RX11 ml117 im_X11_init rfl (by decide +kernel) ⟨Nat.le_of_ble_eq_true rfl, Nat.le_of_ble_eq_true rfl⟩) ⟨pcW.blind, (pcW.mk hP hD hS hA hG hT [0] rfl (by decide))⟩ rfl rfl hlv.1 rfl (lv_room (Nat.le_of_ble_eq_true rfl)) dL_law__4 ⟨Nat.le_of_ble_eq_true rfl, Nat.le_of_ble_eq_true rfl⟩) hP hD hS hA [0] [] rfl rfl (by decide) (by decide) (fun u1 H locs hw1 hP hD hS => ?_)
  have hP : va_P D vwCl [(q_1, .inr (11, [.ref (u1.1 0), .ref (u1.1 1), .ref (u1.1 2), .int 0, .int 0, .ref (u1.1 5), .ref (u1.1 6), .ref (u1.1 7), .ref (u1.1 8), .ref (u1.1 9), .int 0, .ref (u1.1 11), .ref (u1.1 12), .ref (u1.1 13)])), ((u1.1 7), .inr (4, [.int 0, .ref (u1.1 41), .int 0, .ref (u1.1 42), .ref (u1.1 43)])), ((u1.1 43), .inl (cy 0, 4, .inl shF)), ((u1.1 13), .inl (cy 0, 4, .inl (fun _ => 0)))] H := hP
  have hD : va_D A [(q_1, .inr (11, [.ref (u1.1 0), .ref (u1.1 1), .ref (u1.1 2), .int 0, .int 0, .ref (u1.1 5), .ref (u1.1 6), .ref (u1.1 7), .ref (u1.1 8), .ref (u1.1 9), .int 0, .ref (u1.1 11), .ref (u1.1 12), .ref (u1.1 13)])), ((u1.1 7), .inr (4, [.int 0, .ref (u1.1 41), .int 0, .ref (u1.1 42), .ref (u1.1 43)])), ((u1.1 43), .inl (cy 0, 4, .inl shF)), ((u1.1 13), .inl (cy 0, 4, .inl (fun _ => 0)))] := hD
  refine lv_astore_n (lv' := [(1, .ref q_1), (0, .ref b)]) hx hb dL_law__7 rfl hlv (by decide) rfl (fun ls hlv => ?_)
  refine va_new (ci := 12) (fs := [.int 0, .null, .int 0, .int 0, .int 0, .int 0, .int 0, .int 0, .int 0, .null, .null, .null, .null, .null, .null, .null, .int 0, .int 0, .int 0, .null, .null, .null, .int 0, .null, .null, .null, .null, .null, .null, .int 0, .int 0, .int 0, .int 0, .null, .int 0, .null, .int 0, .int 0]) (C := RX12) (T := TX12) (N := 38) hx hb hts inX12 tyX12 tyX12_ok hown cl118 in12 ini12 hG.1 hP hD hS hA rfl (by decide) (Nat.le_of_ble_eq_true rfl) (Nat.le_of_ble_eq_true rfl) dL_law__8 (fun q_2 H hP hD hS => ?_)
  have hP : va_P D vwCl [(q_1, .inr (11, [.ref (u1.1 0), .ref (u1.1 1), .ref (u1.1 2), .int 0, .int 0, .ref (u1.1 5), .ref (u1.1 6), .ref (u1.1 7), .ref (u1.1 8), .ref (u1.1 9), .int 0, .ref (u1.1 11), .ref (u1.1 12), .ref (u1.1 13)])), ((u1.1 7), .inr (4, [.int 0, .ref (u1.1 41), .int 0, .ref (u1.1 42), .ref (u1.1 43)])), ((u1.1 43), .inl (cy 0, 4, .inl shF)), ((u1.1 13), .inl (cy 0, 4, .inl (fun _ => 0))), (q_2, .inr (12, [.int 0, .null, .int 0, .int 0, .int 0, .int 0, .int 0, .int 0, .int 0, .null, .null, .null, .null, .null, .null, .null, .int 0, .int 0, .int 0, .null, .null, .null, .int 0, .null, .null, .null, .null, .null, .null, .int 0, .int 0, .int 0, .int 0, .null, .int 0, .null, .int 0, .int 0]))] H := hP
  have hD : va_D A [(q_1, .inr (11, [.ref (u1.1 0), .ref (u1.1 1), .ref (u1.1 2), .int 0, .int 0, .ref (u1.1 5), .ref (u1.1 6), .ref (u1.1 7), .ref (u1.1 8), .ref (u1.1 9), .int 0, .ref (u1.1 11), .ref (u1.1 12), .ref (u1.1 13)])), ((u1.1 7), .inr (4, [.int 0, .ref (u1.1 41), .int 0, .ref (u1.1 42), .ref (u1.1 43)])), ((u1.1 43), .inl (cy 0, 4, .inl shF)), ((u1.1 13), .inl (cy 0, 4, .inl (fun _ => 0))), (q_2, .inr (12, [.int 0, .null, .int 0, .int 0, .int 0, .int 0, .int 0, .int 0, .int 0, .null, .null, .null, .null, .null, .null, .null, .int 0, .int 0, .int 0, .null, .null, .null, .int 0, .null, .null, .null, .null, .null, .null, .int 0, .int 0, .int 0, .int 0, .null, .int 0, .null, .int 0, .int 0]))] := hD
  refine lv_dup hx hb dL_law__11 rfl ?_
  refine cj_v (wr := [(q_1, .inr (11, [.ref (u1.1 0), .ref (u1.1 1), .ref (u1.1 2), .int 0, .int 0, .ref (u1.1 5), .ref (u1.1 6), .ref (u1.1 7), .ref (u1.1 8), .ref (u1.1 9), .int 0, .ref (u1.1 11), .ref (u1.1 12), .ref (u1.1 13)])), ((u1.1 7), .inr (4, [.int 0, .ref (u1.1 41), .int 0, .ref (u1.1 42), .ref (u1.1 43)])), ((u1.1 43), .inl (cy 0, 4, .inl shF)), ((u1.1 13), .inl (cy 0, 4, .inl (fun _ => 0)))]) (va_runI (As := []) (rest := [.ref q_2]) ⟨hx, hb, hml, hown, hts⟩ (c_M_share1 l hl D cy sa q_2 H.size) (cwI 0 hts gl_X12_init rfl rfl rfl ini_RX12 ml120 im_X12_init rfl (by decide +kernel) ⟨Nat.le_of_ble_eq_true rfl, Nat.le_of_ble_eq_true rfl⟩) ⟨pcW.blind, (pcW.mk hP hD hS hA hG hT [4] rfl (by decide))⟩ rfl rfl hlv.1 rfl (lv_room (Nat.le_of_ble_eq_true rfl)) dL_law__12 ⟨Nat.le_of_ble_eq_true rfl, Nat.le_of_ble_eq_true rfl⟩) hP hD hS hA [4] [0, 1, 2, 3] rfl rfl (by decide) (by decide) (fun u2 H locs hw2 hP hD hS => ?_)
  have hP : va_P D vwCl [(q_1, .inr (11, [.ref (u1.1 0), .ref (u1.1 1), .ref (u1.1 2), .int 0, .int 0, .ref (u1.1 5), .ref (u1.1 6), .ref (u1.1 7), .ref (u1.1 8), .ref (u1.1 9), .int 0, .ref (u1.1 11), .ref (u1.1 12), .ref (u1.1 13)])), ((u1.1 7), .inr (4, [.int 0, .ref (u1.1 41), .int 0, .ref (u1.1 42), .ref (u1.1 43)])), ((u1.1 43), .inl (cy 0, 4, .inl shF)), ((u1.1 13), .inl (cy 0, 4, .inl (fun _ => 0))), (q_2, .inr (12, [.int 0, .ref (u2.1 1), .int 0, .int 0, .int 0, .int 0, .int 0, .int 0, .int (-1), .ref (u2.1 9), .ref (u2.1 10), .ref (u2.1 11), .ref (u2.1 12), .ref (u2.1 13), .ref (u2.1 14), .ref (u2.1 15), .int 0, .int 0, .int 0, .ref (u2.1 19), .ref (u2.1 20), .ref (u2.1 21), .int 0, .ref (u2.1 23), .ref (u2.1 24), .ref (u2.1 25), .ref (u2.1 26), .ref (u2.1 27), .ref (u2.1 28), .int 0, .int 0, .int 0, .int 0, .ref (u2.1 33), .int (-1), .ref (u2.1 35), .int 0, .int 0])), ((u2.1 1), .inl (cy 0, 4, .inl (fun _ => 0))), ((u2.1 12), .inl (cy 0, 389, .inl sF))] H := hP
  have hD : va_D A [(q_1, .inr (11, [.ref (u1.1 0), .ref (u1.1 1), .ref (u1.1 2), .int 0, .int 0, .ref (u1.1 5), .ref (u1.1 6), .ref (u1.1 7), .ref (u1.1 8), .ref (u1.1 9), .int 0, .ref (u1.1 11), .ref (u1.1 12), .ref (u1.1 13)])), ((u1.1 7), .inr (4, [.int 0, .ref (u1.1 41), .int 0, .ref (u1.1 42), .ref (u1.1 43)])), ((u1.1 43), .inl (cy 0, 4, .inl shF)), ((u1.1 13), .inl (cy 0, 4, .inl (fun _ => 0))), (q_2, .inr (12, [.int 0, .ref (u2.1 1), .int 0, .int 0, .int 0, .int 0, .int 0, .int 0, .int (-1), .ref (u2.1 9), .ref (u2.1 10), .ref (u2.1 11), .ref (u2.1 12), .ref (u2.1 13), .ref (u2.1 14), .ref (u2.1 15), .int 0, .int 0, .int 0, .ref (u2.1 19), .ref (u2.1 20), .ref (u2.1 21), .int 0, .ref (u2.1 23), .ref (u2.1 24), .ref (u2.1 25), .ref (u2.1 26), .ref (u2.1 27), .ref (u2.1 28), .int 0, .int 0, .int 0, .int 0, .ref (u2.1 33), .int (-1), .ref (u2.1 35), .int 0, .int 0])), ((u2.1 1), .inl (cy 0, 4, .inl (fun _ => 0))), ((u2.1 12), .inl (cy 0, 389, .inl sF))] := hD
  refine lv_astore_n (lv' := [(2, .ref q_2), (1, .ref q_1), (0, .ref b)]) hx hb dL_law__15 rfl hlv (by decide) rfl (fun ls hlv => ?_)
  refine lv_iconst (v := 1) hx hb dL_law__16 (by decide) ?_
  refine nw_a (atype := .long) (cy := cy) (a0 := (1, .inr (.inl (fun _ => 0)))) (N' := 1) hx hb ac2 (ty := .long) rfl 2 rfl (fun C h => nomatch h) hG.1 hP hD hS hA (fun cA => rfl) (by decide) (by decide) (Nat.le_of_ble_eq_true rfl) (Nat.le_of_ble_eq_true rfl) (Nat.le_of_ble_eq_true rfl) dL_law__17 (fun q_3 H hP hD hS => ?_)
  have hP : va_P D vwCl [(q_1, .inr (11, [.ref (u1.1 0), .ref (u1.1 1), .ref (u1.1 2), .int 0, .int 0, .ref (u1.1 5), .ref (u1.1 6), .ref (u1.1 7), .ref (u1.1 8), .ref (u1.1 9), .int 0, .ref (u1.1 11), .ref (u1.1 12), .ref (u1.1 13)])), ((u1.1 7), .inr (4, [.int 0, .ref (u1.1 41), .int 0, .ref (u1.1 42), .ref (u1.1 43)])), ((u1.1 43), .inl (cy 0, 4, .inl shF)), ((u1.1 13), .inl (cy 0, 4, .inl (fun _ => 0))), (q_2, .inr (12, [.int 0, .ref (u2.1 1), .int 0, .int 0, .int 0, .int 0, .int 0, .int 0, .int (-1), .ref (u2.1 9), .ref (u2.1 10), .ref (u2.1 11), .ref (u2.1 12), .ref (u2.1 13), .ref (u2.1 14), .ref (u2.1 15), .int 0, .int 0, .int 0, .ref (u2.1 19), .ref (u2.1 20), .ref (u2.1 21), .int 0, .ref (u2.1 23), .ref (u2.1 24), .ref (u2.1 25), .ref (u2.1 26), .ref (u2.1 27), .ref (u2.1 28), .int 0, .int 0, .int 0, .int 0, .ref (u2.1 33), .int (-1), .ref (u2.1 35), .int 0, .int 0])), ((u2.1 1), .inl (cy 0, 4, .inl (fun _ => 0))), ((u2.1 12), .inl (cy 0, 389, .inl sF)), (q_3, .inl (cy 2, 1, .inr (.inl (fun _ => 0))))] H := hP
  have hD : va_D A [(q_1, .inr (11, [.ref (u1.1 0), .ref (u1.1 1), .ref (u1.1 2), .int 0, .int 0, .ref (u1.1 5), .ref (u1.1 6), .ref (u1.1 7), .ref (u1.1 8), .ref (u1.1 9), .int 0, .ref (u1.1 11), .ref (u1.1 12), .ref (u1.1 13)])), ((u1.1 7), .inr (4, [.int 0, .ref (u1.1 41), .int 0, .ref (u1.1 42), .ref (u1.1 43)])), ((u1.1 43), .inl (cy 0, 4, .inl shF)), ((u1.1 13), .inl (cy 0, 4, .inl (fun _ => 0))), (q_2, .inr (12, [.int 0, .ref (u2.1 1), .int 0, .int 0, .int 0, .int 0, .int 0, .int 0, .int (-1), .ref (u2.1 9), .ref (u2.1 10), .ref (u2.1 11), .ref (u2.1 12), .ref (u2.1 13), .ref (u2.1 14), .ref (u2.1 15), .int 0, .int 0, .int 0, .ref (u2.1 19), .ref (u2.1 20), .ref (u2.1 21), .int 0, .ref (u2.1 23), .ref (u2.1 24), .ref (u2.1 25), .ref (u2.1 26), .ref (u2.1 27), .ref (u2.1 28), .int 0, .int 0, .int 0, .int 0, .ref (u2.1 33), .int (-1), .ref (u2.1 35), .int 0, .int 0])), ((u2.1 1), .inl (cy 0, 4, .inl (fun _ => 0))), ((u2.1 12), .inl (cy 0, 389, .inl sF)), (q_3, .inl (cy 2, 1, .inr (.inl (fun _ => 0))))] := hD
  refine lv_astore_n (lv' := [(3, .ref q_3), (2, .ref q_2), (1, .ref q_1), (0, .ref b)]) hx hb dL_law__19 rfl hlv (by decide) rfl (fun ls hlv => ?_)
  refine lv_iconst (v := 0) hx hb dL_law__20 (by decide) ?_
  refine lv_istore (lv' := [(4, .int 0), (3, .ref q_3), (2, .ref q_2), (1, .ref q_1), (0, .ref b)]) hx hb dL_law__21 hlv (by decide) rfl (fun ls hlv => ?_)
  refine lv_iload hx hb dL_law__23 (lv_at hlv 0 rfl) ?_
  refine lv_aload_n hx hb dL_law__25 rfl (lv_at hlv 4 rfl) ?_
  refine va_slen hx hb hX hbl hbA hS dL_law__26 ?_
  refine lt_i (y := 10) (by decide) ?_
  refine lv_bipush (v := 10) hx hb dL_law__27 (by decide) ?_
  refine lv_isub hx hb dL_law__29 ?_
  refine lt_i (y := 0) (by decide) ?_
  refine lv_icmp_gt (tgt := 2761) hx hb dL_law__30 (by decide) (fun c => absurd c (by decide)) (fun _ => ?_)
  refine lv_aload_n hx hb dL_law__33 rfl (lv_at hlv 4 rfl) ?_
  refine lv_iload hx hb dL_law__34 (lv_at hlv 0 rfl) ?_
  refine va_sld hx hb hX hbl hbA hS (vpd (by decide)) dL_law__36 ?_
  refine lt_i (y := xs 0) rfl ?_
  refine lv_bipush (v := 63) hx hb dL_law__37 (by decide) ?_
  refine lv_iand hx hb dL_law__39 ?_
  refine lt_i (y := 28) h63 ?_
  refine lv_tableIn (tgt := 2219) hx hb dL_law__40 (by decide) (by decide) rfl (by decide) ?_
  refine lv_aload_n hx hb dL_law__2219 rfl (lv_at hlv 3 rfl) ?_
  refine lv_aload_n hx hb dL_law__2220 rfl (lv_at hlv 4 rfl) ?_
  refine lv_iload hx hb dL_law__2221 (lv_at hlv 0 rfl) ?_
  refine lv_iconst (v := 1) hx hb dL_law__2223 (by decide) ?_
  refine lv_iadd hx hb dL_law__2224 ?_
  refine lt_i (y := 1) (by decide) ?_
  refine va_sld hx hb hX hbl hbA hS (vpd (by decide)) dL_law__2225 ?_
  refine lt_i (y := 1) hv1 ?_
  refine lv_aload_n hx hb dL_law__2226 rfl (lv_at hlv 4 rfl) ?_
  refine lv_iload hx hb dL_law__2227 (lv_at hlv 0 rfl) ?_
  refine lv_iconst (v := 2) hx hb dL_law__2229 (by decide) ?_
  refine lv_iadd hx hb dL_law__2230 ?_
  refine lt_i (y := 2) (by decide) ?_
  refine va_sld hx hb hX hbl hbA hS (vpd (by decide)) dL_law__2231 ?_
  refine lt_i (y := xs 2) rfl ?_
  refine lv_aload_n hx hb dL_law__2232 rfl (lv_at hlv 1 rfl) ?_
  refine cj_i (wr := [(q_2, .inr (12, [.int 0, .ref (u2.1 1), .int 0, .int 0, .int 0, .int 0, .int 0, .int 0, .int (-1), .ref (u2.1 9), .ref (u2.1 10), .ref (u2.1 11), .ref (u2.1 12), .ref (u2.1 13), .ref (u2.1 14), .ref (u2.1 15), .int 0, .int 0, .int 0, .ref (u2.1 19), .ref (u2.1 20), .ref (u2.1 21), .int 0, .ref (u2.1 23), .ref (u2.1 24), .ref (u2.1 25), .ref (u2.1 26), .ref (u2.1 27), .ref (u2.1 28), .int 0, .int 0, .int 0, .int 0, .ref (u2.1 33), .int (-1), .ref (u2.1 35), .int 0, .int 0])), ((u2.1 1), .inl (cy 0, 4, .inl (fun _ => 0))), ((u2.1 12), .inl (cy 0, 389, .inl sF))]) (vx_runSW (As := [.ref q_1, .int 1, .int (xs 2), .ref q_3]) (rest := []) ⟨hx, hb, hml, hown, hts⟩ (w_share l hl D cy sa q_1 u1.1 1 (xs 2) q_3 H.size) (vx_cwSW 4 hts gl_w_share rfl rfl rfl (by decide +kernel) ⟨Nat.le_of_ble_eq_true rfl, Nat.le_of_ble_eq_true rfl⟩) ⟨pcW.blind, (pcW.mk hP hD hS hA hG hT [0, 1, 2, 3, 7] rfl (by decide))⟩ rfl rfl hlv.1 rfl (lv_room (Nat.le_of_ble_eq_true rfl)) dL_law__2233 ⟨Nat.le_of_ble_eq_true rfl, Nat.le_of_ble_eq_true rfl⟩) hP hD hS hA [0, 1, 2, 3, 7] [4, 5, 6] rfl rfl (by decide) (by decide) (fun r3 u3 H locs hw3 hP hD hS => ?_)
  rcases hw3 with ⟨hg3, rfl, he3_0⟩ | ⟨hg3, rfl⟩
  · rw [he3_0] at hP hD
    have hP : va_P D vwCl [(q_2, .inr (12, [.int 0, .ref (u2.1 1), .int 0, .int 0, .int 0, .int 0, .int 0, .int 0, .int (-1), .ref (u2.1 9), .ref (u2.1 10), .ref (u2.1 11), .ref (u2.1 12), .ref (u2.1 13), .ref (u2.1 14), .ref (u2.1 15), .int 0, .int 0, .int 0, .ref (u2.1 19), .ref (u2.1 20), .ref (u2.1 21), .int 0, .ref (u2.1 23), .ref (u2.1 24), .ref (u2.1 25), .ref (u2.1 26), .ref (u2.1 27), .ref (u2.1 28), .int 0, .int 0, .int 0, .int 0, .ref (u2.1 33), .int (-1), .ref (u2.1 35), .int 0, .int 0])), ((u2.1 1), .inl (cy 0, 4, .inl (fun _ => 0))), ((u2.1 12), .inl (cy 0, 389, .inl sF)), (q_3, .inl (cy 2, 1, .inr (.inl (fun _ => (1 : Int32).toInt64))))] H := hP
    have hD : va_D A [(q_2, .inr (12, [.int 0, .ref (u2.1 1), .int 0, .int 0, .int 0, .int 0, .int 0, .int 0, .int (-1), .ref (u2.1 9), .ref (u2.1 10), .ref (u2.1 11), .ref (u2.1 12), .ref (u2.1 13), .ref (u2.1 14), .ref (u2.1 15), .int 0, .int 0, .int 0, .ref (u2.1 19), .ref (u2.1 20), .ref (u2.1 21), .int 0, .ref (u2.1 23), .ref (u2.1 24), .ref (u2.1 25), .ref (u2.1 26), .ref (u2.1 27), .ref (u2.1 28), .int 0, .int 0, .int 0, .int 0, .ref (u2.1 33), .int (-1), .ref (u2.1 35), .int 0, .int 0])), ((u2.1 1), .inl (cy 0, 4, .inl (fun _ => 0))), ((u2.1 12), .inl (cy 0, 389, .inl sF)), (q_3, .inl (cy 2, 1, .inr (.inl (fun _ => (1 : Int32).toInt64))))] := hD
    refine lv_istore (lv' := [(5, .int 0), (4, .int 0), (3, .ref q_3), (2, .ref q_2), (1, .ref q_1), (0, .ref b)]) hx hb dL_law__2236 hlv (by decide) rfl (fun ls hlv => ?_)
    refine lv_aload_n hx hb dL_law__2238 rfl (lv_at hlv 3 rfl) ?_
    refine lv_aload_n hx hb dL_law__2239 rfl (lv_at hlv 5 rfl) ?_
    refine lv_iload hx hb dL_law__2240 (lv_at hlv 1 rfl) ?_
    refine lv_iconst (v := 1) hx hb dL_law__2242 (by decide) ?_
    refine lv_iadd hx hb dL_law__2243 ?_
    refine lt_i (y := 1) (by decide) ?_
    refine va_sld hx hb hX hbl hbA hS (vpd (by decide)) dL_law__2244 ?_
    refine lt_i (y := 1) hv1 ?_
    refine lv_aload_n hx hb dL_law__2245 rfl (lv_at hlv 5 rfl) ?_
    refine lv_iload hx hb dL_law__2246 (lv_at hlv 1 rfl) ?_
    refine lv_iconst (v := 2) hx hb dL_law__2248 (by decide) ?_
    refine lv_iadd hx hb dL_law__2249 ?_
    refine lt_i (y := 2) (by decide) ?_
    refine va_sld hx hb hX hbl hbA hS (vpd (by decide)) dL_law__2250 ?_
    refine lt_i (y := xs 2) rfl ?_
    refine cj_i (wr := [(q_3, .inl (cy 2, 1, .inr (.inl (fun _ => (1 : Int32).toInt64))))]) (va_runV (As := [.int 1, .int (xs 2)]) (rest := []) ⟨hx, hb, hml, hown, hts⟩ (m_share1 l hl D cy sa q_2 u2.1 (xs 2) H.size) (cwV 2 hts gl_m_share1 rfl rfl rfl (by decide +kernel) ⟨Nat.le_of_ble_eq_true rfl, Nat.le_of_ble_eq_true rfl⟩) ⟨pcW.blind, (va_recv hG.1 hP (ci := 12) (q0 := 0) rfl rfl), (pcW.mk hP hD hS hA hG hT [0, 1, 2] rfl (by decide))⟩ rfl rfl hlv.1 rfl (lv_room (Nat.le_of_ble_eq_true rfl)) dL_law__2251 ⟨Nat.le_of_ble_eq_true rfl, Nat.le_of_ble_eq_true rfl⟩) hP hD hS hA [0, 1, 2] [3] rfl rfl (by decide) (by decide) (fun r4 u4 H locs hw4 hP hD hS => ?_)
    rcases hw4 with ⟨hg4, rfl, he4_0⟩ | ⟨hg4, rfl, he4_0⟩
    · exact absurd hg4 (fun q => absurd hg3.2 q)
    · rw [he4_0] at hP hD
      have hP : va_P D vwCl [(q_3, .inl (cy 2, 1, .inr (.inl (fun _ => (1 : Int32).toInt64)))), (q_2, .inr (12, [.int 0, .ref (u2.1 1), .int 0, .int 0, .int 0, .int 0, .int 0, .int 0, .int (-1), .ref (u2.1 9), .ref (u2.1 10), .ref (u2.1 11), .ref (u2.1 12), .ref (u2.1 13), .ref (u2.1 14), .ref (u2.1 15), .int 0, .int 0, .int 0, .ref (u2.1 19), .ref (u2.1 20), .ref (u2.1 21), .int 0, .ref (u2.1 23), .ref (u2.1 24), .ref (u2.1 25), .ref (u2.1 26), .ref (u2.1 27), .ref (u2.1 28), .int 0, .int 0, .int 0, .int 0, .ref (u2.1 33), .int (-1), .ref (u2.1 35), .int 0, .int 0]))] H := hP
      have hD : va_D A [(q_3, .inl (cy 2, 1, .inr (.inl (fun _ => (1 : Int32).toInt64)))), (q_2, .inr (12, [.int 0, .ref (u2.1 1), .int 0, .int 0, .int 0, .int 0, .int 0, .int 0, .int (-1), .ref (u2.1 9), .ref (u2.1 10), .ref (u2.1 11), .ref (u2.1 12), .ref (u2.1 13), .ref (u2.1 14), .ref (u2.1 15), .int 0, .int 0, .int 0, .ref (u2.1 19), .ref (u2.1 20), .ref (u2.1 21), .int 0, .ref (u2.1 23), .ref (u2.1 24), .ref (u2.1 25), .ref (u2.1 26), .ref (u2.1 27), .ref (u2.1 28), .int 0, .int 0, .int 0, .int 0, .ref (u2.1 33), .int (-1), .ref (u2.1 35), .int 0, .int 0]))] := hD
      refine lv_istore (lv' := [(6, .int 1), (5, .int 0), (4, .int 0), (3, .ref q_3), (2, .ref q_2), (1, .ref q_1), (0, .ref b)]) hx hb dL_law__2254 hlv (by decide) rfl (fun ls hlv => ?_)
      refine lv_aload_n hx hb dL_law__2256 rfl (lv_at hlv 4 rfl) ?_
      refine cj_i (wr := [(q_3, .inl (cy 2, 1, .inr (.inl (fun _ => (1 : Int32).toInt64))))]) (va_runV (As := []) (rest := []) ⟨hx, hb, hml, hown, hts⟩ (c_thrown l hl D cy sa q_2 u2.1 0 0 0 0 0 0 0 (-1) 0 0 0 0 0 0 0 0 (-1) 0 0 H.size) (cwV 0 hts gl_c_thrown rfl rfl rfl (by decide +kernel) ⟨Nat.le_of_ble_eq_true rfl, Nat.le_of_ble_eq_true rfl⟩) ⟨pcW.blind, (va_recv hG.1 hP (ci := 12) (q0 := 1) rfl rfl), (pcW.mk hP hD hS hA hG hT [1] rfl (by decide))⟩ rfl rfl hlv.1 rfl (lv_room (Nat.le_of_ble_eq_true rfl)) dL_law__2257 ⟨Nat.le_of_ble_eq_true rfl, Nat.le_of_ble_eq_true rfl⟩) hP hD hS hA [1] [0] rfl rfl (by decide) (by decide) (fun r5 u5 H locs hw5 hP hD hS => ?_)
      obtain rfl := hw5
      have hP : va_P D vwCl [(q_3, .inl (cy 2, 1, .inr (.inl (fun _ => (1 : Int32).toInt64))))] H := hP
      have hD : va_D A [(q_3, .inl (cy 2, 1, .inr (.inl (fun _ => (1 : Int32).toInt64))))] := hD
      refine lv_iload hx hb dL_law__2260 (lv_at hlv 1 rfl) ?_
      refine lv_icmp_eq (tgt := 2267) hx hb dL_law__2262 (by decide) (fun _ => ?_) (fun c => absurd (by decide) c)
      refine lv_iload hx hb dL_law__2267 (lv_at hlv 1 rfl) ?_
      refine lv_if_ne (tgt := 2284) hx hb dL_law__2269 (by decide) (fun c => absurd (by decide) c) (fun _ => ?_)
      refine lv_aload_n hx hb dL_law__2272 rfl (lv_at hlv 3 rfl) ?_
      refine lv_iconst (v := 0) hx hb dL_law__2273 (by decide) ?_
      refine va_lald hx hb hG.1 hP 0 2 rfl rfl (vpd (by decide)) dL_law__2274 ?_
      refine ltv (y := .long ((1 : Int32).toInt64)) rfl ?_
      refine lv_iload hx hb dL_law__2275 (lv_at hlv 0 rfl) ?_
      refine lv_i2l (v := (1 : Int32).toInt64) hx hb dL_law__2277 rfl ?_
      refine W.lcmp hx hb dL_law__2278 ?_
      refine lt_i (y := 0) (lcmp_self _) ?_
      refine lv_if_eq (tgt := 2284) hx hb dL_law__2279 (by decide) (fun _ => ?_) (fun c => absurd (by decide) c)
      refine lv_goto (tgt := 2755) hx hb dL_law__2284 (by decide) ?_
      refine lv_iinc (v := 10) (lv' := [(4, .int 10), (6, .int 1), (5, .int 0), (3, .ref q_3), (2, .ref q_2), (1, .ref q_1), (0, .ref b)]) hx hb dL_law__2755 hlv (k := 2) rfl (by decide) (by decide) rfl (fun ls hlv => ?_)
      refine lv_goto (tgt := 23) hx hb dL_law__2758 (by decide) ?_
      refine lv_iload hx hb dL_law__23 (lv_at hlv 0 rfl) ?_
      refine lv_aload_n hx hb dL_law__25 rfl (lv_at hlv 6 rfl) ?_
      refine va_slen hx hb hX hbl hbA hS dL_law__26 ?_
      refine lt_i (y := 10) (by decide) ?_
      refine lv_bipush (v := 10) hx hb dL_law__27 (by decide) ?_
      refine lv_isub hx hb dL_law__29 ?_
      refine lt_i (y := 0) (by decide) ?_
      refine lv_icmp_gt (tgt := 2761) hx hb dL_law__30 (by decide) (fun _ => ?_) (fun c => absurd (by decide) c)
      refine lv_iconst (v := 1) hx hb dL_law__2761 (by decide) ?_
      refine va_forget (fun q hq => by have h9 := hS.2.2 q hq; rw [hAe] at h9; exact h9) ?_
      refine W.widen (k := 600002) (n := 7302232) (Nat.le_of_ble_eq_true rfl) (Nat.le_of_ble_eq_true rfl) ?_
      exact lw_ret hx hb hr hlocks dL_law__2762
  · have hP : va_P D vwCl [(q_2, .inr (12, [.int 0, .ref (u2.1 1), .int 0, .int 0, .int 0, .int 0, .int 0, .int 0, .int (-1), .ref (u2.1 9), .ref (u2.1 10), .ref (u2.1 11), .ref (u2.1 12), .ref (u2.1 13), .ref (u2.1 14), .ref (u2.1 15), .int 0, .int 0, .int 0, .ref (u2.1 19), .ref (u2.1 20), .ref (u2.1 21), .int 0, .ref (u2.1 23), .ref (u2.1 24), .ref (u2.1 25), .ref (u2.1 26), .ref (u2.1 27), .ref (u2.1 28), .int 0, .int 0, .int 0, .int 0, .ref (u2.1 33), .int (-1), .ref (u2.1 35), .int 0, .int 0])), ((u2.1 1), .inl (cy 0, 4, .inl (fun _ => 0))), ((u2.1 12), .inl (cy 0, 389, .inl sF)), (q_3, .inl (cy 2, 1, .inr (.inl (fun _ => (u3.2.1 0 : Int32).toInt64))))] H := hP
    have hD : va_D A [(q_2, .inr (12, [.int 0, .ref (u2.1 1), .int 0, .int 0, .int 0, .int 0, .int 0, .int 0, .int (-1), .ref (u2.1 9), .ref (u2.1 10), .ref (u2.1 11), .ref (u2.1 12), .ref (u2.1 13), .ref (u2.1 14), .ref (u2.1 15), .int 0, .int 0, .int 0, .ref (u2.1 19), .ref (u2.1 20), .ref (u2.1 21), .int 0, .ref (u2.1 23), .ref (u2.1 24), .ref (u2.1 25), .ref (u2.1 26), .ref (u2.1 27), .ref (u2.1 28), .int 0, .int 0, .int 0, .int 0, .ref (u2.1 33), .int (-1), .ref (u2.1 35), .int 0, .int 0])), ((u2.1 1), .inl (cy 0, 4, .inl (fun _ => 0))), ((u2.1 12), .inl (cy 0, 389, .inl sF)), (q_3, .inl (cy 2, 1, .inr (.inl (fun _ => (u3.2.1 0 : Int32).toInt64))))] := hD
    refine lv_istore (lv' := [(5, .int 1), (4, .int 0), (3, .ref q_3), (2, .ref q_2), (1, .ref q_1), (0, .ref b)]) hx hb dL_law__2236 hlv (by decide) rfl (fun ls hlv => ?_)
    refine lv_aload_n hx hb dL_law__2238 rfl (lv_at hlv 3 rfl) ?_
    refine lv_aload_n hx hb dL_law__2239 rfl (lv_at hlv 5 rfl) ?_
    refine lv_iload hx hb dL_law__2240 (lv_at hlv 1 rfl) ?_
    refine lv_iconst (v := 1) hx hb dL_law__2242 (by decide) ?_
    refine lv_iadd hx hb dL_law__2243 ?_
    refine lt_i (y := 1) (by decide) ?_
    refine va_sld hx hb hX hbl hbA hS (vpd (by decide)) dL_law__2244 ?_
    refine lt_i (y := 1) hv1 ?_
    refine lv_aload_n hx hb dL_law__2245 rfl (lv_at hlv 5 rfl) ?_
    refine lv_iload hx hb dL_law__2246 (lv_at hlv 1 rfl) ?_
    refine lv_iconst (v := 2) hx hb dL_law__2248 (by decide) ?_
    refine lv_iadd hx hb dL_law__2249 ?_
    refine lt_i (y := 2) (by decide) ?_
    refine va_sld hx hb hX hbl hbA hS (vpd (by decide)) dL_law__2250 ?_
    refine lt_i (y := xs 2) rfl ?_
    refine cj_i (wr := [(q_3, .inl (cy 2, 1, .inr (.inl (fun _ => (u3.2.1 0 : Int32).toInt64))))]) (va_runV (As := [.int 1, .int (xs 2)]) (rest := []) ⟨hx, hb, hml, hown, hts⟩ (m_share1 l hl D cy sa q_2 u2.1 (xs 2) H.size) (cwV 2 hts gl_m_share1 rfl rfl rfl (by decide +kernel) ⟨Nat.le_of_ble_eq_true rfl, Nat.le_of_ble_eq_true rfl⟩) ⟨pcW.blind, (va_recv hG.1 hP (ci := 12) (q0 := 0) rfl rfl), (pcW.mk hP hD hS hA hG hT [0, 1, 2] rfl (by decide))⟩ rfl rfl hlv.1 rfl (lv_room (Nat.le_of_ble_eq_true rfl)) dL_law__2251 ⟨Nat.le_of_ble_eq_true rfl, Nat.le_of_ble_eq_true rfl⟩) hP hD hS hA [0, 1, 2] [3] rfl rfl (by decide) (by decide) (fun r6 u6 H locs hw6 hP hD hS => ?_)
    rcases hw6 with ⟨hg6, rfl, he6_0⟩ | ⟨hg6, rfl, he6_0⟩
    · rw [he6_0] at hP hD
      have hP : va_P D vwCl [(q_3, .inl (cy 2, 1, .inr (.inl (fun _ => (u3.2.1 0 : Int32).toInt64)))), (q_2, .inr (12, [.int 1, .ref (u2.1 1), .int 0, .int 0, .int 0, .int 0, .int 0, .int 0, .int (-1), .ref (u2.1 9), .ref (u2.1 10), .ref (u2.1 11), .ref (u2.1 12), .ref (u2.1 13), .ref (u2.1 14), .ref (u2.1 15), .int 0, .int 0, .int 0, .ref (u2.1 19), .ref (u2.1 20), .ref (u2.1 21), .int 0, .ref (u2.1 23), .ref (u2.1 24), .ref (u2.1 25), .ref (u2.1 26), .ref (u2.1 27), .ref (u2.1 28), .int 0, .int 0, .int 0, .int 0, .ref (u2.1 33), .int (-1), .ref (u2.1 35), .int 0, .int 0]))] H := hP
      have hD : va_D A [(q_3, .inl (cy 2, 1, .inr (.inl (fun _ => (u3.2.1 0 : Int32).toInt64)))), (q_2, .inr (12, [.int 1, .ref (u2.1 1), .int 0, .int 0, .int 0, .int 0, .int 0, .int 0, .int (-1), .ref (u2.1 9), .ref (u2.1 10), .ref (u2.1 11), .ref (u2.1 12), .ref (u2.1 13), .ref (u2.1 14), .ref (u2.1 15), .int 0, .int 0, .int 0, .ref (u2.1 19), .ref (u2.1 20), .ref (u2.1 21), .int 0, .ref (u2.1 23), .ref (u2.1 24), .ref (u2.1 25), .ref (u2.1 26), .ref (u2.1 27), .ref (u2.1 28), .int 0, .int 0, .int 0, .int 0, .ref (u2.1 33), .int (-1), .ref (u2.1 35), .int 0, .int 0]))] := hD
      refine lv_istore (lv' := [(6, .int 0), (5, .int 1), (4, .int 0), (3, .ref q_3), (2, .ref q_2), (1, .ref q_1), (0, .ref b)]) hx hb dL_law__2254 hlv (by decide) rfl (fun ls hlv => ?_)
      refine lv_aload_n hx hb dL_law__2256 rfl (lv_at hlv 4 rfl) ?_
      refine cj_i (wr := [(q_3, .inl (cy 2, 1, .inr (.inl (fun _ => (u3.2.1 0 : Int32).toInt64))))]) (va_runV (As := []) (rest := []) ⟨hx, hb, hml, hown, hts⟩ (c_thrown l hl D cy sa q_2 u2.1 1 0 0 0 0 0 0 (-1) 0 0 0 0 0 0 0 0 (-1) 0 0 H.size) (cwV 0 hts gl_c_thrown rfl rfl rfl (by decide +kernel) ⟨Nat.le_of_ble_eq_true rfl, Nat.le_of_ble_eq_true rfl⟩) ⟨pcW.blind, (va_recv hG.1 hP (ci := 12) (q0 := 1) rfl rfl), (pcW.mk hP hD hS hA hG hT [1] rfl (by decide))⟩ rfl rfl hlv.1 rfl (lv_room (Nat.le_of_ble_eq_true rfl)) dL_law__2257 ⟨Nat.le_of_ble_eq_true rfl, Nat.le_of_ble_eq_true rfl⟩) hP hD hS hA [1] [0] rfl rfl (by decide) (by decide) (fun r7 u7 H locs hw7 hP hD hS => ?_)
      obtain rfl := hw7
      have hP : va_P D vwCl [(q_3, .inl (cy 2, 1, .inr (.inl (fun _ => (u3.2.1 0 : Int32).toInt64))))] H := hP
      have hD : va_D A [(q_3, .inl (cy 2, 1, .inr (.inl (fun _ => (u3.2.1 0 : Int32).toInt64))))] := hD
      refine lv_iload hx hb dL_law__2260 (lv_at hlv 1 rfl) ?_
      refine lv_icmp_eq (tgt := 2267) hx hb dL_law__2262 (by decide) (fun _ => ?_) (fun c => absurd (by decide) c)
      refine lv_iload hx hb dL_law__2267 (lv_at hlv 1 rfl) ?_
      refine lv_if_ne (tgt := 2284) hx hb dL_law__2269 (by decide) (fun _ => ?_) (fun c => absurd c (by decide))
      refine lv_goto (tgt := 2755) hx hb dL_law__2284 (by decide) ?_
      refine lv_iinc (v := 10) (lv' := [(4, .int 10), (6, .int 0), (5, .int 1), (3, .ref q_3), (2, .ref q_2), (1, .ref q_1), (0, .ref b)]) hx hb dL_law__2755 hlv (k := 2) rfl (by decide) (by decide) rfl (fun ls hlv => ?_)
      refine lv_goto (tgt := 23) hx hb dL_law__2758 (by decide) ?_
      refine lv_iload hx hb dL_law__23 (lv_at hlv 0 rfl) ?_
      refine lv_aload_n hx hb dL_law__25 rfl (lv_at hlv 6 rfl) ?_
      refine va_slen hx hb hX hbl hbA hS dL_law__26 ?_
      refine lt_i (y := 10) (by decide) ?_
      refine lv_bipush (v := 10) hx hb dL_law__27 (by decide) ?_
      refine lv_isub hx hb dL_law__29 ?_
      refine lt_i (y := 0) (by decide) ?_
      refine lv_icmp_gt (tgt := 2761) hx hb dL_law__30 (by decide) (fun _ => ?_) (fun c => absurd (by decide) c)
      refine lv_iconst (v := 1) hx hb dL_law__2761 (by decide) ?_
      refine va_forget (fun q hq => by have h9 := hS.2.2 q hq; rw [hAe] at h9; exact h9) ?_
      refine W.widen (k := 600002) (n := 7302232) (Nat.le_of_ble_eq_true rfl) (Nat.le_of_ble_eq_true rfl) ?_
      exact lw_ret hx hb hr hlocks dL_law__2762
    · exact absurd hg6 (fun q => hg3 ⟨(by decide), q⟩)
set_option maxHeartbeats 4000000 in
set_option maxRecDepth 100000 in
theorem law_share2 {p : Program} {e : Env} {s : State} {m : MethodId} {below : List Frame} {meth : Method} {c : Code} (l : Launch) (hl : l.stackTraces = false) {b : Nat} {xs : Nat → Int32} {D : va_G} {cy : Nat → ClassId} {sa : Nat → Nat} {A : Nat → Prop} (hAe : A = fun q => s.heap.size ≤ q) (C0 : lw_At p s m meth c b 10 xs) (hG : GC D cy sa s) (hT : TH A s s.heap) (h63 : xs 0 &&& 63 = 28) (hv1 : xs 1 = 2) : W p l e room_1 s m #[Value.ref b] below meth c s.heap [] 0 0 (lw_Z below #[Value.ref b] s) (entryFrame m ([Value.ref b] : List Value).toArray 7) := by
  obtain ⟨hx, hb, hr, hml, hown0, hts0, hX, hbl, hlocks, hgv⟩ := id C0
  have hown : s.vm.findClass RL = some m.cls := hown0
  have hts := hts0
  have hA : ∀ q : Nat, s.heap.size ≤ q → A q := fun q h => by rw [hAe]; exact h
  have hbA : ¬ A b := by rw [hAe]; exact Nat.not_le.mpr hbl
  have hS : va_S A s.heap s.heap [] := va_S.rf
  have hP : va_P D vwCl [] s.heap := fun k q h => by simp at h
  have hD : va_D A [] := ⟨fun i j p q h => by simp at h, fun k q h => by simp at h⟩
  have hl0 := lv_entry ([.ref b]) (n := 7) (Nat.le_of_ble_eq_true rfl)
  rw [lg_entry_eq]
  generalize (lg_sl ([.ref b]) ++ List.replicate (7 - (lg_sl ([.ref b])).length) Slot.unset).toArray = ls at hl0 ⊢
  have hlv : lv_has ls 7 [(0, .ref b)] := hl0
  have cl8 := hts (.classLink RL 8 RX11) lwd_0
  have in11 := hts (.instantiable RX11 14) lwd_1
  have ini11 := hts (.initialized RX11) lwd_2
  have ini_RX11 := hts (.initialized RX11) lwd_2
  have ml117 := hts (.methodLink RL 117 yX11_init) lwd_3
  have im_X11_init := hts (.instanceMethod yX11_init) lwd_4
  have cl118 := hts (.classLink RL 118 RX12) lwd_5
  have in12 := hts (.instantiable RX12 38) lwd_6
  have ini12 := hts (.initialized RX12) lwd_7
  have ini_RX12 := hts (.initialized RX12) lwd_7
  have ml120 := hts (.methodLink RL 120 yX12_init) lwd_8
  have im_X12_init := hts (.instanceMethod yX12_init) lwd_9
  have ac2 := hts (.arrayClass .long) lwd_10
  refine va_new (ci := 11) (fs := [.null, .null, .null, .int 0, .int 0, .null, .null, .null, .null, .null, .int 0, .null, .null, .null]) (C := RX11) (T := TX11) (N := 14) hx hb hts inX11 tyX11 tyX11_ok hown cl8 in11 ini11 hG.1 hP hD hS hA rfl (by decide) (Nat.le_of_ble_eq_true rfl) (Nat.le_of_ble_eq_true rfl) dL_law__0 (fun q_1 H hP hD hS => ?_)
  have hP : va_P D vwCl [(q_1, .inr (11, [.null, .null, .null, .int 0, .int 0, .null, .null, .null, .null, .null, .int 0, .null, .null, .null]))] H := hP
  have hD : va_D A [(q_1, .inr (11, [.null, .null, .null, .int 0, .int 0, .null, .null, .null, .null, .null, .int 0, .null, .null, .null]))] := hD
  refine lv_dup hx hb dL_law__3 rfl ?_
  refine cj_v (wr := []) (va_runI (As := []) (rest := [.ref q_1]) ⟨hx, hb, hml, hown, hts⟩ (c_K_share2 l hl D cy sa q_1 H.size) (cwI 0 hts gl_X11_init rfl rfl rfl ini_RX11 ml117 im_X11_init rfl (by decide +kernel) ⟨Nat.le_of_ble_eq_true rfl, Nat.le_of_ble_eq_true rfl⟩) ⟨pcW.blind, (pcW.mk hP hD hS hA hG hT [0] rfl (by decide))⟩ rfl rfl hlv.1 rfl (lv_room (Nat.le_of_ble_eq_true rfl)) dL_law__4 ⟨Nat.le_of_ble_eq_true rfl, Nat.le_of_ble_eq_true rfl⟩) hP hD hS hA [0] [] rfl rfl (by decide) (by decide) (fun u1 H locs hw1 hP hD hS => ?_)
  have hP : va_P D vwCl [(q_1, .inr (11, [.ref (u1.1 0), .ref (u1.1 1), .ref (u1.1 2), .int 0, .int 0, .ref (u1.1 5), .ref (u1.1 6), .ref (u1.1 7), .ref (u1.1 8), .ref (u1.1 9), .int 0, .ref (u1.1 11), .ref (u1.1 12), .ref (u1.1 13)])), ((u1.1 7), .inr (4, [.int 0, .ref (u1.1 41), .int 0, .ref (u1.1 42), .ref (u1.1 43)])), ((u1.1 43), .inl (cy 0, 4, .inl shF)), ((u1.1 13), .inl (cy 0, 4, .inl (fun _ => 0)))] H := hP
  have hD : va_D A [(q_1, .inr (11, [.ref (u1.1 0), .ref (u1.1 1), .ref (u1.1 2), .int 0, .int 0, .ref (u1.1 5), .ref (u1.1 6), .ref (u1.1 7), .ref (u1.1 8), .ref (u1.1 9), .int 0, .ref (u1.1 11), .ref (u1.1 12), .ref (u1.1 13)])), ((u1.1 7), .inr (4, [.int 0, .ref (u1.1 41), .int 0, .ref (u1.1 42), .ref (u1.1 43)])), ((u1.1 43), .inl (cy 0, 4, .inl shF)), ((u1.1 13), .inl (cy 0, 4, .inl (fun _ => 0)))] := hD
  refine lv_astore_n (lv' := [(1, .ref q_1), (0, .ref b)]) hx hb dL_law__7 rfl hlv (by decide) rfl (fun ls hlv => ?_)
  refine va_new (ci := 12) (fs := [.int 0, .null, .int 0, .int 0, .int 0, .int 0, .int 0, .int 0, .int 0, .null, .null, .null, .null, .null, .null, .null, .int 0, .int 0, .int 0, .null, .null, .null, .int 0, .null, .null, .null, .null, .null, .null, .int 0, .int 0, .int 0, .int 0, .null, .int 0, .null, .int 0, .int 0]) (C := RX12) (T := TX12) (N := 38) hx hb hts inX12 tyX12 tyX12_ok hown cl118 in12 ini12 hG.1 hP hD hS hA rfl (by decide) (Nat.le_of_ble_eq_true rfl) (Nat.le_of_ble_eq_true rfl) dL_law__8 (fun q_2 H hP hD hS => ?_)
  have hP : va_P D vwCl [(q_1, .inr (11, [.ref (u1.1 0), .ref (u1.1 1), .ref (u1.1 2), .int 0, .int 0, .ref (u1.1 5), .ref (u1.1 6), .ref (u1.1 7), .ref (u1.1 8), .ref (u1.1 9), .int 0, .ref (u1.1 11), .ref (u1.1 12), .ref (u1.1 13)])), ((u1.1 7), .inr (4, [.int 0, .ref (u1.1 41), .int 0, .ref (u1.1 42), .ref (u1.1 43)])), ((u1.1 43), .inl (cy 0, 4, .inl shF)), ((u1.1 13), .inl (cy 0, 4, .inl (fun _ => 0))), (q_2, .inr (12, [.int 0, .null, .int 0, .int 0, .int 0, .int 0, .int 0, .int 0, .int 0, .null, .null, .null, .null, .null, .null, .null, .int 0, .int 0, .int 0, .null, .null, .null, .int 0, .null, .null, .null, .null, .null, .null, .int 0, .int 0, .int 0, .int 0, .null, .int 0, .null, .int 0, .int 0]))] H := hP
  have hD : va_D A [(q_1, .inr (11, [.ref (u1.1 0), .ref (u1.1 1), .ref (u1.1 2), .int 0, .int 0, .ref (u1.1 5), .ref (u1.1 6), .ref (u1.1 7), .ref (u1.1 8), .ref (u1.1 9), .int 0, .ref (u1.1 11), .ref (u1.1 12), .ref (u1.1 13)])), ((u1.1 7), .inr (4, [.int 0, .ref (u1.1 41), .int 0, .ref (u1.1 42), .ref (u1.1 43)])), ((u1.1 43), .inl (cy 0, 4, .inl shF)), ((u1.1 13), .inl (cy 0, 4, .inl (fun _ => 0))), (q_2, .inr (12, [.int 0, .null, .int 0, .int 0, .int 0, .int 0, .int 0, .int 0, .int 0, .null, .null, .null, .null, .null, .null, .null, .int 0, .int 0, .int 0, .null, .null, .null, .int 0, .null, .null, .null, .null, .null, .null, .int 0, .int 0, .int 0, .int 0, .null, .int 0, .null, .int 0, .int 0]))] := hD
  refine lv_dup hx hb dL_law__11 rfl ?_
  refine cj_v (wr := [(q_1, .inr (11, [.ref (u1.1 0), .ref (u1.1 1), .ref (u1.1 2), .int 0, .int 0, .ref (u1.1 5), .ref (u1.1 6), .ref (u1.1 7), .ref (u1.1 8), .ref (u1.1 9), .int 0, .ref (u1.1 11), .ref (u1.1 12), .ref (u1.1 13)])), ((u1.1 7), .inr (4, [.int 0, .ref (u1.1 41), .int 0, .ref (u1.1 42), .ref (u1.1 43)])), ((u1.1 43), .inl (cy 0, 4, .inl shF)), ((u1.1 13), .inl (cy 0, 4, .inl (fun _ => 0)))]) (va_runI (As := []) (rest := [.ref q_2]) ⟨hx, hb, hml, hown, hts⟩ (c_M_share2 l hl D cy sa q_2 H.size) (cwI 0 hts gl_X12_init rfl rfl rfl ini_RX12 ml120 im_X12_init rfl (by decide +kernel) ⟨Nat.le_of_ble_eq_true rfl, Nat.le_of_ble_eq_true rfl⟩) ⟨pcW.blind, (pcW.mk hP hD hS hA hG hT [4] rfl (by decide))⟩ rfl rfl hlv.1 rfl (lv_room (Nat.le_of_ble_eq_true rfl)) dL_law__12 ⟨Nat.le_of_ble_eq_true rfl, Nat.le_of_ble_eq_true rfl⟩) hP hD hS hA [4] [0, 1, 2, 3] rfl rfl (by decide) (by decide) (fun u2 H locs hw2 hP hD hS => ?_)
  have hP : va_P D vwCl [(q_1, .inr (11, [.ref (u1.1 0), .ref (u1.1 1), .ref (u1.1 2), .int 0, .int 0, .ref (u1.1 5), .ref (u1.1 6), .ref (u1.1 7), .ref (u1.1 8), .ref (u1.1 9), .int 0, .ref (u1.1 11), .ref (u1.1 12), .ref (u1.1 13)])), ((u1.1 7), .inr (4, [.int 0, .ref (u1.1 41), .int 0, .ref (u1.1 42), .ref (u1.1 43)])), ((u1.1 43), .inl (cy 0, 4, .inl shF)), ((u1.1 13), .inl (cy 0, 4, .inl (fun _ => 0))), (q_2, .inr (12, [.int 0, .ref (u2.1 1), .int 0, .int 0, .int 0, .int 0, .int 0, .int 0, .int (-1), .ref (u2.1 9), .ref (u2.1 10), .ref (u2.1 11), .ref (u2.1 12), .ref (u2.1 13), .ref (u2.1 14), .ref (u2.1 15), .int 0, .int 0, .int 0, .ref (u2.1 19), .ref (u2.1 20), .ref (u2.1 21), .int 0, .ref (u2.1 23), .ref (u2.1 24), .ref (u2.1 25), .ref (u2.1 26), .ref (u2.1 27), .ref (u2.1 28), .int 0, .int 0, .int 0, .int 0, .ref (u2.1 33), .int (-1), .ref (u2.1 35), .int 0, .int 0])), ((u2.1 1), .inl (cy 0, 4, .inl (fun _ => 0))), ((u2.1 12), .inl (cy 0, 389, .inl sF))] H := hP
  have hD : va_D A [(q_1, .inr (11, [.ref (u1.1 0), .ref (u1.1 1), .ref (u1.1 2), .int 0, .int 0, .ref (u1.1 5), .ref (u1.1 6), .ref (u1.1 7), .ref (u1.1 8), .ref (u1.1 9), .int 0, .ref (u1.1 11), .ref (u1.1 12), .ref (u1.1 13)])), ((u1.1 7), .inr (4, [.int 0, .ref (u1.1 41), .int 0, .ref (u1.1 42), .ref (u1.1 43)])), ((u1.1 43), .inl (cy 0, 4, .inl shF)), ((u1.1 13), .inl (cy 0, 4, .inl (fun _ => 0))), (q_2, .inr (12, [.int 0, .ref (u2.1 1), .int 0, .int 0, .int 0, .int 0, .int 0, .int 0, .int (-1), .ref (u2.1 9), .ref (u2.1 10), .ref (u2.1 11), .ref (u2.1 12), .ref (u2.1 13), .ref (u2.1 14), .ref (u2.1 15), .int 0, .int 0, .int 0, .ref (u2.1 19), .ref (u2.1 20), .ref (u2.1 21), .int 0, .ref (u2.1 23), .ref (u2.1 24), .ref (u2.1 25), .ref (u2.1 26), .ref (u2.1 27), .ref (u2.1 28), .int 0, .int 0, .int 0, .int 0, .ref (u2.1 33), .int (-1), .ref (u2.1 35), .int 0, .int 0])), ((u2.1 1), .inl (cy 0, 4, .inl (fun _ => 0))), ((u2.1 12), .inl (cy 0, 389, .inl sF))] := hD
  refine lv_astore_n (lv' := [(2, .ref q_2), (1, .ref q_1), (0, .ref b)]) hx hb dL_law__15 rfl hlv (by decide) rfl (fun ls hlv => ?_)
  refine lv_iconst (v := 1) hx hb dL_law__16 (by decide) ?_
  refine nw_a (atype := .long) (cy := cy) (a0 := (1, .inr (.inl (fun _ => 0)))) (N' := 1) hx hb ac2 (ty := .long) rfl 2 rfl (fun C h => nomatch h) hG.1 hP hD hS hA (fun cA => rfl) (by decide) (by decide) (Nat.le_of_ble_eq_true rfl) (Nat.le_of_ble_eq_true rfl) (Nat.le_of_ble_eq_true rfl) dL_law__17 (fun q_3 H hP hD hS => ?_)
  have hP : va_P D vwCl [(q_1, .inr (11, [.ref (u1.1 0), .ref (u1.1 1), .ref (u1.1 2), .int 0, .int 0, .ref (u1.1 5), .ref (u1.1 6), .ref (u1.1 7), .ref (u1.1 8), .ref (u1.1 9), .int 0, .ref (u1.1 11), .ref (u1.1 12), .ref (u1.1 13)])), ((u1.1 7), .inr (4, [.int 0, .ref (u1.1 41), .int 0, .ref (u1.1 42), .ref (u1.1 43)])), ((u1.1 43), .inl (cy 0, 4, .inl shF)), ((u1.1 13), .inl (cy 0, 4, .inl (fun _ => 0))), (q_2, .inr (12, [.int 0, .ref (u2.1 1), .int 0, .int 0, .int 0, .int 0, .int 0, .int 0, .int (-1), .ref (u2.1 9), .ref (u2.1 10), .ref (u2.1 11), .ref (u2.1 12), .ref (u2.1 13), .ref (u2.1 14), .ref (u2.1 15), .int 0, .int 0, .int 0, .ref (u2.1 19), .ref (u2.1 20), .ref (u2.1 21), .int 0, .ref (u2.1 23), .ref (u2.1 24), .ref (u2.1 25), .ref (u2.1 26), .ref (u2.1 27), .ref (u2.1 28), .int 0, .int 0, .int 0, .int 0, .ref (u2.1 33), .int (-1), .ref (u2.1 35), .int 0, .int 0])), ((u2.1 1), .inl (cy 0, 4, .inl (fun _ => 0))), ((u2.1 12), .inl (cy 0, 389, .inl sF)), (q_3, .inl (cy 2, 1, .inr (.inl (fun _ => 0))))] H := hP
  have hD : va_D A [(q_1, .inr (11, [.ref (u1.1 0), .ref (u1.1 1), .ref (u1.1 2), .int 0, .int 0, .ref (u1.1 5), .ref (u1.1 6), .ref (u1.1 7), .ref (u1.1 8), .ref (u1.1 9), .int 0, .ref (u1.1 11), .ref (u1.1 12), .ref (u1.1 13)])), ((u1.1 7), .inr (4, [.int 0, .ref (u1.1 41), .int 0, .ref (u1.1 42), .ref (u1.1 43)])), ((u1.1 43), .inl (cy 0, 4, .inl shF)), ((u1.1 13), .inl (cy 0, 4, .inl (fun _ => 0))), (q_2, .inr (12, [.int 0, .ref (u2.1 1), .int 0, .int 0, .int 0, .int 0, .int 0, .int 0, .int (-1), .ref (u2.1 9), .ref (u2.1 10), .ref (u2.1 11), .ref (u2.1 12), .ref (u2.1 13), .ref (u2.1 14), .ref (u2.1 15), .int 0, .int 0, .int 0, .ref (u2.1 19), .ref (u2.1 20), .ref (u2.1 21), .int 0, .ref (u2.1 23), .ref (u2.1 24), .ref (u2.1 25), .ref (u2.1 26), .ref (u2.1 27), .ref (u2.1 28), .int 0, .int 0, .int 0, .int 0, .ref (u2.1 33), .int (-1), .ref (u2.1 35), .int 0, .int 0])), ((u2.1 1), .inl (cy 0, 4, .inl (fun _ => 0))), ((u2.1 12), .inl (cy 0, 389, .inl sF)), (q_3, .inl (cy 2, 1, .inr (.inl (fun _ => 0))))] := hD
  refine lv_astore_n (lv' := [(3, .ref q_3), (2, .ref q_2), (1, .ref q_1), (0, .ref b)]) hx hb dL_law__19 rfl hlv (by decide) rfl (fun ls hlv => ?_)
  refine lv_iconst (v := 0) hx hb dL_law__20 (by decide) ?_
  refine lv_istore (lv' := [(4, .int 0), (3, .ref q_3), (2, .ref q_2), (1, .ref q_1), (0, .ref b)]) hx hb dL_law__21 hlv (by decide) rfl (fun ls hlv => ?_)
  refine lv_iload hx hb dL_law__23 (lv_at hlv 0 rfl) ?_
  refine lv_aload_n hx hb dL_law__25 rfl (lv_at hlv 4 rfl) ?_
  refine va_slen hx hb hX hbl hbA hS dL_law__26 ?_
  refine lt_i (y := 10) (by decide) ?_
  refine lv_bipush (v := 10) hx hb dL_law__27 (by decide) ?_
  refine lv_isub hx hb dL_law__29 ?_
  refine lt_i (y := 0) (by decide) ?_
  refine lv_icmp_gt (tgt := 2761) hx hb dL_law__30 (by decide) (fun c => absurd c (by decide)) (fun _ => ?_)
  refine lv_aload_n hx hb dL_law__33 rfl (lv_at hlv 4 rfl) ?_
  refine lv_iload hx hb dL_law__34 (lv_at hlv 0 rfl) ?_
  refine va_sld hx hb hX hbl hbA hS (vpd (by decide)) dL_law__36 ?_
  refine lt_i (y := xs 0) rfl ?_
  refine lv_bipush (v := 63) hx hb dL_law__37 (by decide) ?_
  refine lv_iand hx hb dL_law__39 ?_
  refine lt_i (y := 28) h63 ?_
  refine lv_tableIn (tgt := 2219) hx hb dL_law__40 (by decide) (by decide) rfl (by decide) ?_
  refine lv_aload_n hx hb dL_law__2219 rfl (lv_at hlv 3 rfl) ?_
  refine lv_aload_n hx hb dL_law__2220 rfl (lv_at hlv 4 rfl) ?_
  refine lv_iload hx hb dL_law__2221 (lv_at hlv 0 rfl) ?_
  refine lv_iconst (v := 1) hx hb dL_law__2223 (by decide) ?_
  refine lv_iadd hx hb dL_law__2224 ?_
  refine lt_i (y := 1) (by decide) ?_
  refine va_sld hx hb hX hbl hbA hS (vpd (by decide)) dL_law__2225 ?_
  refine lt_i (y := 2) hv1 ?_
  refine lv_aload_n hx hb dL_law__2226 rfl (lv_at hlv 4 rfl) ?_
  refine lv_iload hx hb dL_law__2227 (lv_at hlv 0 rfl) ?_
  refine lv_iconst (v := 2) hx hb dL_law__2229 (by decide) ?_
  refine lv_iadd hx hb dL_law__2230 ?_
  refine lt_i (y := 2) (by decide) ?_
  refine va_sld hx hb hX hbl hbA hS (vpd (by decide)) dL_law__2231 ?_
  refine lt_i (y := xs 2) rfl ?_
  refine lv_aload_n hx hb dL_law__2232 rfl (lv_at hlv 1 rfl) ?_
  refine cj_i (wr := [(q_2, .inr (12, [.int 0, .ref (u2.1 1), .int 0, .int 0, .int 0, .int 0, .int 0, .int 0, .int (-1), .ref (u2.1 9), .ref (u2.1 10), .ref (u2.1 11), .ref (u2.1 12), .ref (u2.1 13), .ref (u2.1 14), .ref (u2.1 15), .int 0, .int 0, .int 0, .ref (u2.1 19), .ref (u2.1 20), .ref (u2.1 21), .int 0, .ref (u2.1 23), .ref (u2.1 24), .ref (u2.1 25), .ref (u2.1 26), .ref (u2.1 27), .ref (u2.1 28), .int 0, .int 0, .int 0, .int 0, .ref (u2.1 33), .int (-1), .ref (u2.1 35), .int 0, .int 0])), ((u2.1 1), .inl (cy 0, 4, .inl (fun _ => 0))), ((u2.1 12), .inl (cy 0, 389, .inl sF))]) (vx_runSW (As := [.ref q_1, .int 2, .int (xs 2), .ref q_3]) (rest := []) ⟨hx, hb, hml, hown, hts⟩ (w_share l hl D cy sa q_1 u1.1 2 (xs 2) q_3 H.size) (vx_cwSW 4 hts gl_w_share rfl rfl rfl (by decide +kernel) ⟨Nat.le_of_ble_eq_true rfl, Nat.le_of_ble_eq_true rfl⟩) ⟨pcW.blind, (pcW.mk hP hD hS hA hG hT [0, 1, 2, 3, 7] rfl (by decide))⟩ rfl rfl hlv.1 rfl (lv_room (Nat.le_of_ble_eq_true rfl)) dL_law__2233 ⟨Nat.le_of_ble_eq_true rfl, Nat.le_of_ble_eq_true rfl⟩) hP hD hS hA [0, 1, 2, 3, 7] [4, 5, 6] rfl rfl (by decide) (by decide) (fun r3 u3 H locs hw3 hP hD hS => ?_)
  rcases hw3 with ⟨hg3, rfl, he3_0⟩ | ⟨hg3, rfl⟩
  · rw [he3_0] at hP hD
    have hP : va_P D vwCl [(q_2, .inr (12, [.int 0, .ref (u2.1 1), .int 0, .int 0, .int 0, .int 0, .int 0, .int 0, .int (-1), .ref (u2.1 9), .ref (u2.1 10), .ref (u2.1 11), .ref (u2.1 12), .ref (u2.1 13), .ref (u2.1 14), .ref (u2.1 15), .int 0, .int 0, .int 0, .ref (u2.1 19), .ref (u2.1 20), .ref (u2.1 21), .int 0, .ref (u2.1 23), .ref (u2.1 24), .ref (u2.1 25), .ref (u2.1 26), .ref (u2.1 27), .ref (u2.1 28), .int 0, .int 0, .int 0, .int 0, .ref (u2.1 33), .int (-1), .ref (u2.1 35), .int 0, .int 0])), ((u2.1 1), .inl (cy 0, 4, .inl (fun _ => 0))), ((u2.1 12), .inl (cy 0, 389, .inl sF)), (q_3, .inl (cy 2, 1, .inr (.inl (fun _ => (1 : Int32).toInt64))))] H := hP
    have hD : va_D A [(q_2, .inr (12, [.int 0, .ref (u2.1 1), .int 0, .int 0, .int 0, .int 0, .int 0, .int 0, .int (-1), .ref (u2.1 9), .ref (u2.1 10), .ref (u2.1 11), .ref (u2.1 12), .ref (u2.1 13), .ref (u2.1 14), .ref (u2.1 15), .int 0, .int 0, .int 0, .ref (u2.1 19), .ref (u2.1 20), .ref (u2.1 21), .int 0, .ref (u2.1 23), .ref (u2.1 24), .ref (u2.1 25), .ref (u2.1 26), .ref (u2.1 27), .ref (u2.1 28), .int 0, .int 0, .int 0, .int 0, .ref (u2.1 33), .int (-1), .ref (u2.1 35), .int 0, .int 0])), ((u2.1 1), .inl (cy 0, 4, .inl (fun _ => 0))), ((u2.1 12), .inl (cy 0, 389, .inl sF)), (q_3, .inl (cy 2, 1, .inr (.inl (fun _ => (1 : Int32).toInt64))))] := hD
    refine lv_istore (lv' := [(5, .int 0), (4, .int 0), (3, .ref q_3), (2, .ref q_2), (1, .ref q_1), (0, .ref b)]) hx hb dL_law__2236 hlv (by decide) rfl (fun ls hlv => ?_)
    refine lv_aload_n hx hb dL_law__2238 rfl (lv_at hlv 3 rfl) ?_
    refine lv_aload_n hx hb dL_law__2239 rfl (lv_at hlv 5 rfl) ?_
    refine lv_iload hx hb dL_law__2240 (lv_at hlv 1 rfl) ?_
    refine lv_iconst (v := 1) hx hb dL_law__2242 (by decide) ?_
    refine lv_iadd hx hb dL_law__2243 ?_
    refine lt_i (y := 1) (by decide) ?_
    refine va_sld hx hb hX hbl hbA hS (vpd (by decide)) dL_law__2244 ?_
    refine lt_i (y := 2) hv1 ?_
    refine lv_aload_n hx hb dL_law__2245 rfl (lv_at hlv 5 rfl) ?_
    refine lv_iload hx hb dL_law__2246 (lv_at hlv 1 rfl) ?_
    refine lv_iconst (v := 2) hx hb dL_law__2248 (by decide) ?_
    refine lv_iadd hx hb dL_law__2249 ?_
    refine lt_i (y := 2) (by decide) ?_
    refine va_sld hx hb hX hbl hbA hS (vpd (by decide)) dL_law__2250 ?_
    refine lt_i (y := xs 2) rfl ?_
    refine cj_i (wr := [(q_3, .inl (cy 2, 1, .inr (.inl (fun _ => (1 : Int32).toInt64))))]) (va_runV (As := [.int 2, .int (xs 2)]) (rest := []) ⟨hx, hb, hml, hown, hts⟩ (m_share2 l hl D cy sa q_2 u2.1 (xs 2) H.size) (cwV 2 hts gl_m_share2 rfl rfl rfl (by decide +kernel) ⟨Nat.le_of_ble_eq_true rfl, Nat.le_of_ble_eq_true rfl⟩) ⟨pcW.blind, (va_recv hG.1 hP (ci := 12) (q0 := 0) rfl rfl), (pcW.mk hP hD hS hA hG hT [0, 1, 2] rfl (by decide))⟩ rfl rfl hlv.1 rfl (lv_room (Nat.le_of_ble_eq_true rfl)) dL_law__2251 ⟨Nat.le_of_ble_eq_true rfl, Nat.le_of_ble_eq_true rfl⟩) hP hD hS hA [0, 1, 2] [3] rfl rfl (by decide) (by decide) (fun r4 u4 H locs hw4 hP hD hS => ?_)
    rcases hw4 with ⟨hg4, rfl, he4_0⟩ | ⟨hg4, rfl, he4_0⟩
    · exact absurd hg4 (fun q => absurd hg3.2 q)
    · rw [he4_0] at hP hD
      have hP : va_P D vwCl [(q_3, .inl (cy 2, 1, .inr (.inl (fun _ => (1 : Int32).toInt64)))), (q_2, .inr (12, [.int 0, .ref (u2.1 1), .int 0, .int 0, .int 0, .int 0, .int 0, .int 0, .int (-1), .ref (u2.1 9), .ref (u2.1 10), .ref (u2.1 11), .ref (u2.1 12), .ref (u2.1 13), .ref (u2.1 14), .ref (u2.1 15), .int 0, .int 0, .int 0, .ref (u2.1 19), .ref (u2.1 20), .ref (u2.1 21), .int 0, .ref (u2.1 23), .ref (u2.1 24), .ref (u2.1 25), .ref (u2.1 26), .ref (u2.1 27), .ref (u2.1 28), .int 0, .int 0, .int 0, .int 0, .ref (u2.1 33), .int (-1), .ref (u2.1 35), .int 0, .int 0]))] H := hP
      have hD : va_D A [(q_3, .inl (cy 2, 1, .inr (.inl (fun _ => (1 : Int32).toInt64)))), (q_2, .inr (12, [.int 0, .ref (u2.1 1), .int 0, .int 0, .int 0, .int 0, .int 0, .int 0, .int (-1), .ref (u2.1 9), .ref (u2.1 10), .ref (u2.1 11), .ref (u2.1 12), .ref (u2.1 13), .ref (u2.1 14), .ref (u2.1 15), .int 0, .int 0, .int 0, .ref (u2.1 19), .ref (u2.1 20), .ref (u2.1 21), .int 0, .ref (u2.1 23), .ref (u2.1 24), .ref (u2.1 25), .ref (u2.1 26), .ref (u2.1 27), .ref (u2.1 28), .int 0, .int 0, .int 0, .int 0, .ref (u2.1 33), .int (-1), .ref (u2.1 35), .int 0, .int 0]))] := hD
      refine lv_istore (lv' := [(6, .int 1), (5, .int 0), (4, .int 0), (3, .ref q_3), (2, .ref q_2), (1, .ref q_1), (0, .ref b)]) hx hb dL_law__2254 hlv (by decide) rfl (fun ls hlv => ?_)
      refine lv_aload_n hx hb dL_law__2256 rfl (lv_at hlv 4 rfl) ?_
      refine cj_i (wr := [(q_3, .inl (cy 2, 1, .inr (.inl (fun _ => (1 : Int32).toInt64))))]) (va_runV (As := []) (rest := []) ⟨hx, hb, hml, hown, hts⟩ (c_thrown l hl D cy sa q_2 u2.1 0 0 0 0 0 0 0 (-1) 0 0 0 0 0 0 0 0 (-1) 0 0 H.size) (cwV 0 hts gl_c_thrown rfl rfl rfl (by decide +kernel) ⟨Nat.le_of_ble_eq_true rfl, Nat.le_of_ble_eq_true rfl⟩) ⟨pcW.blind, (va_recv hG.1 hP (ci := 12) (q0 := 1) rfl rfl), (pcW.mk hP hD hS hA hG hT [1] rfl (by decide))⟩ rfl rfl hlv.1 rfl (lv_room (Nat.le_of_ble_eq_true rfl)) dL_law__2257 ⟨Nat.le_of_ble_eq_true rfl, Nat.le_of_ble_eq_true rfl⟩) hP hD hS hA [1] [0] rfl rfl (by decide) (by decide) (fun r5 u5 H locs hw5 hP hD hS => ?_)
      obtain rfl := hw5
      have hP : va_P D vwCl [(q_3, .inl (cy 2, 1, .inr (.inl (fun _ => (1 : Int32).toInt64))))] H := hP
      have hD : va_D A [(q_3, .inl (cy 2, 1, .inr (.inl (fun _ => (1 : Int32).toInt64))))] := hD
      refine lv_iload hx hb dL_law__2260 (lv_at hlv 1 rfl) ?_
      refine lv_icmp_eq (tgt := 2267) hx hb dL_law__2262 (by decide) (fun _ => ?_) (fun c => absurd (by decide) c)
      refine lv_iload hx hb dL_law__2267 (lv_at hlv 1 rfl) ?_
      refine lv_if_ne (tgt := 2284) hx hb dL_law__2269 (by decide) (fun c => absurd (by decide) c) (fun _ => ?_)
      refine lv_aload_n hx hb dL_law__2272 rfl (lv_at hlv 3 rfl) ?_
      refine lv_iconst (v := 0) hx hb dL_law__2273 (by decide) ?_
      refine va_lald hx hb hG.1 hP 0 2 rfl rfl (vpd (by decide)) dL_law__2274 ?_
      refine ltv (y := .long ((1 : Int32).toInt64)) rfl ?_
      refine lv_iload hx hb dL_law__2275 (lv_at hlv 0 rfl) ?_
      refine lv_i2l (v := (1 : Int32).toInt64) hx hb dL_law__2277 rfl ?_
      refine W.lcmp hx hb dL_law__2278 ?_
      refine lt_i (y := 0) (lcmp_self _) ?_
      refine lv_if_eq (tgt := 2284) hx hb dL_law__2279 (by decide) (fun _ => ?_) (fun c => absurd (by decide) c)
      refine lv_goto (tgt := 2755) hx hb dL_law__2284 (by decide) ?_
      refine lv_iinc (v := 10) (lv' := [(4, .int 10), (6, .int 1), (5, .int 0), (3, .ref q_3), (2, .ref q_2), (1, .ref q_1), (0, .ref b)]) hx hb dL_law__2755 hlv (k := 2) rfl (by decide) (by decide) rfl (fun ls hlv => ?_)
      refine lv_goto (tgt := 23) hx hb dL_law__2758 (by decide) ?_
      refine lv_iload hx hb dL_law__23 (lv_at hlv 0 rfl) ?_
      refine lv_aload_n hx hb dL_law__25 rfl (lv_at hlv 6 rfl) ?_
      refine va_slen hx hb hX hbl hbA hS dL_law__26 ?_
      refine lt_i (y := 10) (by decide) ?_
      refine lv_bipush (v := 10) hx hb dL_law__27 (by decide) ?_
      refine lv_isub hx hb dL_law__29 ?_
      refine lt_i (y := 0) (by decide) ?_
      refine lv_icmp_gt (tgt := 2761) hx hb dL_law__30 (by decide) (fun _ => ?_) (fun c => absurd (by decide) c)
      refine lv_iconst (v := 1) hx hb dL_law__2761 (by decide) ?_
      refine va_forget (fun q hq => by have h9 := hS.2.2 q hq; rw [hAe] at h9; exact h9) ?_
      refine W.widen (k := 600002) (n := 7302232) (Nat.le_of_ble_eq_true rfl) (Nat.le_of_ble_eq_true rfl) ?_
      exact lw_ret hx hb hr hlocks dL_law__2762
  · have hP : va_P D vwCl [(q_2, .inr (12, [.int 0, .ref (u2.1 1), .int 0, .int 0, .int 0, .int 0, .int 0, .int 0, .int (-1), .ref (u2.1 9), .ref (u2.1 10), .ref (u2.1 11), .ref (u2.1 12), .ref (u2.1 13), .ref (u2.1 14), .ref (u2.1 15), .int 0, .int 0, .int 0, .ref (u2.1 19), .ref (u2.1 20), .ref (u2.1 21), .int 0, .ref (u2.1 23), .ref (u2.1 24), .ref (u2.1 25), .ref (u2.1 26), .ref (u2.1 27), .ref (u2.1 28), .int 0, .int 0, .int 0, .int 0, .ref (u2.1 33), .int (-1), .ref (u2.1 35), .int 0, .int 0])), ((u2.1 1), .inl (cy 0, 4, .inl (fun _ => 0))), ((u2.1 12), .inl (cy 0, 389, .inl sF)), (q_3, .inl (cy 2, 1, .inr (.inl (fun _ => (u3.2.1 0 : Int32).toInt64))))] H := hP
    have hD : va_D A [(q_2, .inr (12, [.int 0, .ref (u2.1 1), .int 0, .int 0, .int 0, .int 0, .int 0, .int 0, .int (-1), .ref (u2.1 9), .ref (u2.1 10), .ref (u2.1 11), .ref (u2.1 12), .ref (u2.1 13), .ref (u2.1 14), .ref (u2.1 15), .int 0, .int 0, .int 0, .ref (u2.1 19), .ref (u2.1 20), .ref (u2.1 21), .int 0, .ref (u2.1 23), .ref (u2.1 24), .ref (u2.1 25), .ref (u2.1 26), .ref (u2.1 27), .ref (u2.1 28), .int 0, .int 0, .int 0, .int 0, .ref (u2.1 33), .int (-1), .ref (u2.1 35), .int 0, .int 0])), ((u2.1 1), .inl (cy 0, 4, .inl (fun _ => 0))), ((u2.1 12), .inl (cy 0, 389, .inl sF)), (q_3, .inl (cy 2, 1, .inr (.inl (fun _ => (u3.2.1 0 : Int32).toInt64))))] := hD
    refine lv_istore (lv' := [(5, .int 1), (4, .int 0), (3, .ref q_3), (2, .ref q_2), (1, .ref q_1), (0, .ref b)]) hx hb dL_law__2236 hlv (by decide) rfl (fun ls hlv => ?_)
    refine lv_aload_n hx hb dL_law__2238 rfl (lv_at hlv 3 rfl) ?_
    refine lv_aload_n hx hb dL_law__2239 rfl (lv_at hlv 5 rfl) ?_
    refine lv_iload hx hb dL_law__2240 (lv_at hlv 1 rfl) ?_
    refine lv_iconst (v := 1) hx hb dL_law__2242 (by decide) ?_
    refine lv_iadd hx hb dL_law__2243 ?_
    refine lt_i (y := 1) (by decide) ?_
    refine va_sld hx hb hX hbl hbA hS (vpd (by decide)) dL_law__2244 ?_
    refine lt_i (y := 2) hv1 ?_
    refine lv_aload_n hx hb dL_law__2245 rfl (lv_at hlv 5 rfl) ?_
    refine lv_iload hx hb dL_law__2246 (lv_at hlv 1 rfl) ?_
    refine lv_iconst (v := 2) hx hb dL_law__2248 (by decide) ?_
    refine lv_iadd hx hb dL_law__2249 ?_
    refine lt_i (y := 2) (by decide) ?_
    refine va_sld hx hb hX hbl hbA hS (vpd (by decide)) dL_law__2250 ?_
    refine lt_i (y := xs 2) rfl ?_
    refine cj_i (wr := [(q_3, .inl (cy 2, 1, .inr (.inl (fun _ => (u3.2.1 0 : Int32).toInt64))))]) (va_runV (As := [.int 2, .int (xs 2)]) (rest := []) ⟨hx, hb, hml, hown, hts⟩ (m_share2 l hl D cy sa q_2 u2.1 (xs 2) H.size) (cwV 2 hts gl_m_share2 rfl rfl rfl (by decide +kernel) ⟨Nat.le_of_ble_eq_true rfl, Nat.le_of_ble_eq_true rfl⟩) ⟨pcW.blind, (va_recv hG.1 hP (ci := 12) (q0 := 0) rfl rfl), (pcW.mk hP hD hS hA hG hT [0, 1, 2] rfl (by decide))⟩ rfl rfl hlv.1 rfl (lv_room (Nat.le_of_ble_eq_true rfl)) dL_law__2251 ⟨Nat.le_of_ble_eq_true rfl, Nat.le_of_ble_eq_true rfl⟩) hP hD hS hA [0, 1, 2] [3] rfl rfl (by decide) (by decide) (fun r6 u6 H locs hw6 hP hD hS => ?_)
    rcases hw6 with ⟨hg6, rfl, he6_0⟩ | ⟨hg6, rfl, he6_0⟩
    · rw [he6_0] at hP hD
      have hP : va_P D vwCl [(q_3, .inl (cy 2, 1, .inr (.inl (fun _ => (u3.2.1 0 : Int32).toInt64)))), (q_2, .inr (12, [.int 1, .ref (u2.1 1), .int 0, .int 0, .int 0, .int 0, .int 0, .int 0, .int (-1), .ref (u2.1 9), .ref (u2.1 10), .ref (u2.1 11), .ref (u2.1 12), .ref (u2.1 13), .ref (u2.1 14), .ref (u2.1 15), .int 0, .int 0, .int 0, .ref (u2.1 19), .ref (u2.1 20), .ref (u2.1 21), .int 0, .ref (u2.1 23), .ref (u2.1 24), .ref (u2.1 25), .ref (u2.1 26), .ref (u2.1 27), .ref (u2.1 28), .int 0, .int 0, .int 0, .int 0, .ref (u2.1 33), .int (-1), .ref (u2.1 35), .int 0, .int 0]))] H := hP
      have hD : va_D A [(q_3, .inl (cy 2, 1, .inr (.inl (fun _ => (u3.2.1 0 : Int32).toInt64)))), (q_2, .inr (12, [.int 1, .ref (u2.1 1), .int 0, .int 0, .int 0, .int 0, .int 0, .int 0, .int (-1), .ref (u2.1 9), .ref (u2.1 10), .ref (u2.1 11), .ref (u2.1 12), .ref (u2.1 13), .ref (u2.1 14), .ref (u2.1 15), .int 0, .int 0, .int 0, .ref (u2.1 19), .ref (u2.1 20), .ref (u2.1 21), .int 0, .ref (u2.1 23), .ref (u2.1 24), .ref (u2.1 25), .ref (u2.1 26), .ref (u2.1 27), .ref (u2.1 28), .int 0, .int 0, .int 0, .int 0, .ref (u2.1 33), .int (-1), .ref (u2.1 35), .int 0, .int 0]))] := hD
      refine lv_istore (lv' := [(6, .int 0), (5, .int 1), (4, .int 0), (3, .ref q_3), (2, .ref q_2), (1, .ref q_1), (0, .ref b)]) hx hb dL_law__2254 hlv (by decide) rfl (fun ls hlv => ?_)
      refine lv_aload_n hx hb dL_law__2256 rfl (lv_at hlv 4 rfl) ?_
      refine cj_i (wr := [(q_3, .inl (cy 2, 1, .inr (.inl (fun _ => (u3.2.1 0 : Int32).toInt64))))]) (va_runV (As := []) (rest := []) ⟨hx, hb, hml, hown, hts⟩ (c_thrown l hl D cy sa q_2 u2.1 1 0 0 0 0 0 0 (-1) 0 0 0 0 0 0 0 0 (-1) 0 0 H.size) (cwV 0 hts gl_c_thrown rfl rfl rfl (by decide +kernel) ⟨Nat.le_of_ble_eq_true rfl, Nat.le_of_ble_eq_true rfl⟩) ⟨pcW.blind, (va_recv hG.1 hP (ci := 12) (q0 := 1) rfl rfl), (pcW.mk hP hD hS hA hG hT [1] rfl (by decide))⟩ rfl rfl hlv.1 rfl (lv_room (Nat.le_of_ble_eq_true rfl)) dL_law__2257 ⟨Nat.le_of_ble_eq_true rfl, Nat.le_of_ble_eq_true rfl⟩) hP hD hS hA [1] [0] rfl rfl (by decide) (by decide) (fun r7 u7 H locs hw7 hP hD hS => ?_)
      obtain rfl := hw7
      have hP : va_P D vwCl [(q_3, .inl (cy 2, 1, .inr (.inl (fun _ => (u3.2.1 0 : Int32).toInt64))))] H := hP
      have hD : va_D A [(q_3, .inl (cy 2, 1, .inr (.inl (fun _ => (u3.2.1 0 : Int32).toInt64))))] := hD
      refine lv_iload hx hb dL_law__2260 (lv_at hlv 1 rfl) ?_
      refine lv_icmp_eq (tgt := 2267) hx hb dL_law__2262 (by decide) (fun _ => ?_) (fun c => absurd (by decide) c)
      refine lv_iload hx hb dL_law__2267 (lv_at hlv 1 rfl) ?_
      refine lv_if_ne (tgt := 2284) hx hb dL_law__2269 (by decide) (fun _ => ?_) (fun c => absurd c (by decide))
      refine lv_goto (tgt := 2755) hx hb dL_law__2284 (by decide) ?_
      refine lv_iinc (v := 10) (lv' := [(4, .int 10), (6, .int 0), (5, .int 1), (3, .ref q_3), (2, .ref q_2), (1, .ref q_1), (0, .ref b)]) hx hb dL_law__2755 hlv (k := 2) rfl (by decide) (by decide) rfl (fun ls hlv => ?_)
      refine lv_goto (tgt := 23) hx hb dL_law__2758 (by decide) ?_
      refine lv_iload hx hb dL_law__23 (lv_at hlv 0 rfl) ?_
      refine lv_aload_n hx hb dL_law__25 rfl (lv_at hlv 6 rfl) ?_
      refine va_slen hx hb hX hbl hbA hS dL_law__26 ?_
      refine lt_i (y := 10) (by decide) ?_
      refine lv_bipush (v := 10) hx hb dL_law__27 (by decide) ?_
      refine lv_isub hx hb dL_law__29 ?_
      refine lt_i (y := 0) (by decide) ?_
      refine lv_icmp_gt (tgt := 2761) hx hb dL_law__30 (by decide) (fun _ => ?_) (fun c => absurd (by decide) c)
      refine lv_iconst (v := 1) hx hb dL_law__2761 (by decide) ?_
      refine va_forget (fun q hq => by have h9 := hS.2.2 q hq; rw [hAe] at h9; exact h9) ?_
      refine W.widen (k := 600002) (n := 7302232) (Nat.le_of_ble_eq_true rfl) (Nat.le_of_ble_eq_true rfl) ?_
      exact lw_ret hx hb hr hlocks dL_law__2762
    · exact absurd hg6 (fun q => hg3 ⟨(by decide), q⟩)
set_option maxHeartbeats 4000000 in
set_option maxRecDepth 100000 in
theorem law_share3 {p : Program} {e : Env} {s : State} {m : MethodId} {below : List Frame} {meth : Method} {c : Code} (l : Launch) (hl : l.stackTraces = false) {b : Nat} {xs : Nat → Int32} {D : va_G} {cy : Nat → ClassId} {sa : Nat → Nat} {A : Nat → Prop} (hAe : A = fun q => s.heap.size ≤ q) (C0 : lw_At p s m meth c b 10 xs) (hG : GC D cy sa s) (hT : TH A s s.heap) (h63 : xs 0 &&& 63 = 28) (hv1 : xs 1 = 3) : W p l e room_1 s m #[Value.ref b] below meth c s.heap [] 0 0 (lw_Z below #[Value.ref b] s) (entryFrame m ([Value.ref b] : List Value).toArray 7) := by
  obtain ⟨hx, hb, hr, hml, hown0, hts0, hX, hbl, hlocks, hgv⟩ := id C0
  have hown : s.vm.findClass RL = some m.cls := hown0
  have hts := hts0
  have hA : ∀ q : Nat, s.heap.size ≤ q → A q := fun q h => by rw [hAe]; exact h
  have hbA : ¬ A b := by rw [hAe]; exact Nat.not_le.mpr hbl
  have hS : va_S A s.heap s.heap [] := va_S.rf
  have hP : va_P D vwCl [] s.heap := fun k q h => by simp at h
  have hD : va_D A [] := ⟨fun i j p q h => by simp at h, fun k q h => by simp at h⟩
  have hl0 := lv_entry ([.ref b]) (n := 7) (Nat.le_of_ble_eq_true rfl)
  rw [lg_entry_eq]
  generalize (lg_sl ([.ref b]) ++ List.replicate (7 - (lg_sl ([.ref b])).length) Slot.unset).toArray = ls at hl0 ⊢
  have hlv : lv_has ls 7 [(0, .ref b)] := hl0
  have cl8 := hts (.classLink RL 8 RX11) lwd_0
  have in11 := hts (.instantiable RX11 14) lwd_1
  have ini11 := hts (.initialized RX11) lwd_2
  have ini_RX11 := hts (.initialized RX11) lwd_2
  have ml117 := hts (.methodLink RL 117 yX11_init) lwd_3
  have im_X11_init := hts (.instanceMethod yX11_init) lwd_4
  have cl118 := hts (.classLink RL 118 RX12) lwd_5
  have in12 := hts (.instantiable RX12 38) lwd_6
  have ini12 := hts (.initialized RX12) lwd_7
  have ini_RX12 := hts (.initialized RX12) lwd_7
  have ml120 := hts (.methodLink RL 120 yX12_init) lwd_8
  have im_X12_init := hts (.instanceMethod yX12_init) lwd_9
  have ac2 := hts (.arrayClass .long) lwd_10
  refine va_new (ci := 11) (fs := [.null, .null, .null, .int 0, .int 0, .null, .null, .null, .null, .null, .int 0, .null, .null, .null]) (C := RX11) (T := TX11) (N := 14) hx hb hts inX11 tyX11 tyX11_ok hown cl8 in11 ini11 hG.1 hP hD hS hA rfl (by decide) (Nat.le_of_ble_eq_true rfl) (Nat.le_of_ble_eq_true rfl) dL_law__0 (fun q_1 H hP hD hS => ?_)
  have hP : va_P D vwCl [(q_1, .inr (11, [.null, .null, .null, .int 0, .int 0, .null, .null, .null, .null, .null, .int 0, .null, .null, .null]))] H := hP
  have hD : va_D A [(q_1, .inr (11, [.null, .null, .null, .int 0, .int 0, .null, .null, .null, .null, .null, .int 0, .null, .null, .null]))] := hD
  refine lv_dup hx hb dL_law__3 rfl ?_
  refine cj_v (wr := []) (va_runI (As := []) (rest := [.ref q_1]) ⟨hx, hb, hml, hown, hts⟩ (c_K_share3 l hl D cy sa q_1 H.size) (cwI 0 hts gl_X11_init rfl rfl rfl ini_RX11 ml117 im_X11_init rfl (by decide +kernel) ⟨Nat.le_of_ble_eq_true rfl, Nat.le_of_ble_eq_true rfl⟩) ⟨pcW.blind, (pcW.mk hP hD hS hA hG hT [0] rfl (by decide))⟩ rfl rfl hlv.1 rfl (lv_room (Nat.le_of_ble_eq_true rfl)) dL_law__4 ⟨Nat.le_of_ble_eq_true rfl, Nat.le_of_ble_eq_true rfl⟩) hP hD hS hA [0] [] rfl rfl (by decide) (by decide) (fun u1 H locs hw1 hP hD hS => ?_)
  have hP : va_P D vwCl [(q_1, .inr (11, [.ref (u1.1 0), .ref (u1.1 1), .ref (u1.1 2), .int 0, .int 0, .ref (u1.1 5), .ref (u1.1 6), .ref (u1.1 7), .ref (u1.1 8), .ref (u1.1 9), .int 0, .ref (u1.1 11), .ref (u1.1 12), .ref (u1.1 13)])), ((u1.1 7), .inr (4, [.int 0, .ref (u1.1 41), .int 0, .ref (u1.1 42), .ref (u1.1 43)])), ((u1.1 43), .inl (cy 0, 4, .inl shF)), ((u1.1 13), .inl (cy 0, 4, .inl (fun _ => 0)))] H := hP
  have hD : va_D A [(q_1, .inr (11, [.ref (u1.1 0), .ref (u1.1 1), .ref (u1.1 2), .int 0, .int 0, .ref (u1.1 5), .ref (u1.1 6), .ref (u1.1 7), .ref (u1.1 8), .ref (u1.1 9), .int 0, .ref (u1.1 11), .ref (u1.1 12), .ref (u1.1 13)])), ((u1.1 7), .inr (4, [.int 0, .ref (u1.1 41), .int 0, .ref (u1.1 42), .ref (u1.1 43)])), ((u1.1 43), .inl (cy 0, 4, .inl shF)), ((u1.1 13), .inl (cy 0, 4, .inl (fun _ => 0)))] := hD
  refine lv_astore_n (lv' := [(1, .ref q_1), (0, .ref b)]) hx hb dL_law__7 rfl hlv (by decide) rfl (fun ls hlv => ?_)
  refine va_new (ci := 12) (fs := [.int 0, .null, .int 0, .int 0, .int 0, .int 0, .int 0, .int 0, .int 0, .null, .null, .null, .null, .null, .null, .null, .int 0, .int 0, .int 0, .null, .null, .null, .int 0, .null, .null, .null, .null, .null, .null, .int 0, .int 0, .int 0, .int 0, .null, .int 0, .null, .int 0, .int 0]) (C := RX12) (T := TX12) (N := 38) hx hb hts inX12 tyX12 tyX12_ok hown cl118 in12 ini12 hG.1 hP hD hS hA rfl (by decide) (Nat.le_of_ble_eq_true rfl) (Nat.le_of_ble_eq_true rfl) dL_law__8 (fun q_2 H hP hD hS => ?_)
  have hP : va_P D vwCl [(q_1, .inr (11, [.ref (u1.1 0), .ref (u1.1 1), .ref (u1.1 2), .int 0, .int 0, .ref (u1.1 5), .ref (u1.1 6), .ref (u1.1 7), .ref (u1.1 8), .ref (u1.1 9), .int 0, .ref (u1.1 11), .ref (u1.1 12), .ref (u1.1 13)])), ((u1.1 7), .inr (4, [.int 0, .ref (u1.1 41), .int 0, .ref (u1.1 42), .ref (u1.1 43)])), ((u1.1 43), .inl (cy 0, 4, .inl shF)), ((u1.1 13), .inl (cy 0, 4, .inl (fun _ => 0))), (q_2, .inr (12, [.int 0, .null, .int 0, .int 0, .int 0, .int 0, .int 0, .int 0, .int 0, .null, .null, .null, .null, .null, .null, .null, .int 0, .int 0, .int 0, .null, .null, .null, .int 0, .null, .null, .null, .null, .null, .null, .int 0, .int 0, .int 0, .int 0, .null, .int 0, .null, .int 0, .int 0]))] H := hP
  have hD : va_D A [(q_1, .inr (11, [.ref (u1.1 0), .ref (u1.1 1), .ref (u1.1 2), .int 0, .int 0, .ref (u1.1 5), .ref (u1.1 6), .ref (u1.1 7), .ref (u1.1 8), .ref (u1.1 9), .int 0, .ref (u1.1 11), .ref (u1.1 12), .ref (u1.1 13)])), ((u1.1 7), .inr (4, [.int 0, .ref (u1.1 41), .int 0, .ref (u1.1 42), .ref (u1.1 43)])), ((u1.1 43), .inl (cy 0, 4, .inl shF)), ((u1.1 13), .inl (cy 0, 4, .inl (fun _ => 0))), (q_2, .inr (12, [.int 0, .null, .int 0, .int 0, .int 0, .int 0, .int 0, .int 0, .int 0, .null, .null, .null, .null, .null, .null, .null, .int 0, .int 0, .int 0, .null, .null, .null, .int 0, .null, .null, .null, .null, .null, .null, .int 0, .int 0, .int 0, .int 0, .null, .int 0, .null, .int 0, .int 0]))] := hD
  refine lv_dup hx hb dL_law__11 rfl ?_
  refine cj_v (wr := [(q_1, .inr (11, [.ref (u1.1 0), .ref (u1.1 1), .ref (u1.1 2), .int 0, .int 0, .ref (u1.1 5), .ref (u1.1 6), .ref (u1.1 7), .ref (u1.1 8), .ref (u1.1 9), .int 0, .ref (u1.1 11), .ref (u1.1 12), .ref (u1.1 13)])), ((u1.1 7), .inr (4, [.int 0, .ref (u1.1 41), .int 0, .ref (u1.1 42), .ref (u1.1 43)])), ((u1.1 43), .inl (cy 0, 4, .inl shF)), ((u1.1 13), .inl (cy 0, 4, .inl (fun _ => 0)))]) (va_runI (As := []) (rest := [.ref q_2]) ⟨hx, hb, hml, hown, hts⟩ (c_M_share3 l hl D cy sa q_2 H.size) (cwI 0 hts gl_X12_init rfl rfl rfl ini_RX12 ml120 im_X12_init rfl (by decide +kernel) ⟨Nat.le_of_ble_eq_true rfl, Nat.le_of_ble_eq_true rfl⟩) ⟨pcW.blind, (pcW.mk hP hD hS hA hG hT [4] rfl (by decide))⟩ rfl rfl hlv.1 rfl (lv_room (Nat.le_of_ble_eq_true rfl)) dL_law__12 ⟨Nat.le_of_ble_eq_true rfl, Nat.le_of_ble_eq_true rfl⟩) hP hD hS hA [4] [0, 1, 2, 3] rfl rfl (by decide) (by decide) (fun u2 H locs hw2 hP hD hS => ?_)
  have hP : va_P D vwCl [(q_1, .inr (11, [.ref (u1.1 0), .ref (u1.1 1), .ref (u1.1 2), .int 0, .int 0, .ref (u1.1 5), .ref (u1.1 6), .ref (u1.1 7), .ref (u1.1 8), .ref (u1.1 9), .int 0, .ref (u1.1 11), .ref (u1.1 12), .ref (u1.1 13)])), ((u1.1 7), .inr (4, [.int 0, .ref (u1.1 41), .int 0, .ref (u1.1 42), .ref (u1.1 43)])), ((u1.1 43), .inl (cy 0, 4, .inl shF)), ((u1.1 13), .inl (cy 0, 4, .inl (fun _ => 0))), (q_2, .inr (12, [.int 0, .ref (u2.1 1), .int 0, .int 0, .int 0, .int 0, .int 0, .int 0, .int (-1), .ref (u2.1 9), .ref (u2.1 10), .ref (u2.1 11), .ref (u2.1 12), .ref (u2.1 13), .ref (u2.1 14), .ref (u2.1 15), .int 0, .int 0, .int 0, .ref (u2.1 19), .ref (u2.1 20), .ref (u2.1 21), .int 0, .ref (u2.1 23), .ref (u2.1 24), .ref (u2.1 25), .ref (u2.1 26), .ref (u2.1 27), .ref (u2.1 28), .int 0, .int 0, .int 0, .int 0, .ref (u2.1 33), .int (-1), .ref (u2.1 35), .int 0, .int 0])), ((u2.1 1), .inl (cy 0, 4, .inl (fun _ => 0))), ((u2.1 12), .inl (cy 0, 389, .inl sF))] H := hP
  have hD : va_D A [(q_1, .inr (11, [.ref (u1.1 0), .ref (u1.1 1), .ref (u1.1 2), .int 0, .int 0, .ref (u1.1 5), .ref (u1.1 6), .ref (u1.1 7), .ref (u1.1 8), .ref (u1.1 9), .int 0, .ref (u1.1 11), .ref (u1.1 12), .ref (u1.1 13)])), ((u1.1 7), .inr (4, [.int 0, .ref (u1.1 41), .int 0, .ref (u1.1 42), .ref (u1.1 43)])), ((u1.1 43), .inl (cy 0, 4, .inl shF)), ((u1.1 13), .inl (cy 0, 4, .inl (fun _ => 0))), (q_2, .inr (12, [.int 0, .ref (u2.1 1), .int 0, .int 0, .int 0, .int 0, .int 0, .int 0, .int (-1), .ref (u2.1 9), .ref (u2.1 10), .ref (u2.1 11), .ref (u2.1 12), .ref (u2.1 13), .ref (u2.1 14), .ref (u2.1 15), .int 0, .int 0, .int 0, .ref (u2.1 19), .ref (u2.1 20), .ref (u2.1 21), .int 0, .ref (u2.1 23), .ref (u2.1 24), .ref (u2.1 25), .ref (u2.1 26), .ref (u2.1 27), .ref (u2.1 28), .int 0, .int 0, .int 0, .int 0, .ref (u2.1 33), .int (-1), .ref (u2.1 35), .int 0, .int 0])), ((u2.1 1), .inl (cy 0, 4, .inl (fun _ => 0))), ((u2.1 12), .inl (cy 0, 389, .inl sF))] := hD
  refine lv_astore_n (lv' := [(2, .ref q_2), (1, .ref q_1), (0, .ref b)]) hx hb dL_law__15 rfl hlv (by decide) rfl (fun ls hlv => ?_)
  refine lv_iconst (v := 1) hx hb dL_law__16 (by decide) ?_
  refine nw_a (atype := .long) (cy := cy) (a0 := (1, .inr (.inl (fun _ => 0)))) (N' := 1) hx hb ac2 (ty := .long) rfl 2 rfl (fun C h => nomatch h) hG.1 hP hD hS hA (fun cA => rfl) (by decide) (by decide) (Nat.le_of_ble_eq_true rfl) (Nat.le_of_ble_eq_true rfl) (Nat.le_of_ble_eq_true rfl) dL_law__17 (fun q_3 H hP hD hS => ?_)
  have hP : va_P D vwCl [(q_1, .inr (11, [.ref (u1.1 0), .ref (u1.1 1), .ref (u1.1 2), .int 0, .int 0, .ref (u1.1 5), .ref (u1.1 6), .ref (u1.1 7), .ref (u1.1 8), .ref (u1.1 9), .int 0, .ref (u1.1 11), .ref (u1.1 12), .ref (u1.1 13)])), ((u1.1 7), .inr (4, [.int 0, .ref (u1.1 41), .int 0, .ref (u1.1 42), .ref (u1.1 43)])), ((u1.1 43), .inl (cy 0, 4, .inl shF)), ((u1.1 13), .inl (cy 0, 4, .inl (fun _ => 0))), (q_2, .inr (12, [.int 0, .ref (u2.1 1), .int 0, .int 0, .int 0, .int 0, .int 0, .int 0, .int (-1), .ref (u2.1 9), .ref (u2.1 10), .ref (u2.1 11), .ref (u2.1 12), .ref (u2.1 13), .ref (u2.1 14), .ref (u2.1 15), .int 0, .int 0, .int 0, .ref (u2.1 19), .ref (u2.1 20), .ref (u2.1 21), .int 0, .ref (u2.1 23), .ref (u2.1 24), .ref (u2.1 25), .ref (u2.1 26), .ref (u2.1 27), .ref (u2.1 28), .int 0, .int 0, .int 0, .int 0, .ref (u2.1 33), .int (-1), .ref (u2.1 35), .int 0, .int 0])), ((u2.1 1), .inl (cy 0, 4, .inl (fun _ => 0))), ((u2.1 12), .inl (cy 0, 389, .inl sF)), (q_3, .inl (cy 2, 1, .inr (.inl (fun _ => 0))))] H := hP
  have hD : va_D A [(q_1, .inr (11, [.ref (u1.1 0), .ref (u1.1 1), .ref (u1.1 2), .int 0, .int 0, .ref (u1.1 5), .ref (u1.1 6), .ref (u1.1 7), .ref (u1.1 8), .ref (u1.1 9), .int 0, .ref (u1.1 11), .ref (u1.1 12), .ref (u1.1 13)])), ((u1.1 7), .inr (4, [.int 0, .ref (u1.1 41), .int 0, .ref (u1.1 42), .ref (u1.1 43)])), ((u1.1 43), .inl (cy 0, 4, .inl shF)), ((u1.1 13), .inl (cy 0, 4, .inl (fun _ => 0))), (q_2, .inr (12, [.int 0, .ref (u2.1 1), .int 0, .int 0, .int 0, .int 0, .int 0, .int 0, .int (-1), .ref (u2.1 9), .ref (u2.1 10), .ref (u2.1 11), .ref (u2.1 12), .ref (u2.1 13), .ref (u2.1 14), .ref (u2.1 15), .int 0, .int 0, .int 0, .ref (u2.1 19), .ref (u2.1 20), .ref (u2.1 21), .int 0, .ref (u2.1 23), .ref (u2.1 24), .ref (u2.1 25), .ref (u2.1 26), .ref (u2.1 27), .ref (u2.1 28), .int 0, .int 0, .int 0, .int 0, .ref (u2.1 33), .int (-1), .ref (u2.1 35), .int 0, .int 0])), ((u2.1 1), .inl (cy 0, 4, .inl (fun _ => 0))), ((u2.1 12), .inl (cy 0, 389, .inl sF)), (q_3, .inl (cy 2, 1, .inr (.inl (fun _ => 0))))] := hD
  refine lv_astore_n (lv' := [(3, .ref q_3), (2, .ref q_2), (1, .ref q_1), (0, .ref b)]) hx hb dL_law__19 rfl hlv (by decide) rfl (fun ls hlv => ?_)
  refine lv_iconst (v := 0) hx hb dL_law__20 (by decide) ?_
  refine lv_istore (lv' := [(4, .int 0), (3, .ref q_3), (2, .ref q_2), (1, .ref q_1), (0, .ref b)]) hx hb dL_law__21 hlv (by decide) rfl (fun ls hlv => ?_)
  refine lv_iload hx hb dL_law__23 (lv_at hlv 0 rfl) ?_
  refine lv_aload_n hx hb dL_law__25 rfl (lv_at hlv 4 rfl) ?_
  refine va_slen hx hb hX hbl hbA hS dL_law__26 ?_
  refine lt_i (y := 10) (by decide) ?_
  refine lv_bipush (v := 10) hx hb dL_law__27 (by decide) ?_
  refine lv_isub hx hb dL_law__29 ?_
  refine lt_i (y := 0) (by decide) ?_
  refine lv_icmp_gt (tgt := 2761) hx hb dL_law__30 (by decide) (fun c => absurd c (by decide)) (fun _ => ?_)
  refine lv_aload_n hx hb dL_law__33 rfl (lv_at hlv 4 rfl) ?_
  refine lv_iload hx hb dL_law__34 (lv_at hlv 0 rfl) ?_
  refine va_sld hx hb hX hbl hbA hS (vpd (by decide)) dL_law__36 ?_
  refine lt_i (y := xs 0) rfl ?_
  refine lv_bipush (v := 63) hx hb dL_law__37 (by decide) ?_
  refine lv_iand hx hb dL_law__39 ?_
  refine lt_i (y := 28) h63 ?_
  refine lv_tableIn (tgt := 2219) hx hb dL_law__40 (by decide) (by decide) rfl (by decide) ?_
  refine lv_aload_n hx hb dL_law__2219 rfl (lv_at hlv 3 rfl) ?_
  refine lv_aload_n hx hb dL_law__2220 rfl (lv_at hlv 4 rfl) ?_
  refine lv_iload hx hb dL_law__2221 (lv_at hlv 0 rfl) ?_
  refine lv_iconst (v := 1) hx hb dL_law__2223 (by decide) ?_
  refine lv_iadd hx hb dL_law__2224 ?_
  refine lt_i (y := 1) (by decide) ?_
  refine va_sld hx hb hX hbl hbA hS (vpd (by decide)) dL_law__2225 ?_
  refine lt_i (y := 3) hv1 ?_
  refine lv_aload_n hx hb dL_law__2226 rfl (lv_at hlv 4 rfl) ?_
  refine lv_iload hx hb dL_law__2227 (lv_at hlv 0 rfl) ?_
  refine lv_iconst (v := 2) hx hb dL_law__2229 (by decide) ?_
  refine lv_iadd hx hb dL_law__2230 ?_
  refine lt_i (y := 2) (by decide) ?_
  refine va_sld hx hb hX hbl hbA hS (vpd (by decide)) dL_law__2231 ?_
  refine lt_i (y := xs 2) rfl ?_
  refine lv_aload_n hx hb dL_law__2232 rfl (lv_at hlv 1 rfl) ?_
  refine cj_i (wr := [(q_2, .inr (12, [.int 0, .ref (u2.1 1), .int 0, .int 0, .int 0, .int 0, .int 0, .int 0, .int (-1), .ref (u2.1 9), .ref (u2.1 10), .ref (u2.1 11), .ref (u2.1 12), .ref (u2.1 13), .ref (u2.1 14), .ref (u2.1 15), .int 0, .int 0, .int 0, .ref (u2.1 19), .ref (u2.1 20), .ref (u2.1 21), .int 0, .ref (u2.1 23), .ref (u2.1 24), .ref (u2.1 25), .ref (u2.1 26), .ref (u2.1 27), .ref (u2.1 28), .int 0, .int 0, .int 0, .int 0, .ref (u2.1 33), .int (-1), .ref (u2.1 35), .int 0, .int 0])), ((u2.1 1), .inl (cy 0, 4, .inl (fun _ => 0))), ((u2.1 12), .inl (cy 0, 389, .inl sF))]) (vx_runSW (As := [.ref q_1, .int 3, .int (xs 2), .ref q_3]) (rest := []) ⟨hx, hb, hml, hown, hts⟩ (w_share l hl D cy sa q_1 u1.1 3 (xs 2) q_3 H.size) (vx_cwSW 4 hts gl_w_share rfl rfl rfl (by decide +kernel) ⟨Nat.le_of_ble_eq_true rfl, Nat.le_of_ble_eq_true rfl⟩) ⟨pcW.blind, (pcW.mk hP hD hS hA hG hT [0, 1, 2, 3, 7] rfl (by decide))⟩ rfl rfl hlv.1 rfl (lv_room (Nat.le_of_ble_eq_true rfl)) dL_law__2233 ⟨Nat.le_of_ble_eq_true rfl, Nat.le_of_ble_eq_true rfl⟩) hP hD hS hA [0, 1, 2, 3, 7] [4, 5, 6] rfl rfl (by decide) (by decide) (fun r3 u3 H locs hw3 hP hD hS => ?_)
  rcases hw3 with ⟨hg3, rfl, he3_0⟩ | ⟨hg3, rfl⟩
  · rw [he3_0] at hP hD
    have hP : va_P D vwCl [(q_2, .inr (12, [.int 0, .ref (u2.1 1), .int 0, .int 0, .int 0, .int 0, .int 0, .int 0, .int (-1), .ref (u2.1 9), .ref (u2.1 10), .ref (u2.1 11), .ref (u2.1 12), .ref (u2.1 13), .ref (u2.1 14), .ref (u2.1 15), .int 0, .int 0, .int 0, .ref (u2.1 19), .ref (u2.1 20), .ref (u2.1 21), .int 0, .ref (u2.1 23), .ref (u2.1 24), .ref (u2.1 25), .ref (u2.1 26), .ref (u2.1 27), .ref (u2.1 28), .int 0, .int 0, .int 0, .int 0, .ref (u2.1 33), .int (-1), .ref (u2.1 35), .int 0, .int 0])), ((u2.1 1), .inl (cy 0, 4, .inl (fun _ => 0))), ((u2.1 12), .inl (cy 0, 389, .inl sF)), (q_3, .inl (cy 2, 1, .inr (.inl (fun _ => (1 : Int32).toInt64))))] H := hP
    have hD : va_D A [(q_2, .inr (12, [.int 0, .ref (u2.1 1), .int 0, .int 0, .int 0, .int 0, .int 0, .int 0, .int (-1), .ref (u2.1 9), .ref (u2.1 10), .ref (u2.1 11), .ref (u2.1 12), .ref (u2.1 13), .ref (u2.1 14), .ref (u2.1 15), .int 0, .int 0, .int 0, .ref (u2.1 19), .ref (u2.1 20), .ref (u2.1 21), .int 0, .ref (u2.1 23), .ref (u2.1 24), .ref (u2.1 25), .ref (u2.1 26), .ref (u2.1 27), .ref (u2.1 28), .int 0, .int 0, .int 0, .int 0, .ref (u2.1 33), .int (-1), .ref (u2.1 35), .int 0, .int 0])), ((u2.1 1), .inl (cy 0, 4, .inl (fun _ => 0))), ((u2.1 12), .inl (cy 0, 389, .inl sF)), (q_3, .inl (cy 2, 1, .inr (.inl (fun _ => (1 : Int32).toInt64))))] := hD
    refine lv_istore (lv' := [(5, .int 0), (4, .int 0), (3, .ref q_3), (2, .ref q_2), (1, .ref q_1), (0, .ref b)]) hx hb dL_law__2236 hlv (by decide) rfl (fun ls hlv => ?_)
    refine lv_aload_n hx hb dL_law__2238 rfl (lv_at hlv 3 rfl) ?_
    refine lv_aload_n hx hb dL_law__2239 rfl (lv_at hlv 5 rfl) ?_
    refine lv_iload hx hb dL_law__2240 (lv_at hlv 1 rfl) ?_
    refine lv_iconst (v := 1) hx hb dL_law__2242 (by decide) ?_
    refine lv_iadd hx hb dL_law__2243 ?_
    refine lt_i (y := 1) (by decide) ?_
    refine va_sld hx hb hX hbl hbA hS (vpd (by decide)) dL_law__2244 ?_
    refine lt_i (y := 3) hv1 ?_
    refine lv_aload_n hx hb dL_law__2245 rfl (lv_at hlv 5 rfl) ?_
    refine lv_iload hx hb dL_law__2246 (lv_at hlv 1 rfl) ?_
    refine lv_iconst (v := 2) hx hb dL_law__2248 (by decide) ?_
    refine lv_iadd hx hb dL_law__2249 ?_
    refine lt_i (y := 2) (by decide) ?_
    refine va_sld hx hb hX hbl hbA hS (vpd (by decide)) dL_law__2250 ?_
    refine lt_i (y := xs 2) rfl ?_
    refine cj_i (wr := [(q_3, .inl (cy 2, 1, .inr (.inl (fun _ => (1 : Int32).toInt64))))]) (va_runV (As := [.int 3, .int (xs 2)]) (rest := []) ⟨hx, hb, hml, hown, hts⟩ (m_share3 l hl D cy sa q_2 u2.1 (xs 2) H.size) (cwV 2 hts gl_m_share3 rfl rfl rfl (by decide +kernel) ⟨Nat.le_of_ble_eq_true rfl, Nat.le_of_ble_eq_true rfl⟩) ⟨pcW.blind, (va_recv hG.1 hP (ci := 12) (q0 := 0) rfl rfl), (pcW.mk hP hD hS hA hG hT [0, 1, 2] rfl (by decide))⟩ rfl rfl hlv.1 rfl (lv_room (Nat.le_of_ble_eq_true rfl)) dL_law__2251 ⟨Nat.le_of_ble_eq_true rfl, Nat.le_of_ble_eq_true rfl⟩) hP hD hS hA [0, 1, 2] [3] rfl rfl (by decide) (by decide) (fun r4 u4 H locs hw4 hP hD hS => ?_)
    rcases hw4 with ⟨hg4, rfl, he4_0⟩ | ⟨hg4, rfl, he4_0⟩
    · exact absurd hg4 (fun q => absurd hg3.2 q)
    · rw [he4_0] at hP hD
      have hP : va_P D vwCl [(q_3, .inl (cy 2, 1, .inr (.inl (fun _ => (1 : Int32).toInt64)))), (q_2, .inr (12, [.int 0, .ref (u2.1 1), .int 0, .int 0, .int 0, .int 0, .int 0, .int 0, .int (-1), .ref (u2.1 9), .ref (u2.1 10), .ref (u2.1 11), .ref (u2.1 12), .ref (u2.1 13), .ref (u2.1 14), .ref (u2.1 15), .int 0, .int 0, .int 0, .ref (u2.1 19), .ref (u2.1 20), .ref (u2.1 21), .int 0, .ref (u2.1 23), .ref (u2.1 24), .ref (u2.1 25), .ref (u2.1 26), .ref (u2.1 27), .ref (u2.1 28), .int 0, .int 0, .int 0, .int 0, .ref (u2.1 33), .int (-1), .ref (u2.1 35), .int 0, .int 0]))] H := hP
      have hD : va_D A [(q_3, .inl (cy 2, 1, .inr (.inl (fun _ => (1 : Int32).toInt64)))), (q_2, .inr (12, [.int 0, .ref (u2.1 1), .int 0, .int 0, .int 0, .int 0, .int 0, .int 0, .int (-1), .ref (u2.1 9), .ref (u2.1 10), .ref (u2.1 11), .ref (u2.1 12), .ref (u2.1 13), .ref (u2.1 14), .ref (u2.1 15), .int 0, .int 0, .int 0, .ref (u2.1 19), .ref (u2.1 20), .ref (u2.1 21), .int 0, .ref (u2.1 23), .ref (u2.1 24), .ref (u2.1 25), .ref (u2.1 26), .ref (u2.1 27), .ref (u2.1 28), .int 0, .int 0, .int 0, .int 0, .ref (u2.1 33), .int (-1), .ref (u2.1 35), .int 0, .int 0]))] := hD
      refine lv_istore (lv' := [(6, .int 1), (5, .int 0), (4, .int 0), (3, .ref q_3), (2, .ref q_2), (1, .ref q_1), (0, .ref b)]) hx hb dL_law__2254 hlv (by decide) rfl (fun ls hlv => ?_)
      refine lv_aload_n hx hb dL_law__2256 rfl (lv_at hlv 4 rfl) ?_
      refine cj_i (wr := [(q_3, .inl (cy 2, 1, .inr (.inl (fun _ => (1 : Int32).toInt64))))]) (va_runV (As := []) (rest := []) ⟨hx, hb, hml, hown, hts⟩ (c_thrown l hl D cy sa q_2 u2.1 0 0 0 0 0 0 0 (-1) 0 0 0 0 0 0 0 0 (-1) 0 0 H.size) (cwV 0 hts gl_c_thrown rfl rfl rfl (by decide +kernel) ⟨Nat.le_of_ble_eq_true rfl, Nat.le_of_ble_eq_true rfl⟩) ⟨pcW.blind, (va_recv hG.1 hP (ci := 12) (q0 := 1) rfl rfl), (pcW.mk hP hD hS hA hG hT [1] rfl (by decide))⟩ rfl rfl hlv.1 rfl (lv_room (Nat.le_of_ble_eq_true rfl)) dL_law__2257 ⟨Nat.le_of_ble_eq_true rfl, Nat.le_of_ble_eq_true rfl⟩) hP hD hS hA [1] [0] rfl rfl (by decide) (by decide) (fun r5 u5 H locs hw5 hP hD hS => ?_)
      obtain rfl := hw5
      have hP : va_P D vwCl [(q_3, .inl (cy 2, 1, .inr (.inl (fun _ => (1 : Int32).toInt64))))] H := hP
      have hD : va_D A [(q_3, .inl (cy 2, 1, .inr (.inl (fun _ => (1 : Int32).toInt64))))] := hD
      refine lv_iload hx hb dL_law__2260 (lv_at hlv 1 rfl) ?_
      refine lv_icmp_eq (tgt := 2267) hx hb dL_law__2262 (by decide) (fun _ => ?_) (fun c => absurd (by decide) c)
      refine lv_iload hx hb dL_law__2267 (lv_at hlv 1 rfl) ?_
      refine lv_if_ne (tgt := 2284) hx hb dL_law__2269 (by decide) (fun c => absurd (by decide) c) (fun _ => ?_)
      refine lv_aload_n hx hb dL_law__2272 rfl (lv_at hlv 3 rfl) ?_
      refine lv_iconst (v := 0) hx hb dL_law__2273 (by decide) ?_
      refine va_lald hx hb hG.1 hP 0 2 rfl rfl (vpd (by decide)) dL_law__2274 ?_
      refine ltv (y := .long ((1 : Int32).toInt64)) rfl ?_
      refine lv_iload hx hb dL_law__2275 (lv_at hlv 0 rfl) ?_
      refine lv_i2l (v := (1 : Int32).toInt64) hx hb dL_law__2277 rfl ?_
      refine W.lcmp hx hb dL_law__2278 ?_
      refine lt_i (y := 0) (lcmp_self _) ?_
      refine lv_if_eq (tgt := 2284) hx hb dL_law__2279 (by decide) (fun _ => ?_) (fun c => absurd (by decide) c)
      refine lv_goto (tgt := 2755) hx hb dL_law__2284 (by decide) ?_
      refine lv_iinc (v := 10) (lv' := [(4, .int 10), (6, .int 1), (5, .int 0), (3, .ref q_3), (2, .ref q_2), (1, .ref q_1), (0, .ref b)]) hx hb dL_law__2755 hlv (k := 2) rfl (by decide) (by decide) rfl (fun ls hlv => ?_)
      refine lv_goto (tgt := 23) hx hb dL_law__2758 (by decide) ?_
      refine lv_iload hx hb dL_law__23 (lv_at hlv 0 rfl) ?_
      refine lv_aload_n hx hb dL_law__25 rfl (lv_at hlv 6 rfl) ?_
      refine va_slen hx hb hX hbl hbA hS dL_law__26 ?_
      refine lt_i (y := 10) (by decide) ?_
      refine lv_bipush (v := 10) hx hb dL_law__27 (by decide) ?_
      refine lv_isub hx hb dL_law__29 ?_
      refine lt_i (y := 0) (by decide) ?_
      refine lv_icmp_gt (tgt := 2761) hx hb dL_law__30 (by decide) (fun _ => ?_) (fun c => absurd (by decide) c)
      refine lv_iconst (v := 1) hx hb dL_law__2761 (by decide) ?_
      refine va_forget (fun q hq => by have h9 := hS.2.2 q hq; rw [hAe] at h9; exact h9) ?_
      refine W.widen (k := 600002) (n := 7302232) (Nat.le_of_ble_eq_true rfl) (Nat.le_of_ble_eq_true rfl) ?_
      exact lw_ret hx hb hr hlocks dL_law__2762
  · have hP : va_P D vwCl [(q_2, .inr (12, [.int 0, .ref (u2.1 1), .int 0, .int 0, .int 0, .int 0, .int 0, .int 0, .int (-1), .ref (u2.1 9), .ref (u2.1 10), .ref (u2.1 11), .ref (u2.1 12), .ref (u2.1 13), .ref (u2.1 14), .ref (u2.1 15), .int 0, .int 0, .int 0, .ref (u2.1 19), .ref (u2.1 20), .ref (u2.1 21), .int 0, .ref (u2.1 23), .ref (u2.1 24), .ref (u2.1 25), .ref (u2.1 26), .ref (u2.1 27), .ref (u2.1 28), .int 0, .int 0, .int 0, .int 0, .ref (u2.1 33), .int (-1), .ref (u2.1 35), .int 0, .int 0])), ((u2.1 1), .inl (cy 0, 4, .inl (fun _ => 0))), ((u2.1 12), .inl (cy 0, 389, .inl sF)), (q_3, .inl (cy 2, 1, .inr (.inl (fun _ => (u3.2.1 0 : Int32).toInt64))))] H := hP
    have hD : va_D A [(q_2, .inr (12, [.int 0, .ref (u2.1 1), .int 0, .int 0, .int 0, .int 0, .int 0, .int 0, .int (-1), .ref (u2.1 9), .ref (u2.1 10), .ref (u2.1 11), .ref (u2.1 12), .ref (u2.1 13), .ref (u2.1 14), .ref (u2.1 15), .int 0, .int 0, .int 0, .ref (u2.1 19), .ref (u2.1 20), .ref (u2.1 21), .int 0, .ref (u2.1 23), .ref (u2.1 24), .ref (u2.1 25), .ref (u2.1 26), .ref (u2.1 27), .ref (u2.1 28), .int 0, .int 0, .int 0, .int 0, .ref (u2.1 33), .int (-1), .ref (u2.1 35), .int 0, .int 0])), ((u2.1 1), .inl (cy 0, 4, .inl (fun _ => 0))), ((u2.1 12), .inl (cy 0, 389, .inl sF)), (q_3, .inl (cy 2, 1, .inr (.inl (fun _ => (u3.2.1 0 : Int32).toInt64))))] := hD
    refine lv_istore (lv' := [(5, .int 1), (4, .int 0), (3, .ref q_3), (2, .ref q_2), (1, .ref q_1), (0, .ref b)]) hx hb dL_law__2236 hlv (by decide) rfl (fun ls hlv => ?_)
    refine lv_aload_n hx hb dL_law__2238 rfl (lv_at hlv 3 rfl) ?_
    refine lv_aload_n hx hb dL_law__2239 rfl (lv_at hlv 5 rfl) ?_
    refine lv_iload hx hb dL_law__2240 (lv_at hlv 1 rfl) ?_
    refine lv_iconst (v := 1) hx hb dL_law__2242 (by decide) ?_
    refine lv_iadd hx hb dL_law__2243 ?_
    refine lt_i (y := 1) (by decide) ?_
    refine va_sld hx hb hX hbl hbA hS (vpd (by decide)) dL_law__2244 ?_
    refine lt_i (y := 3) hv1 ?_
    refine lv_aload_n hx hb dL_law__2245 rfl (lv_at hlv 5 rfl) ?_
    refine lv_iload hx hb dL_law__2246 (lv_at hlv 1 rfl) ?_
    refine lv_iconst (v := 2) hx hb dL_law__2248 (by decide) ?_
    refine lv_iadd hx hb dL_law__2249 ?_
    refine lt_i (y := 2) (by decide) ?_
    refine va_sld hx hb hX hbl hbA hS (vpd (by decide)) dL_law__2250 ?_
    refine lt_i (y := xs 2) rfl ?_
    refine cj_i (wr := [(q_3, .inl (cy 2, 1, .inr (.inl (fun _ => (u3.2.1 0 : Int32).toInt64))))]) (va_runV (As := [.int 3, .int (xs 2)]) (rest := []) ⟨hx, hb, hml, hown, hts⟩ (m_share3 l hl D cy sa q_2 u2.1 (xs 2) H.size) (cwV 2 hts gl_m_share3 rfl rfl rfl (by decide +kernel) ⟨Nat.le_of_ble_eq_true rfl, Nat.le_of_ble_eq_true rfl⟩) ⟨pcW.blind, (va_recv hG.1 hP (ci := 12) (q0 := 0) rfl rfl), (pcW.mk hP hD hS hA hG hT [0, 1, 2] rfl (by decide))⟩ rfl rfl hlv.1 rfl (lv_room (Nat.le_of_ble_eq_true rfl)) dL_law__2251 ⟨Nat.le_of_ble_eq_true rfl, Nat.le_of_ble_eq_true rfl⟩) hP hD hS hA [0, 1, 2] [3] rfl rfl (by decide) (by decide) (fun r6 u6 H locs hw6 hP hD hS => ?_)
    rcases hw6 with ⟨hg6, rfl, he6_0⟩ | ⟨hg6, rfl, he6_0⟩
    · rw [he6_0] at hP hD
      have hP : va_P D vwCl [(q_3, .inl (cy 2, 1, .inr (.inl (fun _ => (u3.2.1 0 : Int32).toInt64)))), (q_2, .inr (12, [.int 1, .ref (u2.1 1), .int 0, .int 0, .int 0, .int 0, .int 0, .int 0, .int (-1), .ref (u2.1 9), .ref (u2.1 10), .ref (u2.1 11), .ref (u2.1 12), .ref (u2.1 13), .ref (u2.1 14), .ref (u2.1 15), .int 0, .int 0, .int 0, .ref (u2.1 19), .ref (u2.1 20), .ref (u2.1 21), .int 0, .ref (u2.1 23), .ref (u2.1 24), .ref (u2.1 25), .ref (u2.1 26), .ref (u2.1 27), .ref (u2.1 28), .int 0, .int 0, .int 0, .int 0, .ref (u2.1 33), .int (-1), .ref (u2.1 35), .int 0, .int 0]))] H := hP
      have hD : va_D A [(q_3, .inl (cy 2, 1, .inr (.inl (fun _ => (u3.2.1 0 : Int32).toInt64)))), (q_2, .inr (12, [.int 1, .ref (u2.1 1), .int 0, .int 0, .int 0, .int 0, .int 0, .int 0, .int (-1), .ref (u2.1 9), .ref (u2.1 10), .ref (u2.1 11), .ref (u2.1 12), .ref (u2.1 13), .ref (u2.1 14), .ref (u2.1 15), .int 0, .int 0, .int 0, .ref (u2.1 19), .ref (u2.1 20), .ref (u2.1 21), .int 0, .ref (u2.1 23), .ref (u2.1 24), .ref (u2.1 25), .ref (u2.1 26), .ref (u2.1 27), .ref (u2.1 28), .int 0, .int 0, .int 0, .int 0, .ref (u2.1 33), .int (-1), .ref (u2.1 35), .int 0, .int 0]))] := hD
      refine lv_istore (lv' := [(6, .int 0), (5, .int 1), (4, .int 0), (3, .ref q_3), (2, .ref q_2), (1, .ref q_1), (0, .ref b)]) hx hb dL_law__2254 hlv (by decide) rfl (fun ls hlv => ?_)
      refine lv_aload_n hx hb dL_law__2256 rfl (lv_at hlv 4 rfl) ?_
      refine cj_i (wr := [(q_3, .inl (cy 2, 1, .inr (.inl (fun _ => (u3.2.1 0 : Int32).toInt64))))]) (va_runV (As := []) (rest := []) ⟨hx, hb, hml, hown, hts⟩ (c_thrown l hl D cy sa q_2 u2.1 1 0 0 0 0 0 0 (-1) 0 0 0 0 0 0 0 0 (-1) 0 0 H.size) (cwV 0 hts gl_c_thrown rfl rfl rfl (by decide +kernel) ⟨Nat.le_of_ble_eq_true rfl, Nat.le_of_ble_eq_true rfl⟩) ⟨pcW.blind, (va_recv hG.1 hP (ci := 12) (q0 := 1) rfl rfl), (pcW.mk hP hD hS hA hG hT [1] rfl (by decide))⟩ rfl rfl hlv.1 rfl (lv_room (Nat.le_of_ble_eq_true rfl)) dL_law__2257 ⟨Nat.le_of_ble_eq_true rfl, Nat.le_of_ble_eq_true rfl⟩) hP hD hS hA [1] [0] rfl rfl (by decide) (by decide) (fun r7 u7 H locs hw7 hP hD hS => ?_)
      obtain rfl := hw7
      have hP : va_P D vwCl [(q_3, .inl (cy 2, 1, .inr (.inl (fun _ => (u3.2.1 0 : Int32).toInt64))))] H := hP
      have hD : va_D A [(q_3, .inl (cy 2, 1, .inr (.inl (fun _ => (u3.2.1 0 : Int32).toInt64))))] := hD
      refine lv_iload hx hb dL_law__2260 (lv_at hlv 1 rfl) ?_
      refine lv_icmp_eq (tgt := 2267) hx hb dL_law__2262 (by decide) (fun _ => ?_) (fun c => absurd (by decide) c)
      refine lv_iload hx hb dL_law__2267 (lv_at hlv 1 rfl) ?_
      refine lv_if_ne (tgt := 2284) hx hb dL_law__2269 (by decide) (fun _ => ?_) (fun c => absurd c (by decide))
      refine lv_goto (tgt := 2755) hx hb dL_law__2284 (by decide) ?_
      refine lv_iinc (v := 10) (lv' := [(4, .int 10), (6, .int 0), (5, .int 1), (3, .ref q_3), (2, .ref q_2), (1, .ref q_1), (0, .ref b)]) hx hb dL_law__2755 hlv (k := 2) rfl (by decide) (by decide) rfl (fun ls hlv => ?_)
      refine lv_goto (tgt := 23) hx hb dL_law__2758 (by decide) ?_
      refine lv_iload hx hb dL_law__23 (lv_at hlv 0 rfl) ?_
      refine lv_aload_n hx hb dL_law__25 rfl (lv_at hlv 6 rfl) ?_
      refine va_slen hx hb hX hbl hbA hS dL_law__26 ?_
      refine lt_i (y := 10) (by decide) ?_
      refine lv_bipush (v := 10) hx hb dL_law__27 (by decide) ?_
      refine lv_isub hx hb dL_law__29 ?_
      refine lt_i (y := 0) (by decide) ?_
      refine lv_icmp_gt (tgt := 2761) hx hb dL_law__30 (by decide) (fun _ => ?_) (fun c => absurd (by decide) c)
      refine lv_iconst (v := 1) hx hb dL_law__2761 (by decide) ?_
      refine va_forget (fun q hq => by have h9 := hS.2.2 q hq; rw [hAe] at h9; exact h9) ?_
      refine W.widen (k := 600002) (n := 7302232) (Nat.le_of_ble_eq_true rfl) (Nat.le_of_ble_eq_true rfl) ?_
      exact lw_ret hx hb hr hlocks dL_law__2762
    · exact absurd hg6 (fun q => hg3 ⟨(by decide), q⟩)
set_option maxHeartbeats 4000000 in
set_option maxRecDepth 100000 in
theorem law_sharex {p : Program} {e : Env} {s : State} {m : MethodId} {below : List Frame} {meth : Method} {c : Code} (l : Launch) (hl : l.stackTraces = false) {b : Nat} {xs : Nat → Int32} {D : va_G} {cy : Nat → ClassId} {sa : Nat → Nat} {A : Nat → Prop} (hAe : A = fun q => s.heap.size ≤ q) (C0 : lw_At p s m meth c b 10 xs) (hG : GC D cy sa s) (hT : TH A s s.heap) (h63 : xs 0 &&& 63 = 28) (hv : ¬ (0 ≤ (xs 1) ∧ (xs 1) ≤ 3)) : W p l e room_1 s m #[Value.ref b] below meth c s.heap [] 0 0 (lw_Z below #[Value.ref b] s) (entryFrame m ([Value.ref b] : List Value).toArray 7) := by
  obtain ⟨hx, hb, hr, hml, hown0, hts0, hX, hbl, hlocks, hgv⟩ := id C0
  have hown : s.vm.findClass RL = some m.cls := hown0
  have hts := hts0
  have hA : ∀ q : Nat, s.heap.size ≤ q → A q := fun q h => by rw [hAe]; exact h
  have hbA : ¬ A b := by rw [hAe]; exact Nat.not_le.mpr hbl
  have hS : va_S A s.heap s.heap [] := va_S.rf
  have hP : va_P D vwCl [] s.heap := fun k q h => by simp at h
  have hD : va_D A [] := ⟨fun i j p q h => by simp at h, fun k q h => by simp at h⟩
  have hl0 := lv_entry ([.ref b]) (n := 7) (Nat.le_of_ble_eq_true rfl)
  rw [lg_entry_eq]
  generalize (lg_sl ([.ref b]) ++ List.replicate (7 - (lg_sl ([.ref b])).length) Slot.unset).toArray = ls at hl0 ⊢
  have hlv : lv_has ls 7 [(0, .ref b)] := hl0
  have cl8 := hts (.classLink RL 8 RX11) lwd_0
  have in11 := hts (.instantiable RX11 14) lwd_1
  have ini11 := hts (.initialized RX11) lwd_2
  have ini_RX11 := hts (.initialized RX11) lwd_2
  have ml117 := hts (.methodLink RL 117 yX11_init) lwd_3
  have im_X11_init := hts (.instanceMethod yX11_init) lwd_4
  have cl118 := hts (.classLink RL 118 RX12) lwd_5
  have in12 := hts (.instantiable RX12 38) lwd_6
  have ini12 := hts (.initialized RX12) lwd_7
  have ini_RX12 := hts (.initialized RX12) lwd_7
  have ml120 := hts (.methodLink RL 120 yX12_init) lwd_8
  have im_X12_init := hts (.instanceMethod yX12_init) lwd_9
  have ac2 := hts (.arrayClass .long) lwd_10
  refine va_new (ci := 11) (fs := [.null, .null, .null, .int 0, .int 0, .null, .null, .null, .null, .null, .int 0, .null, .null, .null]) (C := RX11) (T := TX11) (N := 14) hx hb hts inX11 tyX11 tyX11_ok hown cl8 in11 ini11 hG.1 hP hD hS hA rfl (by decide) (Nat.le_of_ble_eq_true rfl) (Nat.le_of_ble_eq_true rfl) dL_law__0 (fun q_1 H hP hD hS => ?_)
  have hP : va_P D vwCl [(q_1, .inr (11, [.null, .null, .null, .int 0, .int 0, .null, .null, .null, .null, .null, .int 0, .null, .null, .null]))] H := hP
  have hD : va_D A [(q_1, .inr (11, [.null, .null, .null, .int 0, .int 0, .null, .null, .null, .null, .null, .int 0, .null, .null, .null]))] := hD
  refine lv_dup hx hb dL_law__3 rfl ?_
  refine cj_v (wr := []) (va_runI (As := []) (rest := [.ref q_1]) ⟨hx, hb, hml, hown, hts⟩ (c_K_sharex l hl D cy sa q_1 H.size) (cwI 0 hts gl_X11_init rfl rfl rfl ini_RX11 ml117 im_X11_init rfl (by decide +kernel) ⟨Nat.le_of_ble_eq_true rfl, Nat.le_of_ble_eq_true rfl⟩) ⟨pcW.blind, (pcW.mk hP hD hS hA hG hT [0] rfl (by decide))⟩ rfl rfl hlv.1 rfl (lv_room (Nat.le_of_ble_eq_true rfl)) dL_law__4 ⟨Nat.le_of_ble_eq_true rfl, Nat.le_of_ble_eq_true rfl⟩) hP hD hS hA [0] [] rfl rfl (by decide) (by decide) (fun u1 H locs hw1 hP hD hS => ?_)
  have hP : va_P D vwCl [(q_1, .inr (11, [.ref (u1.1 0), .ref (u1.1 1), .ref (u1.1 2), .int 0, .int 0, .ref (u1.1 5), .ref (u1.1 6), .ref (u1.1 7), .ref (u1.1 8), .ref (u1.1 9), .int 0, .ref (u1.1 11), .ref (u1.1 12), .ref (u1.1 13)])), ((u1.1 7), .inr (4, [.int 0, .ref (u1.1 41), .int 0, .ref (u1.1 42), .ref (u1.1 43)])), ((u1.1 43), .inl (cy 0, 4, .inl shF)), ((u1.1 13), .inl (cy 0, 4, .inl (fun _ => 0)))] H := hP
  have hD : va_D A [(q_1, .inr (11, [.ref (u1.1 0), .ref (u1.1 1), .ref (u1.1 2), .int 0, .int 0, .ref (u1.1 5), .ref (u1.1 6), .ref (u1.1 7), .ref (u1.1 8), .ref (u1.1 9), .int 0, .ref (u1.1 11), .ref (u1.1 12), .ref (u1.1 13)])), ((u1.1 7), .inr (4, [.int 0, .ref (u1.1 41), .int 0, .ref (u1.1 42), .ref (u1.1 43)])), ((u1.1 43), .inl (cy 0, 4, .inl shF)), ((u1.1 13), .inl (cy 0, 4, .inl (fun _ => 0)))] := hD
  refine lv_astore_n (lv' := [(1, .ref q_1), (0, .ref b)]) hx hb dL_law__7 rfl hlv (by decide) rfl (fun ls hlv => ?_)
  refine va_new (ci := 12) (fs := [.int 0, .null, .int 0, .int 0, .int 0, .int 0, .int 0, .int 0, .int 0, .null, .null, .null, .null, .null, .null, .null, .int 0, .int 0, .int 0, .null, .null, .null, .int 0, .null, .null, .null, .null, .null, .null, .int 0, .int 0, .int 0, .int 0, .null, .int 0, .null, .int 0, .int 0]) (C := RX12) (T := TX12) (N := 38) hx hb hts inX12 tyX12 tyX12_ok hown cl118 in12 ini12 hG.1 hP hD hS hA rfl (by decide) (Nat.le_of_ble_eq_true rfl) (Nat.le_of_ble_eq_true rfl) dL_law__8 (fun q_2 H hP hD hS => ?_)
  have hP : va_P D vwCl [(q_1, .inr (11, [.ref (u1.1 0), .ref (u1.1 1), .ref (u1.1 2), .int 0, .int 0, .ref (u1.1 5), .ref (u1.1 6), .ref (u1.1 7), .ref (u1.1 8), .ref (u1.1 9), .int 0, .ref (u1.1 11), .ref (u1.1 12), .ref (u1.1 13)])), ((u1.1 7), .inr (4, [.int 0, .ref (u1.1 41), .int 0, .ref (u1.1 42), .ref (u1.1 43)])), ((u1.1 43), .inl (cy 0, 4, .inl shF)), ((u1.1 13), .inl (cy 0, 4, .inl (fun _ => 0))), (q_2, .inr (12, [.int 0, .null, .int 0, .int 0, .int 0, .int 0, .int 0, .int 0, .int 0, .null, .null, .null, .null, .null, .null, .null, .int 0, .int 0, .int 0, .null, .null, .null, .int 0, .null, .null, .null, .null, .null, .null, .int 0, .int 0, .int 0, .int 0, .null, .int 0, .null, .int 0, .int 0]))] H := hP
  have hD : va_D A [(q_1, .inr (11, [.ref (u1.1 0), .ref (u1.1 1), .ref (u1.1 2), .int 0, .int 0, .ref (u1.1 5), .ref (u1.1 6), .ref (u1.1 7), .ref (u1.1 8), .ref (u1.1 9), .int 0, .ref (u1.1 11), .ref (u1.1 12), .ref (u1.1 13)])), ((u1.1 7), .inr (4, [.int 0, .ref (u1.1 41), .int 0, .ref (u1.1 42), .ref (u1.1 43)])), ((u1.1 43), .inl (cy 0, 4, .inl shF)), ((u1.1 13), .inl (cy 0, 4, .inl (fun _ => 0))), (q_2, .inr (12, [.int 0, .null, .int 0, .int 0, .int 0, .int 0, .int 0, .int 0, .int 0, .null, .null, .null, .null, .null, .null, .null, .int 0, .int 0, .int 0, .null, .null, .null, .int 0, .null, .null, .null, .null, .null, .null, .int 0, .int 0, .int 0, .int 0, .null, .int 0, .null, .int 0, .int 0]))] := hD
  refine lv_dup hx hb dL_law__11 rfl ?_
  refine cj_v (wr := [(q_1, .inr (11, [.ref (u1.1 0), .ref (u1.1 1), .ref (u1.1 2), .int 0, .int 0, .ref (u1.1 5), .ref (u1.1 6), .ref (u1.1 7), .ref (u1.1 8), .ref (u1.1 9), .int 0, .ref (u1.1 11), .ref (u1.1 12), .ref (u1.1 13)])), ((u1.1 7), .inr (4, [.int 0, .ref (u1.1 41), .int 0, .ref (u1.1 42), .ref (u1.1 43)])), ((u1.1 43), .inl (cy 0, 4, .inl shF)), ((u1.1 13), .inl (cy 0, 4, .inl (fun _ => 0)))]) (va_runI (As := []) (rest := [.ref q_2]) ⟨hx, hb, hml, hown, hts⟩ (c_M_sharex l hl D cy sa q_2 H.size) (cwI 0 hts gl_X12_init rfl rfl rfl ini_RX12 ml120 im_X12_init rfl (by decide +kernel) ⟨Nat.le_of_ble_eq_true rfl, Nat.le_of_ble_eq_true rfl⟩) ⟨pcW.blind, (pcW.mk hP hD hS hA hG hT [4] rfl (by decide))⟩ rfl rfl hlv.1 rfl (lv_room (Nat.le_of_ble_eq_true rfl)) dL_law__12 ⟨Nat.le_of_ble_eq_true rfl, Nat.le_of_ble_eq_true rfl⟩) hP hD hS hA [4] [0, 1, 2, 3] rfl rfl (by decide) (by decide) (fun u2 H locs hw2 hP hD hS => ?_)
  have hP : va_P D vwCl [(q_1, .inr (11, [.ref (u1.1 0), .ref (u1.1 1), .ref (u1.1 2), .int 0, .int 0, .ref (u1.1 5), .ref (u1.1 6), .ref (u1.1 7), .ref (u1.1 8), .ref (u1.1 9), .int 0, .ref (u1.1 11), .ref (u1.1 12), .ref (u1.1 13)])), ((u1.1 7), .inr (4, [.int 0, .ref (u1.1 41), .int 0, .ref (u1.1 42), .ref (u1.1 43)])), ((u1.1 43), .inl (cy 0, 4, .inl shF)), ((u1.1 13), .inl (cy 0, 4, .inl (fun _ => 0))), (q_2, .inr (12, [.int 0, .ref (u2.1 1), .int 0, .int 0, .int 0, .int 0, .int 0, .int 0, .int (-1), .ref (u2.1 9), .ref (u2.1 10), .ref (u2.1 11), .ref (u2.1 12), .ref (u2.1 13), .ref (u2.1 14), .ref (u2.1 15), .int 0, .int 0, .int 0, .ref (u2.1 19), .ref (u2.1 20), .ref (u2.1 21), .int 0, .ref (u2.1 23), .ref (u2.1 24), .ref (u2.1 25), .ref (u2.1 26), .ref (u2.1 27), .ref (u2.1 28), .int 0, .int 0, .int 0, .int 0, .ref (u2.1 33), .int (-1), .ref (u2.1 35), .int 0, .int 0])), ((u2.1 1), .inl (cy 0, 4, .inl (fun _ => 0)))] H := hP
  have hD : va_D A [(q_1, .inr (11, [.ref (u1.1 0), .ref (u1.1 1), .ref (u1.1 2), .int 0, .int 0, .ref (u1.1 5), .ref (u1.1 6), .ref (u1.1 7), .ref (u1.1 8), .ref (u1.1 9), .int 0, .ref (u1.1 11), .ref (u1.1 12), .ref (u1.1 13)])), ((u1.1 7), .inr (4, [.int 0, .ref (u1.1 41), .int 0, .ref (u1.1 42), .ref (u1.1 43)])), ((u1.1 43), .inl (cy 0, 4, .inl shF)), ((u1.1 13), .inl (cy 0, 4, .inl (fun _ => 0))), (q_2, .inr (12, [.int 0, .ref (u2.1 1), .int 0, .int 0, .int 0, .int 0, .int 0, .int 0, .int (-1), .ref (u2.1 9), .ref (u2.1 10), .ref (u2.1 11), .ref (u2.1 12), .ref (u2.1 13), .ref (u2.1 14), .ref (u2.1 15), .int 0, .int 0, .int 0, .ref (u2.1 19), .ref (u2.1 20), .ref (u2.1 21), .int 0, .ref (u2.1 23), .ref (u2.1 24), .ref (u2.1 25), .ref (u2.1 26), .ref (u2.1 27), .ref (u2.1 28), .int 0, .int 0, .int 0, .int 0, .ref (u2.1 33), .int (-1), .ref (u2.1 35), .int 0, .int 0])), ((u2.1 1), .inl (cy 0, 4, .inl (fun _ => 0)))] := hD
  refine lv_astore_n (lv' := [(2, .ref q_2), (1, .ref q_1), (0, .ref b)]) hx hb dL_law__15 rfl hlv (by decide) rfl (fun ls hlv => ?_)
  refine lv_iconst (v := 1) hx hb dL_law__16 (by decide) ?_
  refine nw_a (atype := .long) (cy := cy) (a0 := (1, .inr (.inl (fun _ => 0)))) (N' := 1) hx hb ac2 (ty := .long) rfl 2 rfl (fun C h => nomatch h) hG.1 hP hD hS hA (fun cA => rfl) (by decide) (by decide) (Nat.le_of_ble_eq_true rfl) (Nat.le_of_ble_eq_true rfl) (Nat.le_of_ble_eq_true rfl) dL_law__17 (fun q_3 H hP hD hS => ?_)
  have hP : va_P D vwCl [(q_1, .inr (11, [.ref (u1.1 0), .ref (u1.1 1), .ref (u1.1 2), .int 0, .int 0, .ref (u1.1 5), .ref (u1.1 6), .ref (u1.1 7), .ref (u1.1 8), .ref (u1.1 9), .int 0, .ref (u1.1 11), .ref (u1.1 12), .ref (u1.1 13)])), ((u1.1 7), .inr (4, [.int 0, .ref (u1.1 41), .int 0, .ref (u1.1 42), .ref (u1.1 43)])), ((u1.1 43), .inl (cy 0, 4, .inl shF)), ((u1.1 13), .inl (cy 0, 4, .inl (fun _ => 0))), (q_2, .inr (12, [.int 0, .ref (u2.1 1), .int 0, .int 0, .int 0, .int 0, .int 0, .int 0, .int (-1), .ref (u2.1 9), .ref (u2.1 10), .ref (u2.1 11), .ref (u2.1 12), .ref (u2.1 13), .ref (u2.1 14), .ref (u2.1 15), .int 0, .int 0, .int 0, .ref (u2.1 19), .ref (u2.1 20), .ref (u2.1 21), .int 0, .ref (u2.1 23), .ref (u2.1 24), .ref (u2.1 25), .ref (u2.1 26), .ref (u2.1 27), .ref (u2.1 28), .int 0, .int 0, .int 0, .int 0, .ref (u2.1 33), .int (-1), .ref (u2.1 35), .int 0, .int 0])), ((u2.1 1), .inl (cy 0, 4, .inl (fun _ => 0))), (q_3, .inl (cy 2, 1, .inr (.inl (fun _ => 0))))] H := hP
  have hD : va_D A [(q_1, .inr (11, [.ref (u1.1 0), .ref (u1.1 1), .ref (u1.1 2), .int 0, .int 0, .ref (u1.1 5), .ref (u1.1 6), .ref (u1.1 7), .ref (u1.1 8), .ref (u1.1 9), .int 0, .ref (u1.1 11), .ref (u1.1 12), .ref (u1.1 13)])), ((u1.1 7), .inr (4, [.int 0, .ref (u1.1 41), .int 0, .ref (u1.1 42), .ref (u1.1 43)])), ((u1.1 43), .inl (cy 0, 4, .inl shF)), ((u1.1 13), .inl (cy 0, 4, .inl (fun _ => 0))), (q_2, .inr (12, [.int 0, .ref (u2.1 1), .int 0, .int 0, .int 0, .int 0, .int 0, .int 0, .int (-1), .ref (u2.1 9), .ref (u2.1 10), .ref (u2.1 11), .ref (u2.1 12), .ref (u2.1 13), .ref (u2.1 14), .ref (u2.1 15), .int 0, .int 0, .int 0, .ref (u2.1 19), .ref (u2.1 20), .ref (u2.1 21), .int 0, .ref (u2.1 23), .ref (u2.1 24), .ref (u2.1 25), .ref (u2.1 26), .ref (u2.1 27), .ref (u2.1 28), .int 0, .int 0, .int 0, .int 0, .ref (u2.1 33), .int (-1), .ref (u2.1 35), .int 0, .int 0])), ((u2.1 1), .inl (cy 0, 4, .inl (fun _ => 0))), (q_3, .inl (cy 2, 1, .inr (.inl (fun _ => 0))))] := hD
  refine lv_astore_n (lv' := [(3, .ref q_3), (2, .ref q_2), (1, .ref q_1), (0, .ref b)]) hx hb dL_law__19 rfl hlv (by decide) rfl (fun ls hlv => ?_)
  refine lv_iconst (v := 0) hx hb dL_law__20 (by decide) ?_
  refine lv_istore (lv' := [(4, .int 0), (3, .ref q_3), (2, .ref q_2), (1, .ref q_1), (0, .ref b)]) hx hb dL_law__21 hlv (by decide) rfl (fun ls hlv => ?_)
  refine lv_iload hx hb dL_law__23 (lv_at hlv 0 rfl) ?_
  refine lv_aload_n hx hb dL_law__25 rfl (lv_at hlv 4 rfl) ?_
  refine va_slen hx hb hX hbl hbA hS dL_law__26 ?_
  refine lt_i (y := 10) (by decide) ?_
  refine lv_bipush (v := 10) hx hb dL_law__27 (by decide) ?_
  refine lv_isub hx hb dL_law__29 ?_
  refine lt_i (y := 0) (by decide) ?_
  refine lv_icmp_gt (tgt := 2761) hx hb dL_law__30 (by decide) (fun c => absurd c (by decide)) (fun _ => ?_)
  refine lv_aload_n hx hb dL_law__33 rfl (lv_at hlv 4 rfl) ?_
  refine lv_iload hx hb dL_law__34 (lv_at hlv 0 rfl) ?_
  refine va_sld hx hb hX hbl hbA hS (vpd (by decide)) dL_law__36 ?_
  refine lt_i (y := xs 0) rfl ?_
  refine lv_bipush (v := 63) hx hb dL_law__37 (by decide) ?_
  refine lv_iand hx hb dL_law__39 ?_
  refine lt_i (y := 28) h63 ?_
  refine lv_tableIn (tgt := 2219) hx hb dL_law__40 (by decide) (by decide) rfl (by decide) ?_
  refine lv_aload_n hx hb dL_law__2219 rfl (lv_at hlv 3 rfl) ?_
  refine lv_aload_n hx hb dL_law__2220 rfl (lv_at hlv 4 rfl) ?_
  refine lv_iload hx hb dL_law__2221 (lv_at hlv 0 rfl) ?_
  refine lv_iconst (v := 1) hx hb dL_law__2223 (by decide) ?_
  refine lv_iadd hx hb dL_law__2224 ?_
  refine lt_i (y := 1) (by decide) ?_
  refine va_sld hx hb hX hbl hbA hS (vpd (by decide)) dL_law__2225 ?_
  refine lt_i (y := xs 1) rfl ?_
  refine lv_aload_n hx hb dL_law__2226 rfl (lv_at hlv 4 rfl) ?_
  refine lv_iload hx hb dL_law__2227 (lv_at hlv 0 rfl) ?_
  refine lv_iconst (v := 2) hx hb dL_law__2229 (by decide) ?_
  refine lv_iadd hx hb dL_law__2230 ?_
  refine lt_i (y := 2) (by decide) ?_
  refine va_sld hx hb hX hbl hbA hS (vpd (by decide)) dL_law__2231 ?_
  refine lt_i (y := xs 2) rfl ?_
  refine lv_aload_n hx hb dL_law__2232 rfl (lv_at hlv 1 rfl) ?_
  refine cj_i (wr := [(q_2, .inr (12, [.int 0, .ref (u2.1 1), .int 0, .int 0, .int 0, .int 0, .int 0, .int 0, .int (-1), .ref (u2.1 9), .ref (u2.1 10), .ref (u2.1 11), .ref (u2.1 12), .ref (u2.1 13), .ref (u2.1 14), .ref (u2.1 15), .int 0, .int 0, .int 0, .ref (u2.1 19), .ref (u2.1 20), .ref (u2.1 21), .int 0, .ref (u2.1 23), .ref (u2.1 24), .ref (u2.1 25), .ref (u2.1 26), .ref (u2.1 27), .ref (u2.1 28), .int 0, .int 0, .int 0, .int 0, .ref (u2.1 33), .int (-1), .ref (u2.1 35), .int 0, .int 0])), ((u2.1 1), .inl (cy 0, 4, .inl (fun _ => 0)))]) (vx_runSW (As := [.ref q_1, .int (xs 1), .int (xs 2), .ref q_3]) (rest := []) ⟨hx, hb, hml, hown, hts⟩ (w_share l hl D cy sa q_1 u1.1 (xs 1) (xs 2) q_3 H.size) (vx_cwSW 4 hts gl_w_share rfl rfl rfl (by decide +kernel) ⟨Nat.le_of_ble_eq_true rfl, Nat.le_of_ble_eq_true rfl⟩) ⟨pcW.blind, (pcW.mk hP hD hS hA hG hT [0, 1, 2, 3, 6] rfl (by decide))⟩ rfl rfl hlv.1 rfl (lv_room (Nat.le_of_ble_eq_true rfl)) dL_law__2233 ⟨Nat.le_of_ble_eq_true rfl, Nat.le_of_ble_eq_true rfl⟩) hP hD hS hA [0, 1, 2, 3, 6] [4, 5] rfl rfl (by decide) (by decide) (fun r3 u3 H locs hw3 hP hD hS => ?_)
  rcases hw3 with ⟨hg3, rfl, he3_0⟩ | ⟨hg3, rfl⟩
  · exact absurd hg3 (fun q => absurd q.1 hv)
  · have hP : va_P D vwCl [(q_2, .inr (12, [.int 0, .ref (u2.1 1), .int 0, .int 0, .int 0, .int 0, .int 0, .int 0, .int (-1), .ref (u2.1 9), .ref (u2.1 10), .ref (u2.1 11), .ref (u2.1 12), .ref (u2.1 13), .ref (u2.1 14), .ref (u2.1 15), .int 0, .int 0, .int 0, .ref (u2.1 19), .ref (u2.1 20), .ref (u2.1 21), .int 0, .ref (u2.1 23), .ref (u2.1 24), .ref (u2.1 25), .ref (u2.1 26), .ref (u2.1 27), .ref (u2.1 28), .int 0, .int 0, .int 0, .int 0, .ref (u2.1 33), .int (-1), .ref (u2.1 35), .int 0, .int 0])), ((u2.1 1), .inl (cy 0, 4, .inl (fun _ => 0))), (q_3, .inl (cy 2, 1, .inr (.inl (fun _ => (u3.2.1 0 : Int32).toInt64))))] H := hP
    have hD : va_D A [(q_2, .inr (12, [.int 0, .ref (u2.1 1), .int 0, .int 0, .int 0, .int 0, .int 0, .int 0, .int (-1), .ref (u2.1 9), .ref (u2.1 10), .ref (u2.1 11), .ref (u2.1 12), .ref (u2.1 13), .ref (u2.1 14), .ref (u2.1 15), .int 0, .int 0, .int 0, .ref (u2.1 19), .ref (u2.1 20), .ref (u2.1 21), .int 0, .ref (u2.1 23), .ref (u2.1 24), .ref (u2.1 25), .ref (u2.1 26), .ref (u2.1 27), .ref (u2.1 28), .int 0, .int 0, .int 0, .int 0, .ref (u2.1 33), .int (-1), .ref (u2.1 35), .int 0, .int 0])), ((u2.1 1), .inl (cy 0, 4, .inl (fun _ => 0))), (q_3, .inl (cy 2, 1, .inr (.inl (fun _ => (u3.2.1 0 : Int32).toInt64))))] := hD
    refine lv_istore (lv' := [(5, .int 1), (4, .int 0), (3, .ref q_3), (2, .ref q_2), (1, .ref q_1), (0, .ref b)]) hx hb dL_law__2236 hlv (by decide) rfl (fun ls hlv => ?_)
    refine lv_aload_n hx hb dL_law__2238 rfl (lv_at hlv 3 rfl) ?_
    refine lv_aload_n hx hb dL_law__2239 rfl (lv_at hlv 5 rfl) ?_
    refine lv_iload hx hb dL_law__2240 (lv_at hlv 1 rfl) ?_
    refine lv_iconst (v := 1) hx hb dL_law__2242 (by decide) ?_
    refine lv_iadd hx hb dL_law__2243 ?_
    refine lt_i (y := 1) (by decide) ?_
    refine va_sld hx hb hX hbl hbA hS (vpd (by decide)) dL_law__2244 ?_
    refine lt_i (y := xs 1) rfl ?_
    refine lv_aload_n hx hb dL_law__2245 rfl (lv_at hlv 5 rfl) ?_
    refine lv_iload hx hb dL_law__2246 (lv_at hlv 1 rfl) ?_
    refine lv_iconst (v := 2) hx hb dL_law__2248 (by decide) ?_
    refine lv_iadd hx hb dL_law__2249 ?_
    refine lt_i (y := 2) (by decide) ?_
    refine va_sld hx hb hX hbl hbA hS (vpd (by decide)) dL_law__2250 ?_
    refine lt_i (y := xs 2) rfl ?_
    refine cj_i (wr := [(q_3, .inl (cy 2, 1, .inr (.inl (fun _ => (u3.2.1 0 : Int32).toInt64))))]) (va_runV (As := [.int (xs 1), .int (xs 2)]) (rest := []) ⟨hx, hb, hml, hown, hts⟩ (m_sharex l hl D cy sa q_2 u2.1 (xs 1) (xs 2) H.size hv) (cwV 2 hts gl_m_sharex rfl rfl rfl (by decide +kernel) ⟨Nat.le_of_ble_eq_true rfl, Nat.le_of_ble_eq_true rfl⟩) ⟨pcW.blind, (va_recv hG.1 hP (ci := 12) (q0 := 0) rfl rfl), (pcW.mk hP hD hS hA hG hT [0, 1] rfl (by decide))⟩ rfl rfl hlv.1 rfl (lv_room (Nat.le_of_ble_eq_true rfl)) dL_law__2251 ⟨Nat.le_of_ble_eq_true rfl, Nat.le_of_ble_eq_true rfl⟩) hP hD hS hA [0, 1] [2] rfl rfl (by decide) (by decide) (fun r4 u4 H locs hw4 hP hD hS => ?_)
    obtain ⟨rfl, he4_0⟩ := hw4
    rw [he4_0] at hP hD
    have hP : va_P D vwCl [(q_3, .inl (cy 2, 1, .inr (.inl (fun _ => (u3.2.1 0 : Int32).toInt64)))), (q_2, .inr (12, [.int 1, .ref (u2.1 1), .int 0, .int 0, .int 0, .int 0, .int 0, .int 0, .int (-1), .ref (u2.1 9), .ref (u2.1 10), .ref (u2.1 11), .ref (u2.1 12), .ref (u2.1 13), .ref (u2.1 14), .ref (u2.1 15), .int 0, .int 0, .int 0, .ref (u2.1 19), .ref (u2.1 20), .ref (u2.1 21), .int 0, .ref (u2.1 23), .ref (u2.1 24), .ref (u2.1 25), .ref (u2.1 26), .ref (u2.1 27), .ref (u2.1 28), .int 0, .int 0, .int 0, .int 0, .ref (u2.1 33), .int (-1), .ref (u2.1 35), .int 0, .int 0]))] H := hP
    have hD : va_D A [(q_3, .inl (cy 2, 1, .inr (.inl (fun _ => (u3.2.1 0 : Int32).toInt64)))), (q_2, .inr (12, [.int 1, .ref (u2.1 1), .int 0, .int 0, .int 0, .int 0, .int 0, .int 0, .int (-1), .ref (u2.1 9), .ref (u2.1 10), .ref (u2.1 11), .ref (u2.1 12), .ref (u2.1 13), .ref (u2.1 14), .ref (u2.1 15), .int 0, .int 0, .int 0, .ref (u2.1 19), .ref (u2.1 20), .ref (u2.1 21), .int 0, .ref (u2.1 23), .ref (u2.1 24), .ref (u2.1 25), .ref (u2.1 26), .ref (u2.1 27), .ref (u2.1 28), .int 0, .int 0, .int 0, .int 0, .ref (u2.1 33), .int (-1), .ref (u2.1 35), .int 0, .int 0]))] := hD
    refine lv_istore (lv' := [(6, .int 0), (5, .int 1), (4, .int 0), (3, .ref q_3), (2, .ref q_2), (1, .ref q_1), (0, .ref b)]) hx hb dL_law__2254 hlv (by decide) rfl (fun ls hlv => ?_)
    refine lv_aload_n hx hb dL_law__2256 rfl (lv_at hlv 4 rfl) ?_
    refine cj_i (wr := [(q_3, .inl (cy 2, 1, .inr (.inl (fun _ => (u3.2.1 0 : Int32).toInt64))))]) (va_runV (As := []) (rest := []) ⟨hx, hb, hml, hown, hts⟩ (c_thrown l hl D cy sa q_2 u2.1 1 0 0 0 0 0 0 (-1) 0 0 0 0 0 0 0 0 (-1) 0 0 H.size) (cwV 0 hts gl_c_thrown rfl rfl rfl (by decide +kernel) ⟨Nat.le_of_ble_eq_true rfl, Nat.le_of_ble_eq_true rfl⟩) ⟨pcW.blind, (va_recv hG.1 hP (ci := 12) (q0 := 1) rfl rfl), (pcW.mk hP hD hS hA hG hT [1] rfl (by decide))⟩ rfl rfl hlv.1 rfl (lv_room (Nat.le_of_ble_eq_true rfl)) dL_law__2257 ⟨Nat.le_of_ble_eq_true rfl, Nat.le_of_ble_eq_true rfl⟩) hP hD hS hA [1] [0] rfl rfl (by decide) (by decide) (fun r5 u5 H locs hw5 hP hD hS => ?_)
    obtain rfl := hw5
    have hP : va_P D vwCl [(q_3, .inl (cy 2, 1, .inr (.inl (fun _ => (u3.2.1 0 : Int32).toInt64))))] H := hP
    have hD : va_D A [(q_3, .inl (cy 2, 1, .inr (.inl (fun _ => (u3.2.1 0 : Int32).toInt64))))] := hD
    refine lv_iload hx hb dL_law__2260 (lv_at hlv 1 rfl) ?_
    refine lv_icmp_eq (tgt := 2267) hx hb dL_law__2262 (by decide) (fun _ => ?_) (fun c => absurd (by decide) c)
    refine lv_iload hx hb dL_law__2267 (lv_at hlv 1 rfl) ?_
    refine lv_if_ne (tgt := 2284) hx hb dL_law__2269 (by decide) (fun _ => ?_) (fun c => absurd c (by decide))
    refine lv_goto (tgt := 2755) hx hb dL_law__2284 (by decide) ?_
    refine lv_iinc (v := 10) (lv' := [(4, .int 10), (6, .int 0), (5, .int 1), (3, .ref q_3), (2, .ref q_2), (1, .ref q_1), (0, .ref b)]) hx hb dL_law__2755 hlv (k := 2) rfl (by decide) (by decide) rfl (fun ls hlv => ?_)
    refine lv_goto (tgt := 23) hx hb dL_law__2758 (by decide) ?_
    refine lv_iload hx hb dL_law__23 (lv_at hlv 0 rfl) ?_
    refine lv_aload_n hx hb dL_law__25 rfl (lv_at hlv 6 rfl) ?_
    refine va_slen hx hb hX hbl hbA hS dL_law__26 ?_
    refine lt_i (y := 10) (by decide) ?_
    refine lv_bipush (v := 10) hx hb dL_law__27 (by decide) ?_
    refine lv_isub hx hb dL_law__29 ?_
    refine lt_i (y := 0) (by decide) ?_
    refine lv_icmp_gt (tgt := 2761) hx hb dL_law__30 (by decide) (fun _ => ?_) (fun c => absurd (by decide) c)
    refine lv_iconst (v := 1) hx hb dL_law__2761 (by decide) ?_
    refine va_forget (fun q hq => by have h9 := hS.2.2 q hq; rw [hAe] at h9; exact h9) ?_
    refine W.widen (k := 600002) (n := 7302232) (Nat.le_of_ble_eq_true rfl) (Nat.le_of_ble_eq_true rfl) ?_
    exact lw_ret hx hb hr hlocks dL_law__2762
