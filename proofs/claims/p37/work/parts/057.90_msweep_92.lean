section
theorem dX12_off_0 : decode cX12_off 0 = .ok (.iload_n 0, 1) := by decide +kernel
theorem dX12_off_1 : decode cX12_off 1 = .ok (.ifCond .ge 8, 3) := by decide +kernel
theorem dX12_off_10 : decode cX12_off 10 = .ok (.ireturn, 1) := by decide +kernel
theorem dX12_off_4 : decode cX12_off 4 = .ok (.iload_n 0, 1) := by decide +kernel
theorem dX12_off_5 : decode cX12_off 5 = .ok (.ineg, 1) := by decide +kernel
theorem dX12_off_6 : decode cX12_off 6 = .ok (.goto 4, 3) := by decide +kernel
theorem dX12_off_9 : decode cX12_off 9 = .ok (.iload_n 0, 1) := by decide +kernel
theorem dX12_sweep_0 : decode cX12_sweep 0 = .ok (.aload_n 0, 1) := by decide +kernel
theorem dX12_sweep_1 : decode cX12_sweep 1 = .ok (.iconst 0, 1) := by decide +kernel
theorem dX12_sweep_12 : decode cX12_sweep 12 = .ok (.iconst 1, 1) := by decide +kernel
theorem dX12_sweep_13 : decode cX12_sweep 13 = .ok (.iconst 2, 1) := by decide +kernel
theorem dX12_sweep_14 : decode cX12_sweep 14 = .ok (.invokevirtual 175, 3) := by decide +kernel
theorem dX12_sweep_17 : decode cX12_sweep 17 = .ok (.ifCond .ne 5, 3) := by decide +kernel
theorem dX12_sweep_2 : decode cX12_sweep 2 = .ok (.putfield 1, 3) := by decide +kernel
theorem dX12_sweep_20 : decode cX12_sweep 20 = .ok (.iconst 0, 1) := by decide +kernel
theorem dX12_sweep_21 : decode cX12_sweep 21 = .ok (.ireturn, 1) := by decide +kernel
theorem dX12_sweep_22 : decode cX12_sweep 22 = .ok (.aload_n 0, 1) := by decide +kernel
theorem dX12_sweep_23 : decode cX12_sweep 23 = .ok (.iconst (-1), 1) := by decide +kernel
theorem dX12_sweep_24 : decode cX12_sweep 24 = .ok (.putfield 409, 3) := by decide +kernel
theorem dX12_sweep_27 : decode cX12_sweep 27 = .ok (.aload_n 0, 1) := by decide +kernel
theorem dX12_sweep_28 : decode cX12_sweep 28 = .ok (.iconst 0, 1) := by decide +kernel
theorem dX12_sweep_29 : decode cX12_sweep 29 = .ok (.iconst 0, 1) := by decide +kernel
theorem dX12_sweep_30 : decode cX12_sweep 30 = .ok (.iconst 0, 1) := by decide +kernel
theorem dX12_sweep_31 : decode cX12_sweep 31 = .ok (.iconst 0, 1) := by decide +kernel
theorem dX12_sweep_32 : decode cX12_sweep 32 = .ok (.iconst 0, 1) := by decide +kernel
theorem dX12_sweep_33 : decode cX12_sweep 33 = .ok (.invokevirtual 406, 3) := by decide +kernel
theorem dX12_sweep_36 : decode cX12_sweep 36 = .ok (.iload_n 1, 1) := by decide +kernel
theorem dX12_sweep_37 : decode cX12_sweep 37 = .ok (.ifCond .ne 10, 3) := by decide +kernel
theorem dX12_sweep_40 : decode cX12_sweep 40 = .ok (.aload_n 0, 1) := by decide +kernel
theorem dX12_sweep_41 : decode cX12_sweep 41 = .ok (.getfield 409, 3) := by decide +kernel
theorem dX12_sweep_44 : decode cX12_sweep 44 = .ok (.goto 7, 3) := by decide +kernel
theorem dX12_sweep_47 : decode cX12_sweep 47 = .ok (.aload_n 0, 1) := by decide +kernel
theorem dX12_sweep_48 : decode cX12_sweep 48 = .ok (.getfield 412, 3) := by decide +kernel
theorem dX12_sweep_5 : decode cX12_sweep 5 = .ok (.aload_n 0, 1) := by decide +kernel
theorem dX12_sweep_51 : decode cX12_sweep 51 = .ok (.ireturn, 1) := by decide +kernel
theorem dX12_sweep_6 : decode cX12_sweep 6 = .ok (.iload_n 1, 1) := by decide +kernel
theorem dX12_sweep_7 : decode cX12_sweep 7 = .ok (.iconst 0, 1) := by decide +kernel
theorem dX12_sweep_8 : decode cX12_sweep 8 = .ok (.iconst 1, 1) := by decide +kernel
theorem dX12_sweep_9 : decode cX12_sweep 9 = .ok (.invokestatic 279, 3) := by decide +kernel
theorem dX12_sweeps_0 : decode cX12_sweeps 0 = .ok (.iconst 0, 1) := by decide +kernel
theorem dX12_sweeps_1 : decode cX12_sweeps 1 = .ok (.istore 6, 2) := by decide +kernel
theorem dX12_sweeps_101 : decode cX12_sweeps 101 = .ok (.iadd, 1) := by decide +kernel
theorem dX12_sweeps_102 : decode cX12_sweeps 102 = .ok (.invokevirtual 406, 3) := by decide +kernel
theorem dX12_sweeps_105 : decode cX12_sweeps 105 = .ok (.iinc 7 1, 3) := by decide +kernel
theorem dX12_sweeps_108 : decode cX12_sweeps 108 = .ok (.goto (-102), 3) := by decide +kernel
theorem dX12_sweeps_111 : decode cX12_sweeps 111 = .ok (.iload 6, 2) := by decide +kernel
theorem dX12_sweeps_113 : decode cX12_sweeps 113 = .ok (.ifCond .ne 24, 3) := by decide +kernel
theorem dX12_sweeps_116 : decode cX12_sweeps 116 = .ok (.aload_n 0, 1) := by decide +kernel
theorem dX12_sweeps_117 : decode cX12_sweeps 117 = .ok (.getfield 409, 3) := by decide +kernel
theorem dX12_sweeps_12 : decode cX12_sweeps 12 = .ok (.iconst 2, 1) := by decide +kernel
theorem dX12_sweeps_120 : decode cX12_sweeps 120 = .ok (.iconst (-1), 1) := by decide +kernel
theorem dX12_sweeps_121 : decode cX12_sweeps 121 = .ok (.if_icmp .eq 17, 3) := by decide +kernel
theorem dX12_sweeps_124 : decode cX12_sweeps 124 = .ok (.iload 4, 2) := by decide +kernel
theorem dX12_sweeps_126 : decode cX12_sweeps 126 = .ok (.iload_n 2, 1) := by decide +kernel
theorem dX12_sweeps_127 : decode cX12_sweeps 127 = .ok (.iadd, 1) := by decide +kernel
theorem dX12_sweeps_128 : decode cX12_sweeps 128 = .ok (.iload_n 3, 1) := by decide +kernel
theorem dX12_sweeps_129 : decode cX12_sweeps 129 = .ok (.iadd, 1) := by decide +kernel
theorem dX12_sweeps_13 : decode cX12_sweeps 13 = .ok (.iaload, 1) := by decide +kernel
theorem dX12_sweeps_130 : decode cX12_sweeps 130 = .ok (.aload_n 0, 1) := by decide +kernel
theorem dX12_sweeps_131 : decode cX12_sweeps 131 = .ok (.getfield 409, 3) := by decide +kernel
theorem dX12_sweeps_134 : decode cX12_sweeps 134 = .ok (.if_icmp .lt 4, 3) := by decide +kernel
theorem dX12_sweeps_137 : decode cX12_sweeps 137 = .ok (.return_, 1) := by decide +kernel
theorem dX12_sweeps_138 : decode cX12_sweeps 138 = .ok (.aload_n 0, 1) := by decide +kernel
theorem dX12_sweeps_139 : decode cX12_sweeps 139 = .ok (.iload 4, 2) := by decide +kernel
theorem dX12_sweeps_14 : decode cX12_sweeps 14 = .ok (.if_icmp .ge 97, 3) := by decide +kernel
theorem dX12_sweeps_141 : decode cX12_sweeps 141 = .ok (.iload_n 2, 1) := by decide +kernel
theorem dX12_sweeps_142 : decode cX12_sweeps 142 = .ok (.iadd, 1) := by decide +kernel
theorem dX12_sweeps_143 : decode cX12_sweeps 143 = .ok (.iload_n 3, 1) := by decide +kernel
theorem dX12_sweeps_144 : decode cX12_sweeps 144 = .ok (.iadd, 1) := by decide +kernel
theorem dX12_sweeps_145 : decode cX12_sweeps 145 = .ok (.putfield 409, 3) := by decide +kernel
theorem dX12_sweeps_148 : decode cX12_sweeps 148 = .ok (.aload_n 0, 1) := by decide +kernel
theorem dX12_sweeps_149 : decode cX12_sweeps 149 = .ok (.iload 5, 2) := by decide +kernel
theorem dX12_sweeps_151 : decode cX12_sweeps 151 = .ok (.putfield 412, 3) := by decide +kernel
theorem dX12_sweeps_154 : decode cX12_sweeps 154 = .ok (.return_, 1) := by decide +kernel
theorem dX12_sweeps_17 : decode cX12_sweeps 17 = .ok (.iload_n 1, 1) := by decide +kernel
theorem dX12_sweeps_18 : decode cX12_sweeps 18 = .ok (.iload 7, 2) := by decide +kernel
theorem dX12_sweeps_20 : decode cX12_sweeps 20 = .ok (.ishr, 1) := by decide +kernel
theorem dX12_sweeps_21 : decode cX12_sweeps 21 = .ok (.iconst 1, 1) := by decide +kernel
theorem dX12_sweeps_22 : decode cX12_sweeps 22 = .ok (.iand, 1) := by decide +kernel
theorem dX12_sweeps_23 : decode cX12_sweeps 23 = .ok (.iconst 1, 1) := by decide +kernel
theorem dX12_sweeps_24 : decode cX12_sweeps 24 = .ok (.if_icmp .eq 81, 3) := by decide +kernel
theorem dX12_sweeps_27 : decode cX12_sweeps 27 = .ok (.aload_n 0, 1) := by decide +kernel
theorem dX12_sweeps_28 : decode cX12_sweeps 28 = .ok (.getfield 29, 3) := by decide +kernel
theorem dX12_sweeps_3 : decode cX12_sweeps 3 = .ok (.iconst 0, 1) := by decide +kernel
theorem dX12_sweeps_31 : decode cX12_sweeps 31 = .ok (.sipush 192, 3) := by decide +kernel
theorem dX12_sweeps_34 : decode cX12_sweeps 34 = .ok (.iload 7, 2) := by decide +kernel
theorem dX12_sweeps_36 : decode cX12_sweeps 36 = .ok (.iadd, 1) := by decide +kernel
theorem dX12_sweeps_37 : decode cX12_sweeps 37 = .ok (.iaload, 1) := by decide +kernel
theorem dX12_sweeps_38 : decode cX12_sweeps 38 = .ok (.ifCond .ne 6, 3) := by decide +kernel
theorem dX12_sweeps_4 : decode cX12_sweeps 4 = .ok (.istore 7, 2) := by decide +kernel
theorem dX12_sweeps_41 : decode cX12_sweeps 41 = .ok (.goto 64, 3) := by decide +kernel
theorem dX12_sweeps_44 : decode cX12_sweeps 44 = .ok (.iconst 1, 1) := by decide +kernel
theorem dX12_sweeps_45 : decode cX12_sweeps 45 = .ok (.istore 6, 2) := by decide +kernel
theorem dX12_sweeps_47 : decode cX12_sweeps 47 = .ok (.aload_n 0, 1) := by decide +kernel
theorem dX12_sweeps_48 : decode cX12_sweeps 48 = .ok (.iload 7, 2) := by decide +kernel
theorem dX12_sweeps_50 : decode cX12_sweeps 50 = .ok (.iconst 0, 1) := by decide +kernel
theorem dX12_sweeps_51 : decode cX12_sweeps 51 = .ok (.invokevirtual 297, 3) := by decide +kernel
theorem dX12_sweeps_54 : decode cX12_sweeps 54 = .ok (.istore 8, 2) := by decide +kernel
theorem dX12_sweeps_56 : decode cX12_sweeps 56 = .ok (.aload_n 0, 1) := by decide +kernel
theorem dX12_sweeps_57 : decode cX12_sweeps 57 = .ok (.iload 7, 2) := by decide +kernel
theorem dX12_sweeps_59 : decode cX12_sweeps 59 = .ok (.iconst 1, 1) := by decide +kernel
theorem dX12_sweeps_6 : decode cX12_sweeps 6 = .ok (.iload 7, 2) := by decide +kernel
theorem dX12_sweeps_60 : decode cX12_sweeps 60 = .ok (.invokevirtual 297, 3) := by decide +kernel
theorem dX12_sweeps_63 : decode cX12_sweeps 63 = .ok (.istore 9, 2) := by decide +kernel
theorem dX12_sweeps_65 : decode cX12_sweeps 65 = .ok (.aload_n 0, 1) := by decide +kernel
theorem dX12_sweeps_66 : decode cX12_sweeps 66 = .ok (.iload_n 1, 1) := by decide +kernel
theorem dX12_sweeps_67 : decode cX12_sweeps 67 = .ok (.iconst 1, 1) := by decide +kernel
theorem dX12_sweeps_68 : decode cX12_sweeps 68 = .ok (.iload 7, 2) := by decide +kernel
theorem dX12_sweeps_70 : decode cX12_sweeps 70 = .ok (.ishl, 1) := by decide +kernel
theorem dX12_sweeps_71 : decode cX12_sweeps 71 = .ok (.ior, 1) := by decide +kernel
theorem dX12_sweeps_72 : decode cX12_sweeps 72 = .ok (.iload 8, 2) := by decide +kernel
theorem dX12_sweeps_74 : decode cX12_sweeps 74 = .ok (.iload 9, 2) := by decide +kernel
theorem dX12_sweeps_76 : decode cX12_sweeps 76 = .ok (.iload 4, 2) := by decide +kernel
theorem dX12_sweeps_78 : decode cX12_sweeps 78 = .ok (.iload 8, 2) := by decide +kernel
theorem dX12_sweeps_8 : decode cX12_sweeps 8 = .ok (.aload_n 0, 1) := by decide +kernel
theorem dX12_sweeps_80 : decode cX12_sweeps 80 = .ok (.iload_n 2, 1) := by decide +kernel
theorem dX12_sweeps_81 : decode cX12_sweeps 81 = .ok (.isub, 1) := by decide +kernel
theorem dX12_sweeps_82 : decode cX12_sweeps 82 = .ok (.invokestatic 403, 3) := by decide +kernel
theorem dX12_sweeps_85 : decode cX12_sweeps 85 = .ok (.iadd, 1) := by decide +kernel
theorem dX12_sweeps_86 : decode cX12_sweeps 86 = .ok (.iload 9, 2) := by decide +kernel
theorem dX12_sweeps_88 : decode cX12_sweeps 88 = .ok (.iload_n 3, 1) := by decide +kernel
theorem dX12_sweeps_89 : decode cX12_sweeps 89 = .ok (.isub, 1) := by decide +kernel
theorem dX12_sweeps_9 : decode cX12_sweeps 9 = .ok (.getfield 23, 3) := by decide +kernel
theorem dX12_sweeps_90 : decode cX12_sweeps 90 = .ok (.invokestatic 403, 3) := by decide +kernel
theorem dX12_sweeps_93 : decode cX12_sweeps 93 = .ok (.iadd, 1) := by decide +kernel
theorem dX12_sweeps_94 : decode cX12_sweeps 94 = .ok (.bipush 10, 2) := by decide +kernel
theorem dX12_sweeps_96 : decode cX12_sweeps 96 = .ok (.iload 5, 2) := by decide +kernel
theorem dX12_sweeps_98 : decode cX12_sweeps 98 = .ok (.imul, 1) := by decide +kernel
theorem dX12_sweeps_99 : decode cX12_sweeps 99 = .ok (.iload 7, 2) := by decide +kernel
def vs_m_off : List Cond := .code yX12_off cX12_off 1 (some .int) :: (([] : List Cond) ++ ([]))
theorem gd_m_off : vs_m_off.all goodWord = true := gd_C (by decide +kernel) (gd_A (by decide +kernel) rfl)
set_option maxHeartbeats 4000000 in
set_option maxRecDepth 100000 in
theorem m_off (l : Launch) (hl : l.stackTraces = false) (D : va_G) (cy : Nat → ClassId) (sa : Nat → Nat) (n : Int) (sz : Nat) (hr_n : (-99) ≤ n ∧ n ≤ 99) : mI9 l yX12_off vs_m_off ({ frames := 0, cells := 0, slots := 0, locals := 0 }) D cy sa sz [vI n] [] (fun (r : Int32) (u : SV) => r = iI (u.2.1 0) ∧ (0 ≤ u.2.1 0 ∧ u.2.1 0 ≤ 99)) (fun u : SV => []) 0 0 := by
  refine Met.ofW (cc := cX12_off) (maxL := 1) (ret := (some .int)) (by decide) rfl ?_
  intro p e s m args below meth c s₁ B hml hv
  obtain ⟨rfl, hsz, hP, hG, hD0, hT⟩ := hv
  have hx := B.exec
  have hb := B.bytes
  have hr := B.returns
  have hts := atoms_spec (ws := vs_m_off) B.pre
  have hown : s.vm.findClass RX12 = some m.cls := findClass_of_methodNamed B.named
  have hlocks := B.notSynchronized
  subst hsz
  have hD := hD0.self (sz := s.heap.size)
  generalize hAe : va_A [] s.heap.size = A at hD hT ⊢
  have hA : ∀ q : Nat, s.heap.size ≤ q → A q := fun q h => by rw [← hAe]; exact Or.inr h
  have hS : va_S A s.heap s.heap [] := va_S.rf
  have hl0 := lv_entry ([vI n]) (n := 1) (Nat.le_of_ble_eq_true rfl)
  rw [lg_entry_eq]
  generalize (lg_sl ([vI n]) ++ List.replicate (1 - (lg_sl ([vI n])).length) Slot.unset).toArray = ls at hl0 ⊢
  have hlv : lv_has ls 1 [(0, vI n)] := hl0
  refine lv_iload_n hx hb dX12_off_0 rfl (lv_at hlv 0 rfl) ?_
  refine iz_ge (tgt := 9) hx hb dX12_off_1 (by decide) (by first | exact rgw hr_n (by decide) (by decide) | omega) (fun c_1 => ?_) (fun c_1 => ?_)
  · refine lv_iload_n hx hb dX12_off_9 rfl (lv_at hlv 0 rfl) ?_
    refine W.widen (k := 0) (n := 0) (Nat.le_of_ble_eq_true rfl) (Nat.le_of_ble_eq_true rfl) ?_
    exact W.iret (v := iI n) hx hb hr (fun t ht hW => ⟨⟨iI n, ((fun k => ([] : List Nat).getD k 0), (fun k => ([n] : List Int).getD k 0), (fun k => ([] : List (Nat → Int32)).getD k (fun _ => 0))), rfl, ⟨rfl, (by show (0 ≤ n ∧ n ≤ 99); omega)⟩, at9 ht hP hD [] (by decide +kernel) rfl⟩, hS.F ht⟩) hS.2.2 dX12_off_10
  · refine lv_iload_n hx hb dX12_off_4 rfl (lv_at hlv 0 rfl) ?_
    refine lv_ineg hx hb dX12_off_5 ?_
    refine lt_e (e0 := -n) (ng_eq _) (fun z_2 hz_2 => ?_)
    refine lv_goto (tgt := 10) hx hb dX12_off_6 (by decide) ?_
    refine W.widen (k := 0) (n := 0) (Nat.le_of_ble_eq_true rfl) (Nat.le_of_ble_eq_true rfl) ?_
    exact W.iret (v := iI z_2) hx hb hr (fun t ht hW => ⟨⟨iI z_2, ((fun k => ([] : List Nat).getD k 0), (fun k => ([z_2] : List Int).getD k 0), (fun k => ([] : List (Nat → Int32)).getD k (fun _ => 0))), rfl, ⟨rfl, (by show (0 ≤ z_2 ∧ z_2 ≤ 99); omega)⟩, at9 ht hP hD [] (by decide +kernel) rfl⟩, hS.F ht⟩) hS.2.2 dX12_off_10
def MSC : List Cond := ([.fieldLink RX12 23 "KerbSplashModel" "b" "[I", .fieldLink RX12 409 "KerbSplashModel" "sweepFar" "I", .fieldLink RX12 412 "KerbSplashModel" "sweepRow" "I", .fieldLink RX12 29 "KerbSplashModel" "s" "[I", .methodLink RX12 406 yX12_sweeps, .instanceMethod yX12_sweeps, .selects RX12 yX12_sweeps yX12_sweeps, .initialized RX12, .code yX12_sweeps cX12_sweeps 10 none] : List Cond) ++ ((wsX120) ++ ((wsV RX12 297 RX12 yX12_drainTold vs_m_drainTold0) ++ ((wsV RX12 297 RX12 yX12_drainTold vs_m_drainTold1) ++ ((va_wsS RX12 403 yX12_off vs_m_off) ++ ([])))))
theorem gd_MSC : MSC.all goodWord = true := gd_A (by decide +kernel) (gd_A (by decide +kernel) (gd_A (gd_V gd_m_drainTold0 (by decide +kernel)) (gd_A (gd_V gd_m_drainTold1 (by decide +kernel)) (gd_A (gd_S gd_m_off (by decide +kernel)) rfl))))
def vs_m_sweeps : List Cond := .code yX12_sweeps cX12_sweeps 10 none :: MSC
theorem gd_m_sweeps : vs_m_sweeps.all goodWord = true := gd_C (by decide +kernel) gd_MSC
def MS (l : Launch) (D : va_G) (cy : Nat → ClassId) (sa : Nat → Nat) (d : Nat) : Prop := (∀ (mm m1 m9 m10 m11 m12 m13 m14 m15 m19 m20 m21 m23 m24 m25 m26 m27 m28 m33 m35 : Nat) (th tp sz_ ap bad bk opn fp im nr nl sp_ wtc wcl ir ip shu sfa swr : Int) (f10 f12 : Nat → Int32) (us x y fa gd : Int) (sz : Nat) (hr_th : (-2147483648) ≤ th ∧ th ≤ 2147483647) (hr_tp : 0 ≤ tp ∧ tp ≤ 600) (hr_sz_ : 0 ≤ sz_ ∧ sz_ ≤ 600) (hr_ap : 0 ≤ ap ∧ ap ≤ 602) (hr_bad : (-1) ≤ bad ∧ bad ≤ 602) (hr_bk : 0 ≤ bk ∧ bk ≤ 4) (hr_opn : 0 ≤ opn ∧ opn ≤ 7) (hr_fp : (-2147483648) ≤ fp ∧ fp ≤ 2147483647) (hr_im : 0 ≤ im ∧ im ≤ 3) (hr_nr : 0 ≤ nr ∧ nr ≤ 4) (hr_nl : 0 ≤ nl ∧ nl ≤ 4) (hr_sp_ : 0 ≤ sp_ ∧ sp_ ≤ 602) (hr_wtc : (-2147483648) ≤ wtc ∧ wtc ≤ 2147483647) (hr_wcl : 0 ≤ wcl ∧ wcl ≤ 95) (hr_ir : 0 ≤ ir ∧ ir ≤ 5) (hr_ip : (-2147483648) ≤ ip ∧ ip ≤ 2147483647) (hr_shu : (-2147483648) ≤ shu ∧ shu ≤ 2147483647) (hr_sfa : (-2147483648) ≤ sfa ∧ sfa ≤ 2147483647) (hr_swr : (-2147483648) ≤ swr ∧ swr ≤ 2147483647) (hr_us : 0 ≤ us ∧ us ≤ 63) (hr_x : 0 ≤ x ∧ x ≤ 15) (hr_y : 0 ≤ y ∧ y ≤ 5) (hr_fa : (-2147483648) ≤ fa ∧ fa ≤ 2147483647) (hr_gd : (-2147483648) ≤ gd ∧ gd ≤ 2147483647) (hf10 : BI f10) (hf12 : SI 8 f12) (hlev : (64 : Int) - us ≤ ((d : Nat) : Int)), mV9 l yX12_sweeps vs_m_sweeps ({ frames := 4 * (d) + 0, cells := 0, slots := 0, locals := 200 * (d) + 0 }) D cy sa sz [vR mm, vI us, vI x, vI y, vI fa, vI gd] [zO mm 12 [vI th, vR m1, vI tp, vI sz_, vI ap, vI bad, vI bk, vI opn, vI fp, vR m9, vR m10, vR m11, vR m12, vR m13, vR m14, vR m15, vI im, vI nr, vI nl, vR m19, vR m20, vR m21, vI sp_, vR m23, vR m24, vR m25, vR m26, vR m27, vR m28, vI wtc, vI wcl, vI ir, vI ip, vR m33, vI shu, vR m35, vI sfa, vI swr], zI m10 (cy 0) 68 f10, zI m12 (cy 0) 389 f12] (fun u : SV => ((-2147483648) ≤ u.2.1 0 ∧ u.2.1 0 ≤ 2147483647) ∧ ((-2147483648) ≤ u.2.1 1 ∧ u.2.1 1 ≤ 2147483647) ∧ BI f10 ∧ SI 8 f12) (fun u : SV => [zO mm 12 [vI th, vR m1, vI tp, vI sz_, vI ap, vI bad, vI bk, vI opn, vI fp, vR m9, vR m10, vR m11, vR m12, vR m13, vR m14, vR m15, vI im, vI nr, vI nl, vR m19, vR m20, vR m21, vI sp_, vR m23, vR m24, vR m25, vR m26, vR m27, vR m28, vI wtc, vI wcl, vI ir, vI ip, vR m33, vI shu, vR m35, vI (u.2.1 0), vI (u.2.1 1)], zI m10 (cy 0) 68 f10, zI m12 (cy 0) 389 f12]) 0 0)
set_option maxHeartbeats 4000000 in
set_option maxRecDepth 100000 in
theorem m_sweeps_step (l : Launch) (hl : l.stackTraces = false) (D : va_G) (cy : Nat → ClassId) (sa : Nat → Nat) (d : Nat) (IH : MS l D cy sa d) (mm m1 m9 m10 m11 m12 m13 m14 m15 m19 m20 m21 m23 m24 m25 m26 m27 m28 m33 m35 : Nat) (th tp sz_ ap bad bk opn fp im nr nl sp_ wtc wcl ir ip shu sfa swr : Int) (f10 f12 : Nat → Int32) (us x y fa gd : Int) (sz : Nat) (hr_th : (-2147483648) ≤ th ∧ th ≤ 2147483647) (hr_tp : 0 ≤ tp ∧ tp ≤ 600) (hr_sz_ : 0 ≤ sz_ ∧ sz_ ≤ 600) (hr_ap : 0 ≤ ap ∧ ap ≤ 602) (hr_bad : (-1) ≤ bad ∧ bad ≤ 602) (hr_bk : 0 ≤ bk ∧ bk ≤ 4) (hr_opn : 0 ≤ opn ∧ opn ≤ 7) (hr_fp : (-2147483648) ≤ fp ∧ fp ≤ 2147483647) (hr_im : 0 ≤ im ∧ im ≤ 3) (hr_nr : 0 ≤ nr ∧ nr ≤ 4) (hr_nl : 0 ≤ nl ∧ nl ≤ 4) (hr_sp_ : 0 ≤ sp_ ∧ sp_ ≤ 602) (hr_wtc : (-2147483648) ≤ wtc ∧ wtc ≤ 2147483647) (hr_wcl : 0 ≤ wcl ∧ wcl ≤ 95) (hr_ir : 0 ≤ ir ∧ ir ≤ 5) (hr_ip : (-2147483648) ≤ ip ∧ ip ≤ 2147483647) (hr_shu : (-2147483648) ≤ shu ∧ shu ≤ 2147483647) (hr_sfa : (-2147483648) ≤ sfa ∧ sfa ≤ 2147483647) (hr_swr : (-2147483648) ≤ swr ∧ swr ≤ 2147483647) (hr_us : 0 ≤ us ∧ us ≤ 63) (hr_x : 0 ≤ x ∧ x ≤ 15) (hr_y : 0 ≤ y ∧ y ≤ 5) (hr_fa : (-2147483648) ≤ fa ∧ fa ≤ 2147483647) (hr_gd : (-2147483648) ≤ gd ∧ gd ≤ 2147483647) (hf10 : BI f10) (hf12 : SI 8 f12) (hlev : (64 : Int) - us ≤ ((d + 1 : Nat) : Int)) : mV9 l yX12_sweeps vs_m_sweeps ({ frames := 4 * (d + 1) + 0, cells := 0, slots := 0, locals := 200 * (d + 1) + 0 }) D cy sa sz [vR mm, vI us, vI x, vI y, vI fa, vI gd] [zO mm 12 [vI th, vR m1, vI tp, vI sz_, vI ap, vI bad, vI bk, vI opn, vI fp, vR m9, vR m10, vR m11, vR m12, vR m13, vR m14, vR m15, vI im, vI nr, vI nl, vR m19, vR m20, vR m21, vI sp_, vR m23, vR m24, vR m25, vR m26, vR m27, vR m28, vI wtc, vI wcl, vI ir, vI ip, vR m33, vI shu, vR m35, vI sfa, vI swr], zI m10 (cy 0) 68 f10, zI m12 (cy 0) 389 f12] (fun u : SV => ((-2147483648) ≤ u.2.1 0 ∧ u.2.1 0 ≤ 2147483647) ∧ ((-2147483648) ≤ u.2.1 1 ∧ u.2.1 1 ≤ 2147483647) ∧ BI f10 ∧ SI 8 f12) (fun u : SV => [zO mm 12 [vI th, vR m1, vI tp, vI sz_, vI ap, vI bad, vI bk, vI opn, vI fp, vR m9, vR m10, vR m11, vR m12, vR m13, vR m14, vR m15, vI im, vI nr, vI nl, vR m19, vR m20, vR m21, vI sp_, vR m23, vR m24, vR m25, vR m26, vR m27, vR m28, vI wtc, vI wcl, vI ir, vI ip, vR m33, vI shu, vR m35, vI (u.2.1 0), vI (u.2.1 1)], zI m10 (cy 0) 68 f10, zI m12 (cy 0) 389 f12]) 0 0 := by
  refine Met.ofW (cc := cX12_sweeps) (maxL := 10) (ret := none) (by decide) rfl ?_
  intro p e s m args below meth c s₁ B hml hv
  obtain ⟨rfl, hsz, hP, hG, hD0, hT⟩ := hv
  have hx := B.exec
  have hb := B.bytes
  have hr := B.returns
  have hts := atoms_spec (ws := vs_m_sweeps) B.pre
  have hown : s.vm.findClass RX12 = some m.cls := findClass_of_methodNamed B.named
  have hlocks := B.notSynchronized
  subst hsz
  have hD := hD0.self (sz := s.heap.size)
  generalize hAe : va_A [zO mm 12 [vI th, vR m1, vI tp, vI sz_, vI ap, vI bad, vI bk, vI opn, vI fp, vR m9, vR m10, vR m11, vR m12, vR m13, vR m14, vR m15, vI im, vI nr, vI nl, vR m19, vR m20, vR m21, vI sp_, vR m23, vR m24, vR m25, vR m26, vR m27, vR m28, vI wtc, vI wcl, vI ir, vI ip, vR m33, vI shu, vR m35, vI sfa, vI swr], zI m10 (cy 0) 68 f10, zI m12 (cy 0) 389 f12] s.heap.size = A at hD hT ⊢
  have hA : ∀ q : Nat, s.heap.size ≤ q → A q := fun q h => by rw [← hAe]; exact Or.inr h
  have hS : va_S A s.heap s.heap [] := va_S.rf
  have hl0 := lv_entry ([vR mm, vI us, vI x, vI y, vI fa, vI gd]) (n := 10) (Nat.le_of_ble_eq_true rfl)
  rw [lg_entry_eq]
  generalize (lg_sl ([vR mm, vI us, vI x, vI y, vI fa, vI gd]) ++ List.replicate (10 - (lg_sl ([vR mm, vI us, vI x, vI y, vI fa, vI gd])).length) Slot.unset).toArray = ls at hl0 ⊢
  have hlv : lv_has ls 10 [(0, vR mm), (1, vI us), (2, vI x), (3, vI y), (4, vI fa), (5, vI gd)] := hl0
  have lf23 := hts (.fieldLink RX12 23 "KerbSplashModel" "b" "[I") (List.mem_of_getElem? (i := 1) rfl)
  have hi12 : ∀ w ∈ wsX120, w ∈ vs_m_sweeps := fun w h => List.mem_cons_of_mem _ (List.mem_append_right _ (List.mem_append_left _ h))
  have lf409 := hts (.fieldLink RX12 409 "KerbSplashModel" "sweepFar" "I") (List.mem_of_getElem? (i := 2) rfl)
  have lf412 := hts (.fieldLink RX12 412 "KerbSplashModel" "sweepRow" "I") (List.mem_of_getElem? (i := 3) rfl)
  have lf29 := hts (.fieldLink RX12 29 "KerbSplashModel" "s" "[I") (List.mem_of_getElem? (i := 4) rfl)
  have gg_1 : GoodIn vs_m_sweeps (wsV RX12 297 RX12 yX12_drainTold vs_m_drainTold0) := goodIn_sub (fun w h => List.mem_cons_of_mem _ (List.mem_append_right _ (List.mem_append_right _ (List.mem_append_left _ h)))) (gd_V gd_m_drainTold0 (by decide +kernel))
  have gg_2 : GoodIn vs_m_sweeps (wsV RX12 297 RX12 yX12_drainTold vs_m_drainTold1) := goodIn_sub (fun w h => List.mem_cons_of_mem _ (List.mem_append_right _ (List.mem_append_right _ (List.mem_append_right _ (List.mem_append_left _ h))))) (gd_V gd_m_drainTold1 (by decide +kernel))
  have gg_3 : GoodIn vs_m_sweeps (va_wsS RX12 403 yX12_off vs_m_off) := goodIn_sub (fun w h => List.mem_cons_of_mem _ (List.mem_append_right _ (List.mem_append_right _ (List.mem_append_right _ (List.mem_append_right _ (List.mem_append_left _ h)))))) (gd_S gd_m_off (by decide +kernel))
  have gh_X12_sweeps_406 : GoodIn vs_m_sweeps (wsV RX12 406 RX12 yX12_sweeps vs_m_sweeps) := goodIn_sub (gsub_V (List.mem_append_left _ (List.mem_of_getElem? (i := 4) rfl)) (List.mem_append_left _ (List.mem_of_getElem? (i := 5) rfl)) (List.mem_append_left _ (List.mem_of_getElem? (i := 6) rfl)) (List.mem_append_left _ (List.mem_of_getElem? (i := 7) rfl)) (List.mem_append_left _ (List.mem_of_getElem? (i := 8) rfl))) (gd_V (gd_C (by decide +kernel) gd_MSC) (by decide +kernel))
  have h206 := hf12.1
  refine lv_iconst (v := iI 0) hx hb dX12_sweeps_0 (by decide) ?_
  refine lv_istore (lv' := [(6, vI 0), (0, vR mm), (1, vI us), (2, vI x), (3, vI y), (4, vI fa), (5, vI gd)]) hx hb dX12_sweeps_1 hlv (by decide) rfl (fun ls hlv => ?_)
  refine lv_iconst (v := iI 0) hx hb dX12_sweeps_3 (by decide) ?_
  refine lv_istore (lv' := [(7, vI 0), (6, vI 0), (0, vR mm), (1, vI us), (2, vI x), (3, vI y), (4, vI fa), (5, vI gd)]) hx hb dX12_sweeps_4 hlv (by decide) rfl (fun ls hlv => ?_)
  refine (?_ : ∀ (fu : Nat) (q6 : Int) (q7 : Int) (qf : Int) (qr : Int) (H : Heap) (locs : List Loc) (ls : Array Slot), 6 - q7 < (fu : Int) → (0 ≤ q6 ∧ q6 ≤ 1) → (0 ≤ q7 ∧ q7 ≤ 6) → ((-2147483648) ≤ qf ∧ qf ≤ 2147483647) → ((-2147483648) ≤ qr ∧ qr ≤ 2147483647) → va_P D vwCl [zO mm 12 [vI th, vR m1, vI tp, vI sz_, vI ap, vI bad, vI bk, vI opn, vI fp, vR m9, vR m10, vR m11, vR m12, vR m13, vR m14, vR m15, vI im, vI nr, vI nl, vR m19, vR m20, vR m21, vI sp_, vR m23, vR m24, vR m25, vR m26, vR m27, vR m28, vI wtc, vI wcl, vI ir, vI ip, vR m33, vI shu, vR m35, vI qf, vI qr], zI m10 (cy 0) 68 f10, zI m12 (cy 0) 389 f12] H → va_D A [zO mm 12 [vI th, vR m1, vI tp, vI sz_, vI ap, vI bad, vI bk, vI opn, vI fp, vR m9, vR m10, vR m11, vR m12, vR m13, vR m14, vR m15, vI im, vI nr, vI nl, vR m19, vR m20, vR m21, vI sp_, vR m23, vR m24, vR m25, vR m26, vR m27, vR m28, vI wtc, vI wcl, vI ir, vI ip, vR m33, vI shu, vR m35, vI qf, vI qr], zI m10 (cy 0) 68 f10, zI m12 (cy 0) 389 f12] → va_S A s.heap H locs → lv_has ls 10 [(7, vI q7), (6, vI q6), (0, vR mm), (1, vI us), (2, vI x), (3, vI y), (4, vI fa), (5, vI gd)] → W p l e _ s m _ below meth c H locs _ _ _ (F0 m 6 ls [])) (((6 - 0) + 1 : Int)).toNat 0 0 sfa swr _ _ _ (by omega) (by show (0 : Int) ≤ 0 ∧ (0 : Int) ≤ 1; decide) (by show (0 : Int) ≤ 0 ∧ (0 : Int) ≤ 6; decide) (by first | exact hr_sfa | omega) (by first | exact hr_swr | omega)  hP hD hS hlv
  clear hP hD hS hlv
  intro fu
  induction fu with
  | zero => intro q6 q7 qf qr H locs ls hm6 hl6_0 hl6_1 hl6_2 hl6_3  hP hD hS hlv; omega
  | succ fu ih6 =>
    intro q6 q7 qf qr H locs ls hm6 hl6_0 hl6_1 hl6_2 hl6_3  hP hD hS hlv
    refine lv_iload hx hb dX12_sweeps_6 (lv_at hlv 0 rfl) ?_
    refine lv_aload_n hx hb dX12_sweeps_8 rfl (lv_at hlv 2 rfl) ?_
    refine va_get (D := D) (ci := 12) (v := vR m10) (C := RX12) (T := TX12) (N := 38) hx hb hts hi12 hown hG.1 hP 0 rfl rfl 10 (by decide) lf23 (fun _ h9 => h9) rfl dX12_sweeps_9 ?_
    refine lv_iconst (v := iI 2) hx hb dX12_sweeps_12 (by decide) ?_
    refine va_iald hx hb hG.1 hP 1 0 rfl rfl (iI_in (by omega) (by decide)) dX12_sweeps_13 ?_
    refine lt_nz (i := 2) (by omega) (fun z_1 hz_1 lz_1 uz_1 => ?_)
    have hz_1 : z_1 = nz f10 2 := hz_1
    have hbz_1_7 := hf10.1.2.2.1
    refine ir_ge (tgt := 111) hx hb dX12_sweeps_14 (by decide) (by first | exact rgw hl6_1 (by decide) (by decide) | omega) (by omega) (fun c_2 => ?_) (fun c_2 => ?_)
    · refine lv_iload hx hb dX12_sweeps_111 (lv_at hlv 1 rfl) ?_
      refine iz_ne (tgt := 137) hx hb dX12_sweeps_113 (by decide) (by first | exact rgw hl6_0 (by decide) (by decide) | omega) (fun c_3 => ?_) (fun c_3 => ?_)
      · refine W.widen (k := 0) (n := 0) (Nat.le_of_ble_eq_true rfl) (Nat.le_of_ble_eq_true rfl) ?_
        exact W.vret hx hb hr (fun t ht hW => ⟨⟨((fun k => ([] : List Nat).getD k 0), (fun k => ([qf, qr] : List Int).getD k 0), (fun k => ([] : List (Nat → Int32)).getD k (fun _ => 0))), rfl, ⟨(by show ((-2147483648) ≤ qf ∧ qf ≤ 2147483647); first | exact hl6_2 | omega), (by show ((-2147483648) ≤ qr ∧ qr ≤ 2147483647); first | exact hl6_3 | omega), hf10, hf12⟩, at9 ht hP hD [0, 1, 2] (by decide +kernel) rfl⟩, hS.F ht⟩) hS.2.2 dX12_sweeps_137
      · refine lv_aload_n hx hb dX12_sweeps_116 rfl (lv_at hlv 2 rfl) ?_
        refine va_get (D := D) (ci := 12) (v := vI qf) (C := RX12) (T := TX12) (N := 38) hx hb hts hi12 hown hG.1 hP 0 rfl rfl 36 (by decide) lf409 (fun _ h9 => h9) rfl dX12_sweeps_117 ?_
        refine lv_iconst (v := iI (-1)) hx hb dX12_sweeps_120 (by decide) ?_
        refine ir_eq (tgt := 138) hx hb dX12_sweeps_121 (by decide) (by first | exact hl6_2 | omega) (by show ((-2147483648) : Int) ≤ (-1) ∧ ((-1) : Int) ≤ 2147483647; decide) (fun c_4 => ?_) (fun c_4 => ?_)
        · refine lv_aload_n hx hb dX12_sweeps_138 rfl (lv_at hlv 2 rfl) ?_
          refine lv_iload hx hb dX12_sweeps_139 (lv_at hlv 6 rfl) ?_
          refine lv_iload_n hx hb dX12_sweeps_141 rfl (lv_at hlv 4 rfl) ?_
          refine lv_iadd hx hb dX12_sweeps_142 ?_
          refine lt_z (fun z_5 ez_5 lz_5 hz_5 => ?_)
          refine lv_iload_n hx hb dX12_sweeps_143 rfl (lv_at hlv 5 rfl) ?_
          refine lv_iadd hx hb dX12_sweeps_144 ?_
          refine lt_z (fun z_6 ez_6 lz_6 hz_6 => ?_)
          refine va_put (D := D) (ci := 12) (v := vI z_6) (ty := .int) (C := RX12) (T := TX12) (N := 38) hx hb hts hi12 tyX12 tyX12_ok nmX12 hown hG.1 hP hD hS 0 rfl rfl 36 (by decide) lf409 (fun _ h9 => h9) rfl (by decide +kernel) rfl rfl (Nat.le_of_ble_eq_true rfl) dX12_sweeps_145 (fun H locs hP hD hS => ?_)
          obtain ⟨hP, hD⟩ := pw9 [zO mm 12 [vI th, vR m1, vI tp, vI sz_, vI ap, vI bad, vI bk, vI opn, vI fp, vR m9, vR m10, vR m11, vR m12, vR m13, vR m14, vR m15, vI im, vI nr, vI nl, vR m19, vR m20, vR m21, vI sp_, vR m23, vR m24, vR m25, vR m26, vR m27, vR m28, vI wtc, vI wcl, vI ir, vI ip, vR m33, vI shu, vR m35, vI z_6, vI qr], zI m10 (cy 0) 68 f10, zI m12 (cy 0) 389 f12] hP hD
          refine lv_aload_n hx hb dX12_sweeps_148 rfl (lv_at hlv 2 rfl) ?_
          refine lv_iload hx hb dX12_sweeps_149 (lv_at hlv 7 rfl) ?_
          refine va_put (D := D) (ci := 12) (v := vI gd) (ty := .int) (C := RX12) (T := TX12) (N := 38) hx hb hts hi12 tyX12 tyX12_ok nmX12 hown hG.1 hP hD hS 0 rfl rfl 37 (by decide) lf412 (fun _ h9 => h9) rfl (by decide +kernel) rfl rfl (Nat.le_of_ble_eq_true rfl) dX12_sweeps_151 (fun H locs hP hD hS => ?_)
          obtain ⟨hP, hD⟩ := pw9 [zO mm 12 [vI th, vR m1, vI tp, vI sz_, vI ap, vI bad, vI bk, vI opn, vI fp, vR m9, vR m10, vR m11, vR m12, vR m13, vR m14, vR m15, vI im, vI nr, vI nl, vR m19, vR m20, vR m21, vI sp_, vR m23, vR m24, vR m25, vR m26, vR m27, vR m28, vI wtc, vI wcl, vI ir, vI ip, vR m33, vI shu, vR m35, vI z_6, vI gd], zI m10 (cy 0) 68 f10, zI m12 (cy 0) 389 f12] hP hD
          refine W.widen (k := 0) (n := 0) (Nat.le_of_ble_eq_true rfl) (Nat.le_of_ble_eq_true rfl) ?_
          exact W.vret hx hb hr (fun t ht hW => ⟨⟨((fun k => ([] : List Nat).getD k 0), (fun k => ([z_6, gd] : List Int).getD k 0), (fun k => ([] : List (Nat → Int32)).getD k (fun _ => 0))), rfl, ⟨(by show ((-2147483648) ≤ z_6 ∧ z_6 ≤ 2147483647); omega), (by show ((-2147483648) ≤ gd ∧ gd ≤ 2147483647); first | exact hr_gd | omega), hf10, hf12⟩, at9 ht hP hD [0, 1, 2] (by decide +kernel) rfl⟩, hS.F ht⟩) hS.2.2 dX12_sweeps_154
        · refine lv_iload hx hb dX12_sweeps_124 (lv_at hlv 6 rfl) ?_
          refine lv_iload_n hx hb dX12_sweeps_126 rfl (lv_at hlv 4 rfl) ?_
          refine lv_iadd hx hb dX12_sweeps_127 ?_
          refine lt_z (fun z_7 ez_7 lz_7 hz_7 => ?_)
          refine lv_iload_n hx hb dX12_sweeps_128 rfl (lv_at hlv 5 rfl) ?_
          refine lv_iadd hx hb dX12_sweeps_129 ?_
          refine lt_z (fun z_8 ez_8 lz_8 hz_8 => ?_)
          refine lv_aload_n hx hb dX12_sweeps_130 rfl (lv_at hlv 2 rfl) ?_
          refine va_get (D := D) (ci := 12) (v := vI qf) (C := RX12) (T := TX12) (N := 38) hx hb hts hi12 hown hG.1 hP 0 rfl rfl 36 (by decide) lf409 (fun _ h9 => h9) rfl dX12_sweeps_131 ?_
          refine ir_lt (tgt := 138) hx hb dX12_sweeps_134 (by decide) (by omega) (by first | exact hl6_2 | omega) (fun c_9 => ?_) (fun c_9 => ?_)
          · refine lv_aload_n hx hb dX12_sweeps_138 rfl (lv_at hlv 2 rfl) ?_
            refine lv_iload hx hb dX12_sweeps_139 (lv_at hlv 6 rfl) ?_
            refine lv_iload_n hx hb dX12_sweeps_141 rfl (lv_at hlv 4 rfl) ?_
            refine lv_iadd hx hb dX12_sweeps_142 ?_
            refine lt_z (fun z_10 ez_10 lz_10 hz_10 => ?_)
            refine lv_iload_n hx hb dX12_sweeps_143 rfl (lv_at hlv 5 rfl) ?_
            refine lv_iadd hx hb dX12_sweeps_144 ?_
            refine lt_z (fun z_11 ez_11 lz_11 hz_11 => ?_)
            refine va_put (D := D) (ci := 12) (v := vI z_11) (ty := .int) (C := RX12) (T := TX12) (N := 38) hx hb hts hi12 tyX12 tyX12_ok nmX12 hown hG.1 hP hD hS 0 rfl rfl 36 (by decide) lf409 (fun _ h9 => h9) rfl (by decide +kernel) rfl rfl (Nat.le_of_ble_eq_true rfl) dX12_sweeps_145 (fun H locs hP hD hS => ?_)
            obtain ⟨hP, hD⟩ := pw9 [zO mm 12 [vI th, vR m1, vI tp, vI sz_, vI ap, vI bad, vI bk, vI opn, vI fp, vR m9, vR m10, vR m11, vR m12, vR m13, vR m14, vR m15, vI im, vI nr, vI nl, vR m19, vR m20, vR m21, vI sp_, vR m23, vR m24, vR m25, vR m26, vR m27, vR m28, vI wtc, vI wcl, vI ir, vI ip, vR m33, vI shu, vR m35, vI z_11, vI qr], zI m10 (cy 0) 68 f10, zI m12 (cy 0) 389 f12] hP hD
            refine lv_aload_n hx hb dX12_sweeps_148 rfl (lv_at hlv 2 rfl) ?_
            refine lv_iload hx hb dX12_sweeps_149 (lv_at hlv 7 rfl) ?_
            refine va_put (D := D) (ci := 12) (v := vI gd) (ty := .int) (C := RX12) (T := TX12) (N := 38) hx hb hts hi12 tyX12 tyX12_ok nmX12 hown hG.1 hP hD hS 0 rfl rfl 37 (by decide) lf412 (fun _ h9 => h9) rfl (by decide +kernel) rfl rfl (Nat.le_of_ble_eq_true rfl) dX12_sweeps_151 (fun H locs hP hD hS => ?_)
            obtain ⟨hP, hD⟩ := pw9 [zO mm 12 [vI th, vR m1, vI tp, vI sz_, vI ap, vI bad, vI bk, vI opn, vI fp, vR m9, vR m10, vR m11, vR m12, vR m13, vR m14, vR m15, vI im, vI nr, vI nl, vR m19, vR m20, vR m21, vI sp_, vR m23, vR m24, vR m25, vR m26, vR m27, vR m28, vI wtc, vI wcl, vI ir, vI ip, vR m33, vI shu, vR m35, vI z_11, vI gd], zI m10 (cy 0) 68 f10, zI m12 (cy 0) 389 f12] hP hD
            refine W.widen (k := 0) (n := 0) (Nat.le_of_ble_eq_true rfl) (Nat.le_of_ble_eq_true rfl) ?_
            exact W.vret hx hb hr (fun t ht hW => ⟨⟨((fun k => ([] : List Nat).getD k 0), (fun k => ([z_11, gd] : List Int).getD k 0), (fun k => ([] : List (Nat → Int32)).getD k (fun _ => 0))), rfl, ⟨(by show ((-2147483648) ≤ z_11 ∧ z_11 ≤ 2147483647); omega), (by show ((-2147483648) ≤ gd ∧ gd ≤ 2147483647); first | exact hr_gd | omega), hf10, hf12⟩, at9 ht hP hD [0, 1, 2] (by decide +kernel) rfl⟩, hS.F ht⟩) hS.2.2 dX12_sweeps_154
          · refine W.widen (k := 0) (n := 0) (Nat.le_of_ble_eq_true rfl) (Nat.le_of_ble_eq_true rfl) ?_
            exact W.vret hx hb hr (fun t ht hW => ⟨⟨((fun k => ([] : List Nat).getD k 0), (fun k => ([qf, qr] : List Int).getD k 0), (fun k => ([] : List (Nat → Int32)).getD k (fun _ => 0))), rfl, ⟨(by show ((-2147483648) ≤ qf ∧ qf ≤ 2147483647); first | exact hl6_2 | omega), (by show ((-2147483648) ≤ qr ∧ qr ≤ 2147483647); first | exact hl6_3 | omega), hf10, hf12⟩, at9 ht hP hD [0, 1, 2] (by decide +kernel) rfl⟩, hS.F ht⟩) hS.2.2 dX12_sweeps_137
    · refine lv_iload_n hx hb dX12_sweeps_17 rfl (lv_at hlv 3 rfl) ?_
      refine lv_iload hx hb dX12_sweeps_18 (lv_at hlv 0 rfl) ?_
      refine lv_ishr hx hb dX12_sweeps_20 ?_
      refine lt_z (fun z_12 ez_12 lz_12 hz_12 => ?_)
      refine lv_iconst (v := iI 1) hx hb dX12_sweeps_21 (by decide) ?_
      refine lv_iand hx hb dX12_sweeps_22 ?_
      refine lt_aE 1 (by decide) (by decide) (hi := 1) (by decide) (fun z_13 ez_13 lz_13 hz_13 => ?_)
      refine lv_iconst (v := iI 1) hx hb dX12_sweeps_23 (by decide) ?_
      refine ir_eq (tgt := 105) hx hb dX12_sweeps_24 (by decide) (by omega) (by show ((-2147483648) : Int) ≤ 1 ∧ (1 : Int) ≤ 2147483647; decide) (fun c_14 => ?_) (fun c_14 => ?_)
      · obtain ⟨z_15, hz_15⟩ : ∃ z : Int, z = q7 + 1 := ⟨_, rfl⟩
        refine lv_iinc (v := iI z_15) (lv' := [(7, vI z_15), (6, vI q6), (0, vR mm), (1, vI us), (2, vI x), (3, vI y), (4, vI fa), (5, vI gd)]) hx hb dX12_sweeps_105 hlv (k := 0) rfl (by rw [hz_15]; exact (Int32.ofInt_add _ _).symm) (by decide) rfl (fun ls hlv => ?_)
        refine lv_goto (tgt := 6) hx hb dX12_sweeps_108 (by decide) ?_
        exact ih6 q6 z_15 qf qr H locs ls (by omega) (by first | exact hl6_0 | omega) (by omega) (by first | exact hl6_2 | omega) (by first | exact hl6_3 | omega)  (hP.sub [0, 1, 2] rfl) (hD.sub [0, 1, 2] (by decide) rfl) hS (lv_sub hlv [0, 1, 2, 3, 4, 5, 6, 7] rfl)
      · refine lv_aload_n hx hb dX12_sweeps_27 rfl (lv_at hlv 2 rfl) ?_
        refine va_get (D := D) (ci := 12) (v := vR m12) (C := RX12) (T := TX12) (N := 38) hx hb hts hi12 hown hG.1 hP 0 rfl rfl 12 (by decide) lf29 (fun _ h9 => h9) rfl dX12_sweeps_28 ?_
        refine lv_sipush (v := iI 192) hx hb dX12_sweeps_31 (by decide) ?_
        refine lv_iload hx hb dX12_sweeps_34 (lv_at hlv 0 rfl) ?_
        refine lv_iadd hx hb dX12_sweeps_36 ?_
        refine lt_e (e0 := 192 + q7) (Int32.ofInt_add _ _).symm (fun z_16 hz_16 => ?_)
        refine va_iald hx hb hG.1 hP 2 0 rfl rfl (iI_in (by omega) (by decide)) dX12_sweeps_37 ?_
        refine lt_nz (i := z_16) (by omega) (fun z_17 hz_17 lz_17 uz_17 => ?_)
        refine iz_ne (tgt := 44) hx hb dX12_sweeps_38 (by decide) (by omega) (fun c_18 => ?_) (fun c_18 => ?_)
        · refine lv_iconst (v := iI 1) hx hb dX12_sweeps_44 (by decide) ?_
          refine lv_istore (lv' := [(6, vI 1), (7, vI q7), (0, vR mm), (1, vI us), (2, vI x), (3, vI y), (4, vI fa), (5, vI gd)]) hx hb dX12_sweeps_45 hlv (by decide) rfl (fun ls hlv => ?_)
          refine lv_aload_n hx hb dX12_sweeps_47 rfl (lv_at hlv 2 rfl) ?_
          refine lv_iload hx hb dX12_sweeps_48 (lv_at hlv 1 rfl) ?_
          refine lv_iconst (v := iI 0) hx hb dX12_sweeps_50 (by decide) ?_
          refine cjr_i [false, false, false] (fun pre9 => (va_runV (As := [vI q7, vI 0]) (rest := []) ⟨hx, hb, hml, hown, hts⟩ (m_drainTold0 l hl D cy sa mm m1 m9 m10 m11 m12 m13 m14 m15 m19 m20 m21 m23 m24 m25 m26 m27 m28 m33 m35 th tp sz_ ap bad bk opn fp im nr nl sp_ wtc wcl ir ip shu qf qr f10 f12 q7 8 H.size (by first | exact hr_th | omega) (by first | exact hr_tp | omega) (by first | exact hr_sz_ | omega) (by first | exact hr_ap | omega) (by first | exact hr_bad | omega) (by first | exact hr_bk | omega) (by first | exact hr_opn | omega) (by first | exact hr_fp | omega) (by first | exact hr_im | omega) (by first | exact hr_nr | omega) (by first | exact hr_nl | omega) (by first | exact hr_sp_ | omega) (by first | exact hr_wtc | omega) (by first | exact hr_wcl | omega) (by first | exact hr_ir | omega) (by first | exact hr_ip | omega) (by first | exact hr_shu | omega) (by first | exact hl6_2 | omega) (by first | exact hl6_3 | omega) (by first | exact rgw hl6_1 (by decide) (by decide) | omega) (by show (8 : Int) ≤ 8 ∧ (8 : Int) ≤ 9; decide) (by omega) hf10 hf12) (cwV 2 hts gg_1 rfl rfl rfl (by decide +kernel) ⟨by dsimp only [headSpec]; omega, by dsimp only [headSpec]; omega⟩) ⟨pcW.blind, (va_recv hG.1 hP (ci := 12) (q0 := 0) rfl rfl), pre9⟩ rfl rfl hlv.1 rfl (lv_room (Nat.le_of_ble_eq_true rfl)) dX12_sweeps_51 ⟨Nat.le_of_ble_eq_true rfl, Nat.le_of_ble_eq_true rfl⟩)) hP hD hS hA hG hT [0, 1, 2] rfl (by decide +kernel) (fun r1 u1 H locs hw1 hq9 hS => ?_)
          obtain ⟨rfl, hq1_1, hq1_2, hq1_3⟩ := hw1
          obtain ⟨hP, hD⟩ := pd9 [zO mm 12 [vI th, vR m1, vI tp, vI sz_, vI ap, vI bad, vI bk, vI opn, vI fp, vR m9, vR m10, vR m11, vR m12, vR m13, vR m14, vR m15, vI im, vI nr, vI nl, vR m19, vR m20, vR m21, vI sp_, vR m23, vR m24, vR m25, vR m26, vR m27, vR m28, vI wtc, vI wcl, vI ir, vI ip, vR m33, vI shu, vR m35, vI qf, vI qr], zI m10 (cy 0) 68 f10, zI m12 (cy 0) 389 f12] hq9
          refine lv_istore (lv' := [(8, vI (u1.2.1 0)), (6, vI 1), (7, vI q7), (0, vR mm), (1, vI us), (2, vI x), (3, vI y), (4, vI fa), (5, vI gd)]) hx hb dX12_sweeps_54 hlv (by decide) rfl (fun ls hlv => ?_)
          refine lv_aload_n hx hb dX12_sweeps_56 rfl (lv_at hlv 3 rfl) ?_
          refine lv_iload hx hb dX12_sweeps_57 (lv_at hlv 2 rfl) ?_
          refine lv_iconst (v := iI 1) hx hb dX12_sweeps_59 (by decide) ?_
          refine cjr_i [false, false, false] (fun pre9 => (va_runV (As := [vI q7, vI 1]) (rest := []) ⟨hx, hb, hml, hown, hts⟩ (m_drainTold1 l hl D cy sa mm m1 m9 m10 m11 m12 m13 m14 m15 m19 m20 m21 m23 m24 m25 m26 m27 m28 m33 m35 th tp sz_ ap bad bk opn fp im nr nl sp_ wtc wcl ir ip shu qf qr f10 f12 q7 8 H.size (by first | exact hr_th | omega) (by first | exact hr_tp | omega) (by first | exact hr_sz_ | omega) (by first | exact hr_ap | omega) (by first | exact hr_bad | omega) (by first | exact hr_bk | omega) (by first | exact hr_opn | omega) (by first | exact hr_fp | omega) (by first | exact hr_im | omega) (by first | exact hr_nr | omega) (by first | exact hr_nl | omega) (by first | exact hr_sp_ | omega) (by first | exact hr_wtc | omega) (by first | exact hr_wcl | omega) (by first | exact hr_ir | omega) (by first | exact hr_ip | omega) (by first | exact hr_shu | omega) (by first | exact hl6_2 | omega) (by first | exact hl6_3 | omega) (by first | exact rgw hl6_1 (by decide) (by decide) | omega) (by show (8 : Int) ≤ 8 ∧ (8 : Int) ≤ 9; decide) (by omega) hq1_2 hq1_3) (cwV 2 hts gg_2 rfl rfl rfl (by decide +kernel) ⟨by dsimp only [headSpec]; omega, by dsimp only [headSpec]; omega⟩) ⟨pcW.blind, (va_recv hG.1 hP (ci := 12) (q0 := 0) rfl rfl), pre9⟩ rfl rfl hlv.1 rfl (lv_room (Nat.le_of_ble_eq_true rfl)) dX12_sweeps_60 ⟨Nat.le_of_ble_eq_true rfl, Nat.le_of_ble_eq_true rfl⟩)) hP hD hS hA hG hT [0, 1, 2] rfl (by decide +kernel) (fun r2 u2 H locs hw2 hq9 hS => ?_)
          obtain ⟨rfl, hq2_1, hq2_2, hq2_3⟩ := hw2
          obtain ⟨hP, hD⟩ := pd9 [zO mm 12 [vI th, vR m1, vI tp, vI sz_, vI ap, vI bad, vI bk, vI opn, vI fp, vR m9, vR m10, vR m11, vR m12, vR m13, vR m14, vR m15, vI im, vI nr, vI nl, vR m19, vR m20, vR m21, vI sp_, vR m23, vR m24, vR m25, vR m26, vR m27, vR m28, vI wtc, vI wcl, vI ir, vI ip, vR m33, vI shu, vR m35, vI qf, vI qr], zI m10 (cy 0) 68 f10, zI m12 (cy 0) 389 f12] hq9
          refine lv_istore (lv' := [(9, vI (u2.2.1 0)), (8, vI (u1.2.1 0)), (6, vI 1), (7, vI q7), (0, vR mm), (1, vI us), (2, vI x), (3, vI y), (4, vI fa), (5, vI gd)]) hx hb dX12_sweeps_63 hlv (by decide) rfl (fun ls hlv => ?_)
          refine lv_aload_n hx hb dX12_sweeps_65 rfl (lv_at hlv 4 rfl) ?_
          refine lv_iload_n hx hb dX12_sweeps_66 rfl (lv_at hlv 5 rfl) ?_
          refine lv_iconst (v := iI 1) hx hb dX12_sweeps_67 (by decide) ?_
          refine lv_iload hx hb dX12_sweeps_68 (lv_at hlv 3 rfl) ?_
          refine lv_ishl hx hb dX12_sweeps_70 ?_
          refine lt_sh2 (n := 5) (M := 32) (by decide) (by decide) (by omega) (fun z_19 ez_19 lz_19 hz_19 => ?_)
          refine lv_ior hx hb dX12_sweeps_71 ?_
          obtain ⟨z_20, ez_20, lz_20, hz_20⟩ := sw_inc (a := us) (k := q7) (by omega) (by omega) ez_19 ez_12 ez_13 (by omega) (by omega)
          refine lt_i (y := iI z_20) ez_20 ?_
          refine lv_iload hx hb dX12_sweeps_72 (lv_at hlv 1 rfl) ?_
          refine lv_iload hx hb dX12_sweeps_74 (lv_at hlv 0 rfl) ?_
          refine lv_iload hx hb dX12_sweeps_76 (lv_at hlv 8 rfl) ?_
          refine lv_iload hx hb dX12_sweeps_78 (lv_at hlv 1 rfl) ?_
          refine lv_iload_n hx hb dX12_sweeps_80 rfl (lv_at hlv 6 rfl) ?_
          refine lv_isub hx hb dX12_sweeps_81 ?_
          refine lt_e (e0 := (u1.2.1 0) - x) (Int32.ofInt_sub _ _).symm (fun z_21 hz_21 => ?_)
          refine cjr_i [true, true, true] (fun pre9 => (va_runS (As := [vI z_21]) (rest := [vI fa, vI (u2.2.1 0), vI (u1.2.1 0), vI z_20, vR mm]) ⟨hx, hb, hml, hown, hts⟩ (m_off l hl D cy sa z_21 H.size (by omega)) (va_cwS 1 hts gg_3 rfl rfl rfl (by decide +kernel) ⟨by dsimp only [headSpec]; omega, by dsimp only [headSpec]; omega⟩) ⟨pcW.blind, pre9⟩ rfl rfl hlv.1 rfl (lv_room (Nat.le_of_ble_eq_true rfl)) dX12_sweeps_82 ⟨Nat.le_of_ble_eq_true rfl, Nat.le_of_ble_eq_true rfl⟩)) hP hD hS hA hG hT [] rfl (by decide +kernel) (fun r3 u3 H locs hw3 hq9 hS => ?_)
          obtain ⟨rfl, hq3_1⟩ := hw3
          obtain ⟨hP, hD⟩ := pd9 [zO mm 12 [vI th, vR m1, vI tp, vI sz_, vI ap, vI bad, vI bk, vI opn, vI fp, vR m9, vR m10, vR m11, vR m12, vR m13, vR m14, vR m15, vI im, vI nr, vI nl, vR m19, vR m20, vR m21, vI sp_, vR m23, vR m24, vR m25, vR m26, vR m27, vR m28, vI wtc, vI wcl, vI ir, vI ip, vR m33, vI shu, vR m35, vI qf, vI qr], zI m10 (cy 0) 68 f10, zI m12 (cy 0) 389 f12] hq9
          refine lv_iadd hx hb dX12_sweeps_85 ?_
          refine lt_z (fun z_22 ez_22 lz_22 hz_22 => ?_)
          refine lv_iload hx hb dX12_sweeps_86 (lv_at hlv 0 rfl) ?_
          refine lv_iload_n hx hb dX12_sweeps_88 rfl (lv_at hlv 7 rfl) ?_
          refine lv_isub hx hb dX12_sweeps_89 ?_
          refine lt_e (e0 := (u2.2.1 0) - y) (Int32.ofInt_sub _ _).symm (fun z_23 hz_23 => ?_)
          refine cjr_i [true, true, true] (fun pre9 => (va_runS (As := [vI z_23]) (rest := [vI z_22, vI (u2.2.1 0), vI (u1.2.1 0), vI z_20, vR mm]) ⟨hx, hb, hml, hown, hts⟩ (m_off l hl D cy sa z_23 H.size (by omega)) (va_cwS 1 hts gg_3 rfl rfl rfl (by decide +kernel) ⟨by dsimp only [headSpec]; omega, by dsimp only [headSpec]; omega⟩) ⟨pcW.blind, pre9⟩ rfl rfl hlv.1 rfl (lv_room (Nat.le_of_ble_eq_true rfl)) dX12_sweeps_90 ⟨Nat.le_of_ble_eq_true rfl, Nat.le_of_ble_eq_true rfl⟩)) hP hD hS hA hG hT [] rfl (by decide +kernel) (fun r4 u4 H locs hw4 hq9 hS => ?_)
          obtain ⟨rfl, hq4_1⟩ := hw4
          obtain ⟨hP, hD⟩ := pd9 [zO mm 12 [vI th, vR m1, vI tp, vI sz_, vI ap, vI bad, vI bk, vI opn, vI fp, vR m9, vR m10, vR m11, vR m12, vR m13, vR m14, vR m15, vI im, vI nr, vI nl, vR m19, vR m20, vR m21, vI sp_, vR m23, vR m24, vR m25, vR m26, vR m27, vR m28, vI wtc, vI wcl, vI ir, vI ip, vR m33, vI shu, vR m35, vI qf, vI qr], zI m10 (cy 0) 68 f10, zI m12 (cy 0) 389 f12] hq9
          refine lv_iadd hx hb dX12_sweeps_93 ?_
          refine lt_z (fun z_24 ez_24 lz_24 hz_24 => ?_)
          refine lv_bipush (v := iI 10) hx hb dX12_sweeps_94 (by decide) ?_
          refine lv_iload hx hb dX12_sweeps_96 (lv_at hlv 9 rfl) ?_
          refine lv_imul hx hb dX12_sweeps_98 ?_
          refine lt_z (fun z_25 ez_25 lz_25 hz_25 => ?_)
          refine lv_iload hx hb dX12_sweeps_99 (lv_at hlv 3 rfl) ?_
          refine lv_iadd hx hb dX12_sweeps_101 ?_
          refine lt_z (fun z_26 ez_26 lz_26 hz_26 => ?_)
          refine cjr_v [false, false, false] (fun pre9 => (va_runV (As := [vI z_20, vI (u1.2.1 0), vI (u2.2.1 0), vI z_24, vI z_26]) (rest := []) ⟨hx, hb, hml, hown, hts⟩ (IH mm m1 m9 m10 m11 m12 m13 m14 m15 m19 m20 m21 m23 m24 m25 m26 m27 m28 m33 m35 th tp sz_ ap bad bk opn fp im nr nl sp_ wtc wcl ir ip shu qf qr f10 f12 z_20 (u1.2.1 0) (u2.2.1 0) z_24 z_26 H.size (by first | exact hr_th | omega) (by first | exact hr_tp | omega) (by first | exact hr_sz_ | omega) (by first | exact hr_ap | omega) (by first | exact hr_bad | omega) (by first | exact hr_bk | omega) (by first | exact hr_opn | omega) (by first | exact hr_fp | omega) (by first | exact hr_im | omega) (by first | exact hr_nr | omega) (by first | exact hr_nl | omega) (by first | exact hr_sp_ | omega) (by first | exact hr_wtc | omega) (by first | exact hr_wcl | omega) (by first | exact hr_ir | omega) (by first | exact hr_ip | omega) (by first | exact hr_shu | omega) (by first | exact hl6_2 | omega) (by first | exact hl6_3 | omega) (by omega) (by first | exact hq1_1 | omega) (by first | exact hq2_1 | omega) (by omega) (by omega) hq2_2 hq2_3 (by omega)) (cwV 5 hts gh_X12_sweeps_406 rfl rfl rfl (by decide +kernel) ⟨by dsimp only [headSpec]; omega, by dsimp only [headSpec]; omega⟩) ⟨pcW.blind, (va_recv hG.1 hP (ci := 12) (q0 := 0) rfl rfl), pre9⟩ rfl rfl hlv.1 rfl (lv_room (Nat.le_of_ble_eq_true rfl)) dX12_sweeps_102 ⟨Nat.le_of_ble_eq_true rfl, Nat.le_of_ble_eq_true rfl⟩)) hP hD hS hA hG hT [0, 1, 2] rfl (by decide +kernel) (fun u5 H locs hw5 hq9 hS => ?_)
          obtain ⟨hq5_0, hq5_1, hq5_2, hq5_3⟩ := hw5
          obtain ⟨hP, hD⟩ := pd9 [zO mm 12 [vI th, vR m1, vI tp, vI sz_, vI ap, vI bad, vI bk, vI opn, vI fp, vR m9, vR m10, vR m11, vR m12, vR m13, vR m14, vR m15, vI im, vI nr, vI nl, vR m19, vR m20, vR m21, vI sp_, vR m23, vR m24, vR m25, vR m26, vR m27, vR m28, vI wtc, vI wcl, vI ir, vI ip, vR m33, vI shu, vR m35, vI (u5.2.1 0), vI (u5.2.1 1)], zI m10 (cy 0) 68 f10, zI m12 (cy 0) 389 f12] hq9
          obtain ⟨z_27, hz_27⟩ : ∃ z : Int, z = q7 + 1 := ⟨_, rfl⟩
          refine lv_iinc (v := iI z_27) (lv' := [(7, vI z_27), (9, vI (u2.2.1 0)), (8, vI (u1.2.1 0)), (6, vI 1), (0, vR mm), (1, vI us), (2, vI x), (3, vI y), (4, vI fa), (5, vI gd)]) hx hb dX12_sweeps_105 hlv (k := 3) rfl (by rw [hz_27]; exact (Int32.ofInt_add _ _).symm) (by decide) rfl (fun ls hlv => ?_)
          refine lv_goto (tgt := 6) hx hb dX12_sweeps_108 (by decide) ?_
          exact ih6 1 z_27 (u5.2.1 0) (u5.2.1 1) H locs ls (by omega) (by show (0 : Int) ≤ 1 ∧ (1 : Int) ≤ 1; decide) (by omega) (by first | exact hq5_0 | omega) (by first | exact hq5_1 | omega)  (hP.sub [0, 1, 2] rfl) (hD.sub [0, 1, 2] (by decide) rfl) hS (lv_sub hlv [0, 3, 4, 5, 6, 7, 8, 9] rfl)
        · refine lv_goto (tgt := 105) hx hb dX12_sweeps_41 (by decide) ?_
          obtain ⟨z_28, hz_28⟩ : ∃ z : Int, z = q7 + 1 := ⟨_, rfl⟩
          refine lv_iinc (v := iI z_28) (lv' := [(7, vI z_28), (6, vI q6), (0, vR mm), (1, vI us), (2, vI x), (3, vI y), (4, vI fa), (5, vI gd)]) hx hb dX12_sweeps_105 hlv (k := 0) rfl (by rw [hz_28]; exact (Int32.ofInt_add _ _).symm) (by decide) rfl (fun ls hlv => ?_)
          refine lv_goto (tgt := 6) hx hb dX12_sweeps_108 (by decide) ?_
          exact ih6 q6 z_28 qf qr H locs ls (by omega) (by first | exact hl6_0 | omega) (by omega) (by first | exact hl6_2 | omega) (by first | exact hl6_3 | omega)  (hP.sub [0, 1, 2] rfl) (hD.sub [0, 1, 2] (by decide) rfl) hS (lv_sub hlv [0, 1, 2, 3, 4, 5, 6, 7] rfl)
theorem MS_all (l : Launch) (hl : l.stackTraces = false) (D : va_G) (cy : Nat → ClassId) (sa : Nat → Nat) : ∀ d : Nat, MS l D cy sa d := by
  intro d
  induction d with
  | zero => exact fun mm m1 m9 m10 m11 m12 m13 m14 m15 m19 m20 m21 m23 m24 m25 m26 m27 m28 m33 m35 th tp sz_ ap bad bk opn fp im nr nl sp_ wtc wcl ir ip shu sfa swr f10 f12 us x y fa gd sz hr_th hr_tp hr_sz_ hr_ap hr_bad hr_bk hr_opn hr_fp hr_im hr_nr hr_nl hr_sp_ hr_wtc hr_wcl hr_ir hr_ip hr_shu hr_sfa hr_swr hr_us hr_x hr_y hr_fa hr_gd hf10 hf12 hlev => by exfalso; omega
  | succ d ih => exact fun mm m1 m9 m10 m11 m12 m13 m14 m15 m19 m20 m21 m23 m24 m25 m26 m27 m28 m33 m35 th tp sz_ ap bad bk opn fp im nr nl sp_ wtc wcl ir ip shu sfa swr f10 f12 us x y fa gd sz hr_th hr_tp hr_sz_ hr_ap hr_bad hr_bk hr_opn hr_fp hr_im hr_nr hr_nl hr_sp_ hr_wtc hr_wcl hr_ir hr_ip hr_shu hr_sfa hr_swr hr_us hr_x hr_y hr_fa hr_gd hf10 hf12 hlev => m_sweeps_step l hl D cy sa d ih mm m1 m9 m10 m11 m12 m13 m14 m15 m19 m20 m21 m23 m24 m25 m26 m27 m28 m33 m35 th tp sz_ ap bad bk opn fp im nr nl sp_ wtc wcl ir ip shu sfa swr f10 f12 us x y fa gd sz hr_th hr_tp hr_sz_ hr_ap hr_bad hr_bk hr_opn hr_fp hr_im hr_nr hr_nl hr_sp_ hr_wtc hr_wcl hr_ir hr_ip hr_shu hr_sfa hr_swr hr_us hr_x hr_y hr_fa hr_gd hf10 hf12 hlev
theorem m_sweeps (l : Launch) (hl : l.stackTraces = false) (D : va_G) (cy : Nat → ClassId) (sa : Nat → Nat) (mm m1 m9 m10 m11 m12 m13 m14 m15 m19 m20 m21 m23 m24 m25 m26 m27 m28 m33 m35 : Nat) (th tp sz_ ap bad bk opn fp im nr nl sp_ wtc wcl ir ip shu sfa swr : Int) (f10 f12 : Nat → Int32) (us x y fa gd : Int) (sz : Nat) (hr_th : (-2147483648) ≤ th ∧ th ≤ 2147483647) (hr_tp : 0 ≤ tp ∧ tp ≤ 600) (hr_sz_ : 0 ≤ sz_ ∧ sz_ ≤ 600) (hr_ap : 0 ≤ ap ∧ ap ≤ 602) (hr_bad : (-1) ≤ bad ∧ bad ≤ 602) (hr_bk : 0 ≤ bk ∧ bk ≤ 4) (hr_opn : 0 ≤ opn ∧ opn ≤ 7) (hr_fp : (-2147483648) ≤ fp ∧ fp ≤ 2147483647) (hr_im : 0 ≤ im ∧ im ≤ 3) (hr_nr : 0 ≤ nr ∧ nr ≤ 4) (hr_nl : 0 ≤ nl ∧ nl ≤ 4) (hr_sp_ : 0 ≤ sp_ ∧ sp_ ≤ 602) (hr_wtc : (-2147483648) ≤ wtc ∧ wtc ≤ 2147483647) (hr_wcl : 0 ≤ wcl ∧ wcl ≤ 95) (hr_ir : 0 ≤ ir ∧ ir ≤ 5) (hr_ip : (-2147483648) ≤ ip ∧ ip ≤ 2147483647) (hr_shu : (-2147483648) ≤ shu ∧ shu ≤ 2147483647) (hr_sfa : (-2147483648) ≤ sfa ∧ sfa ≤ 2147483647) (hr_swr : (-2147483648) ≤ swr ∧ swr ≤ 2147483647) (hr_us : 0 ≤ us ∧ us ≤ 63) (hr_x : 0 ≤ x ∧ x ≤ 15) (hr_y : 0 ≤ y ∧ y ≤ 5) (hr_fa : (-2147483648) ≤ fa ∧ fa ≤ 2147483647) (hr_gd : (-2147483648) ≤ gd ∧ gd ≤ 2147483647) (hf10 : BI f10) (hf12 : SI 8 f12) : mV9 l yX12_sweeps vs_m_sweeps ({ frames := 256, cells := 0, slots := 0, locals := 12800 }) D cy sa sz [vR mm, vI us, vI x, vI y, vI fa, vI gd] [zO mm 12 [vI th, vR m1, vI tp, vI sz_, vI ap, vI bad, vI bk, vI opn, vI fp, vR m9, vR m10, vR m11, vR m12, vR m13, vR m14, vR m15, vI im, vI nr, vI nl, vR m19, vR m20, vR m21, vI sp_, vR m23, vR m24, vR m25, vR m26, vR m27, vR m28, vI wtc, vI wcl, vI ir, vI ip, vR m33, vI shu, vR m35, vI sfa, vI swr], zI m10 (cy 0) 68 f10, zI m12 (cy 0) 389 f12] (fun u : SV => ((-2147483648) ≤ u.2.1 0 ∧ u.2.1 0 ≤ 2147483647) ∧ ((-2147483648) ≤ u.2.1 1 ∧ u.2.1 1 ≤ 2147483647) ∧ BI f10 ∧ SI 8 f12) (fun u : SV => [zO mm 12 [vI th, vR m1, vI tp, vI sz_, vI ap, vI bad, vI bk, vI opn, vI fp, vR m9, vR m10, vR m11, vR m12, vR m13, vR m14, vR m15, vI im, vI nr, vI nl, vR m19, vR m20, vR m21, vI sp_, vR m23, vR m24, vR m25, vR m26, vR m27, vR m28, vI wtc, vI wcl, vI ir, vI ip, vR m33, vI shu, vR m35, vI (u.2.1 0), vI (u.2.1 1)], zI m10 (cy 0) 68 f10, zI m12 (cy 0) 389 f12]) 0 0 :=
  (MS_all l hl D cy sa 64) mm m1 m9 m10 m11 m12 m13 m14 m15 m19 m20 m21 m23 m24 m25 m26 m27 m28 m33 m35 th tp sz_ ap bad bk opn fp im nr nl sp_ wtc wcl ir ip shu sfa swr f10 f12 us x y fa gd sz hr_th hr_tp hr_sz_ hr_ap hr_bad hr_bk hr_opn hr_fp hr_im hr_nr hr_nl hr_sp_ hr_wtc hr_wcl hr_ir hr_ip hr_shu hr_sfa hr_swr hr_us hr_x hr_y hr_fa hr_gd hf10 hf12 (by omega)
def vs_m_sweep : List Cond := .code yX12_sweep cX12_sweep 2 (some .int) :: (([.fieldLink RX12 1 "KerbSplashModel" "thrown" "I", .fieldLink RX12 409 "KerbSplashModel" "sweepFar" "I", .fieldLink RX12 412 "KerbSplashModel" "sweepRow" "I"] : List Cond) ++ ((wsX120) ++ ((va_wsS RX12 279 yX12_within vs_m_within) ++ ((wsV RX12 175 RX12 yX12_may vs_m_may) ++ ((wsV RX12 406 RX12 yX12_sweeps vs_m_sweeps) ++ ([]))))))
set_option maxHeartbeats 4000000 in
set_option maxRecDepth 100000 in
theorem m_sweep (l : Launch) (hl : l.stackTraces = false) (D : va_G) (cy : Nat → ClassId) (sa : Nat → Nat) (mm m1 m9 m10 m11 m12 m13 m14 m15 m19 m20 m21 m23 m24 m25 m26 m27 m28 m33 m35 : Nat) (th tp sz_ ap bad bk opn fp im nr nl sp_ wtc wcl ir ip shu sfa swr : Int) (f1 f10 f12 : Nat → Int32) (n : Int) (sz : Nat) (hr_th : (-2147483648) ≤ th ∧ th ≤ 2147483647) (hr_tp : 0 ≤ tp ∧ tp ≤ 600) (hr_sz_ : 0 ≤ sz_ ∧ sz_ ≤ 600) (hr_ap : 0 ≤ ap ∧ ap ≤ 602) (hr_bad : (-1) ≤ bad ∧ bad ≤ 602) (hr_bk : 0 ≤ bk ∧ bk ≤ 4) (hr_opn : 0 ≤ opn ∧ opn ≤ 7) (hr_fp : (-2147483648) ≤ fp ∧ fp ≤ 2147483647) (hr_im : 0 ≤ im ∧ im ≤ 3) (hr_nr : 0 ≤ nr ∧ nr ≤ 4) (hr_nl : 0 ≤ nl ∧ nl ≤ 4) (hr_sp_ : 0 ≤ sp_ ∧ sp_ ≤ 602) (hr_wtc : (-2147483648) ≤ wtc ∧ wtc ≤ 2147483647) (hr_wcl : 0 ≤ wcl ∧ wcl ≤ 95) (hr_ir : 0 ≤ ir ∧ ir ≤ 5) (hr_ip : (-2147483648) ≤ ip ∧ ip ≤ 2147483647) (hr_shu : (-2147483648) ≤ shu ∧ shu ≤ 2147483647) (hr_sfa : (-2147483648) ≤ sfa ∧ sfa ≤ 2147483647) (hr_swr : (-2147483648) ≤ swr ∧ swr ≤ 2147483647) (hr_n : (-2147483648) ≤ n ∧ n ≤ 2147483647) (hf10 : BI f10) (hf12 : SI 8 f12) : mI9 l yX12_sweep vs_m_sweep ({ frames := 257, cells := 0, slots := 0, locals := 12829 }) D cy sa sz [vR mm, vI n] [zO mm 12 [vI th, vR m1, vI tp, vI sz_, vI ap, vI bad, vI bk, vI opn, vI fp, vR m9, vR m10, vR m11, vR m12, vR m13, vR m14, vR m15, vI im, vI nr, vI nl, vR m19, vR m20, vR m21, vI sp_, vR m23, vR m24, vR m25, vR m26, vR m27, vR m28, vI wtc, vI wcl, vI ir, vI ip, vR m33, vI shu, vR m35, vI sfa, vI swr], zI m1 (cy 0) 4 f1, zI m10 (cy 0) 68 f10, zI m12 (cy 0) 389 f12] (fun (r : Int32) (u : SV) => r = iI (u.2.1 0) ∧ ((-2147483648) ≤ u.2.1 1 ∧ u.2.1 1 ≤ 2147483647) ∧ ((-2147483648) ≤ u.2.1 2 ∧ u.2.1 2 ≤ 2147483647) ∧ ((-2147483648) ≤ u.2.1 3 ∧ u.2.1 3 ≤ 2147483647) ∧ ((-2147483648) ≤ u.2.1 0 ∧ u.2.1 0 ≤ 2147483647) ∧ BI f10 ∧ SI 8 f12) (fun u : SV => [zO mm 12 [vI (u.2.1 1), vR m1, vI tp, vI sz_, vI ap, vI bad, vI bk, vI opn, vI fp, vR m9, vR m10, vR m11, vR m12, vR m13, vR m14, vR m15, vI im, vI nr, vI nl, vR m19, vR m20, vR m21, vI sp_, vR m23, vR m24, vR m25, vR m26, vR m27, vR m28, vI wtc, vI wcl, vI ir, vI ip, vR m33, vI shu, vR m35, vI (u.2.1 2), vI (u.2.1 3)], zI m1 (cy 0) 4 (u.2.2 0), zI m10 (cy 0) 68 f10, zI m12 (cy 0) 389 f12]) 0 0 := by
  refine Met.ofW (cc := cX12_sweep) (maxL := 2) (ret := (some .int)) (by decide) rfl ?_
  intro p e s m args below meth c s₁ B hml hv
  obtain ⟨rfl, hsz, hP, hG, hD0, hT⟩ := hv
  have hx := B.exec
  have hb := B.bytes
  have hr := B.returns
  have hts := atoms_spec (ws := vs_m_sweep) B.pre
  have hown : s.vm.findClass RX12 = some m.cls := findClass_of_methodNamed B.named
  have hlocks := B.notSynchronized
  subst hsz
  have hD := hD0.self (sz := s.heap.size)
  generalize hAe : va_A [zO mm 12 [vI th, vR m1, vI tp, vI sz_, vI ap, vI bad, vI bk, vI opn, vI fp, vR m9, vR m10, vR m11, vR m12, vR m13, vR m14, vR m15, vI im, vI nr, vI nl, vR m19, vR m20, vR m21, vI sp_, vR m23, vR m24, vR m25, vR m26, vR m27, vR m28, vI wtc, vI wcl, vI ir, vI ip, vR m33, vI shu, vR m35, vI sfa, vI swr], zI m1 (cy 0) 4 f1, zI m10 (cy 0) 68 f10, zI m12 (cy 0) 389 f12] s.heap.size = A at hD hT ⊢
  have hA : ∀ q : Nat, s.heap.size ≤ q → A q := fun q h => by rw [← hAe]; exact Or.inr h
  have hS : va_S A s.heap s.heap [] := va_S.rf
  have hl0 := lv_entry ([vR mm, vI n]) (n := 2) (Nat.le_of_ble_eq_true rfl)
  rw [lg_entry_eq]
  generalize (lg_sl ([vR mm, vI n]) ++ List.replicate (2 - (lg_sl ([vR mm, vI n])).length) Slot.unset).toArray = ls at hl0 ⊢
  have hlv : lv_has ls 2 [(0, vR mm), (1, vI n)] := hl0
  have lf1 := hts (.fieldLink RX12 1 "KerbSplashModel" "thrown" "I") (List.mem_of_getElem? (i := 1) rfl)
  have hi12 : ∀ w ∈ wsX120, w ∈ vs_m_sweep := fun w h => List.mem_cons_of_mem _ (List.mem_append_right _ (List.mem_append_left _ h))
  have gg_1 : GoodIn vs_m_sweep (va_wsS RX12 279 yX12_within vs_m_within) := goodIn_sub (fun w h => List.mem_cons_of_mem _ (List.mem_append_right _ (List.mem_append_right _ (List.mem_append_left _ h)))) (gd_S gd_m_within (by decide +kernel))
  have gg_2 : GoodIn vs_m_sweep (wsV RX12 175 RX12 yX12_may vs_m_may) := goodIn_sub (fun w h => List.mem_cons_of_mem _ (List.mem_append_right _ (List.mem_append_right _ (List.mem_append_right _ (List.mem_append_left _ h))))) (gd_V gd_m_may (by decide +kernel))
  have lf409 := hts (.fieldLink RX12 409 "KerbSplashModel" "sweepFar" "I") (List.mem_of_getElem? (i := 2) rfl)
  have gg_3 : GoodIn vs_m_sweep (wsV RX12 406 RX12 yX12_sweeps vs_m_sweeps) := goodIn_sub (fun w h => List.mem_cons_of_mem _ (List.mem_append_right _ (List.mem_append_right _ (List.mem_append_right _ (List.mem_append_right _ (List.mem_append_left _ h)))))) (gd_V gd_m_sweeps (by decide +kernel))
  have lf412 := hts (.fieldLink RX12 412 "KerbSplashModel" "sweepRow" "I") (List.mem_of_getElem? (i := 3) rfl)
  refine lv_aload_n hx hb dX12_sweep_0 rfl (lv_at hlv 0 rfl) ?_
  refine lv_iconst (v := iI 0) hx hb dX12_sweep_1 (by decide) ?_
  refine va_put (D := D) (ci := 12) (v := vI 0) (ty := .int) (C := RX12) (T := TX12) (N := 38) hx hb hts hi12 tyX12 tyX12_ok nmX12 hown hG.1 hP hD hS 0 rfl rfl 0 (by decide) lf1 (fun _ h9 => h9) rfl (by decide +kernel) rfl rfl (Nat.le_of_ble_eq_true rfl) dX12_sweep_2 (fun H locs hP hD hS => ?_)
  obtain ⟨hP, hD⟩ := pw9 [zO mm 12 [vI 0, vR m1, vI tp, vI sz_, vI ap, vI bad, vI bk, vI opn, vI fp, vR m9, vR m10, vR m11, vR m12, vR m13, vR m14, vR m15, vI im, vI nr, vI nl, vR m19, vR m20, vR m21, vI sp_, vR m23, vR m24, vR m25, vR m26, vR m27, vR m28, vI wtc, vI wcl, vI ir, vI ip, vR m33, vI shu, vR m35, vI sfa, vI swr], zI m1 (cy 0) 4 f1, zI m10 (cy 0) 68 f10, zI m12 (cy 0) 389 f12] hP hD
  refine lv_aload_n hx hb dX12_sweep_5 rfl (lv_at hlv 0 rfl) ?_
  refine lv_iload_n hx hb dX12_sweep_6 rfl (lv_at hlv 1 rfl) ?_
  refine lv_iconst (v := iI 0) hx hb dX12_sweep_7 (by decide) ?_
  refine lv_iconst (v := iI 1) hx hb dX12_sweep_8 (by decide) ?_
  refine cjr_i [true, true, true, true] (fun pre9 => (va_runS (As := [vI n, vI 0, vI 1]) (rest := [vR mm]) ⟨hx, hb, hml, hown, hts⟩ (m_within l hl D cy sa n 0 1 H.size (by first | exact hr_n | omega) (by show ((-2147483648) : Int) ≤ 0 ∧ (0 : Int) ≤ 2147483647; decide) (by show ((-2147483648) : Int) ≤ 1 ∧ (1 : Int) ≤ 2147483647; decide)) (va_cwS 3 hts gg_1 rfl rfl rfl (by decide +kernel) ⟨Nat.le_of_ble_eq_true rfl, Nat.le_of_ble_eq_true rfl⟩) ⟨pcW.blind, pre9⟩ rfl rfl hlv.1 rfl (lv_room (Nat.le_of_ble_eq_true rfl)) dX12_sweep_9 ⟨Nat.le_of_ble_eq_true rfl, Nat.le_of_ble_eq_true rfl⟩)) hP hD hS hA hG hT [] rfl (by decide +kernel) (fun r1 u1 H locs hw1 hq9 hS => ?_)
  obtain ⟨rfl, hq1_1, hq1_2, hq1_3⟩ := hw1
  obtain ⟨hP, hD⟩ := pd9 [zO mm 12 [vI 0, vR m1, vI tp, vI sz_, vI ap, vI bad, vI bk, vI opn, vI fp, vR m9, vR m10, vR m11, vR m12, vR m13, vR m14, vR m15, vI im, vI nr, vI nl, vR m19, vR m20, vR m21, vI sp_, vR m23, vR m24, vR m25, vR m26, vR m27, vR m28, vI wtc, vI wcl, vI ir, vI ip, vR m33, vI shu, vR m35, vI sfa, vI swr], zI m1 (cy 0) 4 f1, zI m10 (cy 0) 68 f10, zI m12 (cy 0) 389 f12] hq9
  refine lv_iconst (v := iI 1) hx hb dX12_sweep_12 (by decide) ?_
  refine lv_iconst (v := iI 2) hx hb dX12_sweep_13 (by decide) ?_
  refine cjr_i [false, false, true, true] (fun pre9 => (va_runV (As := [vI (u1.2.1 0), vI 1, vI 2]) (rest := []) ⟨hx, hb, hml, hown, hts⟩ (m_may l hl D cy sa mm m1 m9 m10 m11 m12 m13 m14 m15 m19 m20 m21 m23 m24 m25 m26 m27 m28 m33 m35 0 tp sz_ ap bad bk opn fp im nr nl sp_ wtc wcl ir ip shu sfa swr f1 (u1.2.1 0) 1 2 H.size (by show ((-2147483648) : Int) ≤ 0 ∧ (0 : Int) ≤ 2147483647; decide) (by first | exact hr_tp | omega) (by first | exact hr_sz_ | omega) (by first | exact hr_ap | omega) (by first | exact hr_bad | omega) (by first | exact hr_bk | omega) (by first | exact hr_opn | omega) (by first | exact hr_fp | omega) (by first | exact hr_im | omega) (by first | exact hr_nr | omega) (by first | exact hr_nl | omega) (by first | exact hr_sp_ | omega) (by first | exact hr_wtc | omega) (by first | exact hr_wcl | omega) (by first | exact hr_ir | omega) (by first | exact hr_ip | omega) (by first | exact hr_shu | omega) (by first | exact hr_sfa | omega) (by first | exact hr_swr | omega) (by first | exact hq1_1 | omega) (by show (1 : Int) ≤ 1 ∧ (1 : Int) ≤ 4; decide) (by show (0 : Int) ≤ 2 ∧ (2 : Int) ≤ 3; decide)) (cwV 3 hts gg_2 rfl rfl rfl (by decide +kernel) ⟨Nat.le_of_ble_eq_true rfl, Nat.le_of_ble_eq_true rfl⟩) ⟨pcW.blind, (va_recv hG.1 hP (ci := 12) (q0 := 0) rfl rfl), pre9⟩ rfl rfl hlv.1 rfl (lv_room (Nat.le_of_ble_eq_true rfl)) dX12_sweep_14 ⟨Nat.le_of_ble_eq_true rfl, Nat.le_of_ble_eq_true rfl⟩)) hP hD hS hA hG hT [0, 1] rfl (by decide +kernel) (fun r2 u2 H locs hw2 hq9 hS => ?_)
  obtain ⟨rfl, hq2_1, hq2_2, hq2_3, hq2_4⟩ := hw2
  obtain ⟨hP, hD⟩ := pd9 [zI m10 (cy 0) 68 f10, zI m12 (cy 0) 389 f12, zO mm 12 [vI (u2.2.1 1), vR m1, vI tp, vI sz_, vI ap, vI bad, vI bk, vI opn, vI fp, vR m9, vR m10, vR m11, vR m12, vR m13, vR m14, vR m15, vI im, vI nr, vI nl, vR m19, vR m20, vR m21, vI sp_, vR m23, vR m24, vR m25, vR m26, vR m27, vR m28, vI wtc, vI wcl, vI ir, vI ip, vR m33, vI shu, vR m35, vI sfa, vI swr], zI m1 (cy 0) 4 (u2.2.2 0)] hq9
  refine iz_ne (tgt := 22) hx hb dX12_sweep_17 (by decide) (by first | exact rgw hq2_2 (by decide) (by decide) | omega) (fun c_1 => ?_) (fun c_1 => ?_)
  · refine lv_aload_n hx hb dX12_sweep_22 rfl (lv_at hlv 0 rfl) ?_
    refine lv_iconst (v := iI (-1)) hx hb dX12_sweep_23 (by decide) ?_
    refine va_put (D := D) (ci := 12) (v := vI (-1)) (ty := .int) (C := RX12) (T := TX12) (N := 38) hx hb hts hi12 tyX12 tyX12_ok nmX12 hown hG.1 hP hD hS 2 rfl rfl 36 (by decide) lf409 (fun _ h9 => h9) rfl (by decide +kernel) rfl rfl (Nat.le_of_ble_eq_true rfl) dX12_sweep_24 (fun H locs hP hD hS => ?_)
    obtain ⟨hP, hD⟩ := pw9 [zI m10 (cy 0) 68 f10, zI m12 (cy 0) 389 f12, zO mm 12 [vI (u2.2.1 1), vR m1, vI tp, vI sz_, vI ap, vI bad, vI bk, vI opn, vI fp, vR m9, vR m10, vR m11, vR m12, vR m13, vR m14, vR m15, vI im, vI nr, vI nl, vR m19, vR m20, vR m21, vI sp_, vR m23, vR m24, vR m25, vR m26, vR m27, vR m28, vI wtc, vI wcl, vI ir, vI ip, vR m33, vI shu, vR m35, vI (-1), vI swr], zI m1 (cy 0) 4 (u2.2.2 0)] hP hD
    refine lv_aload_n hx hb dX12_sweep_27 rfl (lv_at hlv 0 rfl) ?_
    refine lv_iconst (v := iI 0) hx hb dX12_sweep_28 (by decide) ?_
    refine lv_iconst (v := iI 0) hx hb dX12_sweep_29 (by decide) ?_
    refine lv_iconst (v := iI 0) hx hb dX12_sweep_30 (by decide) ?_
    refine lv_iconst (v := iI 0) hx hb dX12_sweep_31 (by decide) ?_
    refine lv_iconst (v := iI 0) hx hb dX12_sweep_32 (by decide) ?_
    refine cjr_v [false, false, false, true] (fun pre9 => (va_runV (As := [vI 0, vI 0, vI 0, vI 0, vI 0]) (rest := []) ⟨hx, hb, hml, hown, hts⟩ (m_sweeps l hl D cy sa mm m1 m9 m10 m11 m12 m13 m14 m15 m19 m20 m21 m23 m24 m25 m26 m27 m28 m33 m35 (u2.2.1 1) tp sz_ ap bad bk opn fp im nr nl sp_ wtc wcl ir ip shu (-1) swr f10 f12 0 0 0 0 0 H.size (by first | exact hq2_1 | omega) (by first | exact hr_tp | omega) (by first | exact hr_sz_ | omega) (by first | exact hr_ap | omega) (by first | exact hr_bad | omega) (by first | exact hr_bk | omega) (by first | exact hr_opn | omega) (by first | exact hr_fp | omega) (by first | exact hr_im | omega) (by first | exact hr_nr | omega) (by first | exact hr_nl | omega) (by first | exact hr_sp_ | omega) (by first | exact hr_wtc | omega) (by first | exact hr_wcl | omega) (by first | exact hr_ir | omega) (by first | exact hr_ip | omega) (by first | exact hr_shu | omega) (by show ((-2147483648) : Int) ≤ (-1) ∧ ((-1) : Int) ≤ 2147483647; decide) (by first | exact hr_swr | omega) (by show (0 : Int) ≤ 0 ∧ (0 : Int) ≤ 63; decide) (by show (0 : Int) ≤ 0 ∧ (0 : Int) ≤ 15; decide) (by show (0 : Int) ≤ 0 ∧ (0 : Int) ≤ 5; decide) (by show ((-2147483648) : Int) ≤ 0 ∧ (0 : Int) ≤ 2147483647; decide) (by show ((-2147483648) : Int) ≤ 0 ∧ (0 : Int) ≤ 2147483647; decide) hf10 hf12) (cwV 5 hts gg_3 rfl rfl rfl (by decide +kernel) ⟨Nat.le_of_ble_eq_true rfl, Nat.le_of_ble_eq_true rfl⟩) ⟨pcW.blind, (va_recv hG.1 hP (ci := 12) (q0 := 2) rfl rfl), pre9⟩ rfl rfl hlv.1 rfl (lv_room (Nat.le_of_ble_eq_true rfl)) dX12_sweep_33 ⟨Nat.le_of_ble_eq_true rfl, Nat.le_of_ble_eq_true rfl⟩)) hP hD hS hA hG hT [2, 0, 1] rfl (by decide +kernel) (fun u3 H locs hw3 hq9 hS => ?_)
    obtain ⟨hq3_0, hq3_1, hq3_2, hq3_3⟩ := hw3
    obtain ⟨hP, hD⟩ := pd9 [zI m1 (cy 0) 4 (u2.2.2 0), zO mm 12 [vI (u2.2.1 1), vR m1, vI tp, vI sz_, vI ap, vI bad, vI bk, vI opn, vI fp, vR m9, vR m10, vR m11, vR m12, vR m13, vR m14, vR m15, vI im, vI nr, vI nl, vR m19, vR m20, vR m21, vI sp_, vR m23, vR m24, vR m25, vR m26, vR m27, vR m28, vI wtc, vI wcl, vI ir, vI ip, vR m33, vI shu, vR m35, vI (u3.2.1 0), vI (u3.2.1 1)], zI m10 (cy 0) 68 f10, zI m12 (cy 0) 389 f12] hq9
    refine lv_iload_n hx hb dX12_sweep_36 rfl (lv_at hlv 1 rfl) ?_
    refine iz_ne (tgt := 47) hx hb dX12_sweep_37 (by decide) (by first | exact hr_n | omega) (fun c_2 => ?_) (fun c_2 => ?_)
    · refine lv_aload_n hx hb dX12_sweep_47 rfl (lv_at hlv 0 rfl) ?_
      refine va_get (D := D) (ci := 12) (v := vI (u3.2.1 1)) (C := RX12) (T := TX12) (N := 38) hx hb hts hi12 hown hG.1 hP 1 rfl rfl 37 (by decide) lf412 (fun _ h9 => h9) rfl dX12_sweep_48 ?_
      refine W.widen (k := 0) (n := 0) (Nat.le_of_ble_eq_true rfl) (Nat.le_of_ble_eq_true rfl) ?_
      exact W.iret (v := iI (u3.2.1 1)) hx hb hr (fun t ht hW => ⟨⟨iI (u3.2.1 1), ((fun k => ([] : List Nat).getD k 0), (fun k => ([(u3.2.1 1), (u2.2.1 1), (u3.2.1 0), (u3.2.1 1)] : List Int).getD k 0), (fun k => ([(u2.2.2 0)] : List (Nat → Int32)).getD k (fun _ => 0))), rfl, ⟨rfl, (by show ((-2147483648) ≤ (u2.2.1 1) ∧ (u2.2.1 1) ≤ 2147483647); first | exact hq2_1 | omega), (by show ((-2147483648) ≤ (u3.2.1 0) ∧ (u3.2.1 0) ≤ 2147483647); first | exact hq3_0 | omega), (by show ((-2147483648) ≤ (u3.2.1 1) ∧ (u3.2.1 1) ≤ 2147483647); first | exact hq3_1 | omega), (by show ((-2147483648) ≤ (u3.2.1 1) ∧ (u3.2.1 1) ≤ 2147483647); first | exact hq3_1 | omega), hq3_2, hq3_3⟩, at9 ht hP hD [1, 0, 2, 3] (by decide +kernel) rfl⟩, hS.F ht⟩) hS.2.2 dX12_sweep_51
    · refine lv_aload_n hx hb dX12_sweep_40 rfl (lv_at hlv 0 rfl) ?_
      refine va_get (D := D) (ci := 12) (v := vI (u3.2.1 0)) (C := RX12) (T := TX12) (N := 38) hx hb hts hi12 hown hG.1 hP 1 rfl rfl 36 (by decide) lf409 (fun _ h9 => h9) rfl dX12_sweep_41 ?_
      refine lv_goto (tgt := 51) hx hb dX12_sweep_44 (by decide) ?_
      refine W.widen (k := 0) (n := 0) (Nat.le_of_ble_eq_true rfl) (Nat.le_of_ble_eq_true rfl) ?_
      exact W.iret (v := iI (u3.2.1 0)) hx hb hr (fun t ht hW => ⟨⟨iI (u3.2.1 0), ((fun k => ([] : List Nat).getD k 0), (fun k => ([(u3.2.1 0), (u2.2.1 1), (u3.2.1 0), (u3.2.1 1)] : List Int).getD k 0), (fun k => ([(u2.2.2 0)] : List (Nat → Int32)).getD k (fun _ => 0))), rfl, ⟨rfl, (by show ((-2147483648) ≤ (u2.2.1 1) ∧ (u2.2.1 1) ≤ 2147483647); first | exact hq2_1 | omega), (by show ((-2147483648) ≤ (u3.2.1 0) ∧ (u3.2.1 0) ≤ 2147483647); first | exact hq3_0 | omega), (by show ((-2147483648) ≤ (u3.2.1 1) ∧ (u3.2.1 1) ≤ 2147483647); first | exact hq3_1 | omega), (by show ((-2147483648) ≤ (u3.2.1 0) ∧ (u3.2.1 0) ≤ 2147483647); first | exact hq3_0 | omega), hq3_2, hq3_3⟩, at9 ht hP hD [1, 0, 2, 3] (by decide +kernel) rfl⟩, hS.F ht⟩) hS.2.2 dX12_sweep_51
  · refine lv_iconst (v := iI 0) hx hb dX12_sweep_20 (by decide) ?_
    refine W.widen (k := 0) (n := 0) (Nat.le_of_ble_eq_true rfl) (Nat.le_of_ble_eq_true rfl) ?_
    exact W.iret (v := iI 0) hx hb hr (fun t ht hW => ⟨⟨iI 0, ((fun k => ([] : List Nat).getD k 0), (fun k => ([0, (u2.2.1 1), sfa, swr] : List Int).getD k 0), (fun k => ([(u2.2.2 0)] : List (Nat → Int32)).getD k (fun _ => 0))), rfl, ⟨rfl, (by show ((-2147483648) ≤ (u2.2.1 1) ∧ (u2.2.1 1) ≤ 2147483647); first | exact hq2_1 | omega), (by show ((-2147483648) ≤ sfa ∧ sfa ≤ 2147483647); first | exact hr_sfa | omega), (by show ((-2147483648) ≤ swr ∧ swr ≤ 2147483647); first | exact hr_swr | omega), (by show ((-2147483648) ≤ 0 ∧ 0 ≤ 2147483647); show ((-2147483648) : Int) ≤ 0 ∧ (0 : Int) ≤ 2147483647; decide), hf10, hf12⟩, at9 ht hP hD [2, 3, 0, 1] (by decide +kernel) rfl⟩, hS.F ht⟩) hS.2.2 dX12_sweep_21
end
section
theorem dX12_daysOf_0 : decode cX12_daysOf 0 = .ok (.iconst 0, 1) := by decide +kernel
theorem dX12_daysOf_1 : decode cX12_daysOf 1 = .ok (.istore_n 2, 1) := by decide +kernel
theorem dX12_daysOf_12 : decode cX12_daysOf 12 = .ok (.iaload, 1) := by decide +kernel
theorem dX12_daysOf_13 : decode cX12_daysOf 13 = .ok (.if_icmp .ge 39, 3) := by decide +kernel
theorem dX12_daysOf_16 : decode cX12_daysOf 16 = .ok (.iload_n 2, 1) := by decide +kernel
theorem dX12_daysOf_17 : decode cX12_daysOf 17 = .ok (.iload_n 1, 1) := by decide +kernel
theorem dX12_daysOf_18 : decode cX12_daysOf 18 = .ok (.iload_n 3, 1) := by decide +kernel
theorem dX12_daysOf_19 : decode cX12_daysOf 19 = .ok (.ishr, 1) := by decide +kernel
theorem dX12_daysOf_2 : decode cX12_daysOf 2 = .ok (.iconst 0, 1) := by decide +kernel
theorem dX12_daysOf_20 : decode cX12_daysOf 20 = .ok (.iconst 1, 1) := by decide +kernel
theorem dX12_daysOf_21 : decode cX12_daysOf 21 = .ok (.iand, 1) := by decide +kernel
theorem dX12_daysOf_22 : decode cX12_daysOf 22 = .ok (.iconst 1, 1) := by decide +kernel
theorem dX12_daysOf_23 : decode cX12_daysOf 23 = .ok (.if_icmp .ne 20, 3) := by decide +kernel
theorem dX12_daysOf_26 : decode cX12_daysOf 26 = .ok (.aload_n 0, 1) := by decide +kernel
theorem dX12_daysOf_27 : decode cX12_daysOf 27 = .ok (.getfield 29, 3) := by decide +kernel
theorem dX12_daysOf_3 : decode cX12_daysOf 3 = .ok (.istore_n 3, 1) := by decide +kernel
theorem dX12_daysOf_30 : decode cX12_daysOf 30 = .ok (.sipush 358, 3) := by decide +kernel
theorem dX12_daysOf_33 : decode cX12_daysOf 33 = .ok (.iconst 3, 1) := by decide +kernel
theorem dX12_daysOf_34 : decode cX12_daysOf 34 = .ok (.iload_n 3, 1) := by decide +kernel
theorem dX12_daysOf_35 : decode cX12_daysOf 35 = .ok (.imul, 1) := by decide +kernel
theorem dX12_daysOf_36 : decode cX12_daysOf 36 = .ok (.iadd, 1) := by decide +kernel
theorem dX12_daysOf_37 : decode cX12_daysOf 37 = .ok (.iconst 1, 1) := by decide +kernel
theorem dX12_daysOf_38 : decode cX12_daysOf 38 = .ok (.iadd, 1) := by decide +kernel
theorem dX12_daysOf_39 : decode cX12_daysOf 39 = .ok (.iaload, 1) := by decide +kernel
theorem dX12_daysOf_4 : decode cX12_daysOf 4 = .ok (.iload_n 3, 1) := by decide +kernel
theorem dX12_daysOf_40 : decode cX12_daysOf 40 = .ok (.goto 4, 3) := by decide +kernel
theorem dX12_daysOf_43 : decode cX12_daysOf 43 = .ok (.iconst 0, 1) := by decide +kernel
theorem dX12_daysOf_44 : decode cX12_daysOf 44 = .ok (.iadd, 1) := by decide +kernel
theorem dX12_daysOf_45 : decode cX12_daysOf 45 = .ok (.istore_n 2, 1) := by decide +kernel
theorem dX12_daysOf_46 : decode cX12_daysOf 46 = .ok (.iinc 3 1, 3) := by decide +kernel
theorem dX12_daysOf_49 : decode cX12_daysOf 49 = .ok (.goto (-45), 3) := by decide +kernel
theorem dX12_daysOf_5 : decode cX12_daysOf 5 = .ok (.aload_n 0, 1) := by decide +kernel
theorem dX12_daysOf_52 : decode cX12_daysOf 52 = .ok (.iload_n 2, 1) := by decide +kernel
theorem dX12_daysOf_53 : decode cX12_daysOf 53 = .ok (.ireturn, 1) := by decide +kernel
theorem dX12_daysOf_6 : decode cX12_daysOf 6 = .ok (.getfield 29, 3) := by decide +kernel
theorem dX12_daysOf_9 : decode cX12_daysOf 9 = .ok (.sipush 357, 3) := by decide +kernel
theorem dX12_doing_0 : decode cX12_doing 0 = .ok (.aload_n 0, 1) := by decide +kernel
theorem dX12_doing_1 : decode cX12_doing 1 = .ok (.iload_n 1, 1) := by decide +kernel
theorem dX12_doing_10 : decode cX12_doing 10 = .ok (.iload_n 3, 1) := by decide +kernel
theorem dX12_doing_11 : decode cX12_doing 11 = .ok (.aload_n 0, 1) := by decide +kernel
theorem dX12_doing_12 : decode cX12_doing 12 = .ok (.getfield 29, 3) := by decide +kernel
theorem dX12_doing_15 : decode cX12_doing 15 = .ok (.sipush 358, 3) := by decide +kernel
theorem dX12_doing_18 : decode cX12_doing 18 = .ok (.iconst 3, 1) := by decide +kernel
theorem dX12_doing_19 : decode cX12_doing 19 = .ok (.iload_n 2, 1) := by decide +kernel
theorem dX12_doing_2 : decode cX12_doing 2 = .ok (.iconst 1, 1) := by decide +kernel
theorem dX12_doing_20 : decode cX12_doing 20 = .ok (.imul, 1) := by decide +kernel
theorem dX12_doing_21 : decode cX12_doing 21 = .ok (.iadd, 1) := by decide +kernel
theorem dX12_doing_22 : decode cX12_doing 22 = .ok (.iconst 2, 1) := by decide +kernel
theorem dX12_doing_23 : decode cX12_doing 23 = .ok (.iadd, 1) := by decide +kernel
theorem dX12_doing_24 : decode cX12_doing 24 = .ok (.iaload, 1) := by decide +kernel
theorem dX12_doing_25 : decode cX12_doing 25 = .ok (.if_icmp .le 9, 3) := by decide +kernel
theorem dX12_doing_28 : decode cX12_doing 28 = .ok (.ldc_w 399, 3) := by decide +kernel
theorem dX12_doing_3 : decode cX12_doing 3 = .ok (.iload_n 2, 1) := by decide +kernel
theorem dX12_doing_31 : decode cX12_doing 31 = .ok (.goto 4, 3) := by decide +kernel
theorem dX12_doing_34 : decode cX12_doing 34 = .ok (.iconst 0, 1) := by decide +kernel
theorem dX12_doing_35 : decode cX12_doing 35 = .ok (.aload_n 0, 1) := by decide +kernel
theorem dX12_doing_36 : decode cX12_doing 36 = .ok (.getfield 29, 3) := by decide +kernel
theorem dX12_doing_39 : decode cX12_doing 39 = .ok (.sipush 358, 3) := by decide +kernel
theorem dX12_doing_4 : decode cX12_doing 4 = .ok (.ishl, 1) := by decide +kernel
theorem dX12_doing_42 : decode cX12_doing 42 = .ok (.iconst 3, 1) := by decide +kernel
theorem dX12_doing_43 : decode cX12_doing 43 = .ok (.iload_n 2, 1) := by decide +kernel
theorem dX12_doing_44 : decode cX12_doing 44 = .ok (.imul, 1) := by decide +kernel
theorem dX12_doing_45 : decode cX12_doing 45 = .ok (.iadd, 1) := by decide +kernel
theorem dX12_doing_46 : decode cX12_doing 46 = .ok (.iaload, 1) := by decide +kernel
theorem dX12_doing_47 : decode cX12_doing 47 = .ok (.iload_n 3, 1) := by decide +kernel
theorem dX12_doing_48 : decode cX12_doing 48 = .ok (.imul, 1) := by decide +kernel
theorem dX12_doing_49 : decode cX12_doing 49 = .ok (.iadd, 1) := by decide +kernel
theorem dX12_doing_5 : decode cX12_doing 5 = .ok (.ior, 1) := by decide +kernel
theorem dX12_doing_50 : decode cX12_doing 50 = .ok (.aload_n 0, 1) := by decide +kernel
theorem dX12_doing_51 : decode cX12_doing 51 = .ok (.getfield 74, 3) := by decide +kernel
theorem dX12_doing_54 : decode cX12_doing 54 = .ok (.iload_n 1, 1) := by decide +kernel
theorem dX12_doing_55 : decode cX12_doing 55 = .ok (.iconst 1, 1) := by decide +kernel
theorem dX12_doing_56 : decode cX12_doing 56 = .ok (.iload_n 2, 1) := by decide +kernel
theorem dX12_doing_57 : decode cX12_doing 57 = .ok (.ishl, 1) := by decide +kernel
theorem dX12_doing_58 : decode cX12_doing 58 = .ok (.ior, 1) := by decide +kernel
theorem dX12_doing_59 : decode cX12_doing 59 = .ok (.iaload, 1) := by decide +kernel
theorem dX12_doing_6 : decode cX12_doing 6 = .ok (.invokevirtual 396, 3) := by decide +kernel
theorem dX12_doing_60 : decode cX12_doing 60 = .ok (.iadd, 1) := by decide +kernel
theorem dX12_doing_61 : decode cX12_doing 61 = .ok (.ireturn, 1) := by decide +kernel
theorem dX12_doing_9 : decode cX12_doing 9 = .ok (.istore_n 3, 1) := by decide +kernel
theorem dX12_town_0 : decode cX12_town 0 = .ok (.aload_n 0, 1) := by decide +kernel
theorem dX12_town_1 : decode cX12_town 1 = .ok (.iconst 0, 1) := by decide +kernel
theorem dX12_town_100 : decode cX12_town 100 = .ok (.iload_n 3, 1) := by decide +kernel
theorem dX12_town_101 : decode cX12_town 101 = .ok (.iload 4, 2) := by decide +kernel
theorem dX12_town_103 : decode cX12_town 103 = .ok (.invokevirtual 400, 3) := by decide +kernel
theorem dX12_town_106 : decode cX12_town 106 = .ok (.istore 5, 2) := by decide +kernel
theorem dX12_town_108 : decode cX12_town 108 = .ok (.aload_n 0, 1) := by decide +kernel
theorem dX12_town_109 : decode cX12_town 109 = .ok (.getfield 74, 3) := by decide +kernel
theorem dX12_town_112 : decode cX12_town 112 = .ok (.iload_n 3, 1) := by decide +kernel
theorem dX12_town_113 : decode cX12_town 113 = .ok (.iaload, 1) := by decide +kernel
theorem dX12_town_114 : decode cX12_town 114 = .ok (.iconst (-1), 1) := by decide +kernel
theorem dX12_town_115 : decode cX12_town 115 = .ok (.if_icmp .eq 14, 3) := by decide +kernel
theorem dX12_town_118 : decode cX12_town 118 = .ok (.iload 5, 2) := by decide +kernel
theorem dX12_town_12 : decode cX12_town 12 = .ok (.iconst 1, 1) := by decide +kernel
theorem dX12_town_120 : decode cX12_town 120 = .ok (.aload_n 0, 1) := by decide +kernel
theorem dX12_town_121 : decode cX12_town 121 = .ok (.getfield 74, 3) := by decide +kernel
theorem dX12_town_124 : decode cX12_town 124 = .ok (.iload_n 3, 1) := by decide +kernel
theorem dX12_town_125 : decode cX12_town 125 = .ok (.iaload, 1) := by decide +kernel
theorem dX12_town_126 : decode cX12_town 126 = .ok (.if_icmp .ge 11, 3) := by decide +kernel
theorem dX12_town_129 : decode cX12_town 129 = .ok (.aload_n 0, 1) := by decide +kernel
theorem dX12_town_13 : decode cX12_town 13 = .ok (.iconst 2, 1) := by decide +kernel
theorem dX12_town_130 : decode cX12_town 130 = .ok (.getfield 74, 3) := by decide +kernel
theorem dX12_town_133 : decode cX12_town 133 = .ok (.iload_n 3, 1) := by decide +kernel
theorem dX12_town_134 : decode cX12_town 134 = .ok (.iload 5, 2) := by decide +kernel
theorem dX12_town_136 : decode cX12_town 136 = .ok (.iastore, 1) := by decide +kernel
theorem dX12_town_137 : decode cX12_town 137 = .ok (.iinc 4 1, 3) := by decide +kernel
theorem dX12_town_14 : decode cX12_town 14 = .ok (.invokevirtual 175, 3) := by decide +kernel
theorem dX12_town_140 : decode cX12_town 140 = .ok (.goto (-67), 3) := by decide +kernel
theorem dX12_town_143 : decode cX12_town 143 = .ok (.iinc 3 (-1), 3) := by decide +kernel
theorem dX12_town_146 : decode cX12_town 146 = .ok (.goto (-87), 3) := by decide +kernel
theorem dX12_town_149 : decode cX12_town 149 = .ok (.iload_n 1, 1) := by decide +kernel
theorem dX12_town_150 : decode cX12_town 150 = .ok (.iconst 2, 1) := by decide +kernel
theorem dX12_town_151 : decode cX12_town 151 = .ok (.if_icmp .ge 31, 3) := by decide +kernel
theorem dX12_town_154 : decode cX12_town 154 = .ok (.iload_n 1, 1) := by decide +kernel
theorem dX12_town_155 : decode cX12_town 155 = .ok (.ifCond .ne 16, 3) := by decide +kernel
theorem dX12_town_158 : decode cX12_town 158 = .ok (.aload_n 0, 1) := by decide +kernel
theorem dX12_town_159 : decode cX12_town 159 = .ok (.getfield 74, 3) := by decide +kernel
theorem dX12_town_162 : decode cX12_town 162 = .ok (.iconst 0, 1) := by decide +kernel
theorem dX12_town_163 : decode cX12_town 163 = .ok (.iaload, 1) := by decide +kernel
theorem dX12_town_164 : decode cX12_town 164 = .ok (.ldc_w 399, 3) := by decide +kernel
theorem dX12_town_167 : decode cX12_town 167 = .ok (.idiv, 1) := by decide +kernel
theorem dX12_town_168 : decode cX12_town 168 = .ok (.goto 13, 3) := by decide +kernel
theorem dX12_town_17 : decode cX12_town 17 = .ok (.ifCond .ne 5, 3) := by decide +kernel
theorem dX12_town_171 : decode cX12_town 171 = .ok (.aload_n 0, 1) := by decide +kernel
theorem dX12_town_172 : decode cX12_town 172 = .ok (.getfield 74, 3) := by decide +kernel
theorem dX12_town_175 : decode cX12_town 175 = .ok (.iconst 0, 1) := by decide +kernel
theorem dX12_town_176 : decode cX12_town 176 = .ok (.iaload, 1) := by decide +kernel
theorem dX12_town_177 : decode cX12_town 177 = .ok (.ldc_w 399, 3) := by decide +kernel
theorem dX12_town_180 : decode cX12_town 180 = .ok (.irem, 1) := by decide +kernel
theorem dX12_town_181 : decode cX12_town 181 = .ok (.ireturn, 1) := by decide +kernel
theorem dX12_town_182 : decode cX12_town 182 = .ok (.iconst 0, 1) := by decide +kernel
theorem dX12_town_183 : decode cX12_town 183 = .ok (.istore_n 3, 1) := by decide +kernel
theorem dX12_town_184 : decode cX12_town 184 = .ok (.iconst 0, 1) := by decide +kernel
theorem dX12_town_185 : decode cX12_town 185 = .ok (.istore 4, 2) := by decide +kernel
theorem dX12_town_187 : decode cX12_town 187 = .ok (.iload 4, 2) := by decide +kernel
theorem dX12_town_189 : decode cX12_town 189 = .ok (.iload_n 2, 1) := by decide +kernel
theorem dX12_town_190 : decode cX12_town 190 = .ok (.if_icmp .eq 61, 3) := by decide +kernel
theorem dX12_town_193 : decode cX12_town 193 = .ok (.iconst 0, 1) := by decide +kernel
theorem dX12_town_194 : decode cX12_town 194 = .ok (.istore 5, 2) := by decide +kernel
theorem dX12_town_196 : decode cX12_town 196 = .ok (.iload 4, 2) := by decide +kernel
theorem dX12_town_198 : decode cX12_town 198 = .ok (.iload 5, 2) := by decide +kernel
theorem dX12_town_2 : decode cX12_town 2 = .ok (.putfield 1, 3) := by decide +kernel
theorem dX12_town_20 : decode cX12_town 20 = .ok (.iconst 0, 1) := by decide +kernel
theorem dX12_town_200 : decode cX12_town 200 = .ok (.ishr, 1) := by decide +kernel
theorem dX12_town_201 : decode cX12_town 201 = .ok (.iconst 1, 1) := by decide +kernel
theorem dX12_town_202 : decode cX12_town 202 = .ok (.iand, 1) := by decide +kernel
theorem dX12_town_203 : decode cX12_town 203 = .ok (.iconst 1, 1) := by decide +kernel
theorem dX12_town_204 : decode cX12_town 204 = .ok (.if_icmp .eq 21, 3) := by decide +kernel
theorem dX12_town_207 : decode cX12_town 207 = .ok (.aload_n 0, 1) := by decide +kernel
theorem dX12_town_208 : decode cX12_town 208 = .ok (.iload 4, 2) := by decide +kernel
theorem dX12_town_21 : decode cX12_town 21 = .ok (.ireturn, 1) := by decide +kernel
theorem dX12_town_210 : decode cX12_town 210 = .ok (.iload 5, 2) := by decide +kernel
theorem dX12_town_212 : decode cX12_town 212 = .ok (.invokevirtual 400, 3) := by decide +kernel
theorem dX12_town_215 : decode cX12_town 215 = .ok (.aload_n 0, 1) := by decide +kernel
theorem dX12_town_216 : decode cX12_town 216 = .ok (.getfield 74, 3) := by decide +kernel
theorem dX12_town_219 : decode cX12_town 219 = .ok (.iload 4, 2) := by decide +kernel
theorem dX12_town_22 : decode cX12_town 22 = .ok (.aload_n 0, 1) := by decide +kernel
theorem dX12_town_221 : decode cX12_town 221 = .ok (.iaload, 1) := by decide +kernel
theorem dX12_town_222 : decode cX12_town 222 = .ok (.if_icmp .eq 9, 3) := by decide +kernel
theorem dX12_town_225 : decode cX12_town 225 = .ok (.iinc 5 1, 3) := by decide +kernel
theorem dX12_town_228 : decode cX12_town 228 = .ok (.goto (-32), 3) := by decide +kernel
theorem dX12_town_23 : decode cX12_town 23 = .ok (.getfield 29, 3) := by decide +kernel
theorem dX12_town_231 : decode cX12_town 231 = .ok (.bipush 10, 2) := by decide +kernel
theorem dX12_town_233 : decode cX12_town 233 = .ok (.iload_n 3, 1) := by decide +kernel
theorem dX12_town_234 : decode cX12_town 234 = .ok (.imul, 1) := by decide +kernel
theorem dX12_town_235 : decode cX12_town 235 = .ok (.iload 5, 2) := by decide +kernel
theorem dX12_town_237 : decode cX12_town 237 = .ok (.iadd, 1) := by decide +kernel
theorem dX12_town_238 : decode cX12_town 238 = .ok (.istore_n 3, 1) := by decide +kernel
theorem dX12_town_239 : decode cX12_town 239 = .ok (.iload 4, 2) := by decide +kernel
theorem dX12_town_241 : decode cX12_town 241 = .ok (.iconst 1, 1) := by decide +kernel
theorem dX12_town_242 : decode cX12_town 242 = .ok (.iload 5, 2) := by decide +kernel
theorem dX12_town_244 : decode cX12_town 244 = .ok (.ishl, 1) := by decide +kernel
theorem dX12_town_245 : decode cX12_town 245 = .ok (.ior, 1) := by decide +kernel
theorem dX12_town_246 : decode cX12_town 246 = .ok (.istore 4, 2) := by decide +kernel
theorem dX12_town_248 : decode cX12_town 248 = .ok (.goto (-61), 3) := by decide +kernel
theorem dX12_town_251 : decode cX12_town 251 = .ok (.iload_n 3, 1) := by decide +kernel
theorem dX12_town_252 : decode cX12_town 252 = .ok (.ireturn, 1) := by decide +kernel
theorem dX12_town_26 : decode cX12_town 26 = .ok (.sipush 357, 3) := by decide +kernel
theorem dX12_town_29 : decode cX12_town 29 = .ok (.iaload, 1) := by decide +kernel
theorem dX12_town_30 : decode cX12_town 30 = .ok (.ifCond .ne 5, 3) := by decide +kernel
theorem dX12_town_33 : decode cX12_town 33 = .ok (.iconst (-1), 1) := by decide +kernel
theorem dX12_town_34 : decode cX12_town 34 = .ok (.ireturn, 1) := by decide +kernel
theorem dX12_town_35 : decode cX12_town 35 = .ok (.iconst 1, 1) := by decide +kernel
theorem dX12_town_36 : decode cX12_town 36 = .ok (.aload_n 0, 1) := by decide +kernel
theorem dX12_town_37 : decode cX12_town 37 = .ok (.getfield 29, 3) := by decide +kernel
theorem dX12_town_40 : decode cX12_town 40 = .ok (.sipush 357, 3) := by decide +kernel
theorem dX12_town_43 : decode cX12_town 43 = .ok (.iaload, 1) := by decide +kernel
theorem dX12_town_44 : decode cX12_town 44 = .ok (.ishl, 1) := by decide +kernel
theorem dX12_town_45 : decode cX12_town 45 = .ok (.iconst 1, 1) := by decide +kernel
theorem dX12_town_46 : decode cX12_town 46 = .ok (.isub, 1) := by decide +kernel
theorem dX12_town_47 : decode cX12_town 47 = .ok (.istore_n 2, 1) := by decide +kernel
theorem dX12_town_48 : decode cX12_town 48 = .ok (.aload_n 0, 1) := by decide +kernel
theorem dX12_town_49 : decode cX12_town 49 = .ok (.getfield 74, 3) := by decide +kernel
theorem dX12_town_5 : decode cX12_town 5 = .ok (.aload_n 0, 1) := by decide +kernel
theorem dX12_town_52 : decode cX12_town 52 = .ok (.iload_n 2, 1) := by decide +kernel
theorem dX12_town_53 : decode cX12_town 53 = .ok (.iconst 0, 1) := by decide +kernel
theorem dX12_town_54 : decode cX12_town 54 = .ok (.iastore, 1) := by decide +kernel
theorem dX12_town_55 : decode cX12_town 55 = .ok (.iload_n 2, 1) := by decide +kernel
theorem dX12_town_56 : decode cX12_town 56 = .ok (.iconst 1, 1) := by decide +kernel
theorem dX12_town_57 : decode cX12_town 57 = .ok (.isub, 1) := by decide +kernel
theorem dX12_town_58 : decode cX12_town 58 = .ok (.istore_n 3, 1) := by decide +kernel
theorem dX12_town_59 : decode cX12_town 59 = .ok (.iload_n 3, 1) := by decide +kernel
theorem dX12_town_6 : decode cX12_town 6 = .ok (.iload_n 1, 1) := by decide +kernel
theorem dX12_town_60 : decode cX12_town 60 = .ok (.ifCond .lt 89, 3) := by decide +kernel
theorem dX12_town_63 : decode cX12_town 63 = .ok (.aload_n 0, 1) := by decide +kernel
theorem dX12_town_64 : decode cX12_town 64 = .ok (.getfield 74, 3) := by decide +kernel
theorem dX12_town_67 : decode cX12_town 67 = .ok (.iload_n 3, 1) := by decide +kernel
theorem dX12_town_68 : decode cX12_town 68 = .ok (.iconst (-1), 1) := by decide +kernel
theorem dX12_town_69 : decode cX12_town 69 = .ok (.iastore, 1) := by decide +kernel
theorem dX12_town_7 : decode cX12_town 7 = .ok (.iconst 0, 1) := by decide +kernel
theorem dX12_town_70 : decode cX12_town 70 = .ok (.iconst 0, 1) := by decide +kernel
theorem dX12_town_71 : decode cX12_town 71 = .ok (.istore 4, 2) := by decide +kernel
theorem dX12_town_73 : decode cX12_town 73 = .ok (.iload 4, 2) := by decide +kernel
theorem dX12_town_75 : decode cX12_town 75 = .ok (.aload_n 0, 1) := by decide +kernel
theorem dX12_town_76 : decode cX12_town 76 = .ok (.getfield 29, 3) := by decide +kernel
theorem dX12_town_79 : decode cX12_town 79 = .ok (.sipush 357, 3) := by decide +kernel
theorem dX12_town_8 : decode cX12_town 8 = .ok (.iconst 2, 1) := by decide +kernel
theorem dX12_town_82 : decode cX12_town 82 = .ok (.iaload, 1) := by decide +kernel
theorem dX12_town_83 : decode cX12_town 83 = .ok (.if_icmp .ge 60, 3) := by decide +kernel
theorem dX12_town_86 : decode cX12_town 86 = .ok (.iload_n 3, 1) := by decide +kernel
theorem dX12_town_87 : decode cX12_town 87 = .ok (.iload 4, 2) := by decide +kernel
theorem dX12_town_89 : decode cX12_town 89 = .ok (.ishr, 1) := by decide +kernel
theorem dX12_town_9 : decode cX12_town 9 = .ok (.invokestatic 279, 3) := by decide +kernel
theorem dX12_town_90 : decode cX12_town 90 = .ok (.iconst 1, 1) := by decide +kernel
theorem dX12_town_91 : decode cX12_town 91 = .ok (.iand, 1) := by decide +kernel
theorem dX12_town_92 : decode cX12_town 92 = .ok (.iconst 1, 1) := by decide +kernel
theorem dX12_town_93 : decode cX12_town 93 = .ok (.if_icmp .ne 6, 3) := by decide +kernel
theorem dX12_town_96 : decode cX12_town 96 = .ok (.goto 41, 3) := by decide +kernel
theorem dX12_town_99 : decode cX12_town 99 = .ok (.aload_n 0, 1) := by decide +kernel
def vs_m_daysOf : List Cond := .code yX12_daysOf cX12_daysOf 4 (some .int) :: (([.fieldLink RX12 29 "KerbSplashModel" "s" "[I"] : List Cond) ++ ((wsX120) ++ ([])))
theorem gd_m_daysOf : vs_m_daysOf.all goodWord = true := gd_C (by decide +kernel) (gd_A (by decide +kernel) (gd_A (by decide +kernel) rfl))
set_option maxHeartbeats 4000000 in
set_option maxRecDepth 100000 in
theorem m_daysOf (l : Launch) (hl : l.stackTraces = false) (D : va_G) (cy : Nat → ClassId) (sa : Nat → Nat) (mm m1 m9 m10 m11 m12 m13 m14 m15 m19 m20 m21 m23 m24 m25 m26 m27 m28 m33 m35 : Nat) (th tp sz_ ap bad bk opn fp im nr nl sp_ wtc wcl ir ip shu sfa swr : Int) (f12 : Nat → Int32) (se : Int) (sz : Nat) (hr_th : (-2147483648) ≤ th ∧ th ≤ 2147483647) (hr_tp : 0 ≤ tp ∧ tp ≤ 600) (hr_sz_ : 0 ≤ sz_ ∧ sz_ ≤ 600) (hr_ap : 0 ≤ ap ∧ ap ≤ 602) (hr_bad : (-1) ≤ bad ∧ bad ≤ 602) (hr_bk : 0 ≤ bk ∧ bk ≤ 4) (hr_opn : 0 ≤ opn ∧ opn ≤ 7) (hr_fp : (-2147483648) ≤ fp ∧ fp ≤ 2147483647) (hr_im : 0 ≤ im ∧ im ≤ 3) (hr_nr : 0 ≤ nr ∧ nr ≤ 4) (hr_nl : 0 ≤ nl ∧ nl ≤ 4) (hr_sp_ : 0 ≤ sp_ ∧ sp_ ≤ 602) (hr_wtc : (-2147483648) ≤ wtc ∧ wtc ≤ 2147483647) (hr_wcl : 0 ≤ wcl ∧ wcl ≤ 95) (hr_ir : 0 ≤ ir ∧ ir ≤ 5) (hr_ip : (-2147483648) ≤ ip ∧ ip ≤ 2147483647) (hr_shu : (-2147483648) ≤ shu ∧ shu ≤ 2147483647) (hr_sfa : (-2147483648) ≤ sfa ∧ sfa ≤ 2147483647) (hr_swr : (-2147483648) ≤ swr ∧ swr ≤ 2147483647) (hr_se : 0 ≤ se ∧ se ≤ 511) (hf12 : SI 8 f12) : mI9 l yX12_daysOf vs_m_daysOf ({ frames := 0, cells := 0, slots := 0, locals := 0 }) D cy sa sz [vR mm, vI se] [zO mm 12 [vI th, vR m1, vI tp, vI sz_, vI ap, vI bad, vI bk, vI opn, vI fp, vR m9, vR m10, vR m11, vR m12, vR m13, vR m14, vR m15, vI im, vI nr, vI nl, vR m19, vR m20, vR m21, vI sp_, vR m23, vR m24, vR m25, vR m26, vR m27, vR m28, vI wtc, vI wcl, vI ir, vI ip, vR m33, vI shu, vR m35, vI sfa, vI swr], zI m12 (cy 0) 389 f12] (fun (r : Int32) (u : SV) => r = iI (u.2.1 0) ∧ ((-2147483648) ≤ u.2.1 0 ∧ u.2.1 0 ≤ 2147483647) ∧ (iI (u.2.1 0) = dsN f12 se (nz f12 357).toNat) ∧ SI 8 f12) (fun u : SV => [zO mm 12 [vI th, vR m1, vI tp, vI sz_, vI ap, vI bad, vI bk, vI opn, vI fp, vR m9, vR m10, vR m11, vR m12, vR m13, vR m14, vR m15, vI im, vI nr, vI nl, vR m19, vR m20, vR m21, vI sp_, vR m23, vR m24, vR m25, vR m26, vR m27, vR m28, vI wtc, vI wcl, vI ir, vI ip, vR m33, vI shu, vR m35, vI sfa, vI swr], zI m12 (cy 0) 389 f12]) 0 0 := by
  refine Met.ofW (cc := cX12_daysOf) (maxL := 4) (ret := (some .int)) (by decide) rfl ?_
  intro p e s m args below meth c s₁ B hml hv
  obtain ⟨rfl, hsz, hP, hG, hD0, hT⟩ := hv
  have hx := B.exec
  have hb := B.bytes
  have hr := B.returns
  have hts := atoms_spec (ws := vs_m_daysOf) B.pre
  have hown : s.vm.findClass RX12 = some m.cls := findClass_of_methodNamed B.named
  have hlocks := B.notSynchronized
  subst hsz
  have hD := hD0.self (sz := s.heap.size)
  generalize hAe : va_A [zO mm 12 [vI th, vR m1, vI tp, vI sz_, vI ap, vI bad, vI bk, vI opn, vI fp, vR m9, vR m10, vR m11, vR m12, vR m13, vR m14, vR m15, vI im, vI nr, vI nl, vR m19, vR m20, vR m21, vI sp_, vR m23, vR m24, vR m25, vR m26, vR m27, vR m28, vI wtc, vI wcl, vI ir, vI ip, vR m33, vI shu, vR m35, vI sfa, vI swr], zI m12 (cy 0) 389 f12] s.heap.size = A at hD hT ⊢
  have hA : ∀ q : Nat, s.heap.size ≤ q → A q := fun q h => by rw [← hAe]; exact Or.inr h
  have hS : va_S A s.heap s.heap [] := va_S.rf
  have hl0 := lv_entry ([vR mm, vI se]) (n := 4) (Nat.le_of_ble_eq_true rfl)
  rw [lg_entry_eq]
  generalize (lg_sl ([vR mm, vI se]) ++ List.replicate (4 - (lg_sl ([vR mm, vI se])).length) Slot.unset).toArray = ls at hl0 ⊢
  have hlv : lv_has ls 4 [(0, vR mm), (1, vI se)] := hl0
  have lf29 := hts (.fieldLink RX12 29 "KerbSplashModel" "s" "[I") (List.mem_of_getElem? (i := 1) rfl)
  have hi12 : ∀ w ∈ wsX120, w ∈ vs_m_daysOf := fun w h => List.mem_cons_of_mem _ (List.mem_append_right _ (List.mem_append_left _ h))
  refine lv_iconst (v := iI 0) hx hb dX12_daysOf_0 (by decide) ?_
  refine lv_istore_n (lv' := [(2, vI 0), (0, vR mm), (1, vI se)]) hx hb dX12_daysOf_1 rfl hlv (by decide) rfl (fun ls hlv => ?_)
  have h357 := hf12.2.2.2.2.2.1
  refine lv_iconst (v := iI 0) hx hb dX12_daysOf_2 (by decide) ?_
  refine lv_istore_n (lv' := [(3, vI 0), (2, vI 0), (0, vR mm), (1, vI se)]) hx hb dX12_daysOf_3 rfl hlv (by decide) rfl (fun ls hlv => ?_)
  refine (?_ : ∀ (fu : Nat) (q2 : Int) (q3 : Int) (H : Heap) (locs : List Loc) (ls : Array Slot), 9 - q3 < (fu : Int) → ((-2147483648) ≤ q2 ∧ q2 ≤ 2147483647) → (0 ≤ q3 ∧ q3 ≤ 9) → (q3 ≤ nz f12 357) → (iI q2 = dsN f12 se q3.toNat) → va_P D vwCl [zO mm 12 [vI th, vR m1, vI tp, vI sz_, vI ap, vI bad, vI bk, vI opn, vI fp, vR m9, vR m10, vR m11, vR m12, vR m13, vR m14, vR m15, vI im, vI nr, vI nl, vR m19, vR m20, vR m21, vI sp_, vR m23, vR m24, vR m25, vR m26, vR m27, vR m28, vI wtc, vI wcl, vI ir, vI ip, vR m33, vI shu, vR m35, vI sfa, vI swr], zI m12 (cy 0) 389 f12] H → va_D A [zO mm 12 [vI th, vR m1, vI tp, vI sz_, vI ap, vI bad, vI bk, vI opn, vI fp, vR m9, vR m10, vR m11, vR m12, vR m13, vR m14, vR m15, vI im, vI nr, vI nl, vR m19, vR m20, vR m21, vI sp_, vR m23, vR m24, vR m25, vR m26, vR m27, vR m28, vI wtc, vI wcl, vI ir, vI ip, vR m33, vI shu, vR m35, vI sfa, vI swr], zI m12 (cy 0) 389 f12] → va_S A s.heap H locs → lv_has ls 4 [(3, vI q3), (2, vI q2), (0, vR mm), (1, vI se)] → W p l e _ s m _ below meth c H locs _ _ _ (F0 m 4 ls [])) (((9 - 0) + 1 : Int)).toNat 0 0 _ _ _ (by omega) (by show ((-2147483648) : Int) ≤ 0 ∧ (0 : Int) ≤ 2147483647; decide) (by show (0 : Int) ≤ 0 ∧ (0 : Int) ≤ 9; decide) (by omega) rfl  hP hD hS hlv
  clear hP hD hS hlv
  intro fu
  induction fu with
  | zero => intro q2 q3 H locs ls hm4 hl4_0 hl4_1 hl4_2 hl4_3  hP hD hS hlv; omega
  | succ fu ih4 =>
    intro q2 q3 H locs ls hm4 hl4_0 hl4_1 hl4_2 hl4_3  hP hD hS hlv
    refine lv_iload_n hx hb dX12_daysOf_4 rfl (lv_at hlv 0 rfl) ?_
    refine lv_aload_n hx hb dX12_daysOf_5 rfl (lv_at hlv 2 rfl) ?_
    refine va_get (D := D) (ci := 12) (v := vR m12) (C := RX12) (T := TX12) (N := 38) hx hb hts hi12 hown hG.1 hP 0 rfl rfl 12 (by decide) lf29 (fun _ h9 => h9) rfl dX12_daysOf_6 ?_
    refine lv_sipush (v := iI 357) hx hb dX12_daysOf_9 (by decide) ?_
    refine va_iald hx hb hG.1 hP 1 0 rfl rfl (iI_in (by omega) (by decide)) dX12_daysOf_12 ?_
    refine lt_nz (i := 357) (by omega) (fun z_1 hz_1 lz_1 uz_1 => ?_)
    have hz_1 : z_1 = nz f12 357 := hz_1
    have hbz_1_7 := hf12.2.2.2.2.2.1
    refine ir_ge (tgt := 52) hx hb dX12_daysOf_13 (by decide) (by first | exact rgw hl4_1 (by decide) (by decide) | omega) (by omega) (fun c_2 => ?_) (fun c_2 => ?_)
    · refine lv_iload_n hx hb dX12_daysOf_52 rfl (lv_at hlv 1 rfl) ?_
      refine W.widen (k := 0) (n := 0) (Nat.le_of_ble_eq_true rfl) (Nat.le_of_ble_eq_true rfl) ?_
      exact W.iret (v := iI q2) hx hb hr (fun t ht hW => ⟨⟨iI q2, ((fun k => ([] : List Nat).getD k 0), (fun k => ([q2] : List Int).getD k 0), (fun k => ([] : List (Nat → Int32)).getD k (fun _ => 0))), rfl, ⟨rfl, (by show ((-2147483648) ≤ q2 ∧ q2 ≤ 2147483647); first | exact hl4_0 | omega), (by show (iI (q2) = dsN f12 se (nz f12 357).toNat); exact (by rw [show (nz f12 357).toNat = q3.toNat by omega]; exact hl4_3)), hf12⟩, at9 ht hP hD [0, 1] (by decide +kernel) rfl⟩, hS.F ht⟩) hS.2.2 dX12_daysOf_53
    · refine lv_iload_n hx hb dX12_daysOf_16 rfl (lv_at hlv 1 rfl) ?_
      refine lv_iload_n hx hb dX12_daysOf_17 rfl (lv_at hlv 3 rfl) ?_
      refine lv_iload_n hx hb dX12_daysOf_18 rfl (lv_at hlv 0 rfl) ?_
      refine lv_ishr hx hb dX12_daysOf_19 ?_
      refine lt_z (fun z_3 ez_3 lz_3 hz_3 => ?_)
      refine lv_iconst (v := iI 1) hx hb dX12_daysOf_20 (by decide) ?_
      refine lv_iand hx hb dX12_daysOf_21 ?_
      refine lt_aE 1 (by decide) (by decide) (hi := 1) (by decide) (fun z_4 ez_4 lz_4 hz_4 => ?_)
      refine lv_iconst (v := iI 1) hx hb dX12_daysOf_22 (by decide) ?_
      refine ir_ne (tgt := 43) hx hb dX12_daysOf_23 (by decide) (by omega) (by show ((-2147483648) : Int) ≤ 1 ∧ (1 : Int) ≤ 2147483647; decide) (fun c_5 => ?_) (fun c_5 => ?_)
      · refine lv_iconst (v := iI 0) hx hb dX12_daysOf_43 (by decide) ?_
        refine lv_iadd hx hb dX12_daysOf_44 ?_
        refine lt_i (y := iI q2) (by rw [show iI q2 + iI 0 = iI (q2 + 0) from (Int32.ofInt_add _ _).symm, Int.add_zero]) ?_
        refine lv_istore_n (lv' := [(2, vI q2), (3, vI q3), (0, vR mm), (1, vI se)]) hx hb dX12_daysOf_45 rfl hlv (by decide) rfl (fun ls hlv => ?_)
        obtain ⟨z_6, hz_6⟩ : ∃ z : Int, z = q3 + 1 := ⟨_, rfl⟩
        refine lv_iinc (v := iI z_6) (lv' := [(3, vI z_6), (2, vI q2), (0, vR mm), (1, vI se)]) hx hb dX12_daysOf_46 hlv (k := 1) rfl (by rw [hz_6]; exact (Int32.ofInt_add _ _).symm) (by decide) rfl (fun ls hlv => ?_)
        refine lv_goto (tgt := 4) hx hb dX12_daysOf_49 (by decide) ?_
        exact ih4 q2 z_6 H locs ls (by omega) (by first | exact hl4_0 | omega) (by omega) (by omega) (ds_0 hl4_3 (by omega) ez_3 ez_4 (by omega) (by omega))  (hP.sub [0, 1] rfl) (hD.sub [0, 1] (by decide) rfl) hS (lv_sub hlv [0, 1, 2, 3] rfl)
      · refine lv_aload_n hx hb dX12_daysOf_26 rfl (lv_at hlv 2 rfl) ?_
        refine va_get (D := D) (ci := 12) (v := vR m12) (C := RX12) (T := TX12) (N := 38) hx hb hts hi12 hown hG.1 hP 0 rfl rfl 12 (by decide) lf29 (fun _ h9 => h9) rfl dX12_daysOf_27 ?_
        refine lv_sipush (v := iI 358) hx hb dX12_daysOf_30 (by decide) ?_
        refine lv_iconst (v := iI 3) hx hb dX12_daysOf_33 (by decide) ?_
        refine lv_iload_n hx hb dX12_daysOf_34 rfl (lv_at hlv 0 rfl) ?_
        refine lv_imul hx hb dX12_daysOf_35 ?_
        refine lt_e (e0 := 3 * q3) (Int32.ofInt_mul _ _).symm (fun z_7 hz_7 => ?_)
        refine lv_iadd hx hb dX12_daysOf_36 ?_
        refine lt_e (e0 := 358 + z_7) (Int32.ofInt_add _ _).symm (fun z_8 hz_8 => ?_)
        refine lv_iconst (v := iI 1) hx hb dX12_daysOf_37 (by decide) ?_
        refine lv_iadd hx hb dX12_daysOf_38 ?_
        refine lt_e (e0 := z_8 + 1) (Int32.ofInt_add _ _).symm (fun z_9 hz_9 => ?_)
        refine va_iald hx hb hG.1 hP 1 0 rfl rfl (iI_in (by omega) (by decide)) dX12_daysOf_39 ?_
        refine lt_nz (i := z_9) (by omega) (fun z_10 hz_10 lz_10 uz_10 => ?_)
        refine lv_goto (tgt := 44) hx hb dX12_daysOf_40 (by decide) ?_
        refine lv_iadd hx hb dX12_daysOf_44 ?_
        refine lt_z (fun z_11 ez_11 lz_11 hz_11 => ?_)
        refine lv_istore_n (lv' := [(2, vI z_11), (3, vI q3), (0, vR mm), (1, vI se)]) hx hb dX12_daysOf_45 rfl hlv (by decide) rfl (fun ls hlv => ?_)
        obtain ⟨z_12, hz_12⟩ : ∃ z : Int, z = q3 + 1 := ⟨_, rfl⟩
        refine lv_iinc (v := iI z_12) (lv' := [(3, vI z_12), (2, vI z_11), (0, vR mm), (1, vI se)]) hx hb dX12_daysOf_46 hlv (k := 1) rfl (by rw [hz_12]; exact (Int32.ofInt_add _ _).symm) (by decide) rfl (fun ls hlv => ?_)
        refine lv_goto (tgt := 4) hx hb dX12_daysOf_49 (by decide) ?_
        exact ih4 z_11 z_12 H locs ls (by omega) (by omega) (by omega) (by omega) (ds_1 (T := z_9) hl4_3 (by omega) ez_3 ez_4 (by omega) hz_10 (by omega) ez_11 (by omega))  (hP.sub [0, 1] rfl) (hD.sub [0, 1] (by decide) rfl) hS (lv_sub hlv [0, 1, 2, 3] rfl)
def vs_m_doing : List Cond := .code yX12_doing cX12_doing 4 (some .int) :: (([.fieldLink RX12 29 "KerbSplashModel" "s" "[I", .fieldLink RX12 74 "KerbSplashModel" "rest" "[I", .constant RX12 399 (iI 1000000)] : List Cond) ++ ((wsV RX12 396 RX12 yX12_daysOf vs_m_daysOf) ++ ((wsX120) ++ ([]))))
theorem gd_m_doing : vs_m_doing.all goodWord = true := gd_C (by decide +kernel) (gd_A (by decide +kernel) (gd_A (gd_V gd_m_daysOf (by decide +kernel)) (gd_A (by decide +kernel) rfl)))
set_option maxHeartbeats 4000000 in
set_option maxRecDepth 100000 in
theorem m_doing (l : Launch) (hl : l.stackTraces = false) (D : va_G) (cy : Nat → ClassId) (sa : Nat → Nat) (mm m1 m9 m10 m11 m12 m13 m14 m15 m19 m20 m21 m23 m24 m25 m26 m27 m28 m33 m35 : Nat) (th tp sz_ ap bad bk opn fp im nr nl sp_ wtc wcl ir ip shu sfa swr : Int) (f12 f35 : Nat → Int32) (se kk : Int) (sz : Nat) (hr_th : (-2147483648) ≤ th ∧ th ≤ 2147483647) (hr_tp : 0 ≤ tp ∧ tp ≤ 600) (hr_sz_ : 0 ≤ sz_ ∧ sz_ ≤ 600) (hr_ap : 0 ≤ ap ∧ ap ≤ 602) (hr_bad : (-1) ≤ bad ∧ bad ≤ 602) (hr_bk : 0 ≤ bk ∧ bk ≤ 4) (hr_opn : 0 ≤ opn ∧ opn ≤ 7) (hr_fp : (-2147483648) ≤ fp ∧ fp ≤ 2147483647) (hr_im : 0 ≤ im ∧ im ≤ 3) (hr_nr : 0 ≤ nr ∧ nr ≤ 4) (hr_nl : 0 ≤ nl ∧ nl ≤ 4) (hr_sp_ : 0 ≤ sp_ ∧ sp_ ≤ 602) (hr_wtc : (-2147483648) ≤ wtc ∧ wtc ≤ 2147483647) (hr_wcl : 0 ≤ wcl ∧ wcl ≤ 95) (hr_ir : 0 ≤ ir ∧ ir ≤ 5) (hr_ip : (-2147483648) ≤ ip ∧ ip ≤ 2147483647) (hr_shu : (-2147483648) ≤ shu ∧ shu ≤ 2147483647) (hr_sfa : (-2147483648) ≤ sfa ∧ sfa ≤ 2147483647) (hr_swr : (-2147483648) ≤ swr ∧ swr ≤ 2147483647) (hr_se : 0 ≤ se ∧ se ≤ 511) (hr_kk : 0 ≤ kk ∧ kk ≤ 8) (hf12 : SI 8 f12) : mI9 l yX12_doing vs_m_doing ({ frames := 1, cells := 0, slots := 0, locals := 23 }) D cy sa sz [vR mm, vI se, vI kk] [zO mm 12 [vI th, vR m1, vI tp, vI sz_, vI ap, vI bad, vI bk, vI opn, vI fp, vR m9, vR m10, vR m11, vR m12, vR m13, vR m14, vR m15, vI im, vI nr, vI nl, vR m19, vR m20, vR m21, vI sp_, vR m23, vR m24, vR m25, vR m26, vR m27, vR m28, vI wtc, vI wcl, vI ir, vI ip, vR m33, vI shu, vR m35, vI sfa, vI swr], zI m12 (cy 0) 389 f12, zI m35 (cy 0) 512 f35] (fun (r : Int32) (u : SV) => r = iI (u.2.1 0) ∧ ((-2147483648) ≤ u.2.1 0 ∧ u.2.1 0 ≤ 2147483647) ∧ (iI (u.2.1 0) = dgV f12 f35 (nz f12 357).toNat se kk) ∧ SI 8 f12) (fun u : SV => [zO mm 12 [vI th, vR m1, vI tp, vI sz_, vI ap, vI bad, vI bk, vI opn, vI fp, vR m9, vR m10, vR m11, vR m12, vR m13, vR m14, vR m15, vI im, vI nr, vI nl, vR m19, vR m20, vR m21, vI sp_, vR m23, vR m24, vR m25, vR m26, vR m27, vR m28, vI wtc, vI wcl, vI ir, vI ip, vR m33, vI shu, vR m35, vI sfa, vI swr], zI m12 (cy 0) 389 f12, zI m35 (cy 0) 512 f35]) 0 0 := by
  refine Met.ofW (cc := cX12_doing) (maxL := 4) (ret := (some .int)) (by decide) rfl ?_
  intro p e s m args below meth c s₁ B hml hv
  obtain ⟨rfl, hsz, hP, hG, hD0, hT⟩ := hv
  have hx := B.exec
  have hb := B.bytes
  have hr := B.returns
  have hts := atoms_spec (ws := vs_m_doing) B.pre
  have hown : s.vm.findClass RX12 = some m.cls := findClass_of_methodNamed B.named
  have hlocks := B.notSynchronized
  subst hsz
  have hD := hD0.self (sz := s.heap.size)
  generalize hAe : va_A [zO mm 12 [vI th, vR m1, vI tp, vI sz_, vI ap, vI bad, vI bk, vI opn, vI fp, vR m9, vR m10, vR m11, vR m12, vR m13, vR m14, vR m15, vI im, vI nr, vI nl, vR m19, vR m20, vR m21, vI sp_, vR m23, vR m24, vR m25, vR m26, vR m27, vR m28, vI wtc, vI wcl, vI ir, vI ip, vR m33, vI shu, vR m35, vI sfa, vI swr], zI m12 (cy 0) 389 f12, zI m35 (cy 0) 512 f35] s.heap.size = A at hD hT ⊢
  have hA : ∀ q : Nat, s.heap.size ≤ q → A q := fun q h => by rw [← hAe]; exact Or.inr h
  have hS : va_S A s.heap s.heap [] := va_S.rf
  have hl0 := lv_entry ([vR mm, vI se, vI kk]) (n := 4) (Nat.le_of_ble_eq_true rfl)
  rw [lg_entry_eq]
  generalize (lg_sl ([vR mm, vI se, vI kk]) ++ List.replicate (4 - (lg_sl ([vR mm, vI se, vI kk])).length) Slot.unset).toArray = ls at hl0 ⊢
  have hlv : lv_has ls 4 [(0, vR mm), (1, vI se), (2, vI kk)] := hl0
  have gg_0 : GoodIn vs_m_doing (wsV RX12 396 RX12 yX12_daysOf vs_m_daysOf) := goodIn_sub (fun w h => List.mem_cons_of_mem _ (List.mem_append_right _ (List.mem_append_left _ h))) (gd_V gd_m_daysOf (by decide +kernel))
  have lf29 := hts (.fieldLink RX12 29 "KerbSplashModel" "s" "[I") (List.mem_of_getElem? (i := 1) rfl)
  have hi12 : ∀ w ∈ wsX120, w ∈ vs_m_doing := fun w h => List.mem_cons_of_mem _ (List.mem_append_right _ (List.mem_append_right _ (List.mem_append_left _ h)))
  have lf74 := hts (.fieldLink RX12 74 "KerbSplashModel" "rest" "[I") (List.mem_of_getElem? (i := 2) rfl)
  have ld399 := hts (.constant RX12 399 (iI 1000000)) (List.mem_of_getElem? (i := 3) rfl)
  refine lv_aload_n hx hb dX12_doing_0 rfl (lv_at hlv 0 rfl) ?_
  refine lv_iload_n hx hb dX12_doing_1 rfl (lv_at hlv 1 rfl) ?_
  refine lv_iconst (v := iI 1) hx hb dX12_doing_2 (by decide) ?_
  refine lv_iload_n hx hb dX12_doing_3 rfl (lv_at hlv 2 rfl) ?_
  refine lv_ishl hx hb dX12_doing_4 ?_
  refine lt_sh2 (n := 8) (M := 256) (by decide) (by decide) (by omega) (fun z_1 ez_1 lz_1 hz_1 => ?_)
  refine lv_ior hx hb dX12_doing_5 ?_
  obtain ⟨z_2, ez_2, wz_2, hz_2⟩ := so_ex (a := se) (k := kk) (by omega) (by omega) ez_1
  refine lt_i (y := iI z_2) ez_2 ?_
  refine cjr_i [false, false, true] (fun pre9 => (va_runV (As := [vI z_2]) (rest := []) ⟨hx, hb, hml, hown, hts⟩ (m_daysOf l hl D cy sa mm m1 m9 m10 m11 m12 m13 m14 m15 m19 m20 m21 m23 m24 m25 m26 m27 m28 m33 m35 th tp sz_ ap bad bk opn fp im nr nl sp_ wtc wcl ir ip shu sfa swr f12 z_2 s.heap.size (by first | exact hr_th | omega) (by first | exact hr_tp | omega) (by first | exact hr_sz_ | omega) (by first | exact hr_ap | omega) (by first | exact hr_bad | omega) (by first | exact hr_bk | omega) (by first | exact hr_opn | omega) (by first | exact hr_fp | omega) (by first | exact hr_im | omega) (by first | exact hr_nr | omega) (by first | exact hr_nl | omega) (by first | exact hr_sp_ | omega) (by first | exact hr_wtc | omega) (by first | exact hr_wcl | omega) (by first | exact hr_ir | omega) (by first | exact hr_ip | omega) (by first | exact hr_shu | omega) (by first | exact hr_sfa | omega) (by first | exact hr_swr | omega) (by omega) hf12) (cwV 1 hts gg_0 rfl rfl rfl (by decide +kernel) ⟨Nat.le_of_ble_eq_true rfl, Nat.le_of_ble_eq_true rfl⟩) ⟨pcW.blind, (va_recv hG.1 hP (ci := 12) (q0 := 0) rfl rfl), pre9⟩ rfl rfl hlv.1 rfl (lv_room (Nat.le_of_ble_eq_true rfl)) dX12_doing_6 ⟨Nat.le_of_ble_eq_true rfl, Nat.le_of_ble_eq_true rfl⟩)) hP hD hS hA hG hT [0, 1] rfl (by decide +kernel) (fun r1 u1 H locs hw1 hq9 hS => ?_)
  obtain ⟨rfl, hq1_1, hq1_2, hq1_3⟩ := hw1
  obtain ⟨hP, hD⟩ := pd9 [zI m35 (cy 0) 512 f35, zO mm 12 [vI th, vR m1, vI tp, vI sz_, vI ap, vI bad, vI bk, vI opn, vI fp, vR m9, vR m10, vR m11, vR m12, vR m13, vR m14, vR m15, vI im, vI nr, vI nl, vR m19, vR m20, vR m21, vI sp_, vR m23, vR m24, vR m25, vR m26, vR m27, vR m28, vI wtc, vI wcl, vI ir, vI ip, vR m33, vI shu, vR m35, vI sfa, vI swr], zI m12 (cy 0) 389 f12] hq9
  refine lv_istore_n (lv' := [(3, vI (u1.2.1 0)), (0, vR mm), (1, vI se), (2, vI kk)]) hx hb dX12_doing_9 rfl hlv (by decide) rfl (fun ls hlv => ?_)
  refine lv_iload_n hx hb dX12_doing_10 rfl (lv_at hlv 0 rfl) ?_
  refine lv_aload_n hx hb dX12_doing_11 rfl (lv_at hlv 1 rfl) ?_
  refine va_get (D := D) (ci := 12) (v := vR m12) (C := RX12) (T := TX12) (N := 38) hx hb hts hi12 hown hG.1 hP 1 rfl rfl 12 (by decide) lf29 (fun _ h9 => h9) rfl dX12_doing_12 ?_
  refine lv_sipush (v := iI 358) hx hb dX12_doing_15 (by decide) ?_
  refine lv_iconst (v := iI 3) hx hb dX12_doing_18 (by decide) ?_
  refine lv_iload_n hx hb dX12_doing_19 rfl (lv_at hlv 3 rfl) ?_
  refine lv_imul hx hb dX12_doing_20 ?_
  refine lt_e (e0 := 3 * kk) (Int32.ofInt_mul _ _).symm (fun z_3 hz_3 => ?_)
  refine lv_iadd hx hb dX12_doing_21 ?_
  refine lt_e (e0 := 358 + z_3) (Int32.ofInt_add _ _).symm (fun z_4 hz_4 => ?_)
  refine lv_iconst (v := iI 2) hx hb dX12_doing_22 (by decide) ?_
  refine lv_iadd hx hb dX12_doing_23 ?_
  refine lt_e (e0 := z_4 + 2) (Int32.ofInt_add _ _).symm (fun z_5 hz_5 => ?_)
  refine va_iald hx hb hG.1 hP 2 0 rfl rfl (iI_in (by omega) (by decide)) dX12_doing_24 ?_
  refine lt_nz (i := z_5) (by omega) (fun z_6 hz_6 lz_6 uz_6 => ?_)
  refine ir_le (tgt := 34) hx hb dX12_doing_25 (by decide) (by first | exact hq1_1 | omega) (by omega) (fun c_7 => ?_) (fun c_7 => ?_)
  · refine lv_iconst (v := iI 0) hx hb dX12_doing_34 (by decide) ?_
    refine lv_aload_n hx hb dX12_doing_35 rfl (lv_at hlv 1 rfl) ?_
    refine va_get (D := D) (ci := 12) (v := vR m12) (C := RX12) (T := TX12) (N := 38) hx hb hts hi12 hown hG.1 hP 1 rfl rfl 12 (by decide) lf29 (fun _ h9 => h9) rfl dX12_doing_36 ?_
    refine lv_sipush (v := iI 358) hx hb dX12_doing_39 (by decide) ?_
    refine lv_iconst (v := iI 3) hx hb dX12_doing_42 (by decide) ?_
    refine lv_iload_n hx hb dX12_doing_43 rfl (lv_at hlv 3 rfl) ?_
    refine lv_imul hx hb dX12_doing_44 ?_
    refine lt_e (e0 := 3 * kk) (Int32.ofInt_mul _ _).symm (fun z_8 hz_8 => ?_)
    refine lv_iadd hx hb dX12_doing_45 ?_
    refine lt_e (e0 := 358 + z_8) (Int32.ofInt_add _ _).symm (fun z_9 hz_9 => ?_)
    refine va_iald hx hb hG.1 hP 2 0 rfl rfl (iI_in (by omega) (by decide)) dX12_doing_46 ?_
    refine lt_nz (i := z_9) (by omega) (fun z_10 hz_10 lz_10 uz_10 => ?_)
    refine lv_iload_n hx hb dX12_doing_47 rfl (lv_at hlv 0 rfl) ?_
    refine lv_imul hx hb dX12_doing_48 ?_
    refine lt_z (fun z_11 ez_11 lz_11 hz_11 => ?_)
    refine lv_iadd hx hb dX12_doing_49 ?_
    refine lt_e (e0 := 0 + z_11) (Int32.ofInt_add _ _).symm (fun z_12 hz_12 => ?_)
    refine lv_aload_n hx hb dX12_doing_50 rfl (lv_at hlv 1 rfl) ?_
    refine va_get (D := D) (ci := 12) (v := vR m35) (C := RX12) (T := TX12) (N := 38) hx hb hts hi12 hown hG.1 hP 1 rfl rfl 35 (by decide) lf74 (fun _ h9 => h9) rfl dX12_doing_51 ?_
    refine lv_iload_n hx hb dX12_doing_54 rfl (lv_at hlv 2 rfl) ?_
    refine lv_iconst (v := iI 1) hx hb dX12_doing_55 (by decide) ?_
    refine lv_iload_n hx hb dX12_doing_56 rfl (lv_at hlv 3 rfl) ?_
    refine lv_ishl hx hb dX12_doing_57 ?_
    refine lt_sh2 (n := 8) (M := 256) (by decide) (by decide) (by omega) (fun z_13 ez_13 lz_13 hz_13 => ?_)
    refine lv_ior hx hb dX12_doing_58 ?_
    obtain ⟨z_14, ez_14, wz_14, hz_14⟩ := so_ex (a := se) (k := kk) (by omega) (by omega) ez_13
    refine lt_i (y := iI z_14) ez_14 ?_
    refine va_iald hx hb hG.1 hP 0 0 rfl rfl (iI_in (by omega) (by decide)) dX12_doing_59 ?_
    refine lt_nz (i := z_14) (by omega) (fun z_15 hz_15 lz_15 uz_15 => ?_)
    refine lv_iadd hx hb dX12_doing_60 ?_
    refine lt_z (fun z_16 ez_16 lz_16 hz_16 => ?_)
    refine W.widen (k := 0) (n := 0) (Nat.le_of_ble_eq_true rfl) (Nat.le_of_ble_eq_true rfl) ?_
    exact W.iret (v := iI z_16) hx hb hr (fun t ht hW => ⟨⟨iI z_16, ((fun k => ([] : List Nat).getD k 0), (fun k => ([z_16] : List Int).getD k 0), (fun k => ([] : List (Nat → Int32)).getD k (fun _ => 0))), rfl, ⟨rfl, (by show ((-2147483648) ≤ z_16 ∧ z_16 ≤ 2147483647); omega), (by show (iI (z_16) = dgV f12 f35 (nz f12 357).toNat se kk); exact (dg_e (b := 0) (T1 := z_5) (T2 := z_9) (T3 := z_14) wz_2 hq1_2 (by omega) (by omega) hz_6 (by omega) hz_10 (by omega) (by omega) ez_11 (by rw [hz_12]; exact (Int32.ofInt_add _ _).symm) hz_15 (by omega) ez_16)), hq1_3⟩, at9 ht hP hD [1, 2, 0] (by decide +kernel) rfl⟩, hS.F ht⟩) hS.2.2 dX12_doing_61
  · refine lv_ldcw (v := iI 1000000) hx hb hown ld399 dX12_doing_28 ?_
    refine lv_goto (tgt := 35) hx hb dX12_doing_31 (by decide) ?_
    refine lv_aload_n hx hb dX12_doing_35 rfl (lv_at hlv 1 rfl) ?_
    refine va_get (D := D) (ci := 12) (v := vR m12) (C := RX12) (T := TX12) (N := 38) hx hb hts hi12 hown hG.1 hP 1 rfl rfl 12 (by decide) lf29 (fun _ h9 => h9) rfl dX12_doing_36 ?_
    refine lv_sipush (v := iI 358) hx hb dX12_doing_39 (by decide) ?_
    refine lv_iconst (v := iI 3) hx hb dX12_doing_42 (by decide) ?_
    refine lv_iload_n hx hb dX12_doing_43 rfl (lv_at hlv 3 rfl) ?_
    refine lv_imul hx hb dX12_doing_44 ?_
    refine lt_e (e0 := 3 * kk) (Int32.ofInt_mul _ _).symm (fun z_17 hz_17 => ?_)
    refine lv_iadd hx hb dX12_doing_45 ?_
    refine lt_e (e0 := 358 + z_17) (Int32.ofInt_add _ _).symm (fun z_18 hz_18 => ?_)
    refine va_iald hx hb hG.1 hP 2 0 rfl rfl (iI_in (by omega) (by decide)) dX12_doing_46 ?_
    refine lt_nz (i := z_18) (by omega) (fun z_19 hz_19 lz_19 uz_19 => ?_)
    refine lv_iload_n hx hb dX12_doing_47 rfl (lv_at hlv 0 rfl) ?_
    refine lv_imul hx hb dX12_doing_48 ?_
    refine lt_z (fun z_20 ez_20 lz_20 hz_20 => ?_)
    refine lv_iadd hx hb dX12_doing_49 ?_
    refine lt_z (fun z_21 ez_21 lz_21 hz_21 => ?_)
    refine lv_aload_n hx hb dX12_doing_50 rfl (lv_at hlv 1 rfl) ?_
    refine va_get (D := D) (ci := 12) (v := vR m35) (C := RX12) (T := TX12) (N := 38) hx hb hts hi12 hown hG.1 hP 1 rfl rfl 35 (by decide) lf74 (fun _ h9 => h9) rfl dX12_doing_51 ?_
    refine lv_iload_n hx hb dX12_doing_54 rfl (lv_at hlv 2 rfl) ?_
    refine lv_iconst (v := iI 1) hx hb dX12_doing_55 (by decide) ?_
    refine lv_iload_n hx hb dX12_doing_56 rfl (lv_at hlv 3 rfl) ?_
    refine lv_ishl hx hb dX12_doing_57 ?_
    refine lt_sh2 (n := 8) (M := 256) (by decide) (by decide) (by omega) (fun z_22 ez_22 lz_22 hz_22 => ?_)
    refine lv_ior hx hb dX12_doing_58 ?_
    obtain ⟨z_23, ez_23, wz_23, hz_23⟩ := so_ex (a := se) (k := kk) (by omega) (by omega) ez_22
    refine lt_i (y := iI z_23) ez_23 ?_
    refine va_iald hx hb hG.1 hP 0 0 rfl rfl (iI_in (by omega) (by decide)) dX12_doing_59 ?_
    refine lt_nz (i := z_23) (by omega) (fun z_24 hz_24 lz_24 uz_24 => ?_)
    refine lv_iadd hx hb dX12_doing_60 ?_
    refine lt_z (fun z_25 ez_25 lz_25 hz_25 => ?_)
    refine W.widen (k := 0) (n := 0) (Nat.le_of_ble_eq_true rfl) (Nat.le_of_ble_eq_true rfl) ?_
    exact W.iret (v := iI z_25) hx hb hr (fun t ht hW => ⟨⟨iI z_25, ((fun k => ([] : List Nat).getD k 0), (fun k => ([z_25] : List Int).getD k 0), (fun k => ([] : List (Nat → Int32)).getD k (fun _ => 0))), rfl, ⟨rfl, (by show ((-2147483648) ≤ z_25 ∧ z_25 ≤ 2147483647); omega), (by show (iI (z_25) = dgV f12 f35 (nz f12 357).toNat se kk); exact (dg_e (b := 1000000) (T1 := z_5) (T2 := z_18) (T3 := z_23) wz_2 hq1_2 (by omega) (by omega) hz_6 (by omega) hz_19 (by omega) (by omega) ez_20 ez_21 hz_24 (by omega) ez_25)), hq1_3⟩, at9 ht hP hD [1, 2, 0] (by decide +kernel) rfl⟩, hS.F ht⟩) hS.2.2 dX12_doing_61
def vs_m_town : List Cond := .code yX12_town cX12_town 6 (some .int) :: (([.fieldLink RX12 1 "KerbSplashModel" "thrown" "I", .fieldLink RX12 29 "KerbSplashModel" "s" "[I", .fieldLink RX12 74 "KerbSplashModel" "rest" "[I", .constant RX12 399 (iI 1000000)] : List Cond) ++ ((wsX120) ++ ((va_wsS RX12 279 yX12_within vs_m_within) ++ ((wsV RX12 175 RX12 yX12_may vs_m_may) ++ ((wsV RX12 400 RX12 yX12_doing vs_m_doing) ++ ([]))))))
set_option maxHeartbeats 4000000 in
set_option maxRecDepth 100000 in
theorem m_town (l : Launch) (hl : l.stackTraces = false) (D : va_G) (cy : Nat → ClassId) (sa : Nat → Nat) (mm m1 m9 m10 m11 m12 m13 m14 m15 m19 m20 m21 m23 m24 m25 m26 m27 m28 m33 m35 : Nat) (th tp sz_ ap bad bk opn fp im nr nl sp_ wtc wcl ir ip shu sfa swr : Int) (f1 f12 f35 : Nat → Int32) (n : Int) (sz : Nat) (hr_th : (-2147483648) ≤ th ∧ th ≤ 2147483647) (hr_tp : 0 ≤ tp ∧ tp ≤ 600) (hr_sz_ : 0 ≤ sz_ ∧ sz_ ≤ 600) (hr_ap : 0 ≤ ap ∧ ap ≤ 602) (hr_bad : (-1) ≤ bad ∧ bad ≤ 602) (hr_bk : 0 ≤ bk ∧ bk ≤ 4) (hr_opn : 0 ≤ opn ∧ opn ≤ 7) (hr_fp : (-2147483648) ≤ fp ∧ fp ≤ 2147483647) (hr_im : 0 ≤ im ∧ im ≤ 3) (hr_nr : 0 ≤ nr ∧ nr ≤ 4) (hr_nl : 0 ≤ nl ∧ nl ≤ 4) (hr_sp_ : 0 ≤ sp_ ∧ sp_ ≤ 602) (hr_wtc : (-2147483648) ≤ wtc ∧ wtc ≤ 2147483647) (hr_wcl : 0 ≤ wcl ∧ wcl ≤ 95) (hr_ir : 0 ≤ ir ∧ ir ≤ 5) (hr_ip : (-2147483648) ≤ ip ∧ ip ≤ 2147483647) (hr_shu : (-2147483648) ≤ shu ∧ shu ≤ 2147483647) (hr_sfa : (-2147483648) ≤ sfa ∧ sfa ≤ 2147483647) (hr_swr : (-2147483648) ≤ swr ∧ swr ≤ 2147483647) (hr_n : (-2147483648) ≤ n ∧ n ≤ 2147483647) (hf12 : SI 8 f12) : mI9 l yX12_town vs_m_town ({ frames := 2, cells := 0, slots := 0, locals := 46 }) D cy sa sz [vR mm, vI n] [zO mm 12 [vI th, vR m1, vI tp, vI sz_, vI ap, vI bad, vI bk, vI opn, vI fp, vR m9, vR m10, vR m11, vR m12, vR m13, vR m14, vR m15, vI im, vI nr, vI nl, vR m19, vR m20, vR m21, vI sp_, vR m23, vR m24, vR m25, vR m26, vR m27, vR m28, vI wtc, vI wcl, vI ir, vI ip, vR m33, vI shu, vR m35, vI sfa, vI swr], zI m1 (cy 0) 4 f1, zI m12 (cy 0) 389 f12, zI m35 (cy 0) 512 f35] (fun (r : Int32) (u : SV) => r = iI (u.2.1 0) ∧ ((-2147483648) ≤ u.2.1 1 ∧ u.2.1 1 ≤ 2147483647) ∧ ((-2147483648) ≤ u.2.1 0 ∧ u.2.1 0 ≤ 2147483647) ∧ SI 8 f12) (fun u : SV => [zO mm 12 [vI (u.2.1 1), vR m1, vI tp, vI sz_, vI ap, vI bad, vI bk, vI opn, vI fp, vR m9, vR m10, vR m11, vR m12, vR m13, vR m14, vR m15, vI im, vI nr, vI nl, vR m19, vR m20, vR m21, vI sp_, vR m23, vR m24, vR m25, vR m26, vR m27, vR m28, vI wtc, vI wcl, vI ir, vI ip, vR m33, vI shu, vR m35, vI sfa, vI swr], zI m1 (cy 0) 4 (u.2.2 0), zI m12 (cy 0) 389 f12, zI m35 (cy 0) 512 (u.2.2 1)]) 0 0 := by
  refine Met.ofW (cc := cX12_town) (maxL := 6) (ret := (some .int)) (by decide) rfl ?_
  intro p e s m args below meth c s₁ B hml hv
  obtain ⟨rfl, hsz, hP, hG, hD0, hT⟩ := hv
  have hx := B.exec
  have hb := B.bytes
  have hr := B.returns
  have hts := atoms_spec (ws := vs_m_town) B.pre
  have hown : s.vm.findClass RX12 = some m.cls := findClass_of_methodNamed B.named
  have hlocks := B.notSynchronized
  subst hsz
  have hD := hD0.self (sz := s.heap.size)
  generalize hAe : va_A [zO mm 12 [vI th, vR m1, vI tp, vI sz_, vI ap, vI bad, vI bk, vI opn, vI fp, vR m9, vR m10, vR m11, vR m12, vR m13, vR m14, vR m15, vI im, vI nr, vI nl, vR m19, vR m20, vR m21, vI sp_, vR m23, vR m24, vR m25, vR m26, vR m27, vR m28, vI wtc, vI wcl, vI ir, vI ip, vR m33, vI shu, vR m35, vI sfa, vI swr], zI m1 (cy 0) 4 f1, zI m12 (cy 0) 389 f12, zI m35 (cy 0) 512 f35] s.heap.size = A at hD hT ⊢
  have hA : ∀ q : Nat, s.heap.size ≤ q → A q := fun q h => by rw [← hAe]; exact Or.inr h
  have hS : va_S A s.heap s.heap [] := va_S.rf
  have hl0 := lv_entry ([vR mm, vI n]) (n := 6) (Nat.le_of_ble_eq_true rfl)
  rw [lg_entry_eq]
  generalize (lg_sl ([vR mm, vI n]) ++ List.replicate (6 - (lg_sl ([vR mm, vI n])).length) Slot.unset).toArray = ls at hl0 ⊢
  have hlv : lv_has ls 6 [(0, vR mm), (1, vI n)] := hl0
  have lf1 := hts (.fieldLink RX12 1 "KerbSplashModel" "thrown" "I") (List.mem_of_getElem? (i := 1) rfl)
  have hi12 : ∀ w ∈ wsX120, w ∈ vs_m_town := fun w h => List.mem_cons_of_mem _ (List.mem_append_right _ (List.mem_append_left _ h))
  have gg_1 : GoodIn vs_m_town (va_wsS RX12 279 yX12_within vs_m_within) := goodIn_sub (fun w h => List.mem_cons_of_mem _ (List.mem_append_right _ (List.mem_append_right _ (List.mem_append_left _ h)))) (gd_S gd_m_within (by decide +kernel))
  have gg_2 : GoodIn vs_m_town (wsV RX12 175 RX12 yX12_may vs_m_may) := goodIn_sub (fun w h => List.mem_cons_of_mem _ (List.mem_append_right _ (List.mem_append_right _ (List.mem_append_right _ (List.mem_append_left _ h))))) (gd_V gd_m_may (by decide +kernel))
  have lf29 := hts (.fieldLink RX12 29 "KerbSplashModel" "s" "[I") (List.mem_of_getElem? (i := 2) rfl)
  have lf74 := hts (.fieldLink RX12 74 "KerbSplashModel" "rest" "[I") (List.mem_of_getElem? (i := 3) rfl)
  have gg_3 : GoodIn vs_m_town (wsV RX12 400 RX12 yX12_doing vs_m_doing) := goodIn_sub (fun w h => List.mem_cons_of_mem _ (List.mem_append_right _ (List.mem_append_right _ (List.mem_append_right _ (List.mem_append_right _ (List.mem_append_left _ h)))))) (gd_V gd_m_doing (by decide +kernel))
  have ld399 := hts (.constant RX12 399 (iI 1000000)) (List.mem_of_getElem? (i := 4) rfl)
  refine lv_aload_n hx hb dX12_town_0 rfl (lv_at hlv 0 rfl) ?_
  refine lv_iconst (v := iI 0) hx hb dX12_town_1 (by decide) ?_
  refine va_put (D := D) (ci := 12) (v := vI 0) (ty := .int) (C := RX12) (T := TX12) (N := 38) hx hb hts hi12 tyX12 tyX12_ok nmX12 hown hG.1 hP hD hS 0 rfl rfl 0 (by decide) lf1 (fun _ h9 => h9) rfl (by decide +kernel) rfl rfl (Nat.le_of_ble_eq_true rfl) dX12_town_2 (fun H locs hP hD hS => ?_)
  obtain ⟨hP, hD⟩ := pw9 [zO mm 12 [vI 0, vR m1, vI tp, vI sz_, vI ap, vI bad, vI bk, vI opn, vI fp, vR m9, vR m10, vR m11, vR m12, vR m13, vR m14, vR m15, vI im, vI nr, vI nl, vR m19, vR m20, vR m21, vI sp_, vR m23, vR m24, vR m25, vR m26, vR m27, vR m28, vI wtc, vI wcl, vI ir, vI ip, vR m33, vI shu, vR m35, vI sfa, vI swr], zI m1 (cy 0) 4 f1, zI m12 (cy 0) 389 f12, zI m35 (cy 0) 512 f35] hP hD
  refine lv_aload_n hx hb dX12_town_5 rfl (lv_at hlv 0 rfl) ?_
  refine lv_iload_n hx hb dX12_town_6 rfl (lv_at hlv 1 rfl) ?_
  refine lv_iconst (v := iI 0) hx hb dX12_town_7 (by decide) ?_
  refine lv_iconst (v := iI 2) hx hb dX12_town_8 (by decide) ?_
  refine cjr_i [true, true, true, true] (fun pre9 => (va_runS (As := [vI n, vI 0, vI 2]) (rest := [vR mm]) ⟨hx, hb, hml, hown, hts⟩ (m_within l hl D cy sa n 0 2 H.size (by first | exact hr_n | omega) (by show ((-2147483648) : Int) ≤ 0 ∧ (0 : Int) ≤ 2147483647; decide) (by show ((-2147483648) : Int) ≤ 2 ∧ (2 : Int) ≤ 2147483647; decide)) (va_cwS 3 hts gg_1 rfl rfl rfl (by decide +kernel) ⟨Nat.le_of_ble_eq_true rfl, Nat.le_of_ble_eq_true rfl⟩) ⟨pcW.blind, pre9⟩ rfl rfl hlv.1 rfl (lv_room (Nat.le_of_ble_eq_true rfl)) dX12_town_9 ⟨Nat.le_of_ble_eq_true rfl, Nat.le_of_ble_eq_true rfl⟩)) hP hD hS hA hG hT [] rfl (by decide +kernel) (fun r1 u1 H locs hw1 hq9 hS => ?_)
  obtain ⟨rfl, hq1_1, hq1_2, hq1_3⟩ := hw1
  obtain ⟨hP, hD⟩ := pd9 [zO mm 12 [vI 0, vR m1, vI tp, vI sz_, vI ap, vI bad, vI bk, vI opn, vI fp, vR m9, vR m10, vR m11, vR m12, vR m13, vR m14, vR m15, vI im, vI nr, vI nl, vR m19, vR m20, vR m21, vI sp_, vR m23, vR m24, vR m25, vR m26, vR m27, vR m28, vI wtc, vI wcl, vI ir, vI ip, vR m33, vI shu, vR m35, vI sfa, vI swr], zI m1 (cy 0) 4 f1, zI m12 (cy 0) 389 f12, zI m35 (cy 0) 512 f35] hq9
  refine lv_iconst (v := iI 1) hx hb dX12_town_12 (by decide) ?_
  refine lv_iconst (v := iI 2) hx hb dX12_town_13 (by decide) ?_
  refine cjr_i [false, false, true, true] (fun pre9 => (va_runV (As := [vI (u1.2.1 0), vI 1, vI 2]) (rest := []) ⟨hx, hb, hml, hown, hts⟩ (m_may l hl D cy sa mm m1 m9 m10 m11 m12 m13 m14 m15 m19 m20 m21 m23 m24 m25 m26 m27 m28 m33 m35 0 tp sz_ ap bad bk opn fp im nr nl sp_ wtc wcl ir ip shu sfa swr f1 (u1.2.1 0) 1 2 H.size (by show ((-2147483648) : Int) ≤ 0 ∧ (0 : Int) ≤ 2147483647; decide) (by first | exact hr_tp | omega) (by first | exact hr_sz_ | omega) (by first | exact hr_ap | omega) (by first | exact hr_bad | omega) (by first | exact hr_bk | omega) (by first | exact hr_opn | omega) (by first | exact hr_fp | omega) (by first | exact hr_im | omega) (by first | exact hr_nr | omega) (by first | exact hr_nl | omega) (by first | exact hr_sp_ | omega) (by first | exact hr_wtc | omega) (by first | exact hr_wcl | omega) (by first | exact hr_ir | omega) (by first | exact hr_ip | omega) (by first | exact hr_shu | omega) (by first | exact hr_sfa | omega) (by first | exact hr_swr | omega) (by first | exact hq1_1 | omega) (by show (1 : Int) ≤ 1 ∧ (1 : Int) ≤ 4; decide) (by show (0 : Int) ≤ 2 ∧ (2 : Int) ≤ 3; decide)) (cwV 3 hts gg_2 rfl rfl rfl (by decide +kernel) ⟨Nat.le_of_ble_eq_true rfl, Nat.le_of_ble_eq_true rfl⟩) ⟨pcW.blind, (va_recv hG.1 hP (ci := 12) (q0 := 0) rfl rfl), pre9⟩ rfl rfl hlv.1 rfl (lv_room (Nat.le_of_ble_eq_true rfl)) dX12_town_14 ⟨Nat.le_of_ble_eq_true rfl, Nat.le_of_ble_eq_true rfl⟩)) hP hD hS hA hG hT [0, 1] rfl (by decide +kernel) (fun r2 u2 H locs hw2 hq9 hS => ?_)
  obtain ⟨rfl, hq2_1, hq2_2, hq2_3, hq2_4⟩ := hw2
  obtain ⟨hP, hD⟩ := pd9 [zI m12 (cy 0) 389 f12, zI m35 (cy 0) 512 f35, zO mm 12 [vI (u2.2.1 1), vR m1, vI tp, vI sz_, vI ap, vI bad, vI bk, vI opn, vI fp, vR m9, vR m10, vR m11, vR m12, vR m13, vR m14, vR m15, vI im, vI nr, vI nl, vR m19, vR m20, vR m21, vI sp_, vR m23, vR m24, vR m25, vR m26, vR m27, vR m28, vI wtc, vI wcl, vI ir, vI ip, vR m33, vI shu, vR m35, vI sfa, vI swr], zI m1 (cy 0) 4 (u2.2.2 0)] hq9
  refine iz_ne (tgt := 22) hx hb dX12_town_17 (by decide) (by first | exact rgw hq2_2 (by decide) (by decide) | omega) (fun c_1 => ?_) (fun c_1 => ?_)
  · have hND := hf12.2.2.2.2.2.1
    refine lv_aload_n hx hb dX12_town_22 rfl (lv_at hlv 0 rfl) ?_
    refine va_get (D := D) (ci := 12) (v := vR m12) (C := RX12) (T := TX12) (N := 38) hx hb hts hi12 hown hG.1 hP 2 rfl rfl 12 (by decide) lf29 (fun _ h9 => h9) rfl dX12_town_23 ?_
    refine lv_sipush (v := iI 357) hx hb dX12_town_26 (by decide) ?_
    refine va_iald hx hb hG.1 hP 0 0 rfl rfl (iI_in (by omega) (by decide)) dX12_town_29 ?_
    refine lt_nz (i := 357) (by omega) (fun z_2 hz_2 lz_2 uz_2 => ?_)
    have hz_2 : z_2 = nz f12 357 := hz_2
    have hbz_2_7 := hf12.2.2.2.2.2.1
    refine iz_ne (tgt := 35) hx hb dX12_town_30 (by decide) (by omega) (fun c_3 => ?_) (fun c_3 => ?_)
    · refine lv_iconst (v := iI 1) hx hb dX12_town_35 (by decide) ?_
      refine lv_aload_n hx hb dX12_town_36 rfl (lv_at hlv 0 rfl) ?_
      refine va_get (D := D) (ci := 12) (v := vR m12) (C := RX12) (T := TX12) (N := 38) hx hb hts hi12 hown hG.1 hP 2 rfl rfl 12 (by decide) lf29 (fun _ h9 => h9) rfl dX12_town_37 ?_
      refine lv_sipush (v := iI 357) hx hb dX12_town_40 (by decide) ?_
      refine va_iald hx hb hG.1 hP 0 0 rfl rfl (iI_in (by omega) (by decide)) dX12_town_43 ?_
      refine lt_nz (i := 357) (by omega) (fun z_4 hz_4 lz_4 uz_4 => ?_)
      have hz_4 : z_4 = nz f12 357 := hz_4
      have hbz_4_7 := hf12.2.2.2.2.2.1
      refine lv_ishl hx hb dX12_town_44 ?_
      refine lt_sh2 (n := 9) (M := 512) (by decide) (by decide) (by omega) (fun z_5 ez_5 lz_5 hz_5 => ?_)
      refine lv_iconst (v := iI 1) hx hb dX12_town_45 (by decide) ?_
      refine lv_isub hx hb dX12_town_46 ?_
      refine lt_e (e0 := z_5 - 1) (Int32.ofInt_sub _ _).symm (fun z_6 hz_6 => ?_)
      refine lv_istore_n (lv' := [(2, vI z_6), (0, vR mm), (1, vI n)]) hx hb dX12_town_47 rfl hlv (by decide) rfl (fun ls hlv => ?_)
      refine lv_aload_n hx hb dX12_town_48 rfl (lv_at hlv 1 rfl) ?_
      refine va_get (D := D) (ci := 12) (v := vR m35) (C := RX12) (T := TX12) (N := 38) hx hb hts hi12 hown hG.1 hP 2 rfl rfl 35 (by decide) lf74 (fun _ h9 => h9) rfl dX12_town_49 ?_
      refine lv_iload_n hx hb dX12_town_52 rfl (lv_at hlv 0 rfl) ?_
      refine lv_iconst (v := iI 0) hx hb dX12_town_53 (by decide) ?_
      refine va_iast hx hb hG.1 hP hD hS 1 0 rfl rfl (iI_in (by omega) (by decide)) dX12_town_54 (fun H locs hP hD hS => ?_)
      obtain ⟨f_7, hdf_7, hP, hD⟩ := pe9e (fun f_7 => [zI m12 (cy 0) 389 f12, zI m35 (cy 0) 512 f_7, zO mm 12 [vI (u2.2.1 1), vR m1, vI tp, vI sz_, vI ap, vI bad, vI bk, vI opn, vI fp, vR m9, vR m10, vR m11, vR m12, vR m13, vR m14, vR m15, vI im, vI nr, vI nl, vR m19, vR m20, vR m21, vI sp_, vR m23, vR m24, vR m25, vR m26, vR m27, vR m28, vI wtc, vI wcl, vI ir, vI ip, vR m33, vI shu, vR m35, vI sfa, vI swr], zI m1 (cy 0) 4 (u2.2.2 0)]) (upd f35 (iI z_6).toNatClampNeg (iI 0)) hP hD
      refine lv_iload_n hx hb dX12_town_55 rfl (lv_at hlv 0 rfl) ?_
      refine lv_iconst (v := iI 1) hx hb dX12_town_56 (by decide) ?_
      refine lv_isub hx hb dX12_town_57 ?_
      refine lt_e (e0 := z_6 - 1) (Int32.ofInt_sub _ _).symm (fun z_8 hz_8 => ?_)
      refine lv_istore_n (lv' := [(3, vI z_8), (2, vI z_6), (0, vR mm), (1, vI n)]) hx hb dX12_town_58 rfl hlv (by decide) rfl (fun ls hlv => ?_)
      refine (?_ : ∀ (fu : Nat) (q3 : Int) (rg : Nat → Int32) (H : Heap) (locs : List Loc) (ls : Array Slot), q3 + 1 < (fu : Int) → ((-1) ≤ q3 ∧ q3 ≤ 510) → (q3 < z_5 - 1) → (RA f12 rg (nz f12 357).toNat q3 (z_5 - 1)) → va_P D vwCl [zI m12 (cy 0) 389 f12, zI m35 (cy 0) 512 rg, zO mm 12 [vI (u2.2.1 1), vR m1, vI tp, vI sz_, vI ap, vI bad, vI bk, vI opn, vI fp, vR m9, vR m10, vR m11, vR m12, vR m13, vR m14, vR m15, vI im, vI nr, vI nl, vR m19, vR m20, vR m21, vI sp_, vR m23, vR m24, vR m25, vR m26, vR m27, vR m28, vI wtc, vI wcl, vI ir, vI ip, vR m33, vI shu, vR m35, vI sfa, vI swr], zI m1 (cy 0) 4 (u2.2.2 0)] H → va_D A [zI m12 (cy 0) 389 f12, zI m35 (cy 0) 512 rg, zO mm 12 [vI (u2.2.1 1), vR m1, vI tp, vI sz_, vI ap, vI bad, vI bk, vI opn, vI fp, vR m9, vR m10, vR m11, vR m12, vR m13, vR m14, vR m15, vI im, vI nr, vI nl, vR m19, vR m20, vR m21, vI sp_, vR m23, vR m24, vR m25, vR m26, vR m27, vR m28, vI wtc, vI wcl, vI ir, vI ip, vR m33, vI shu, vR m35, vI sfa, vI swr], zI m1 (cy 0) 4 (u2.2.2 0)] → va_S A s.heap H locs → lv_has ls 6 [(3, vI q3), (2, vI z_6), (0, vR mm), (1, vI n)] → W p l e _ s m _ below meth c H locs _ _ _ (F0 m 59 ls [])) (((z_8 + 1) + 1 : Int)).toNat z_8 f_7 _ _ _ (by omega) (by omega) (by omega) (RA.zero (by omega))  hP hD hS hlv
      clear hP hD hS hlv
      intro fu
      induction fu with
      | zero => intro q3 rg H locs ls hm59 hl59_0 hl59_1 hl59_2  hP hD hS hlv; omega
      | succ fu ih59 =>
        intro q3 rg H locs ls hm59 hl59_0 hl59_1 hl59_2  hP hD hS hlv
        refine lv_iload_n hx hb dX12_town_59 rfl (lv_at hlv 0 rfl) ?_
        refine iz_lt (tgt := 149) hx hb dX12_town_60 (by decide) (by first | exact rgw hl59_0 (by decide) (by decide) | omega) (fun c_9 => ?_) (fun c_9 => ?_)
        · refine lv_iload_n hx hb dX12_town_149 rfl (lv_at hlv 3 rfl) ?_
          refine lv_iconst (v := iI 2) hx hb dX12_town_150 (by decide) ?_
          refine ir_ge (tgt := 182) hx hb dX12_town_151 (by decide) (by first | exact hr_n | omega) (by show ((-2147483648) : Int) ≤ 2 ∧ (2 : Int) ≤ 2147483647; decide) (fun c_10 => ?_) (fun c_10 => ?_)
          · refine lv_iconst (v := iI 0) hx hb dX12_town_182 (by decide) ?_
            refine lv_istore_n (lv' := [(3, vI 0), (2, vI z_6), (0, vR mm), (1, vI n)]) hx hb dX12_town_183 rfl hlv (by decide) rfl (fun ls hlv => ?_)
            refine lv_iconst (v := iI 0) hx hb dX12_town_184 (by decide) ?_
            refine lv_istore (lv' := [(4, vI 0), (3, vI 0), (2, vI z_6), (0, vR mm), (1, vI n)]) hx hb dX12_town_185 hlv (by decide) rfl (fun ls hlv => ?_)
            refine (?_ : ∀ (fu : Nat) (r3 : Int) (r4 : Int) (H : Heap) (locs : List Loc) (ls : Array Slot), 511 - r4 < (fu : Int) → ((-2147483648) ≤ r3 ∧ r3 ≤ 2147483647) → (0 ≤ r4 ∧ r4 ≤ 511) → (r4 ≤ z_5 - 1) → va_P D vwCl [zI m12 (cy 0) 389 f12, zI m35 (cy 0) 512 rg, zO mm 12 [vI (u2.2.1 1), vR m1, vI tp, vI sz_, vI ap, vI bad, vI bk, vI opn, vI fp, vR m9, vR m10, vR m11, vR m12, vR m13, vR m14, vR m15, vI im, vI nr, vI nl, vR m19, vR m20, vR m21, vI sp_, vR m23, vR m24, vR m25, vR m26, vR m27, vR m28, vI wtc, vI wcl, vI ir, vI ip, vR m33, vI shu, vR m35, vI sfa, vI swr], zI m1 (cy 0) 4 (u2.2.2 0)] H → va_D A [zI m12 (cy 0) 389 f12, zI m35 (cy 0) 512 rg, zO mm 12 [vI (u2.2.1 1), vR m1, vI tp, vI sz_, vI ap, vI bad, vI bk, vI opn, vI fp, vR m9, vR m10, vR m11, vR m12, vR m13, vR m14, vR m15, vI im, vI nr, vI nl, vR m19, vR m20, vR m21, vI sp_, vR m23, vR m24, vR m25, vR m26, vR m27, vR m28, vI wtc, vI wcl, vI ir, vI ip, vR m33, vI shu, vR m35, vI sfa, vI swr], zI m1 (cy 0) 4 (u2.2.2 0)] → va_S A s.heap H locs → lv_has ls 6 [(4, vI r4), (3, vI r3), (2, vI z_6), (0, vR mm), (1, vI n)] → W p l e _ s m _ below meth c H locs _ _ _ (F0 m 187 ls [])) (((511 - 0) + 1 : Int)).toNat 0 0 _ _ _ (by omega) (by show ((-2147483648) : Int) ≤ 0 ∧ (0 : Int) ≤ 2147483647; decide) (by show (0 : Int) ≤ 0 ∧ (0 : Int) ≤ 511; decide) (by omega)  hP hD hS hlv
            clear hP hD hS hlv
            intro fu
            induction fu with
            | zero => intro r3 r4 H locs ls hm187 hl187_0 hl187_1 hl187_2  hP hD hS hlv; omega
            | succ fu ih187 =>
              intro r3 r4 H locs ls hm187 hl187_0 hl187_1 hl187_2  hP hD hS hlv
              refine lv_iload hx hb dX12_town_187 (lv_at hlv 0 rfl) ?_
              refine lv_iload_n hx hb dX12_town_189 rfl (lv_at hlv 2 rfl) ?_
              refine ir_eq (tgt := 251) hx hb dX12_town_190 (by decide) (by first | exact rgw hl187_1 (by decide) (by decide) | omega) (by omega) (fun c_11 => ?_) (fun c_11 => ?_)
              · refine lv_iload_n hx hb dX12_town_251 rfl (lv_at hlv 1 rfl) ?_
                refine W.widen (k := 0) (n := 0) (Nat.le_of_ble_eq_true rfl) (Nat.le_of_ble_eq_true rfl) ?_
                exact W.iret (v := iI r3) hx hb hr (fun t ht hW => ⟨⟨iI r3, ((fun k => ([] : List Nat).getD k 0), (fun k => ([r3, (u2.2.1 1)] : List Int).getD k 0), (fun k => ([(u2.2.2 0), rg] : List (Nat → Int32)).getD k (fun _ => 0))), rfl, ⟨rfl, (by show ((-2147483648) ≤ (u2.2.1 1) ∧ (u2.2.1 1) ≤ 2147483647); first | exact hq2_1 | omega), (by show ((-2147483648) ≤ r3 ∧ r3 ≤ 2147483647); first | exact hl187_0 | omega), hf12⟩, at9 ht hP hD [2, 3, 0, 1] (by decide +kernel) rfl⟩, hS.F ht⟩) hS.2.2 dX12_town_252
              · refine lv_iconst (v := iI 0) hx hb dX12_town_193 (by decide) ?_
                refine lv_istore (lv' := [(5, vI 0), (4, vI r4), (3, vI r3), (2, vI z_6), (0, vR mm), (1, vI n)]) hx hb dX12_town_194 hlv (by decide) rfl (fun ls hlv => ?_)
                refine (?_ : ∀ (fu : Nat) (r5 : Int) (H : Heap) (locs : List Loc) (ls : Array Slot), 9 - r5 < (fu : Int) → (0 ≤ r5 ∧ r5 ≤ 9) → (RS f12 rg (nz f12 357).toNat r4 r5) → va_P D vwCl [zI m12 (cy 0) 389 f12, zI m35 (cy 0) 512 rg, zO mm 12 [vI (u2.2.1 1), vR m1, vI tp, vI sz_, vI ap, vI bad, vI bk, vI opn, vI fp, vR m9, vR m10, vR m11, vR m12, vR m13, vR m14, vR m15, vI im, vI nr, vI nl, vR m19, vR m20, vR m21, vI sp_, vR m23, vR m24, vR m25, vR m26, vR m27, vR m28, vI wtc, vI wcl, vI ir, vI ip, vR m33, vI shu, vR m35, vI sfa, vI swr], zI m1 (cy 0) 4 (u2.2.2 0)] H → va_D A [zI m12 (cy 0) 389 f12, zI m35 (cy 0) 512 rg, zO mm 12 [vI (u2.2.1 1), vR m1, vI tp, vI sz_, vI ap, vI bad, vI bk, vI opn, vI fp, vR m9, vR m10, vR m11, vR m12, vR m13, vR m14, vR m15, vI im, vI nr, vI nl, vR m19, vR m20, vR m21, vI sp_, vR m23, vR m24, vR m25, vR m26, vR m27, vR m28, vI wtc, vI wcl, vI ir, vI ip, vR m33, vI shu, vR m35, vI sfa, vI swr], zI m1 (cy 0) 4 (u2.2.2 0)] → va_S A s.heap H locs → lv_has ls 6 [(5, vI r5), (4, vI r4), (3, vI r3), (2, vI z_6), (0, vR mm), (1, vI n)] → W p l e _ s m _ below meth c H locs _ _ _ (F0 m 196 ls [])) (((9 - 0) + 1 : Int)).toNat 0 _ _ _ (by omega) (by show (0 : Int) ≤ 0 ∧ (0 : Int) ≤ 9; decide) (hl59_2 r4 (by omega) (by omega))  hP hD hS hlv
                clear hP hD hS hlv
                intro fu
                induction fu with
                | zero => intro r5 H locs ls hm196 hl196_0 hl196_1  hP hD hS hlv; omega
                | succ fu ih196 =>
                  intro r5 H locs ls hm196 hl196_0 hl196_1  hP hD hS hlv
                  refine lv_iload hx hb dX12_town_196 (lv_at hlv 1 rfl) ?_
                  have hlt := RS.lt hl196_1
                  refine lv_iload hx hb dX12_town_198 (lv_at hlv 0 rfl) ?_
                  refine lv_ishr hx hb dX12_town_200 ?_
                  refine lt_z (fun z_12 ez_12 lz_12 hz_12 => ?_)
                  refine lv_iconst (v := iI 1) hx hb dX12_town_201 (by decide) ?_
                  refine lv_iand hx hb dX12_town_202 ?_
                  refine lt_aE 1 (by decide) (by decide) (hi := 1) (by decide) (fun z_13 ez_13 lz_13 hz_13 => ?_)
                  refine lv_iconst (v := iI 1) hx hb dX12_town_203 (by decide) ?_
                  refine ir_eq (tgt := 225) hx hb dX12_town_204 (by decide) (by omega) (by show ((-2147483648) : Int) ≤ 1 ∧ (1 : Int) ≤ 2147483647; decide) (fun c_14 => ?_) (fun c_14 => ?_)
                  · obtain ⟨z_15, hz_15⟩ : ∃ z : Int, z = r5 + 1 := ⟨_, rfl⟩
                    refine lv_iinc (v := iI z_15) (lv' := [(5, vI z_15), (4, vI r4), (3, vI r3), (2, vI z_6), (0, vR mm), (1, vI n)]) hx hb dX12_town_225 hlv (k := 0) rfl (by rw [hz_15]; exact (Int32.ofInt_add _ _).symm) (by decide) rfl (fun ls hlv => ?_)
                    refine lv_goto (tgt := 196) hx hb dX12_town_228 (by decide) ?_
                    exact ih196 z_15 H locs ls (by omega) (by omega) (RS.miss (v := 0) (y := 0) hl196_1 (by omega) (Or.inl (by rw [bt_e ez_12 ez_13]; rw [show z_13 = 1 by omega])) (by omega))  (hP.sub [0, 1, 2, 3] rfl) (hD.sub [0, 1, 2, 3] (by decide) rfl) hS (lv_sub hlv [0, 1, 2, 3, 4, 5] rfl)
                  · refine lv_aload_n hx hb dX12_town_207 rfl (lv_at hlv 4 rfl) ?_
                    refine lv_iload hx hb dX12_town_208 (lv_at hlv 1 rfl) ?_
                    refine lv_iload hx hb dX12_town_210 (lv_at hlv 0 rfl) ?_
                    refine cjr_i [false, false, false, true] (fun pre9 => (va_runV (As := [vI r4, vI r5]) (rest := []) ⟨hx, hb, hml, hown, hts⟩ (m_doing l hl D cy sa mm m1 m9 m10 m11 m12 m13 m14 m15 m19 m20 m21 m23 m24 m25 m26 m27 m28 m33 m35 (u2.2.1 1) tp sz_ ap bad bk opn fp im nr nl sp_ wtc wcl ir ip shu sfa swr f12 rg r4 r5 H.size (by first | exact hq2_1 | omega) (by first | exact hr_tp | omega) (by first | exact hr_sz_ | omega) (by first | exact hr_ap | omega) (by first | exact hr_bad | omega) (by first | exact hr_bk | omega) (by first | exact hr_opn | omega) (by first | exact hr_fp | omega) (by first | exact hr_im | omega) (by first | exact hr_nr | omega) (by first | exact hr_nl | omega) (by first | exact hr_sp_ | omega) (by first | exact hr_wtc | omega) (by first | exact hr_wcl | omega) (by first | exact hr_ir | omega) (by first | exact hr_ip | omega) (by first | exact hr_shu | omega) (by first | exact hr_sfa | omega) (by first | exact hr_swr | omega) (by first | exact hl187_1 | omega) (by omega) hf12) (cwV 2 hts gg_3 rfl rfl rfl (by decide +kernel) ⟨Nat.le_of_ble_eq_true rfl, Nat.le_of_ble_eq_true rfl⟩) ⟨pcW.blind, (va_recv hG.1 hP (ci := 12) (q0 := 2) rfl rfl), pre9⟩ rfl rfl hlv.1 rfl (lv_room (Nat.le_of_ble_eq_true rfl)) dX12_town_212 ⟨Nat.le_of_ble_eq_true rfl, Nat.le_of_ble_eq_true rfl⟩)) hP hD hS hA hG hT [2, 0, 1] rfl (by decide +kernel) (fun r3 u3 H locs hw3 hq9 hS => ?_)
                    obtain ⟨rfl, hq3_1, hq3_2, hq3_3⟩ := hw3
                    obtain ⟨hP, hD⟩ := pd9 [zI m1 (cy 0) 4 (u2.2.2 0), zO mm 12 [vI (u2.2.1 1), vR m1, vI tp, vI sz_, vI ap, vI bad, vI bk, vI opn, vI fp, vR m9, vR m10, vR m11, vR m12, vR m13, vR m14, vR m15, vI im, vI nr, vI nl, vR m19, vR m20, vR m21, vI sp_, vR m23, vR m24, vR m25, vR m26, vR m27, vR m28, vI wtc, vI wcl, vI ir, vI ip, vR m33, vI shu, vR m35, vI sfa, vI swr], zI m12 (cy 0) 389 f12, zI m35 (cy 0) 512 rg] hq9
                    refine lv_aload_n hx hb dX12_town_215 rfl (lv_at hlv 4 rfl) ?_
                    refine va_get (D := D) (ci := 12) (v := vR m35) (C := RX12) (T := TX12) (N := 38) hx hb hts hi12 hown hG.1 hP 1 rfl rfl 35 (by decide) lf74 (fun _ h9 => h9) rfl dX12_town_216 ?_
                    refine lv_iload hx hb dX12_town_219 (lv_at hlv 1 rfl) ?_
                    refine va_iald hx hb hG.1 hP 3 0 rfl rfl (iI_in (by omega) (by decide)) dX12_town_221 ?_
                    refine lt_nz (i := r4) (by omega) (fun z_16 hz_16 lz_16 uz_16 => ?_)
                    refine ir_eq (tgt := 231) hx hb dX12_town_222 (by decide) (by first | exact hq3_1 | omega) (by omega) (fun c_17 => ?_) (fun c_17 => ?_)
                    · refine lv_bipush (v := iI 10) hx hb dX12_town_231 (by decide) ?_
                      refine lv_iload_n hx hb dX12_town_233 rfl (lv_at hlv 2 rfl) ?_
                      refine lv_imul hx hb dX12_town_234 ?_
                      refine lt_z (fun z_18 ez_18 lz_18 hz_18 => ?_)
                      refine lv_iload hx hb dX12_town_235 (lv_at hlv 0 rfl) ?_
                      refine lv_iadd hx hb dX12_town_237 ?_
                      refine lt_z (fun z_19 ez_19 lz_19 hz_19 => ?_)
                      refine lv_istore_n (lv' := [(3, vI z_19), (5, vI r5), (4, vI r4), (2, vI z_6), (0, vR mm), (1, vI n)]) hx hb dX12_town_238 rfl hlv (by decide) rfl (fun ls hlv => ?_)
                      refine lv_iload hx hb dX12_town_239 (lv_at hlv 2 rfl) ?_
                      refine lv_iconst (v := iI 1) hx hb dX12_town_241 (by decide) ?_
                      refine lv_iload hx hb dX12_town_242 (lv_at hlv 1 rfl) ?_
                      refine lv_ishl hx hb dX12_town_244 ?_
                      refine lt_sh2 (n := 8) (M := 256) (by decide) (by decide) (by omega) (fun z_20 ez_20 lz_20 hz_20 => ?_)
                      refine lv_ior hx hb dX12_town_245 ?_
                      obtain ⟨z_21, ez_21, wz_21, hz_21⟩ := so_ex (a := r4) (k := r5) (by omega) (by omega) ez_20
                      have vz_21 := so_up (a := r4) (k := r5) (zz := z_5) (N := nz f12 357) (by omega) (by omega) (by omega) (by first | exact ez_5 | (rw [show nz f12 357 = z_4 by omega]; exact ez_5)) (by omega) (nb_e ez_12 ez_13 (by omega))
                      rw [← wz_21] at vz_21
                      refine lt_i (y := iI z_21) ez_21 ?_
                      refine lv_istore (lv' := [(4, vI z_21), (3, vI z_19), (5, vI r5), (2, vI z_6), (0, vR mm), (1, vI n)]) hx hb dX12_town_246 hlv (by decide) rfl (fun ls hlv => ?_)
                      refine lv_goto (tgt := 187) hx hb dX12_town_248 (by decide) ?_
                      exact ih187 z_19 z_21 H locs ls (by omega) (by omega) (by omega) (by omega)  (hP.sub [2, 3, 1, 0] rfl) (hD.sub [2, 3, 1, 0] (by decide) rfl) hS (lv_sub hlv [0, 1, 3, 4, 5] rfl)
                    · obtain ⟨z_22, hz_22⟩ : ∃ z : Int, z = r5 + 1 := ⟨_, rfl⟩
                      refine lv_iinc (v := iI z_22) (lv' := [(5, vI z_22), (4, vI r4), (3, vI r3), (2, vI z_6), (0, vR mm), (1, vI n)]) hx hb dX12_town_225 hlv (k := 0) rfl (by rw [hz_22]; exact (Int32.ofInt_add _ _).symm) (by decide) rfl (fun ls hlv => ?_)
                      refine lv_goto (tgt := 196) hx hb dX12_town_228 (by decide) ?_
                      exact ih196 z_22 H locs ls (by omega) (by omega) (RS.miss (v := (u3.2.1 0)) (y := z_16) hl196_1 (by omega) (Or.inr ⟨hq3_2, hz_16, by omega, by omega, by omega⟩) (by omega))  (hP.sub [2, 3, 1, 0] rfl) (hD.sub [2, 3, 1, 0] (by decide) rfl) hS (lv_sub hlv [0, 1, 2, 3, 4, 5] rfl)
          · refine lv_iload_n hx hb dX12_town_154 rfl (lv_at hlv 3 rfl) ?_
            refine iz_ne (tgt := 171) hx hb dX12_town_155 (by decide) (by first | exact hr_n | omega) (fun c_23 => ?_) (fun c_23 => ?_)
            · refine lv_aload_n hx hb dX12_town_171 rfl (lv_at hlv 2 rfl) ?_
              refine va_get (D := D) (ci := 12) (v := vR m35) (C := RX12) (T := TX12) (N := 38) hx hb hts hi12 hown hG.1 hP 2 rfl rfl 35 (by decide) lf74 (fun _ h9 => h9) rfl dX12_town_172 ?_
              refine lv_iconst (v := iI 0) hx hb dX12_town_175 (by decide) ?_
              refine va_iald hx hb hG.1 hP 1 0 rfl rfl (iI_in (by omega) (by decide)) dX12_town_176 ?_
              refine lt_nz (i := 0) (by omega) (fun z_24 hz_24 lz_24 uz_24 => ?_)
              have hz_24 : z_24 = nz rg 0 := hz_24
              refine lv_ldcw (v := iI 1000000) hx hb hown ld399 dX12_town_177 ?_
              refine lv_irem hx hb dX12_town_180 (fun q => absurd ((iI_eq (a := 1000000) (b := 0) (by omega) (by omega)).mp q) (by omega)) ?_
              refine lt_z (fun z_25 ez_25 lz_25 hz_25 => ?_)
              refine W.widen (k := 0) (n := 0) (Nat.le_of_ble_eq_true rfl) (Nat.le_of_ble_eq_true rfl) ?_
              exact W.iret (v := iI z_25) hx hb hr (fun t ht hW => ⟨⟨iI z_25, ((fun k => ([] : List Nat).getD k 0), (fun k => ([z_25, (u2.2.1 1)] : List Int).getD k 0), (fun k => ([(u2.2.2 0), rg] : List (Nat → Int32)).getD k (fun _ => 0))), rfl, ⟨rfl, (by show ((-2147483648) ≤ (u2.2.1 1) ∧ (u2.2.1 1) ≤ 2147483647); first | exact hq2_1 | omega), (by show ((-2147483648) ≤ z_25 ∧ z_25 ≤ 2147483647); omega), hf12⟩, at9 ht hP hD [2, 3, 0, 1] (by decide +kernel) rfl⟩, hS.F ht⟩) hS.2.2 dX12_town_181
            · refine lv_aload_n hx hb dX12_town_158 rfl (lv_at hlv 2 rfl) ?_
              refine va_get (D := D) (ci := 12) (v := vR m35) (C := RX12) (T := TX12) (N := 38) hx hb hts hi12 hown hG.1 hP 2 rfl rfl 35 (by decide) lf74 (fun _ h9 => h9) rfl dX12_town_159 ?_
              refine lv_iconst (v := iI 0) hx hb dX12_town_162 (by decide) ?_
              refine va_iald hx hb hG.1 hP 1 0 rfl rfl (iI_in (by omega) (by decide)) dX12_town_163 ?_
              refine lt_nz (i := 0) (by omega) (fun z_26 hz_26 lz_26 uz_26 => ?_)
              have hz_26 : z_26 = nz rg 0 := hz_26
              refine lv_ldcw (v := iI 1000000) hx hb hown ld399 dX12_town_164 ?_
              refine lv_idiv hx hb dX12_town_167 (fun q => absurd ((iI_eq (a := 1000000) (b := 0) (by omega) (by omega)).mp q) (by omega)) ?_
              refine lt_z (fun z_27 ez_27 lz_27 hz_27 => ?_)
              refine lv_goto (tgt := 181) hx hb dX12_town_168 (by decide) ?_
              refine W.widen (k := 0) (n := 0) (Nat.le_of_ble_eq_true rfl) (Nat.le_of_ble_eq_true rfl) ?_
              exact W.iret (v := iI z_27) hx hb hr (fun t ht hW => ⟨⟨iI z_27, ((fun k => ([] : List Nat).getD k 0), (fun k => ([z_27, (u2.2.1 1)] : List Int).getD k 0), (fun k => ([(u2.2.2 0), rg] : List (Nat → Int32)).getD k (fun _ => 0))), rfl, ⟨rfl, (by show ((-2147483648) ≤ (u2.2.1 1) ∧ (u2.2.1 1) ≤ 2147483647); first | exact hq2_1 | omega), (by show ((-2147483648) ≤ z_27 ∧ z_27 ≤ 2147483647); omega), hf12⟩, at9 ht hP hD [2, 3, 0, 1] (by decide +kernel) rfl⟩, hS.F ht⟩) hS.2.2 dX12_town_181
        · refine lv_aload_n hx hb dX12_town_63 rfl (lv_at hlv 2 rfl) ?_
          refine va_get (D := D) (ci := 12) (v := vR m35) (C := RX12) (T := TX12) (N := 38) hx hb hts hi12 hown hG.1 hP 2 rfl rfl 35 (by decide) lf74 (fun _ h9 => h9) rfl dX12_town_64 ?_
          refine lv_iload_n hx hb dX12_town_67 rfl (lv_at hlv 0 rfl) ?_
          refine lv_iconst (v := iI (-1)) hx hb dX12_town_68 (by decide) ?_
          refine va_iast hx hb hG.1 hP hD hS 1 0 rfl rfl (iI_in (by omega) (by decide)) dX12_town_69 (fun H locs hP hD hS => ?_)
          obtain ⟨f_28, hdf_28, hP, hD⟩ := pe9e (fun f_28 => [zI m12 (cy 0) 389 f12, zI m35 (cy 0) 512 f_28, zO mm 12 [vI (u2.2.1 1), vR m1, vI tp, vI sz_, vI ap, vI bad, vI bk, vI opn, vI fp, vR m9, vR m10, vR m11, vR m12, vR m13, vR m14, vR m15, vI im, vI nr, vI nl, vR m19, vR m20, vR m21, vI sp_, vR m23, vR m24, vR m25, vR m26, vR m27, vR m28, vI wtc, vI wcl, vI ir, vI ip, vR m33, vI shu, vR m35, vI sfa, vI swr], zI m1 (cy 0) 4 (u2.2.2 0)]) (upd rg (iI q3).toNatClampNeg (iI (-1))) hP hD
          refine lv_iconst (v := iI 0) hx hb dX12_town_70 (by decide) ?_
          refine lv_istore (lv' := [(4, vI 0), (3, vI q3), (2, vI z_6), (0, vR mm), (1, vI n)]) hx hb dX12_town_71 hlv (by decide) rfl (fun ls hlv => ?_)
          refine (?_ : ∀ (fu : Nat) (q4 : Int) (ri : Nat → Int32) (H : Heap) (locs : List Loc) (ls : Array Slot), 9 - q4 < (fu : Int) → (0 ≤ q4 ∧ q4 ≤ 9) → (q4 ≤ nz f12 357) → (RA f12 ri (nz f12 357).toNat q3 (z_5 - 1)) → (AB f12 ri (nz f12 357).toNat q3 q4) → va_P D vwCl [zI m12 (cy 0) 389 f12, zI m35 (cy 0) 512 ri, zO mm 12 [vI (u2.2.1 1), vR m1, vI tp, vI sz_, vI ap, vI bad, vI bk, vI opn, vI fp, vR m9, vR m10, vR m11, vR m12, vR m13, vR m14, vR m15, vI im, vI nr, vI nl, vR m19, vR m20, vR m21, vI sp_, vR m23, vR m24, vR m25, vR m26, vR m27, vR m28, vI wtc, vI wcl, vI ir, vI ip, vR m33, vI shu, vR m35, vI sfa, vI swr], zI m1 (cy 0) 4 (u2.2.2 0)] H → va_D A [zI m12 (cy 0) 389 f12, zI m35 (cy 0) 512 ri, zO mm 12 [vI (u2.2.1 1), vR m1, vI tp, vI sz_, vI ap, vI bad, vI bk, vI opn, vI fp, vR m9, vR m10, vR m11, vR m12, vR m13, vR m14, vR m15, vI im, vI nr, vI nl, vR m19, vR m20, vR m21, vI sp_, vR m23, vR m24, vR m25, vR m26, vR m27, vR m28, vI wtc, vI wcl, vI ir, vI ip, vR m33, vI shu, vR m35, vI sfa, vI swr], zI m1 (cy 0) 4 (u2.2.2 0)] → va_S A s.heap H locs → lv_has ls 6 [(4, vI q4), (3, vI q3), (2, vI z_6), (0, vR mm), (1, vI n)] → W p l e _ s m _ below meth c H locs _ _ _ (F0 m 73 ls [])) (((9 - 0) + 1 : Int)).toNat 0 f_28 _ _ _ (by omega) (by show (0 : Int) ≤ 0 ∧ (0 : Int) ≤ 9; decide) (by omega) (RA.put hl59_2 (by omega) (by omega) (by omega) hdf_28) (AB.zero (by omega) hdf_28)  hP hD hS hlv
          clear hP hD hS hlv
          intro fu
          induction fu with
          | zero => intro q4 ri H locs ls hm73 hl73_0 hl73_1 hl73_2 hl73_3  hP hD hS hlv; omega
          | succ fu ih73 =>
            intro q4 ri H locs ls hm73 hl73_0 hl73_1 hl73_2 hl73_3  hP hD hS hlv
            refine lv_iload hx hb dX12_town_73 (lv_at hlv 0 rfl) ?_
            refine lv_aload_n hx hb dX12_town_75 rfl (lv_at hlv 3 rfl) ?_
            refine va_get (D := D) (ci := 12) (v := vR m12) (C := RX12) (T := TX12) (N := 38) hx hb hts hi12 hown hG.1 hP 2 rfl rfl 12 (by decide) lf29 (fun _ h9 => h9) rfl dX12_town_76 ?_
            refine lv_sipush (v := iI 357) hx hb dX12_town_79 (by decide) ?_
            refine va_iald hx hb hG.1 hP 0 0 rfl rfl (iI_in (by omega) (by decide)) dX12_town_82 ?_
            refine lt_nz (i := 357) (by omega) (fun z_29 hz_29 lz_29 uz_29 => ?_)
            have hz_29 : z_29 = nz f12 357 := hz_29
            have hbz_29_7 := hf12.2.2.2.2.2.1
            refine ir_ge (tgt := 143) hx hb dX12_town_83 (by decide) (by first | exact rgw hl73_0 (by decide) (by decide) | omega) (by omega) (fun c_30 => ?_) (fun c_30 => ?_)
            · obtain ⟨z_31, hz_31⟩ : ∃ z : Int, z = q3 + (-1) := ⟨_, rfl⟩
              refine lv_iinc (v := iI z_31) (lv' := [(3, vI z_31), (4, vI q4), (2, vI z_6), (0, vR mm), (1, vI n)]) hx hb dX12_town_143 hlv (k := 1) rfl (by rw [hz_31]; exact (Int32.ofInt_add _ _).symm) (by decide) rfl (fun ls hlv => ?_)
              refine lv_goto (tgt := 59) hx hb dX12_town_146 (by decide) ?_
              exact ih59 z_31 ri H locs ls (by omega) (by omega) (by omega) (RA.next hl73_2 (fun _ => AB.fin (zz := z_5) hl73_3 (by omega) (by omega) (by omega) (by first | exact ez_5 | (rw [show nz f12 357 = z_4 by omega]; exact ez_5)) (by omega) (by omega)) (by omega))  (hP.sub [0, 1, 2, 3] rfl) (hD.sub [0, 1, 2, 3] (by decide) rfl) hS (lv_sub hlv [0, 2, 3, 4] rfl)
            · refine lv_iload_n hx hb dX12_town_86 rfl (lv_at hlv 1 rfl) ?_
              refine lv_iload hx hb dX12_town_87 (lv_at hlv 0 rfl) ?_
              refine lv_ishr hx hb dX12_town_89 ?_
              refine lt_z (fun z_32 ez_32 lz_32 hz_32 => ?_)
              refine lv_iconst (v := iI 1) hx hb dX12_town_90 (by decide) ?_
              refine lv_iand hx hb dX12_town_91 ?_
              refine lt_aE 1 (by decide) (by decide) (hi := 1) (by decide) (fun z_33 ez_33 lz_33 hz_33 => ?_)
              refine lv_iconst (v := iI 1) hx hb dX12_town_92 (by decide) ?_
              refine ir_ne (tgt := 99) hx hb dX12_town_93 (by decide) (by omega) (by show ((-2147483648) : Int) ≤ 1 ∧ (1 : Int) ≤ 2147483647; decide) (fun c_34 => ?_) (fun c_34 => ?_)
              · refine lv_aload_n hx hb dX12_town_99 rfl (lv_at hlv 3 rfl) ?_
                refine lv_iload_n hx hb dX12_town_100 rfl (lv_at hlv 1 rfl) ?_
                refine lv_iload hx hb dX12_town_101 (lv_at hlv 0 rfl) ?_
                refine cjr_i [false, false, false, true] (fun pre9 => (va_runV (As := [vI q3, vI q4]) (rest := []) ⟨hx, hb, hml, hown, hts⟩ (m_doing l hl D cy sa mm m1 m9 m10 m11 m12 m13 m14 m15 m19 m20 m21 m23 m24 m25 m26 m27 m28 m33 m35 (u2.2.1 1) tp sz_ ap bad bk opn fp im nr nl sp_ wtc wcl ir ip shu sfa swr f12 ri q3 q4 H.size (by first | exact hq2_1 | omega) (by first | exact hr_tp | omega) (by first | exact hr_sz_ | omega) (by first | exact hr_ap | omega) (by first | exact hr_bad | omega) (by first | exact hr_bk | omega) (by first | exact hr_opn | omega) (by first | exact hr_fp | omega) (by first | exact hr_im | omega) (by first | exact hr_nr | omega) (by first | exact hr_nl | omega) (by first | exact hr_sp_ | omega) (by first | exact hr_wtc | omega) (by first | exact hr_wcl | omega) (by first | exact hr_ir | omega) (by first | exact hr_ip | omega) (by first | exact hr_shu | omega) (by first | exact hr_sfa | omega) (by first | exact hr_swr | omega) (by omega) (by omega) hf12) (cwV 2 hts gg_3 rfl rfl rfl (by decide +kernel) ⟨Nat.le_of_ble_eq_true rfl, Nat.le_of_ble_eq_true rfl⟩) ⟨pcW.blind, (va_recv hG.1 hP (ci := 12) (q0 := 2) rfl rfl), pre9⟩ rfl rfl hlv.1 rfl (lv_room (Nat.le_of_ble_eq_true rfl)) dX12_town_103 ⟨Nat.le_of_ble_eq_true rfl, Nat.le_of_ble_eq_true rfl⟩)) hP hD hS hA hG hT [2, 0, 1] rfl (by decide +kernel) (fun r4 u4 H locs hw4 hq9 hS => ?_)
                obtain ⟨rfl, hq4_1, hq4_2, hq4_3⟩ := hw4
                obtain ⟨hP, hD⟩ := pd9 [zI m1 (cy 0) 4 (u2.2.2 0), zO mm 12 [vI (u2.2.1 1), vR m1, vI tp, vI sz_, vI ap, vI bad, vI bk, vI opn, vI fp, vR m9, vR m10, vR m11, vR m12, vR m13, vR m14, vR m15, vI im, vI nr, vI nl, vR m19, vR m20, vR m21, vI sp_, vR m23, vR m24, vR m25, vR m26, vR m27, vR m28, vI wtc, vI wcl, vI ir, vI ip, vR m33, vI shu, vR m35, vI sfa, vI swr], zI m12 (cy 0) 389 f12, zI m35 (cy 0) 512 ri] hq9
                refine lv_istore (lv' := [(5, vI (u4.2.1 0)), (4, vI q4), (3, vI q3), (2, vI z_6), (0, vR mm), (1, vI n)]) hx hb dX12_town_106 hlv (by decide) rfl (fun ls hlv => ?_)
                refine lv_aload_n hx hb dX12_town_108 rfl (lv_at hlv 4 rfl) ?_
                refine va_get (D := D) (ci := 12) (v := vR m35) (C := RX12) (T := TX12) (N := 38) hx hb hts hi12 hown hG.1 hP 1 rfl rfl 35 (by decide) lf74 (fun _ h9 => h9) rfl dX12_town_109 ?_
                refine lv_iload_n hx hb dX12_town_112 rfl (lv_at hlv 2 rfl) ?_
                refine va_iald hx hb hG.1 hP 3 0 rfl rfl (iI_in (by omega) (by decide)) dX12_town_113 ?_
                refine lt_nz (i := q3) (by omega) (fun z_35 hz_35 lz_35 uz_35 => ?_)
                refine lv_iconst (v := iI (-1)) hx hb dX12_town_114 (by decide) ?_
                refine ir_eq (tgt := 129) hx hb dX12_town_115 (by decide) (by omega) (by show ((-2147483648) : Int) ≤ (-1) ∧ ((-1) : Int) ≤ 2147483647; decide) (fun c_36 => ?_) (fun c_36 => ?_)
                · refine lv_aload_n hx hb dX12_town_129 rfl (lv_at hlv 4 rfl) ?_
                  refine va_get (D := D) (ci := 12) (v := vR m35) (C := RX12) (T := TX12) (N := 38) hx hb hts hi12 hown hG.1 hP 1 rfl rfl 35 (by decide) lf74 (fun _ h9 => h9) rfl dX12_town_130 ?_
                  refine lv_iload_n hx hb dX12_town_133 rfl (lv_at hlv 2 rfl) ?_
                  refine lv_iload hx hb dX12_town_134 (lv_at hlv 0 rfl) ?_
                  refine va_iast hx hb hG.1 hP hD hS 3 0 rfl rfl (iI_in (by omega) (by decide)) dX12_town_136 (fun H locs hP hD hS => ?_)
                  obtain ⟨f_37, hdf_37, hP, hD⟩ := pe9e (fun f_37 => [zI m1 (cy 0) 4 (u2.2.2 0), zO mm 12 [vI (u2.2.1 1), vR m1, vI tp, vI sz_, vI ap, vI bad, vI bk, vI opn, vI fp, vR m9, vR m10, vR m11, vR m12, vR m13, vR m14, vR m15, vI im, vI nr, vI nl, vR m19, vR m20, vR m21, vI sp_, vR m23, vR m24, vR m25, vR m26, vR m27, vR m28, vI wtc, vI wcl, vI ir, vI ip, vR m33, vI shu, vR m35, vI sfa, vI swr], zI m12 (cy 0) 389 f12, zI m35 (cy 0) 512 f_37]) (upd ri (iI q3).toNatClampNeg (iI (u4.2.1 0))) hP hD
                  obtain ⟨z_38, hz_38⟩ : ∃ z : Int, z = q4 + 1 := ⟨_, rfl⟩
                  refine lv_iinc (v := iI z_38) (lv' := [(4, vI z_38), (5, vI (u4.2.1 0)), (3, vI q3), (2, vI z_6), (0, vR mm), (1, vI n)]) hx hb dX12_town_137 hlv (k := 1) rfl (by rw [hz_38]; exact (Int32.ofInt_add _ _).symm) (by decide) rfl (fun ls hlv => ?_)
                  refine lv_goto (tgt := 73) hx hb dX12_town_140 (by decide) ?_
                  exact ih73 z_38 f_37 H locs ls (by omega) (by omega) (by omega) (RA.put hl73_2 (by omega) (by omega) (by omega) hdf_37) (AB.put (a := q3) (q := q4) (by omega) (by omega) (by omega) (nb_e ez_32 ez_33 (by omega)) hdf_37 hq4_2)  (hP.sub [2, 3, 1, 0] rfl) (hD.sub [2, 3, 1, 0] (by decide) rfl) hS (lv_sub hlv [0, 2, 3, 4, 5] rfl)
                · refine lv_iload hx hb dX12_town_118 (lv_at hlv 0 rfl) ?_
                  refine lv_aload_n hx hb dX12_town_120 rfl (lv_at hlv 4 rfl) ?_
                  refine va_get (D := D) (ci := 12) (v := vR m35) (C := RX12) (T := TX12) (N := 38) hx hb hts hi12 hown hG.1 hP 1 rfl rfl 35 (by decide) lf74 (fun _ h9 => h9) rfl dX12_town_121 ?_
                  refine lv_iload_n hx hb dX12_town_124 rfl (lv_at hlv 2 rfl) ?_
                  refine va_iald hx hb hG.1 hP 3 0 rfl rfl (iI_in (by omega) (by decide)) dX12_town_125 ?_
                  refine lt_nz (i := q3) (by omega) (fun z_39 hz_39 lz_39 uz_39 => ?_)
                  refine ir_ge (tgt := 137) hx hb dX12_town_126 (by decide) (by first | exact hq4_1 | omega) (by omega) (fun c_40 => ?_) (fun c_40 => ?_)
                  · obtain ⟨z_41, hz_41⟩ : ∃ z : Int, z = q4 + 1 := ⟨_, rfl⟩
                    refine lv_iinc (v := iI z_41) (lv' := [(4, vI z_41), (5, vI (u4.2.1 0)), (3, vI q3), (2, vI z_6), (0, vR mm), (1, vI n)]) hx hb dX12_town_137 hlv (k := 1) rfl (by rw [hz_41]; exact (Int32.ofInt_add _ _).symm) (by decide) rfl (fun ls hlv => ?_)
                    refine lv_goto (tgt := 73) hx hb dX12_town_140 (by decide) ?_
                    exact ih73 z_41 ri H locs ls (by omega) (by omega) (by omega) hl73_2 (AB.keep (y := z_35) hl73_3 hz_35 (by omega))  (hP.sub [2, 3, 1, 0] rfl) (hD.sub [2, 3, 1, 0] (by decide) rfl) hS (lv_sub hlv [0, 2, 3, 4, 5] rfl)
                  · refine lv_aload_n hx hb dX12_town_129 rfl (lv_at hlv 4 rfl) ?_
                    refine va_get (D := D) (ci := 12) (v := vR m35) (C := RX12) (T := TX12) (N := 38) hx hb hts hi12 hown hG.1 hP 1 rfl rfl 35 (by decide) lf74 (fun _ h9 => h9) rfl dX12_town_130 ?_
                    refine lv_iload_n hx hb dX12_town_133 rfl (lv_at hlv 2 rfl) ?_
                    refine lv_iload hx hb dX12_town_134 (lv_at hlv 0 rfl) ?_
                    refine va_iast hx hb hG.1 hP hD hS 3 0 rfl rfl (iI_in (by omega) (by decide)) dX12_town_136 (fun H locs hP hD hS => ?_)
                    obtain ⟨f_42, hdf_42, hP, hD⟩ := pe9e (fun f_42 => [zI m1 (cy 0) 4 (u2.2.2 0), zO mm 12 [vI (u2.2.1 1), vR m1, vI tp, vI sz_, vI ap, vI bad, vI bk, vI opn, vI fp, vR m9, vR m10, vR m11, vR m12, vR m13, vR m14, vR m15, vI im, vI nr, vI nl, vR m19, vR m20, vR m21, vI sp_, vR m23, vR m24, vR m25, vR m26, vR m27, vR m28, vI wtc, vI wcl, vI ir, vI ip, vR m33, vI shu, vR m35, vI sfa, vI swr], zI m12 (cy 0) 389 f12, zI m35 (cy 0) 512 f_42]) (upd ri (iI q3).toNatClampNeg (iI (u4.2.1 0))) hP hD
                    obtain ⟨z_43, hz_43⟩ : ∃ z : Int, z = q4 + 1 := ⟨_, rfl⟩
                    refine lv_iinc (v := iI z_43) (lv' := [(4, vI z_43), (5, vI (u4.2.1 0)), (3, vI q3), (2, vI z_6), (0, vR mm), (1, vI n)]) hx hb dX12_town_137 hlv (k := 1) rfl (by rw [hz_43]; exact (Int32.ofInt_add _ _).symm) (by decide) rfl (fun ls hlv => ?_)
                    refine lv_goto (tgt := 73) hx hb dX12_town_140 (by decide) ?_
                    exact ih73 z_43 f_42 H locs ls (by omega) (by omega) (by omega) (RA.put hl73_2 (by omega) (by omega) (by omega) hdf_42) (AB.put (a := q3) (q := q4) (by omega) (by omega) (by omega) (nb_e ez_32 ez_33 (by omega)) hdf_42 hq4_2)  (hP.sub [2, 3, 1, 0] rfl) (hD.sub [2, 3, 1, 0] (by decide) rfl) hS (lv_sub hlv [0, 2, 3, 4, 5] rfl)
              · refine lv_goto (tgt := 137) hx hb dX12_town_96 (by decide) ?_
                obtain ⟨z_44, hz_44⟩ : ∃ z : Int, z = q4 + 1 := ⟨_, rfl⟩
                refine lv_iinc (v := iI z_44) (lv' := [(4, vI z_44), (3, vI q3), (2, vI z_6), (0, vR mm), (1, vI n)]) hx hb dX12_town_137 hlv (k := 0) rfl (by rw [hz_44]; exact (Int32.ofInt_add _ _).symm) (by decide) rfl (fun ls hlv => ?_)
                refine lv_goto (tgt := 73) hx hb dX12_town_140 (by decide) ?_
                exact ih73 z_44 ri H locs ls (by omega) (by omega) (by omega) hl73_2 (AB.bit hl73_3 (by omega) ez_32 ez_33 (by omega) (by omega))  (hP.sub [0, 1, 2, 3] rfl) (hD.sub [0, 1, 2, 3] (by decide) rfl) hS (lv_sub hlv [0, 1, 2, 3, 4] rfl)
    · refine lv_iconst (v := iI (-1)) hx hb dX12_town_33 (by decide) ?_
      refine W.widen (k := 0) (n := 0) (Nat.le_of_ble_eq_true rfl) (Nat.le_of_ble_eq_true rfl) ?_
      exact W.iret (v := iI (-1)) hx hb hr (fun t ht hW => ⟨⟨iI (-1), ((fun k => ([] : List Nat).getD k 0), (fun k => ([(-1), (u2.2.1 1)] : List Int).getD k 0), (fun k => ([(u2.2.2 0), f35] : List (Nat → Int32)).getD k (fun _ => 0))), rfl, ⟨rfl, (by show ((-2147483648) ≤ (u2.2.1 1) ∧ (u2.2.1 1) ≤ 2147483647); first | exact hq2_1 | omega), (by show ((-2147483648) ≤ (-1) ∧ (-1) ≤ 2147483647); show ((-2147483648) : Int) ≤ (-1) ∧ ((-1) : Int) ≤ 2147483647; decide), hf12⟩, at9 ht hP hD [2, 3, 0, 1] (by decide +kernel) rfl⟩, hS.F ht⟩) hS.2.2 dX12_town_34
  · refine lv_iconst (v := iI 0) hx hb dX12_town_20 (by decide) ?_
    refine W.widen (k := 0) (n := 0) (Nat.le_of_ble_eq_true rfl) (Nat.le_of_ble_eq_true rfl) ?_
    exact W.iret (v := iI 0) hx hb hr (fun t ht hW => ⟨⟨iI 0, ((fun k => ([] : List Nat).getD k 0), (fun k => ([0, (u2.2.1 1)] : List Int).getD k 0), (fun k => ([(u2.2.2 0), f35] : List (Nat → Int32)).getD k (fun _ => 0))), rfl, ⟨rfl, (by show ((-2147483648) ≤ (u2.2.1 1) ∧ (u2.2.1 1) ≤ 2147483647); first | exact hq2_1 | omega), (by show ((-2147483648) ≤ 0 ∧ 0 ≤ 2147483647); show ((-2147483648) : Int) ≤ 0 ∧ (0 : Int) ≤ 2147483647; decide), hf12⟩, at9 ht hP hD [2, 3, 0, 1] (by decide +kernel) rfl⟩, hS.F ht⟩) hS.2.2 dX12_town_21
end
