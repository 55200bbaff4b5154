theorem dX12_off_0 : decode cX12_off 0 = .ok (.iload_n 0, 1) := by decide +kernel
theorem dX12_off_1 : decode cX12_off 1 = .ok (.ifCond .ge 8, 3) := by decide +kernel
theorem dX12_off_10 : decode cX12_off 10 = .ok (.ireturn, 1) := by decide +kernel
theorem dX12_off_4 : decode cX12_off 4 = .ok (.iload_n 0, 1) := by decide +kernel
theorem dX12_off_5 : decode cX12_off 5 = .ok (.ineg, 1) := by decide +kernel
theorem dX12_off_6 : decode cX12_off 6 = .ok (.goto 4, 3) := by decide +kernel
theorem dX12_off_9 : decode cX12_off 9 = .ok (.iload_n 0, 1) := by decide +kernel
theorem dX12_sweep_0 : decode cX12_sweep 0 = .ok (.aload_n 0, 1) := by decide +kernel
theorem dX12_sweep_1 : decode cX12_sweep 1 = .ok (.iconst 0, 1) := by decide +kernel
theorem dX12_sweep_12 : decode cX12_sweep 12 = .ok (.iconst 1, 1) := by decide +kernel
theorem dX12_sweep_13 : decode cX12_sweep 13 = .ok (.iconst 2, 1) := by decide +kernel
theorem dX12_sweep_14 : decode cX12_sweep 14 = .ok (.invokevirtual 175, 3) := by decide +kernel
theorem dX12_sweep_17 : decode cX12_sweep 17 = .ok (.ifCond .ne 5, 3) := by decide +kernel
theorem dX12_sweep_2 : decode cX12_sweep 2 = .ok (.putfield 1, 3) := by decide +kernel
theorem dX12_sweep_20 : decode cX12_sweep 20 = .ok (.iconst 0, 1) := by decide +kernel
theorem dX12_sweep_21 : decode cX12_sweep 21 = .ok (.ireturn, 1) := by decide +kernel
theorem dX12_sweep_22 : decode cX12_sweep 22 = .ok (.aload_n 0, 1) := by decide +kernel
theorem dX12_sweep_23 : decode cX12_sweep 23 = .ok (.iconst (-1), 1) := by decide +kernel
theorem dX12_sweep_24 : decode cX12_sweep 24 = .ok (.putfield 409, 3) := by decide +kernel
theorem dX12_sweep_27 : decode cX12_sweep 27 = .ok (.aload_n 0, 1) := by decide +kernel
theorem dX12_sweep_28 : decode cX12_sweep 28 = .ok (.iconst 0, 1) := by decide +kernel
theorem dX12_sweep_29 : decode cX12_sweep 29 = .ok (.iconst 0, 1) := by decide +kernel
theorem dX12_sweep_30 : decode cX12_sweep 30 = .ok (.iconst 0, 1) := by decide +kernel
theorem dX12_sweep_31 : decode cX12_sweep 31 = .ok (.iconst 0, 1) := by decide +kernel
theorem dX12_sweep_32 : decode cX12_sweep 32 = .ok (.iconst 0, 1) := by decide +kernel
theorem dX12_sweep_33 : decode cX12_sweep 33 = .ok (.invokevirtual 406, 3) := by decide +kernel
theorem dX12_sweep_36 : decode cX12_sweep 36 = .ok (.iload_n 1, 1) := by decide +kernel
theorem dX12_sweep_37 : decode cX12_sweep 37 = .ok (.ifCond .ne 10, 3) := by decide +kernel
theorem dX12_sweep_40 : decode cX12_sweep 40 = .ok (.aload_n 0, 1) := by decide +kernel
theorem dX12_sweep_41 : decode cX12_sweep 41 = .ok (.getfield 409, 3) := by decide +kernel
theorem dX12_sweep_44 : decode cX12_sweep 44 = .ok (.goto 7, 3) := by decide +kernel
theorem dX12_sweep_47 : decode cX12_sweep 47 = .ok (.aload_n 0, 1) := by decide +kernel
theorem dX12_sweep_48 : decode cX12_sweep 48 = .ok (.getfield 412, 3) := by decide +kernel
theorem dX12_sweep_5 : decode cX12_sweep 5 = .ok (.aload_n 0, 1) := by decide +kernel
theorem dX12_sweep_51 : decode cX12_sweep 51 = .ok (.ireturn, 1) := by decide +kernel
theorem dX12_sweep_6 : decode cX12_sweep 6 = .ok (.iload_n 1, 1) := by decide +kernel
theorem dX12_sweep_7 : decode cX12_sweep 7 = .ok (.iconst 0, 1) := by decide +kernel
theorem dX12_sweep_8 : decode cX12_sweep 8 = .ok (.iconst 1, 1) := by decide +kernel
theorem dX12_sweep_9 : decode cX12_sweep 9 = .ok (.invokestatic 279, 3) := by decide +kernel
theorem dX12_sweeps_0 : decode cX12_sweeps 0 = .ok (.iconst 0, 1) := by decide +kernel
theorem dX12_sweeps_1 : decode cX12_sweeps 1 = .ok (.istore 6, 2) := by decide +kernel
theorem dX12_sweeps_101 : decode cX12_sweeps 101 = .ok (.iadd, 1) := by decide +kernel
theorem dX12_sweeps_102 : decode cX12_sweeps 102 = .ok (.invokevirtual 406, 3) := by decide +kernel
theorem dX12_sweeps_105 : decode cX12_sweeps 105 = .ok (.iinc 7 1, 3) := by decide +kernel
theorem dX12_sweeps_108 : decode cX12_sweeps 108 = .ok (.goto (-102), 3) := by decide +kernel
theorem dX12_sweeps_111 : decode cX12_sweeps 111 = .ok (.iload 6, 2) := by decide +kernel
theorem dX12_sweeps_113 : decode cX12_sweeps 113 = .ok (.ifCond .ne 24, 3) := by decide +kernel
theorem dX12_sweeps_116 : decode cX12_sweeps 116 = .ok (.aload_n 0, 1) := by decide +kernel
theorem dX12_sweeps_117 : decode cX12_sweeps 117 = .ok (.getfield 409, 3) := by decide +kernel
theorem dX12_sweeps_12 : decode cX12_sweeps 12 = .ok (.iconst 2, 1) := by decide +kernel
theorem dX12_sweeps_120 : decode cX12_sweeps 120 = .ok (.iconst (-1), 1) := by decide +kernel
theorem dX12_sweeps_121 : decode cX12_sweeps 121 = .ok (.if_icmp .eq 17, 3) := by decide +kernel
theorem dX12_sweeps_124 : decode cX12_sweeps 124 = .ok (.iload 4, 2) := by decide +kernel
theorem dX12_sweeps_126 : decode cX12_sweeps 126 = .ok (.iload_n 2, 1) := by decide +kernel
theorem dX12_sweeps_127 : decode cX12_sweeps 127 = .ok (.iadd, 1) := by decide +kernel
theorem dX12_sweeps_128 : decode cX12_sweeps 128 = .ok (.iload_n 3, 1) := by decide +kernel
theorem dX12_sweeps_129 : decode cX12_sweeps 129 = .ok (.iadd, 1) := by decide +kernel
theorem dX12_sweeps_13 : decode cX12_sweeps 13 = .ok (.iaload, 1) := by decide +kernel
theorem dX12_sweeps_130 : decode cX12_sweeps 130 = .ok (.aload_n 0, 1) := by decide +kernel
theorem dX12_sweeps_131 : decode cX12_sweeps 131 = .ok (.getfield 409, 3) := by decide +kernel
theorem dX12_sweeps_134 : decode cX12_sweeps 134 = .ok (.if_icmp .lt 4, 3) := by decide +kernel
theorem dX12_sweeps_137 : decode cX12_sweeps 137 = .ok (.return_, 1) := by decide +kernel
theorem dX12_sweeps_138 : decode cX12_sweeps 138 = .ok (.aload_n 0, 1) := by decide +kernel
theorem dX12_sweeps_139 : decode cX12_sweeps 139 = .ok (.iload 4, 2) := by decide +kernel
theorem dX12_sweeps_14 : decode cX12_sweeps 14 = .ok (.if_icmp .ge 97, 3) := by decide +kernel
theorem dX12_sweeps_141 : decode cX12_sweeps 141 = .ok (.iload_n 2, 1) := by decide +kernel
theorem dX12_sweeps_142 : decode cX12_sweeps 142 = .ok (.iadd, 1) := by decide +kernel
theorem dX12_sweeps_143 : decode cX12_sweeps 143 = .ok (.iload_n 3, 1) := by decide +kernel
theorem dX12_sweeps_144 : decode cX12_sweeps 144 = .ok (.iadd, 1) := by decide +kernel
theorem dX12_sweeps_145 : decode cX12_sweeps 145 = .ok (.putfield 409, 3) := by decide +kernel
theorem dX12_sweeps_148 : decode cX12_sweeps 148 = .ok (.aload_n 0, 1) := by decide +kernel
theorem dX12_sweeps_149 : decode cX12_sweeps 149 = .ok (.iload 5, 2) := by decide +kernel
theorem dX12_sweeps_151 : decode cX12_sweeps 151 = .ok (.putfield 412, 3) := by decide +kernel
theorem dX12_sweeps_154 : decode cX12_sweeps 154 = .ok (.return_, 1) := by decide +kernel
theorem dX12_sweeps_17 : decode cX12_sweeps 17 = .ok (.iload_n 1, 1) := by decide +kernel
theorem dX12_sweeps_18 : decode cX12_sweeps 18 = .ok (.iload 7, 2) := by decide +kernel
theorem dX12_sweeps_20 : decode cX12_sweeps 20 = .ok (.ishr, 1) := by decide +kernel
theorem dX12_sweeps_21 : decode cX12_sweeps 21 = .ok (.iconst 1, 1) := by decide +kernel
theorem dX12_sweeps_22 : decode cX12_sweeps 22 = .ok (.iand, 1) := by decide +kernel
theorem dX12_sweeps_23 : decode cX12_sweeps 23 = .ok (.iconst 1, 1) := by decide +kernel
theorem dX12_sweeps_24 : decode cX12_sweeps 24 = .ok (.if_icmp .eq 81, 3) := by decide +kernel
theorem dX12_sweeps_27 : decode cX12_sweeps 27 = .ok (.aload_n 0, 1) := by decide +kernel
theorem dX12_sweeps_28 : decode cX12_sweeps 28 = .ok (.getfield 29, 3) := by decide +kernel
theorem dX12_sweeps_3 : decode cX12_sweeps 3 = .ok (.iconst 0, 1) := by decide +kernel
theorem dX12_sweeps_31 : decode cX12_sweeps 31 = .ok (.sipush 192, 3) := by decide +kernel
theorem dX12_sweeps_34 : decode cX12_sweeps 34 = .ok (.iload 7, 2) := by decide +kernel
theorem dX12_sweeps_36 : decode cX12_sweeps 36 = .ok (.iadd, 1) := by decide +kernel
theorem dX12_sweeps_37 : decode cX12_sweeps 37 = .ok (.iaload, 1) := by decide +kernel
theorem dX12_sweeps_38 : decode cX12_sweeps 38 = .ok (.ifCond .ne 6, 3) := by decide +kernel
theorem dX12_sweeps_4 : decode cX12_sweeps 4 = .ok (.istore 7, 2) := by decide +kernel
theorem dX12_sweeps_41 : decode cX12_sweeps 41 = .ok (.goto 64, 3) := by decide +kernel
theorem dX12_sweeps_44 : decode cX12_sweeps 44 = .ok (.iconst 1, 1) := by decide +kernel
theorem dX12_sweeps_45 : decode cX12_sweeps 45 = .ok (.istore 6, 2) := by decide +kernel
theorem dX12_sweeps_47 : decode cX12_sweeps 47 = .ok (.aload_n 0, 1) := by decide +kernel
theorem dX12_sweeps_48 : decode cX12_sweeps 48 = .ok (.iload 7, 2) := by decide +kernel
theorem dX12_sweeps_50 : decode cX12_sweeps 50 = .ok (.iconst 0, 1) := by decide +kernel
theorem dX12_sweeps_51 : decode cX12_sweeps 51 = .ok (.invokevirtual 297, 3) := by decide +kernel
theorem dX12_sweeps_54 : decode cX12_sweeps 54 = .ok (.istore 8, 2) := by decide +kernel
theorem dX12_sweeps_56 : decode cX12_sweeps 56 = .ok (.aload_n 0, 1) := by decide +kernel
theorem dX12_sweeps_57 : decode cX12_sweeps 57 = .ok (.iload 7, 2) := by decide +kernel
theorem dX12_sweeps_59 : decode cX12_sweeps 59 = .ok (.iconst 1, 1) := by decide +kernel
theorem dX12_sweeps_6 : decode cX12_sweeps 6 = .ok (.iload 7, 2) := by decide +kernel
theorem dX12_sweeps_60 : decode cX12_sweeps 60 = .ok (.invokevirtual 297, 3) := by decide +kernel
theorem dX12_sweeps_63 : decode cX12_sweeps 63 = .ok (.istore 9, 2) := by decide +kernel
theorem dX12_sweeps_65 : decode cX12_sweeps 65 = .ok (.aload_n 0, 1) := by decide +kernel
theorem dX12_sweeps_66 : decode cX12_sweeps 66 = .ok (.iload_n 1, 1) := by decide +kernel
theorem dX12_sweeps_67 : decode cX12_sweeps 67 = .ok (.iconst 1, 1) := by decide +kernel
theorem dX12_sweeps_68 : decode cX12_sweeps 68 = .ok (.iload 7, 2) := by decide +kernel
theorem dX12_sweeps_70 : decode cX12_sweeps 70 = .ok (.ishl, 1) := by decide +kernel
theorem dX12_sweeps_71 : decode cX12_sweeps 71 = .ok (.ior, 1) := by decide +kernel
theorem dX12_sweeps_72 : decode cX12_sweeps 72 = .ok (.iload 8, 2) := by decide +kernel
theorem dX12_sweeps_74 : decode cX12_sweeps 74 = .ok (.iload 9, 2) := by decide +kernel
theorem dX12_sweeps_76 : decode cX12_sweeps 76 = .ok (.iload 4, 2) := by decide +kernel
theorem dX12_sweeps_78 : decode cX12_sweeps 78 = .ok (.iload 8, 2) := by decide +kernel
theorem dX12_sweeps_8 : decode cX12_sweeps 8 = .ok (.aload_n 0, 1) := by decide +kernel
theorem dX12_sweeps_80 : decode cX12_sweeps 80 = .ok (.iload_n 2, 1) := by decide +kernel
theorem dX12_sweeps_81 : decode cX12_sweeps 81 = .ok (.isub, 1) := by decide +kernel
theorem dX12_sweeps_82 : decode cX12_sweeps 82 = .ok (.invokestatic 403, 3) := by decide +kernel
theorem dX12_sweeps_85 : decode cX12_sweeps 85 = .ok (.iadd, 1) := by decide +kernel
theorem dX12_sweeps_86 : decode cX12_sweeps 86 = .ok (.iload 9, 2) := by decide +kernel
theorem dX12_sweeps_88 : decode cX12_sweeps 88 = .ok (.iload_n 3, 1) := by decide +kernel
theorem dX12_sweeps_89 : decode cX12_sweeps 89 = .ok (.isub, 1) := by decide +kernel
theorem dX12_sweeps_9 : decode cX12_sweeps 9 = .ok (.getfield 23, 3) := by decide +kernel
theorem dX12_sweeps_90 : decode cX12_sweeps 90 = .ok (.invokestatic 403, 3) := by decide +kernel
theorem dX12_sweeps_93 : decode cX12_sweeps 93 = .ok (.iadd, 1) := by decide +kernel
theorem dX12_sweeps_94 : decode cX12_sweeps 94 = .ok (.bipush 10, 2) := by decide +kernel
theorem dX12_sweeps_96 : decode cX12_sweeps 96 = .ok (.iload 5, 2) := by decide +kernel
theorem dX12_sweeps_98 : decode cX12_sweeps 98 = .ok (.imul, 1) := by decide +kernel
theorem dX12_sweeps_99 : decode cX12_sweeps 99 = .ok (.iload 7, 2) := by decide +kernel
def vs_m_off : List Cond := .code yX12_off cX12_off 1 (some .int) :: (([] : List Cond) ++ ([]))
theorem gd_m_off : vs_m_off.all goodWord = true := gd_C (by decide +kernel) (gd_A (by decide +kernel) rfl)
set_option maxHeartbeats 4000000 in
set_option maxRecDepth 100000 in
theorem m_off (l : Launch) (hl : l.stackTraces = false) (D : va_G) (cy : Nat → ClassId) (sa : Nat → Nat) (n : Int) (sz : Nat) (hr_n : (-99) ≤ n ∧ n ≤ 99) : Met l yX12_off vs_m_off ({ frames := 0, cells := 0, slots := 0, locals := 0 }) (va_Pc [vI n] (pcW D cy sa sz [])) (va_Qi (fun (r : Int32) (u : SV) => r = iI (u.2.1 0) ∧ (0 ≤ u.2.1 0 ∧ u.2.1 0 ≤ 99)) (fun u t => atW D (va_A [] sz) [] t) (va_A [] sz)) 0 0 (va_A [] sz) := by
  refine Met.ofW (cc := cX12_off) (maxL := 1) (ret := (some .int)) (by decide) rfl ?_
  intro p e s m args below meth c s₁ B hml hv
  obtain ⟨rfl, hsz, hP, hG, hD0, hT⟩ := hv
  have hx := B.exec
  have hb := B.bytes
  have hr := B.returns
  have hts := atoms_spec (ws := vs_m_off) B.pre
  have hown : s.vm.findClass RX12 = some m.cls := findClass_of_methodNamed B.named
  have hlocks := B.notSynchronized
  subst hsz
  have hD := hD0.self (sz := s.heap.size)
  generalize hAe : va_A [] s.heap.size = A at hD hT ⊢
  have hA : ∀ q : Nat, s.heap.size ≤ q → A q := fun q h => by rw [← hAe]; exact Or.inr h
  have hS : va_S A s.heap s.heap [] := va_S.rf
  have hl0 := lv_entry ([vI n]) (n := 1) (Nat.le_of_ble_eq_true rfl)
  rw [lg_entry_eq]
  generalize (lg_sl ([vI n]) ++ List.replicate (1 - (lg_sl ([vI n])).length) Slot.unset).toArray = ls at hl0 ⊢
  have hlv : lv_has ls 1 [(0, vI n)] := hl0
  refine lv_iload_n hx hb dX12_off_0 rfl (lv_at hlv 0 rfl) ?_
  refine iz_ge (tgt := 9) hx hb dX12_off_1 (by decide) (by first | exact rgw hr_n (by decide) (by decide) | omega) (fun c_1 => ?_) (fun c_1 => ?_)
  · refine lv_iload_n hx hb dX12_off_9 rfl (lv_at hlv 0 rfl) ?_
    refine W.widen (k := 0) (n := 0) (Nat.le_of_ble_eq_true rfl) (Nat.le_of_ble_eq_true rfl) ?_
    exact W.iret (v := iI n) hx hb hr (fun t ht hW => ⟨⟨iI n, ((fun k => ([] : List Nat).getD k 0), (fun k => ([n] : List Int).getD k 0), (fun k => ([] : List (Nat → Int32)).getD k (fun _ => 0))), rfl, ⟨rfl, (by show (0 ≤ n ∧ n ≤ 99); omega)⟩, by rw [ht]; exact hP.sub [] rfl, hD.sub [] (by decide) rfl⟩, hS.F ht⟩) hS.2.2 dX12_off_10
  · refine lv_iload_n hx hb dX12_off_4 rfl (lv_at hlv 0 rfl) ?_
    refine lv_ineg hx hb dX12_off_5 ?_
    refine lt_e (e0 := -n) (ng_eq _) (fun z_2 hz_2 => ?_)
    refine lv_goto (tgt := 10) hx hb dX12_off_6 (by decide) ?_
    refine W.widen (k := 0) (n := 0) (Nat.le_of_ble_eq_true rfl) (Nat.le_of_ble_eq_true rfl) ?_
    exact W.iret (v := iI z_2) hx hb hr (fun t ht hW => ⟨⟨iI z_2, ((fun k => ([] : List Nat).getD k 0), (fun k => ([z_2] : List Int).getD k 0), (fun k => ([] : List (Nat → Int32)).getD k (fun _ => 0))), rfl, ⟨rfl, (by show (0 ≤ z_2 ∧ z_2 ≤ 99); omega)⟩, by rw [ht]; exact hP.sub [] rfl, hD.sub [] (by decide) rfl⟩, hS.F ht⟩) hS.2.2 dX12_off_10
def MSC : List Cond := ([.fieldLink RX12 23 "KerbSplashModel" "b" "[I", .fieldLink RX12 409 "KerbSplashModel" "sweepFar" "I", .fieldLink RX12 412 "KerbSplashModel" "sweepRow" "I", .fieldLink RX12 29 "KerbSplashModel" "s" "[I", .methodLink RX12 406 yX12_sweeps, .instanceMethod yX12_sweeps, .selects RX12 yX12_sweeps yX12_sweeps, .initialized RX12, .code yX12_sweeps cX12_sweeps 10 none] : List Cond) ++ ((wsX120) ++ ((wsV RX12 297 RX12 yX12_drainTold vs_m_drainTold0) ++ ((wsV RX12 297 RX12 yX12_drainTold vs_m_drainTold1) ++ ((va_wsS RX12 403 yX12_off vs_m_off) ++ ([])))))
theorem gd_MSC : MSC.all goodWord = true := gd_A (by decide +kernel) (gd_A (by decide +kernel) (gd_A (gd_V gd_m_drainTold0 (by decide +kernel)) (gd_A (gd_V gd_m_drainTold1 (by decide +kernel)) (gd_A (gd_S gd_m_off (by decide +kernel)) rfl))))
def vs_m_sweeps : List Cond := .code yX12_sweeps cX12_sweeps 10 none :: MSC
theorem gd_m_sweeps : vs_m_sweeps.all goodWord = true := gd_C (by decide +kernel) gd_MSC
def MS (l : Launch) (D : va_G) (cy : Nat → ClassId) (sa : Nat → Nat) (d : Nat) : Prop := (∀ (mm m1 m9 m10 m11 m12 m13 m14 m15 m19 m20 m21 m23 m24 m25 m26 m27 m28 m33 m35 : Nat) (th tp sz_ ap bad bk opn fp im nr nl sp_ wtc wcl ir ip shu sfa swr : Int) (f10 f12 : Nat → Int32) (us x y fa gd : Int) (sz : Nat) (hr_th : (-2147483648) ≤ th ∧ th ≤ 2147483647) (hr_tp : 0 ≤ tp ∧ tp ≤ 600) (hr_sz_ : 0 ≤ sz_ ∧ sz_ ≤ 600) (hr_ap : 0 ≤ ap ∧ ap ≤ 602) (hr_bad : (-1) ≤ bad ∧ bad ≤ 602) (hr_bk : 0 ≤ bk ∧ bk ≤ 4) (hr_opn : 0 ≤ opn ∧ opn ≤ 7) (hr_fp : (-2147483648) ≤ fp ∧ fp ≤ 2147483647) (hr_im : 0 ≤ im ∧ im ≤ 3) (hr_nr : 0 ≤ nr ∧ nr ≤ 4) (hr_nl : 0 ≤ nl ∧ nl ≤ 4) (hr_sp_ : 0 ≤ sp_ ∧ sp_ ≤ 602) (hr_wtc : (-2147483648) ≤ wtc ∧ wtc ≤ 2147483647) (hr_wcl : 0 ≤ wcl ∧ wcl ≤ 95) (hr_ir : 0 ≤ ir ∧ ir ≤ 5) (hr_ip : (-2147483648) ≤ ip ∧ ip ≤ 2147483647) (hr_shu : (-2147483648) ≤ shu ∧ shu ≤ 2147483647) (hr_sfa : (-2147483648) ≤ sfa ∧ sfa ≤ 2147483647) (hr_swr : (-2147483648) ≤ swr ∧ swr ≤ 2147483647) (hr_us : 0 ≤ us ∧ us ≤ 63) (hr_x : 0 ≤ x ∧ x ≤ 15) (hr_y : 0 ≤ y ∧ y ≤ 5) (hr_fa : (-2147483648) ≤ fa ∧ fa ≤ 2147483647) (hr_gd : (-2147483648) ≤ gd ∧ gd ≤ 2147483647) (hf10 : BI f10) (hf12 : SI 8 f12) (hlev : (64 : Int) - us ≤ ((d : Nat) : Int)), Met l yX12_sweeps vs_m_sweeps ({ frames := 4 * (d) + 0, cells := 0, slots := 0, locals := 200 * (d) + 0 }) (va_Pc [vR mm, vI us, vI x, vI y, vI fa, vI gd] (pcW D cy sa sz [zO mm 12 [vI th, vR m1, vI tp, vI sz_, vI ap, vI bad, vI bk, vI opn, vI fp, vR m9, vR m10, vR m11, vR m12, vR m13, vR m14, vR m15, vI im, vI nr, vI nl, vR m19, vR m20, vR m21, vI sp_, vR m23, vR m24, vR m25, vR m26, vR m27, vR m28, vI wtc, vI wcl, vI ir, vI ip, vR m33, vI shu, vR m35, vI sfa, vI swr], zI m10 (cy 0) 68 f10, zI m12 (cy 0) 389 f12])) (va_Qv (fun u : SV => ((-2147483648) ≤ u.2.1 0 ∧ u.2.1 0 ≤ 2147483647) ∧ ((-2147483648) ≤ u.2.1 1 ∧ u.2.1 1 ≤ 2147483647) ∧ BI f10 ∧ SI 8 f12) (fun u t => atW D (va_A [zO mm 12 [vI th, vR m1, vI tp, vI sz_, vI ap, vI bad, vI bk, vI opn, vI fp, vR m9, vR m10, vR m11, vR m12, vR m13, vR m14, vR m15, vI im, vI nr, vI nl, vR m19, vR m20, vR m21, vI sp_, vR m23, vR m24, vR m25, vR m26, vR m27, vR m28, vI wtc, vI wcl, vI ir, vI ip, vR m33, vI shu, vR m35, vI sfa, vI swr], zI m10 (cy 0) 68 f10, zI m12 (cy 0) 389 f12] sz) [zO mm 12 [vI th, vR m1, vI tp, vI sz_, vI ap, vI bad, vI bk, vI opn, vI fp, vR m9, vR m10, vR m11, vR m12, vR m13, vR m14, vR m15, vI im, vI nr, vI nl, vR m19, vR m20, vR m21, vI sp_, vR m23, vR m24, vR m25, vR m26, vR m27, vR m28, vI wtc, vI wcl, vI ir, vI ip, vR m33, vI shu, vR m35, vI (u.2.1 0), vI (u.2.1 1)], zI m10 (cy 0) 68 f10, zI m12 (cy 0) 389 f12] t) (va_A [zO mm 12 [vI th, vR m1, vI tp, vI sz_, vI ap, vI bad, vI bk, vI opn, vI fp, vR m9, vR m10, vR m11, vR m12, vR m13, vR m14, vR m15, vI im, vI nr, vI nl, vR m19, vR m20, vR m21, vI sp_, vR m23, vR m24, vR m25, vR m26, vR m27, vR m28, vI wtc, vI wcl, vI ir, vI ip, vR m33, vI shu, vR m35, vI sfa, vI swr], zI m10 (cy 0) 68 f10, zI m12 (cy 0) 389 f12] sz)) 0 0 (va_A [zO mm 12 [vI th, vR m1, vI tp, vI sz_, vI ap, vI bad, vI bk, vI opn, vI fp, vR m9, vR m10, vR m11, vR m12, vR m13, vR m14, vR m15, vI im, vI nr, vI nl, vR m19, vR m20, vR m21, vI sp_, vR m23, vR m24, vR m25, vR m26, vR m27, vR m28, vI wtc, vI wcl, vI ir, vI ip, vR m33, vI shu, vR m35, vI sfa, vI swr], zI m10 (cy 0) 68 f10, zI m12 (cy 0) 389 f12] sz))
set_option maxHeartbeats 4000000 in
set_option maxRecDepth 100000 in
theorem m_sweeps_step (l : Launch) (hl : l.stackTraces = false) (D : va_G) (cy : Nat → ClassId) (sa : Nat → Nat) (d : Nat) (IH : MS l D cy sa d) (mm m1 m9 m10 m11 m12 m13 m14 m15 m19 m20 m21 m23 m24 m25 m26 m27 m28 m33 m35 : Nat) (th tp sz_ ap bad bk opn fp im nr nl sp_ wtc wcl ir ip shu sfa swr : Int) (f10 f12 : Nat → Int32) (us x y fa gd : Int) (sz : Nat) (hr_th : (-2147483648) ≤ th ∧ th ≤ 2147483647) (hr_tp : 0 ≤ tp ∧ tp ≤ 600) (hr_sz_ : 0 ≤ sz_ ∧ sz_ ≤ 600) (hr_ap : 0 ≤ ap ∧ ap ≤ 602) (hr_bad : (-1) ≤ bad ∧ bad ≤ 602) (hr_bk : 0 ≤ bk ∧ bk ≤ 4) (hr_opn : 0 ≤ opn ∧ opn ≤ 7) (hr_fp : (-2147483648) ≤ fp ∧ fp ≤ 2147483647) (hr_im : 0 ≤ im ∧ im ≤ 3) (hr_nr : 0 ≤ nr ∧ nr ≤ 4) (hr_nl : 0 ≤ nl ∧ nl ≤ 4) (hr_sp_ : 0 ≤ sp_ ∧ sp_ ≤ 602) (hr_wtc : (-2147483648) ≤ wtc ∧ wtc ≤ 2147483647) (hr_wcl : 0 ≤ wcl ∧ wcl ≤ 95) (hr_ir : 0 ≤ ir ∧ ir ≤ 5) (hr_ip : (-2147483648) ≤ ip ∧ ip ≤ 2147483647) (hr_shu : (-2147483648) ≤ shu ∧ shu ≤ 2147483647) (hr_sfa : (-2147483648) ≤ sfa ∧ sfa ≤ 2147483647) (hr_swr : (-2147483648) ≤ swr ∧ swr ≤ 2147483647) (hr_us : 0 ≤ us ∧ us ≤ 63) (hr_x : 0 ≤ x ∧ x ≤ 15) (hr_y : 0 ≤ y ∧ y ≤ 5) (hr_fa : (-2147483648) ≤ fa ∧ fa ≤ 2147483647) (hr_gd : (-2147483648) ≤ gd ∧ gd ≤ 2147483647) (hf10 : BI f10) (hf12 : SI 8 f12) (hlev : (64 : Int) - us ≤ ((d + 1 : Nat) : Int)) : Met l yX12_sweeps vs_m_sweeps ({ frames := 4 * (d + 1) + 0, cells := 0, slots := 0, locals := 200 * (d + 1) + 0 }) (va_Pc [vR mm, vI us, vI x, vI y, vI fa, vI gd] (pcW D cy sa sz [zO mm 12 [vI th, vR m1, vI tp, vI sz_, vI ap, vI bad, vI bk, vI opn, vI fp, vR m9, vR m10, vR m11, vR m12, vR m13, vR m14, vR m15, vI im, vI nr, vI nl, vR m19, vR m20, vR m21, vI sp_, vR m23, vR m24, vR m25, vR m26, vR m27, vR m28, vI wtc, vI wcl, vI ir, vI ip, vR m33, vI shu, vR m35, vI sfa, vI swr], zI m10 (cy 0) 68 f10, zI m12 (cy 0) 389 f12])) (va_Qv (fun u : SV => ((-2147483648) ≤ u.2.1 0 ∧ u.2.1 0 ≤ 2147483647) ∧ ((-2147483648) ≤ u.2.1 1 ∧ u.2.1 1 ≤ 2147483647) ∧ BI f10 ∧ SI 8 f12) (fun u t => atW D (va_A [zO mm 12 [vI th, vR m1, vI tp, vI sz_, vI ap, vI bad, vI bk, vI opn, vI fp, vR m9, vR m10, vR m11, vR m12, vR m13, vR m14, vR m15, vI im, vI nr, vI nl, vR m19, vR m20, vR m21, vI sp_, vR m23, vR m24, vR m25, vR m26, vR m27, vR m28, vI wtc, vI wcl, vI ir, vI ip, vR m33, vI shu, vR m35, vI sfa, vI swr], zI m10 (cy 0) 68 f10, zI m12 (cy 0) 389 f12] sz) [zO mm 12 [vI th, vR m1, vI tp, vI sz_, vI ap, vI bad, vI bk, vI opn, vI fp, vR m9, vR m10, vR m11, vR m12, vR m13, vR m14, vR m15, vI im, vI nr, vI nl, vR m19, vR m20, vR m21, vI sp_, vR m23, vR m24, vR m25, vR m26, vR m27, vR m28, vI wtc, vI wcl, vI ir, vI ip, vR m33, vI shu, vR m35, vI (u.2.1 0), vI (u.2.1 1)], zI m10 (cy 0) 68 f10, zI m12 (cy 0) 389 f12] t) (va_A [zO mm 12 [vI th, vR m1, vI tp, vI sz_, vI ap, vI bad, vI bk, vI opn, vI fp, vR m9, vR m10, vR m11, vR m12, vR m13, vR m14, vR m15, vI im, vI nr, vI nl, vR m19, vR m20, vR m21, vI sp_, vR m23, vR m24, vR m25, vR m26, vR m27, vR m28, vI wtc, vI wcl, vI ir, vI ip, vR m33, vI shu, vR m35, vI sfa, vI swr], zI m10 (cy 0) 68 f10, zI m12 (cy 0) 389 f12] sz)) 0 0 (va_A [zO mm 12 [vI th, vR m1, vI tp, vI sz_, vI ap, vI bad, vI bk, vI opn, vI fp, vR m9, vR m10, vR m11, vR m12, vR m13, vR m14, vR m15, vI im, vI nr, vI nl, vR m19, vR m20, vR m21, vI sp_, vR m23, vR m24, vR m25, vR m26, vR m27, vR m28, vI wtc, vI wcl, vI ir, vI ip, vR m33, vI shu, vR m35, vI sfa, vI swr], zI m10 (cy 0) 68 f10, zI m12 (cy 0) 389 f12] sz) := by
  refine Met.ofW (cc := cX12_sweeps) (maxL := 10) (ret := none) (by decide) rfl ?_
  intro p e s m args below meth c s₁ B hml hv
  obtain ⟨rfl, hsz, hP, hG, hD0, hT⟩ := hv
  have hx := B.exec
  have hb := B.bytes
  have hr := B.returns
  have hts := atoms_spec (ws := vs_m_sweeps) B.pre
  have hown : s.vm.findClass RX12 = some m.cls := findClass_of_methodNamed B.named
  have hlocks := B.notSynchronized
  subst hsz
  have hD := hD0.self (sz := s.heap.size)
  generalize hAe : va_A [zO mm 12 [vI th, vR m1, vI tp, vI sz_, vI ap, vI bad, vI bk, vI opn, vI fp, vR m9, vR m10, vR m11, vR m12, vR m13, vR m14, vR m15, vI im, vI nr, vI nl, vR m19, vR m20, vR m21, vI sp_, vR m23, vR m24, vR m25, vR m26, vR m27, vR m28, vI wtc, vI wcl, vI ir, vI ip, vR m33, vI shu, vR m35, vI sfa, vI swr], zI m10 (cy 0) 68 f10, zI m12 (cy 0) 389 f12] s.heap.size = A at hD hT ⊢
  have hA : ∀ q : Nat, s.heap.size ≤ q → A q := fun q h => by rw [← hAe]; exact Or.inr h
  have hS : va_S A s.heap s.heap [] := va_S.rf
  have hl0 := lv_entry ([vR mm, vI us, vI x, vI y, vI fa, vI gd]) (n := 10) (Nat.le_of_ble_eq_true rfl)
  rw [lg_entry_eq]
  generalize (lg_sl ([vR mm, vI us, vI x, vI y, vI fa, vI gd]) ++ List.replicate (10 - (lg_sl ([vR mm, vI us, vI x, vI y, vI fa, vI gd])).length) Slot.unset).toArray = ls at hl0 ⊢
  have hlv : lv_has ls 10 [(0, vR mm), (1, vI us), (2, vI x), (3, vI y), (4, vI fa), (5, vI gd)] := hl0
  have lf23 := hts (.fieldLink RX12 23 "KerbSplashModel" "b" "[I") (List.mem_of_getElem? (i := 1) rfl)
  have hi12 : ∀ w ∈ wsX120, w ∈ vs_m_sweeps := fun w h => List.mem_cons_of_mem _ (List.mem_append_right _ (List.mem_append_left _ h))
  have lf409 := hts (.fieldLink RX12 409 "KerbSplashModel" "sweepFar" "I") (List.mem_of_getElem? (i := 2) rfl)
  have lf412 := hts (.fieldLink RX12 412 "KerbSplashModel" "sweepRow" "I") (List.mem_of_getElem? (i := 3) rfl)
  have lf29 := hts (.fieldLink RX12 29 "KerbSplashModel" "s" "[I") (List.mem_of_getElem? (i := 4) rfl)
  have gg_1 : GoodIn vs_m_sweeps (wsV RX12 297 RX12 yX12_drainTold vs_m_drainTold0) := goodIn_sub (fun w h => List.mem_cons_of_mem _ (List.mem_append_right _ (List.mem_append_right _ (List.mem_append_left _ h)))) (gd_V gd_m_drainTold0 (by decide +kernel))
  have gg_2 : GoodIn vs_m_sweeps (wsV RX12 297 RX12 yX12_drainTold vs_m_drainTold1) := goodIn_sub (fun w h => List.mem_cons_of_mem _ (List.mem_append_right _ (List.mem_append_right _ (List.mem_append_right _ (List.mem_append_left _ h))))) (gd_V gd_m_drainTold1 (by decide +kernel))
  have gg_3 : GoodIn vs_m_sweeps (va_wsS RX12 403 yX12_off vs_m_off) := goodIn_sub (fun w h => List.mem_cons_of_mem _ (List.mem_append_right _ (List.mem_append_right _ (List.mem_append_right _ (List.mem_append_right _ (List.mem_append_left _ h)))))) (gd_S gd_m_off (by decide +kernel))
  have gh_X12_sweeps_406 : GoodIn vs_m_sweeps (wsV RX12 406 RX12 yX12_sweeps vs_m_sweeps) := goodIn_sub (gsub_V (List.mem_append_left _ (List.mem_of_getElem? (i := 4) rfl)) (List.mem_append_left _ (List.mem_of_getElem? (i := 5) rfl)) (List.mem_append_left _ (List.mem_of_getElem? (i := 6) rfl)) (List.mem_append_left _ (List.mem_of_getElem? (i := 7) rfl)) (List.mem_append_left _ (List.mem_of_getElem? (i := 8) rfl))) (gd_V (gd_C (by decide +kernel) gd_MSC) (by decide +kernel))
  have h206 := hf12.1
  refine lv_iconst (v := iI 0) hx hb dX12_sweeps_0 (by decide) ?_
  refine lv_istore (lv' := [(6, vI 0), (0, vR mm), (1, vI us), (2, vI x), (3, vI y), (4, vI fa), (5, vI gd)]) hx hb dX12_sweeps_1 hlv (by decide) rfl (fun ls hlv => ?_)
  refine lv_iconst (v := iI 0) hx hb dX12_sweeps_3 (by decide) ?_
  refine lv_istore (lv' := [(7, vI 0), (6, vI 0), (0, vR mm), (1, vI us), (2, vI x), (3, vI y), (4, vI fa), (5, vI gd)]) hx hb dX12_sweeps_4 hlv (by decide) rfl (fun ls hlv => ?_)
  refine (?_ : ∀ (fu : Nat) (q6 : Int) (q7 : Int) (qf : Int) (qr : Int) (H : Heap) (locs : List Loc) (ls : Array Slot), 6 - q7 < (fu : Int) → (0 ≤ q6 ∧ q6 ≤ 1) → (0 ≤ q7 ∧ q7 ≤ 6) → ((-2147483648) ≤ qf ∧ qf ≤ 2147483647) → ((-2147483648) ≤ qr ∧ qr ≤ 2147483647) → va_P D vwCl [zO mm 12 [vI th, vR m1, vI tp, vI sz_, vI ap, vI bad, vI bk, vI opn, vI fp, vR m9, vR m10, vR m11, vR m12, vR m13, vR m14, vR m15, vI im, vI nr, vI nl, vR m19, vR m20, vR m21, vI sp_, vR m23, vR m24, vR m25, vR m26, vR m27, vR m28, vI wtc, vI wcl, vI ir, vI ip, vR m33, vI shu, vR m35, vI qf, vI qr], zI m10 (cy 0) 68 f10, zI m12 (cy 0) 389 f12] H → va_D A [zO mm 12 [vI th, vR m1, vI tp, vI sz_, vI ap, vI bad, vI bk, vI opn, vI fp, vR m9, vR m10, vR m11, vR m12, vR m13, vR m14, vR m15, vI im, vI nr, vI nl, vR m19, vR m20, vR m21, vI sp_, vR m23, vR m24, vR m25, vR m26, vR m27, vR m28, vI wtc, vI wcl, vI ir, vI ip, vR m33, vI shu, vR m35, vI qf, vI qr], zI m10 (cy 0) 68 f10, zI m12 (cy 0) 389 f12] → va_S A s.heap H locs → lv_has ls 10 [(7, vI q7), (6, vI q6), (0, vR mm), (1, vI us), (2, vI x), (3, vI y), (4, vI fa), (5, vI gd)] → W p l e _ s m _ below meth c H locs _ _ _ (F0 m 6 ls [])) (((6 - 0) + 1 : Int)).toNat 0 0 sfa swr _ _ _ (by omega) (by show (0 : Int) ≤ 0 ∧ (0 : Int) ≤ 1; decide) (by show (0 : Int) ≤ 0 ∧ (0 : Int) ≤ 6; decide) (by first | exact hr_sfa | omega) (by first | exact hr_swr | omega)  hP hD hS hlv
  clear hP hD hS hlv
  intro fu
  induction fu with
  | zero => intro q6 q7 qf qr H locs ls hm6 hl6_0 hl6_1 hl6_2 hl6_3  hP hD hS hlv; omega
  | succ fu ih6 =>
    intro q6 q7 qf qr H locs ls hm6 hl6_0 hl6_1 hl6_2 hl6_3  hP hD hS hlv
    refine lv_iload hx hb dX12_sweeps_6 (lv_at hlv 0 rfl) ?_
    refine lv_aload_n hx hb dX12_sweeps_8 rfl (lv_at hlv 2 rfl) ?_
    refine va_get (D := D) (ci := 12) (v := vR m10) (C := RX12) (T := TX12) (N := 38) hx hb hts hi12 hown hG.1 hP 0 rfl rfl 10 (by decide) lf23 (fun _ h9 => h9) rfl dX12_sweeps_9 ?_
    refine lv_iconst (v := iI 2) hx hb dX12_sweeps_12 (by decide) ?_
    refine va_iald hx hb hG.1 hP 1 0 rfl rfl (iI_in (by omega) (by decide)) dX12_sweeps_13 ?_
    refine lt_nz (i := 2) (by omega) (fun z_1 hz_1 lz_1 uz_1 => ?_)
    have hz_1 : z_1 = nz f10 2 := hz_1
    have hbz_1_7 := hf10.1.2.2.1
    refine ir_ge (tgt := 111) hx hb dX12_sweeps_14 (by decide) (by first | exact rgw hl6_1 (by decide) (by decide) | omega) (by omega) (fun c_2 => ?_) (fun c_2 => ?_)
    · refine lv_iload hx hb dX12_sweeps_111 (lv_at hlv 1 rfl) ?_
      refine iz_ne (tgt := 137) hx hb dX12_sweeps_113 (by decide) (by first | exact rgw hl6_0 (by decide) (by decide) | omega) (fun c_3 => ?_) (fun c_3 => ?_)
      · refine W.widen (k := 0) (n := 0) (Nat.le_of_ble_eq_true rfl) (Nat.le_of_ble_eq_true rfl) ?_
        exact W.vret hx hb hr (fun t ht hW => ⟨⟨((fun k => ([] : List Nat).getD k 0), (fun k => ([qf, qr] : List Int).getD k 0), (fun k => ([] : List (Nat → Int32)).getD k (fun _ => 0))), rfl, ⟨(by show ((-2147483648) ≤ qf ∧ qf ≤ 2147483647); first | exact hl6_2 | omega), (by show ((-2147483648) ≤ qr ∧ qr ≤ 2147483647); first | exact hl6_3 | omega), hf10, hf12⟩, by rw [ht]; exact hP.sub [0, 1, 2] rfl, hD.sub [0, 1, 2] (by decide) rfl⟩, hS.F ht⟩) hS.2.2 dX12_sweeps_137
      · refine lv_aload_n hx hb dX12_sweeps_116 rfl (lv_at hlv 2 rfl) ?_
        refine va_get (D := D) (ci := 12) (v := vI qf) (C := RX12) (T := TX12) (N := 38) hx hb hts hi12 hown hG.1 hP 0 rfl rfl 36 (by decide) lf409 (fun _ h9 => h9) rfl dX12_sweeps_117 ?_
        refine lv_iconst (v := iI (-1)) hx hb dX12_sweeps_120 (by decide) ?_
        refine ir_eq (tgt := 138) hx hb dX12_sweeps_121 (by decide) (by first | exact hl6_2 | omega) (by show ((-2147483648) : Int) ≤ (-1) ∧ ((-1) : Int) ≤ 2147483647; decide) (fun c_4 => ?_) (fun c_4 => ?_)
        · refine lv_aload_n hx hb dX12_sweeps_138 rfl (lv_at hlv 2 rfl) ?_
          refine lv_iload hx hb dX12_sweeps_139 (lv_at hlv 6 rfl) ?_
          refine lv_iload_n hx hb dX12_sweeps_141 rfl (lv_at hlv 4 rfl) ?_
          refine lv_iadd hx hb dX12_sweeps_142 ?_
          refine lt_z (fun z_5 ez_5 lz_5 hz_5 => ?_)
          refine lv_iload_n hx hb dX12_sweeps_143 rfl (lv_at hlv 5 rfl) ?_
          refine lv_iadd hx hb dX12_sweeps_144 ?_
          refine lt_z (fun z_6 ez_6 lz_6 hz_6 => ?_)
          refine va_put (D := D) (ci := 12) (v := vI z_6) (ty := .int) (C := RX12) (T := TX12) (N := 38) hx hb hts hi12 tyX12 tyX12_ok nmX12 hown hG.1 hP hD hS 0 rfl rfl 36 (by decide) lf409 (fun _ h9 => h9) rfl (by decide +kernel) rfl rfl (Nat.le_of_ble_eq_true rfl) dX12_sweeps_145 (fun H locs hP hD hS => ?_)
          have hP : va_P D vwCl [zO mm 12 [vI th, vR m1, vI tp, vI sz_, vI ap, vI bad, vI bk, vI opn, vI fp, vR m9, vR m10, vR m11, vR m12, vR m13, vR m14, vR m15, vI im, vI nr, vI nl, vR m19, vR m20, vR m21, vI sp_, vR m23, vR m24, vR m25, vR m26, vR m27, vR m28, vI wtc, vI wcl, vI ir, vI ip, vR m33, vI shu, vR m35, vI z_6, vI qr], zI m10 (cy 0) 68 f10, zI m12 (cy 0) 389 f12] H := hP
          have hD : va_D A [zO mm 12 [vI th, vR m1, vI tp, vI sz_, vI ap, vI bad, vI bk, vI opn, vI fp, vR m9, vR m10, vR m11, vR m12, vR m13, vR m14, vR m15, vI im, vI nr, vI nl, vR m19, vR m20, vR m21, vI sp_, vR m23, vR m24, vR m25, vR m26, vR m27, vR m28, vI wtc, vI wcl, vI ir, vI ip, vR m33, vI shu, vR m35, vI z_6, vI qr], zI m10 (cy 0) 68 f10, zI m12 (cy 0) 389 f12] := hD
          refine lv_aload_n hx hb dX12_sweeps_148 rfl (lv_at hlv 2 rfl) ?_
          refine lv_iload hx hb dX12_sweeps_149 (lv_at hlv 7 rfl) ?_
          refine va_put (D := D) (ci := 12) (v := vI gd) (ty := .int) (C := RX12) (T := TX12) (N := 38) hx hb hts hi12 tyX12 tyX12_ok nmX12 hown hG.1 hP hD hS 0 rfl rfl 37 (by decide) lf412 (fun _ h9 => h9) rfl (by decide +kernel) rfl rfl (Nat.le_of_ble_eq_true rfl) dX12_sweeps_151 (fun H locs hP hD hS => ?_)
          have hP : va_P D vwCl [zO mm 12 [vI th, vR m1, vI tp, vI sz_, vI ap, vI bad, vI bk, vI opn, vI fp, vR m9, vR m10, vR m11, vR m12, vR m13, vR m14, vR m15, vI im, vI nr, vI nl, vR m19, vR m20, vR m21, vI sp_, vR m23, vR m24, vR m25, vR m26, vR m27, vR m28, vI wtc, vI wcl, vI ir, vI ip, vR m33, vI shu, vR m35, vI z_6, vI gd], zI m10 (cy 0) 68 f10, zI m12 (cy 0) 389 f12] H := hP
          have hD : va_D A [zO mm 12 [vI th, vR m1, vI tp, vI sz_, vI ap, vI bad, vI bk, vI opn, vI fp, vR m9, vR m10, vR m11, vR m12, vR m13, vR m14, vR m15, vI im, vI nr, vI nl, vR m19, vR m20, vR m21, vI sp_, vR m23, vR m24, vR m25, vR m26, vR m27, vR m28, vI wtc, vI wcl, vI ir, vI ip, vR m33, vI shu, vR m35, vI z_6, vI gd], zI m10 (cy 0) 68 f10, zI m12 (cy 0) 389 f12] := hD
          refine W.widen (k := 0) (n := 0) (Nat.le_of_ble_eq_true rfl) (Nat.le_of_ble_eq_true rfl) ?_
          exact W.vret hx hb hr (fun t ht hW => ⟨⟨((fun k => ([] : List Nat).getD k 0), (fun k => ([z_6, gd] : List Int).getD k 0), (fun k => ([] : List (Nat → Int32)).getD k (fun _ => 0))), rfl, ⟨(by show ((-2147483648) ≤ z_6 ∧ z_6 ≤ 2147483647); omega), (by show ((-2147483648) ≤ gd ∧ gd ≤ 2147483647); first | exact hr_gd | omega), hf10, hf12⟩, by rw [ht]; exact hP.sub [0, 1, 2] rfl, hD.sub [0, 1, 2] (by decide) rfl⟩, hS.F ht⟩) hS.2.2 dX12_sweeps_154
        · refine lv_iload hx hb dX12_sweeps_124 (lv_at hlv 6 rfl) ?_
          refine lv_iload_n hx hb dX12_sweeps_126 rfl (lv_at hlv 4 rfl) ?_
          refine lv_iadd hx hb dX12_sweeps_127 ?_
          refine lt_z (fun z_7 ez_7 lz_7 hz_7 => ?_)
          refine lv_iload_n hx hb dX12_sweeps_128 rfl (lv_at hlv 5 rfl) ?_
          refine lv_iadd hx hb dX12_sweeps_129 ?_
          refine lt_z (fun z_8 ez_8 lz_8 hz_8 => ?_)
          refine lv_aload_n hx hb dX12_sweeps_130 rfl (lv_at hlv 2 rfl) ?_
          refine va_get (D := D) (ci := 12) (v := vI qf) (C := RX12) (T := TX12) (N := 38) hx hb hts hi12 hown hG.1 hP 0 rfl rfl 36 (by decide) lf409 (fun _ h9 => h9) rfl dX12_sweeps_131 ?_
          refine ir_lt (tgt := 138) hx hb dX12_sweeps_134 (by decide) (by omega) (by first | exact hl6_2 | omega) (fun c_9 => ?_) (fun c_9 => ?_)
          · refine lv_aload_n hx hb dX12_sweeps_138 rfl (lv_at hlv 2 rfl) ?_
            refine lv_iload hx hb dX12_sweeps_139 (lv_at hlv 6 rfl) ?_
            refine lv_iload_n hx hb dX12_sweeps_141 rfl (lv_at hlv 4 rfl) ?_
            refine lv_iadd hx hb dX12_sweeps_142 ?_
            refine lt_z (fun z_10 ez_10 lz_10 hz_10 => ?_)
            refine lv_iload_n hx hb dX12_sweeps_143 rfl (lv_at hlv 5 rfl) ?_
            refine lv_iadd hx hb dX12_sweeps_144 ?_
            refine lt_z (fun z_11 ez_11 lz_11 hz_11 => ?_)
            refine va_put (D := D) (ci := 12) (v := vI z_11) (ty := .int) (C := RX12) (T := TX12) (N := 38) hx hb hts hi12 tyX12 tyX12_ok nmX12 hown hG.1 hP hD hS 0 rfl rfl 36 (by decide) lf409 (fun _ h9 => h9) rfl (by decide +kernel) rfl rfl (Nat.le_of_ble_eq_true rfl) dX12_sweeps_145 (fun H locs hP hD hS => ?_)
            have hP : va_P D vwCl [zO mm 12 [vI th, vR m1, vI tp, vI sz_, vI ap, vI bad, vI bk, vI opn, vI fp, vR m9, vR m10, vR m11, vR m12, vR m13, vR m14, vR m15, vI im, vI nr, vI nl, vR m19, vR m20, vR m21, vI sp_, vR m23, vR m24, vR m25, vR m26, vR m27, vR m28, vI wtc, vI wcl, vI ir, vI ip, vR m33, vI shu, vR m35, vI z_11, vI qr], zI m10 (cy 0) 68 f10, zI m12 (cy 0) 389 f12] H := hP
            have hD : va_D A [zO mm 12 [vI th, vR m1, vI tp, vI sz_, vI ap, vI bad, vI bk, vI opn, vI fp, vR m9, vR m10, vR m11, vR m12, vR m13, vR m14, vR m15, vI im, vI nr, vI nl, vR m19, vR m20, vR m21, vI sp_, vR m23, vR m24, vR m25, vR m26, vR m27, vR m28, vI wtc, vI wcl, vI ir, vI ip, vR m33, vI shu, vR m35, vI z_11, vI qr], zI m10 (cy 0) 68 f10, zI m12 (cy 0) 389 f12] := hD
            refine lv_aload_n hx hb dX12_sweeps_148 rfl (lv_at hlv 2 rfl) ?_
            refine lv_iload hx hb dX12_sweeps_149 (lv_at hlv 7 rfl) ?_
            refine va_put (D := D) (ci := 12) (v := vI gd) (ty := .int) (C := RX12) (T := TX12) (N := 38) hx hb hts hi12 tyX12 tyX12_ok nmX12 hown hG.1 hP hD hS 0 rfl rfl 37 (by decide) lf412 (fun _ h9 => h9) rfl (by decide +kernel) rfl rfl (Nat.le_of_ble_eq_true rfl) dX12_sweeps_151 (fun H locs hP hD hS => ?_)
            have hP : va_P D vwCl [zO mm 12 [vI th, vR m1, vI tp, vI sz_, vI ap, vI bad, vI bk, vI opn, vI fp, vR m9, vR m10, vR m11, vR m12, vR m13, vR m14, vR m15, vI im, vI nr, vI nl, vR m19, vR m20, vR m21, vI sp_, vR m23, vR m24, vR m25, vR m26, vR m27, vR m28, vI wtc, vI wcl, vI ir, vI ip, vR m33, vI shu, vR m35, vI z_11, vI gd], zI m10 (cy 0) 68 f10, zI m12 (cy 0) 389 f12] H := hP
            have hD : va_D A [zO mm 12 [vI th, vR m1, vI tp, vI sz_, vI ap, vI bad, vI bk, vI opn, vI fp, vR m9, vR m10, vR m11, vR m12, vR m13, vR m14, vR m15, vI im, vI nr, vI nl, vR m19, vR m20, vR m21, vI sp_, vR m23, vR m24, vR m25, vR m26, vR m27, vR m28, vI wtc, vI wcl, vI ir, vI ip, vR m33, vI shu, vR m35, vI z_11, vI gd], zI m10 (cy 0) 68 f10, zI m12 (cy 0) 389 f12] := hD
            refine W.widen (k := 0) (n := 0) (Nat.le_of_ble_eq_true rfl) (Nat.le_of_ble_eq_true rfl) ?_
            exact W.vret hx hb hr (fun t ht hW => ⟨⟨((fun k => ([] : List Nat).getD k 0), (fun k => ([z_11, gd] : List Int).getD k 0), (fun k => ([] : List (Nat → Int32)).getD k (fun _ => 0))), rfl, ⟨(by show ((-2147483648) ≤ z_11 ∧ z_11 ≤ 2147483647); omega), (by show ((-2147483648) ≤ gd ∧ gd ≤ 2147483647); first | exact hr_gd | omega), hf10, hf12⟩, by rw [ht]; exact hP.sub [0, 1, 2] rfl, hD.sub [0, 1, 2] (by decide) rfl⟩, hS.F ht⟩) hS.2.2 dX12_sweeps_154
          · refine W.widen (k := 0) (n := 0) (Nat.le_of_ble_eq_true rfl) (Nat.le_of_ble_eq_true rfl) ?_
            exact W.vret hx hb hr (fun t ht hW => ⟨⟨((fun k => ([] : List Nat).getD k 0), (fun k => ([qf, qr] : List Int).getD k 0), (fun k => ([] : List (Nat → Int32)).getD k (fun _ => 0))), rfl, ⟨(by show ((-2147483648) ≤ qf ∧ qf ≤ 2147483647); first | exact hl6_2 | omega), (by show ((-2147483648) ≤ qr ∧ qr ≤ 2147483647); first | exact hl6_3 | omega), hf10, hf12⟩, by rw [ht]; exact hP.sub [0, 1, 2] rfl, hD.sub [0, 1, 2] (by decide) rfl⟩, hS.F ht⟩) hS.2.2 dX12_sweeps_137
    · refine lv_iload_n hx hb dX12_sweeps_17 rfl (lv_at hlv 3 rfl) ?_
      refine lv_iload hx hb dX12_sweeps_18 (lv_at hlv 0 rfl) ?_
      refine lv_ishr hx hb dX12_sweeps_20 ?_
      refine lt_z (fun z_12 ez_12 lz_12 hz_12 => ?_)
      refine lv_iconst (v := iI 1) hx hb dX12_sweeps_21 (by decide) ?_
      refine lv_iand hx hb dX12_sweeps_22 ?_
      refine lt_aE 1 (by decide) (by decide) (hi := 1) (by decide) (fun z_13 ez_13 lz_13 hz_13 => ?_)
      refine lv_iconst (v := iI 1) hx hb dX12_sweeps_23 (by decide) ?_
      refine ir_eq (tgt := 105) hx hb dX12_sweeps_24 (by decide) (by omega) (by show ((-2147483648) : Int) ≤ 1 ∧ (1 : Int) ≤ 2147483647; decide) (fun c_14 => ?_) (fun c_14 => ?_)
      · obtain ⟨z_15, hz_15⟩ : ∃ z : Int, z = q7 + 1 := ⟨_, rfl⟩
        refine lv_iinc (v := iI z_15) (lv' := [(7, vI z_15), (6, vI q6), (0, vR mm), (1, vI us), (2, vI x), (3, vI y), (4, vI fa), (5, vI gd)]) hx hb dX12_sweeps_105 hlv (k := 0) rfl (by rw [hz_15]; exact (Int32.ofInt_add _ _).symm) (by decide) rfl (fun ls hlv => ?_)
        refine lv_goto (tgt := 6) hx hb dX12_sweeps_108 (by decide) ?_
        exact ih6 q6 z_15 qf qr H locs ls (by omega) (by first | exact hl6_0 | omega) (by omega) (by first | exact hl6_2 | omega) (by first | exact hl6_3 | omega)  (hP.sub [0, 1, 2] rfl) (hD.sub [0, 1, 2] (by decide) rfl) hS (lv_sub hlv [0, 1, 2, 3, 4, 5, 6, 7] rfl)
      · refine lv_aload_n hx hb dX12_sweeps_27 rfl (lv_at hlv 2 rfl) ?_
        refine va_get (D := D) (ci := 12) (v := vR m12) (C := RX12) (T := TX12) (N := 38) hx hb hts hi12 hown hG.1 hP 0 rfl rfl 12 (by decide) lf29 (fun _ h9 => h9) rfl dX12_sweeps_28 ?_
        refine lv_sipush (v := iI 192) hx hb dX12_sweeps_31 (by decide) ?_
        refine lv_iload hx hb dX12_sweeps_34 (lv_at hlv 0 rfl) ?_
        refine lv_iadd hx hb dX12_sweeps_36 ?_
        refine lt_e (e0 := 192 + q7) (Int32.ofInt_add _ _).symm (fun z_16 hz_16 => ?_)
        refine va_iald hx hb hG.1 hP 2 0 rfl rfl (iI_in (by omega) (by decide)) dX12_sweeps_37 ?_
        refine lt_nz (i := z_16) (by omega) (fun z_17 hz_17 lz_17 uz_17 => ?_)
        refine iz_ne (tgt := 44) hx hb dX12_sweeps_38 (by decide) (by omega) (fun c_18 => ?_) (fun c_18 => ?_)
        · refine lv_iconst (v := iI 1) hx hb dX12_sweeps_44 (by decide) ?_
          refine lv_istore (lv' := [(6, vI 1), (7, vI q7), (0, vR mm), (1, vI us), (2, vI x), (3, vI y), (4, vI fa), (5, vI gd)]) hx hb dX12_sweeps_45 hlv (by decide) rfl (fun ls hlv => ?_)
          refine lv_aload_n hx hb dX12_sweeps_47 rfl (lv_at hlv 2 rfl) ?_
          refine lv_iload hx hb dX12_sweeps_48 (lv_at hlv 1 rfl) ?_
          refine lv_iconst (v := iI 0) hx hb dX12_sweeps_50 (by decide) ?_
          refine cj_i (wr := []) (va_runV (As := [vI q7, vI 0]) (rest := []) ⟨hx, hb, hml, hown, hts⟩ (m_drainTold0 l hl D cy sa mm m1 m9 m10 m11 m12 m13 m14 m15 m19 m20 m21 m23 m24 m25 m26 m27 m28 m33 m35 th tp sz_ ap bad bk opn fp im nr nl sp_ wtc wcl ir ip shu qf qr f10 f12 q7 8 H.size (by first | exact hr_th | omega) (by first | exact hr_tp | omega) (by first | exact hr_sz_ | omega) (by first | exact hr_ap | omega) (by first | exact hr_bad | omega) (by first | exact hr_bk | omega) (by first | exact hr_opn | omega) (by first | exact hr_fp | omega) (by first | exact hr_im | omega) (by first | exact hr_nr | omega) (by first | exact hr_nl | omega) (by first | exact hr_sp_ | omega) (by first | exact hr_wtc | omega) (by first | exact hr_wcl | omega) (by first | exact hr_ir | omega) (by first | exact hr_ip | omega) (by first | exact hr_shu | omega) (by first | exact hl6_2 | omega) (by first | exact hl6_3 | omega) (by first | exact rgw hl6_1 (by decide) (by decide) | omega) (by show (8 : Int) ≤ 8 ∧ (8 : Int) ≤ 9; decide) (by omega) hf10 hf12) (cwV 2 hts gg_1 rfl rfl rfl (by decide +kernel) ⟨by dsimp only [headSpec]; omega, by dsimp only [headSpec]; omega⟩) ⟨pcW.blind, (va_recv hG.1 hP (ci := 12) (q0 := 0) rfl rfl), (pcW.mk hP hD hS hA hG hT [0, 1, 2] rfl (by decide))⟩ rfl rfl hlv.1 rfl (lv_room (Nat.le_of_ble_eq_true rfl)) dX12_sweeps_51 ⟨Nat.le_of_ble_eq_true rfl, Nat.le_of_ble_eq_true rfl⟩) hP hD hS hA [0, 1, 2] [] rfl rfl (by decide) (by decide) (fun r1 u1 H locs hw1 hP hD hS => ?_)
          obtain ⟨rfl, hq1_1, hq1_2, hq1_3⟩ := hw1
          have hP : va_P D vwCl [zO mm 12 [vI th, vR m1, vI tp, vI sz_, vI ap, vI bad, vI bk, vI opn, vI fp, vR m9, vR m10, vR m11, vR m12, vR m13, vR m14, vR m15, vI im, vI nr, vI nl, vR m19, vR m20, vR m21, vI sp_, vR m23, vR m24, vR m25, vR m26, vR m27, vR m28, vI wtc, vI wcl, vI ir, vI ip, vR m33, vI shu, vR m35, vI qf, vI qr], zI m10 (cy 0) 68 f10, zI m12 (cy 0) 389 f12] H := hP
          have hD : va_D A [zO mm 12 [vI th, vR m1, vI tp, vI sz_, vI ap, vI bad, vI bk, vI opn, vI fp, vR m9, vR m10, vR m11, vR m12, vR m13, vR m14, vR m15, vI im, vI nr, vI nl, vR m19, vR m20, vR m21, vI sp_, vR m23, vR m24, vR m25, vR m26, vR m27, vR m28, vI wtc, vI wcl, vI ir, vI ip, vR m33, vI shu, vR m35, vI qf, vI qr], zI m10 (cy 0) 68 f10, zI m12 (cy 0) 389 f12] := hD
          refine lv_istore (lv' := [(8, vI (u1.2.1 0)), (6, vI 1), (7, vI q7), (0, vR mm), (1, vI us), (2, vI x), (3, vI y), (4, vI fa), (5, vI gd)]) hx hb dX12_sweeps_54 hlv (by decide) rfl (fun ls hlv => ?_)
          refine lv_aload_n hx hb dX12_sweeps_56 rfl (lv_at hlv 3 rfl) ?_
          refine lv_iload hx hb dX12_sweeps_57 (lv_at hlv 2 rfl) ?_
          refine lv_iconst (v := iI 1) hx hb dX12_sweeps_59 (by decide) ?_
          refine cj_i (wr := []) (va_runV (As := [vI q7, vI 1]) (rest := []) ⟨hx, hb, hml, hown, hts⟩ (m_drainTold1 l hl D cy sa mm m1 m9 m10 m11 m12 m13 m14 m15 m19 m20 m21 m23 m24 m25 m26 m27 m28 m33 m35 th tp sz_ ap bad bk opn fp im nr nl sp_ wtc wcl ir ip shu qf qr f10 f12 q7 8 H.size (by first | exact hr_th | omega) (by first | exact hr_tp | omega) (by first | exact hr_sz_ | omega) (by first | exact hr_ap | omega) (by first | exact hr_bad | omega) (by first | exact hr_bk | omega) (by first | exact hr_opn | omega) (by first | exact hr_fp | omega) (by first | exact hr_im | omega) (by first | exact hr_nr | omega) (by first | exact hr_nl | omega) (by first | exact hr_sp_ | omega) (by first | exact hr_wtc | omega) (by first | exact hr_wcl | omega) (by first | exact hr_ir | omega) (by first | exact hr_ip | omega) (by first | exact hr_shu | omega) (by first | exact hl6_2 | omega) (by first | exact hl6_3 | omega) (by first | exact rgw hl6_1 (by decide) (by decide) | omega) (by show (8 : Int) ≤ 8 ∧ (8 : Int) ≤ 9; decide) (by omega) hq1_2 hq1_3) (cwV 2 hts gg_2 rfl rfl rfl (by decide +kernel) ⟨by dsimp only [headSpec]; omega, by dsimp only [headSpec]; omega⟩) ⟨pcW.blind, (va_recv hG.1 hP (ci := 12) (q0 := 0) rfl rfl), (pcW.mk hP hD hS hA hG hT [0, 1, 2] rfl (by decide))⟩ rfl rfl hlv.1 rfl (lv_room (Nat.le_of_ble_eq_true rfl)) dX12_sweeps_60 ⟨Nat.le_of_ble_eq_true rfl, Nat.le_of_ble_eq_true rfl⟩) hP hD hS hA [0, 1, 2] [] rfl rfl (by decide) (by decide) (fun r2 u2 H locs hw2 hP hD hS => ?_)
          obtain ⟨rfl, hq2_1, hq2_2, hq2_3⟩ := hw2
          have hP : va_P D vwCl [zO mm 12 [vI th, vR m1, vI tp, vI sz_, vI ap, vI bad, vI bk, vI opn, vI fp, vR m9, vR m10, vR m11, vR m12, vR m13, vR m14, vR m15, vI im, vI nr, vI nl, vR m19, vR m20, vR m21, vI sp_, vR m23, vR m24, vR m25, vR m26, vR m27, vR m28, vI wtc, vI wcl, vI ir, vI ip, vR m33, vI shu, vR m35, vI qf, vI qr], zI m10 (cy 0) 68 f10, zI m12 (cy 0) 389 f12] H := hP
          have hD : va_D A [zO mm 12 [vI th, vR m1, vI tp, vI sz_, vI ap, vI bad, vI bk, vI opn, vI fp, vR m9, vR m10, vR m11, vR m12, vR m13, vR m14, vR m15, vI im, vI nr, vI nl, vR m19, vR m20, vR m21, vI sp_, vR m23, vR m24, vR m25, vR m26, vR m27, vR m28, vI wtc, vI wcl, vI ir, vI ip, vR m33, vI shu, vR m35, vI qf, vI qr], zI m10 (cy 0) 68 f10, zI m12 (cy 0) 389 f12] := hD
          refine lv_istore (lv' := [(9, vI (u2.2.1 0)), (8, vI (u1.2.1 0)), (6, vI 1), (7, vI q7), (0, vR mm), (1, vI us), (2, vI x), (3, vI y), (4, vI fa), (5, vI gd)]) hx hb dX12_sweeps_63 hlv (by decide) rfl (fun ls hlv => ?_)
          refine lv_aload_n hx hb dX12_sweeps_65 rfl (lv_at hlv 4 rfl) ?_
          refine lv_iload_n hx hb dX12_sweeps_66 rfl (lv_at hlv 5 rfl) ?_
          refine lv_iconst (v := iI 1) hx hb dX12_sweeps_67 (by decide) ?_
          refine lv_iload hx hb dX12_sweeps_68 (lv_at hlv 3 rfl) ?_
          refine lv_ishl hx hb dX12_sweeps_70 ?_
          refine lt_sh2 (n := 5) (M := 32) (by decide) (by decide) (by omega) (fun z_19 ez_19 lz_19 hz_19 => ?_)
          refine lv_ior hx hb dX12_sweeps_71 ?_
          obtain ⟨z_20, ez_20, lz_20, hz_20⟩ := sw_inc (a := us) (k := q7) (by omega) (by omega) ez_19 ez_12 ez_13 (by omega) (by omega)
          refine lt_i (y := iI z_20) ez_20 ?_
          refine lv_iload hx hb dX12_sweeps_72 (lv_at hlv 1 rfl) ?_
          refine lv_iload hx hb dX12_sweeps_74 (lv_at hlv 0 rfl) ?_
          refine lv_iload hx hb dX12_sweeps_76 (lv_at hlv 8 rfl) ?_
          refine lv_iload hx hb dX12_sweeps_78 (lv_at hlv 1 rfl) ?_
          refine lv_iload_n hx hb dX12_sweeps_80 rfl (lv_at hlv 6 rfl) ?_
          refine lv_isub hx hb dX12_sweeps_81 ?_
          refine lt_e (e0 := (u1.2.1 0) - x) (Int32.ofInt_sub _ _).symm (fun z_21 hz_21 => ?_)
          refine cj_i (wr := [zO mm 12 [vI th, vR m1, vI tp, vI sz_, vI ap, vI bad, vI bk, vI opn, vI fp, vR m9, vR m10, vR m11, vR m12, vR m13, vR m14, vR m15, vI im, vI nr, vI nl, vR m19, vR m20, vR m21, vI sp_, vR m23, vR m24, vR m25, vR m26, vR m27, vR m28, vI wtc, vI wcl, vI ir, vI ip, vR m33, vI shu, vR m35, vI qf, vI qr], zI m10 (cy 0) 68 f10, zI m12 (cy 0) 389 f12]) (va_runS (As := [vI z_21]) (rest := [vI fa, vI (u2.2.1 0), vI (u1.2.1 0), vI z_20, vR mm]) ⟨hx, hb, hml, hown, hts⟩ (m_off l hl D cy sa z_21 H.size (by omega)) (va_cwS 1 hts gg_3 rfl rfl rfl (by decide +kernel) ⟨by dsimp only [headSpec]; omega, by dsimp only [headSpec]; omega⟩) ⟨pcW.blind, (pcW.mk hP hD hS hA hG hT [] rfl (by decide))⟩ rfl rfl hlv.1 rfl (lv_room (Nat.le_of_ble_eq_true rfl)) dX12_sweeps_82 ⟨Nat.le_of_ble_eq_true rfl, Nat.le_of_ble_eq_true rfl⟩) hP hD hS hA [] [0, 1, 2] rfl rfl (by decide) (by decide) (fun r3 u3 H locs hw3 hP hD hS => ?_)
          obtain ⟨rfl, hq3_1⟩ := hw3
          have hP : va_P D vwCl [zO mm 12 [vI th, vR m1, vI tp, vI sz_, vI ap, vI bad, vI bk, vI opn, vI fp, vR m9, vR m10, vR m11, vR m12, vR m13, vR m14, vR m15, vI im, vI nr, vI nl, vR m19, vR m20, vR m21, vI sp_, vR m23, vR m24, vR m25, vR m26, vR m27, vR m28, vI wtc, vI wcl, vI ir, vI ip, vR m33, vI shu, vR m35, vI qf, vI qr], zI m10 (cy 0) 68 f10, zI m12 (cy 0) 389 f12] H := hP
          have hD : va_D A [zO mm 12 [vI th, vR m1, vI tp, vI sz_, vI ap, vI bad, vI bk, vI opn, vI fp, vR m9, vR m10, vR m11, vR m12, vR m13, vR m14, vR m15, vI im, vI nr, vI nl, vR m19, vR m20, vR m21, vI sp_, vR m23, vR m24, vR m25, vR m26, vR m27, vR m28, vI wtc, vI wcl, vI ir, vI ip, vR m33, vI shu, vR m35, vI qf, vI qr], zI m10 (cy 0) 68 f10, zI m12 (cy 0) 389 f12] := hD
          refine lv_iadd hx hb dX12_sweeps_85 ?_
          refine lt_z (fun z_22 ez_22 lz_22 hz_22 => ?_)
          refine lv_iload hx hb dX12_sweeps_86 (lv_at hlv 0 rfl) ?_
          refine lv_iload_n hx hb dX12_sweeps_88 rfl (lv_at hlv 7 rfl) ?_
          refine lv_isub hx hb dX12_sweeps_89 ?_
          refine lt_e (e0 := (u2.2.1 0) - y) (Int32.ofInt_sub _ _).symm (fun z_23 hz_23 => ?_)
          refine cj_i (wr := [zO mm 12 [vI th, vR m1, vI tp, vI sz_, vI ap, vI bad, vI bk, vI opn, vI fp, vR m9, vR m10, vR m11, vR m12, vR m13, vR m14, vR m15, vI im, vI nr, vI nl, vR m19, vR m20, vR m21, vI sp_, vR m23, vR m24, vR m25, vR m26, vR m27, vR m28, vI wtc, vI wcl, vI ir, vI ip, vR m33, vI shu, vR m35, vI qf, vI qr], zI m10 (cy 0) 68 f10, zI m12 (cy 0) 389 f12]) (va_runS (As := [vI z_23]) (rest := [vI z_22, vI (u2.2.1 0), vI (u1.2.1 0), vI z_20, vR mm]) ⟨hx, hb, hml, hown, hts⟩ (m_off l hl D cy sa z_23 H.size (by omega)) (va_cwS 1 hts gg_3 rfl rfl rfl (by decide +kernel) ⟨by dsimp only [headSpec]; omega, by dsimp only [headSpec]; omega⟩) ⟨pcW.blind, (pcW.mk hP hD hS hA hG hT [] rfl (by decide))⟩ rfl rfl hlv.1 rfl (lv_room (Nat.le_of_ble_eq_true rfl)) dX12_sweeps_90 ⟨Nat.le_of_ble_eq_true rfl, Nat.le_of_ble_eq_true rfl⟩) hP hD hS hA [] [0, 1, 2] rfl rfl (by decide) (by decide) (fun r4 u4 H locs hw4 hP hD hS => ?_)
          obtain ⟨rfl, hq4_1⟩ := hw4
          have hP : va_P D vwCl [zO mm 12 [vI th, vR m1, vI tp, vI sz_, vI ap, vI bad, vI bk, vI opn, vI fp, vR m9, vR m10, vR m11, vR m12, vR m13, vR m14, vR m15, vI im, vI nr, vI nl, vR m19, vR m20, vR m21, vI sp_, vR m23, vR m24, vR m25, vR m26, vR m27, vR m28, vI wtc, vI wcl, vI ir, vI ip, vR m33, vI shu, vR m35, vI qf, vI qr], zI m10 (cy 0) 68 f10, zI m12 (cy 0) 389 f12] H := hP
          have hD : va_D A [zO mm 12 [vI th, vR m1, vI tp, vI sz_, vI ap, vI bad, vI bk, vI opn, vI fp, vR m9, vR m10, vR m11, vR m12, vR m13, vR m14, vR m15, vI im, vI nr, vI nl, vR m19, vR m20, vR m21, vI sp_, vR m23, vR m24, vR m25, vR m26, vR m27, vR m28, vI wtc, vI wcl, vI ir, vI ip, vR m33, vI shu, vR m35, vI qf, vI qr], zI m10 (cy 0) 68 f10, zI m12 (cy 0) 389 f12] := hD
          refine lv_iadd hx hb dX12_sweeps_93 ?_
          refine lt_z (fun z_24 ez_24 lz_24 hz_24 => ?_)
          refine lv_bipush (v := iI 10) hx hb dX12_sweeps_94 (by decide) ?_
          refine lv_iload hx hb dX12_sweeps_96 (lv_at hlv 9 rfl) ?_
          refine lv_imul hx hb dX12_sweeps_98 ?_
          refine lt_z (fun z_25 ez_25 lz_25 hz_25 => ?_)
          refine lv_iload hx hb dX12_sweeps_99 (lv_at hlv 3 rfl) ?_
          refine lv_iadd hx hb dX12_sweeps_101 ?_
          refine lt_z (fun z_26 ez_26 lz_26 hz_26 => ?_)
          refine cj_v (wr := []) (va_runV (As := [vI z_20, vI (u1.2.1 0), vI (u2.2.1 0), vI z_24, vI z_26]) (rest := []) ⟨hx, hb, hml, hown, hts⟩ (IH mm m1 m9 m10 m11 m12 m13 m14 m15 m19 m20 m21 m23 m24 m25 m26 m27 m28 m33 m35 th tp sz_ ap bad bk opn fp im nr nl sp_ wtc wcl ir ip shu qf qr f10 f12 z_20 (u1.2.1 0) (u2.2.1 0) z_24 z_26 H.size (by first | exact hr_th | omega) (by first | exact hr_tp | omega) (by first | exact hr_sz_ | omega) (by first | exact hr_ap | omega) (by first | exact hr_bad | omega) (by first | exact hr_bk | omega) (by first | exact hr_opn | omega) (by first | exact hr_fp | omega) (by first | exact hr_im | omega) (by first | exact hr_nr | omega) (by first | exact hr_nl | omega) (by first | exact hr_sp_ | omega) (by first | exact hr_wtc | omega) (by first | exact hr_wcl | omega) (by first | exact hr_ir | omega) (by first | exact hr_ip | omega) (by first | exact hr_shu | omega) (by first | exact hl6_2 | omega) (by first | exact hl6_3 | omega) (by omega) (by first | exact hq1_1 | omega) (by first | exact hq2_1 | omega) (by omega) (by omega) hq2_2 hq2_3 (by omega)) (cwV 5 hts gh_X12_sweeps_406 rfl rfl rfl (by decide +kernel) ⟨by dsimp only [headSpec]; omega, by dsimp only [headSpec]; omega⟩) ⟨pcW.blind, (va_recv hG.1 hP (ci := 12) (q0 := 0) rfl rfl), (pcW.mk hP hD hS hA hG hT [0, 1, 2] rfl (by decide))⟩ rfl rfl hlv.1 rfl (lv_room (Nat.le_of_ble_eq_true rfl)) dX12_sweeps_102 ⟨Nat.le_of_ble_eq_true rfl, Nat.le_of_ble_eq_true rfl⟩) hP hD hS hA [0, 1, 2] [] rfl rfl (by decide) (by decide) (fun u5 H locs hw5 hP hD hS => ?_)
          obtain ⟨hq5_0, hq5_1, hq5_2, hq5_3⟩ := hw5
          have hP : va_P D vwCl [zO mm 12 [vI th, vR m1, vI tp, vI sz_, vI ap, vI bad, vI bk, vI opn, vI fp, vR m9, vR m10, vR m11, vR m12, vR m13, vR m14, vR m15, vI im, vI nr, vI nl, vR m19, vR m20, vR m21, vI sp_, vR m23, vR m24, vR m25, vR m26, vR m27, vR m28, vI wtc, vI wcl, vI ir, vI ip, vR m33, vI shu, vR m35, vI (u5.2.1 0), vI (u5.2.1 1)], zI m10 (cy 0) 68 f10, zI m12 (cy 0) 389 f12] H := hP
          have hD : va_D A [zO mm 12 [vI th, vR m1, vI tp, vI sz_, vI ap, vI bad, vI bk, vI opn, vI fp, vR m9, vR m10, vR m11, vR m12, vR m13, vR m14, vR m15, vI im, vI nr, vI nl, vR m19, vR m20, vR m21, vI sp_, vR m23, vR m24, vR m25, vR m26, vR m27, vR m28, vI wtc, vI wcl, vI ir, vI ip, vR m33, vI shu, vR m35, vI (u5.2.1 0), vI (u5.2.1 1)], zI m10 (cy 0) 68 f10, zI m12 (cy 0) 389 f12] := hD
          obtain ⟨z_27, hz_27⟩ : ∃ z : Int, z = q7 + 1 := ⟨_, rfl⟩
          refine lv_iinc (v := iI z_27) (lv' := [(7, vI z_27), (9, vI (u2.2.1 0)), (8, vI (u1.2.1 0)), (6, vI 1), (0, vR mm), (1, vI us), (2, vI x), (3, vI y), (4, vI fa), (5, vI gd)]) hx hb dX12_sweeps_105 hlv (k := 3) rfl (by rw [hz_27]; exact (Int32.ofInt_add _ _).symm) (by decide) rfl (fun ls hlv => ?_)
          refine lv_goto (tgt := 6) hx hb dX12_sweeps_108 (by decide) ?_
          exact ih6 1 z_27 (u5.2.1 0) (u5.2.1 1) H locs ls (by omega) (by show (0 : Int) ≤ 1 ∧ (1 : Int) ≤ 1; decide) (by omega) (by first | exact hq5_0 | omega) (by first | exact hq5_1 | omega)  (hP.sub [0, 1, 2] rfl) (hD.sub [0, 1, 2] (by decide) rfl) hS (lv_sub hlv [0, 3, 4, 5, 6, 7, 8, 9] rfl)
        · refine lv_goto (tgt := 105) hx hb dX12_sweeps_41 (by decide) ?_
          obtain ⟨z_28, hz_28⟩ : ∃ z : Int, z = q7 + 1 := ⟨_, rfl⟩
          refine lv_iinc (v := iI z_28) (lv' := [(7, vI z_28), (6, vI q6), (0, vR mm), (1, vI us), (2, vI x), (3, vI y), (4, vI fa), (5, vI gd)]) hx hb dX12_sweeps_105 hlv (k := 0) rfl (by rw [hz_28]; exact (Int32.ofInt_add _ _).symm) (by decide) rfl (fun ls hlv => ?_)
          refine lv_goto (tgt := 6) hx hb dX12_sweeps_108 (by decide) ?_
          exact ih6 q6 z_28 qf qr H locs ls (by omega) (by first | exact hl6_0 | omega) (by omega) (by first | exact hl6_2 | omega) (by first | exact hl6_3 | omega)  (hP.sub [0, 1, 2] rfl) (hD.sub [0, 1, 2] (by decide) rfl) hS (lv_sub hlv [0, 1, 2, 3, 4, 5, 6, 7] rfl)
theorem MS_all (l : Launch) (hl : l.stackTraces = false) (D : va_G) (cy : Nat → ClassId) (sa : Nat → Nat) : ∀ d : Nat, MS l D cy sa d := by
  intro d
  induction d with
  | zero => exact fun mm m1 m9 m10 m11 m12 m13 m14 m15 m19 m20 m21 m23 m24 m25 m26 m27 m28 m33 m35 th tp sz_ ap bad bk opn fp im nr nl sp_ wtc wcl ir ip shu sfa swr f10 f12 us x y fa gd sz hr_th hr_tp hr_sz_ hr_ap hr_bad hr_bk hr_opn hr_fp hr_im hr_nr hr_nl hr_sp_ hr_wtc hr_wcl hr_ir hr_ip hr_shu hr_sfa hr_swr hr_us hr_x hr_y hr_fa hr_gd hf10 hf12 hlev => by exfalso; omega
  | succ d ih => exact fun mm m1 m9 m10 m11 m12 m13 m14 m15 m19 m20 m21 m23 m24 m25 m26 m27 m28 m33 m35 th tp sz_ ap bad bk opn fp im nr nl sp_ wtc wcl ir ip shu sfa swr f10 f12 us x y fa gd sz hr_th hr_tp hr_sz_ hr_ap hr_bad hr_bk hr_opn hr_fp hr_im hr_nr hr_nl hr_sp_ hr_wtc hr_wcl hr_ir hr_ip hr_shu hr_sfa hr_swr hr_us hr_x hr_y hr_fa hr_gd hf10 hf12 hlev => m_sweeps_step l hl D cy sa d ih mm m1 m9 m10 m11 m12 m13 m14 m15 m19 m20 m21 m23 m24 m25 m26 m27 m28 m33 m35 th tp sz_ ap bad bk opn fp im nr nl sp_ wtc wcl ir ip shu sfa swr f10 f12 us x y fa gd sz hr_th hr_tp hr_sz_ hr_ap hr_bad hr_bk hr_opn hr_fp hr_im hr_nr hr_nl hr_sp_ hr_wtc hr_wcl hr_ir hr_ip hr_shu hr_sfa hr_swr hr_us hr_x hr_y hr_fa hr_gd hf10 hf12 hlev
theorem m_sweeps (l : Launch) (hl : l.stackTraces = false) (D : va_G) (cy : Nat → ClassId) (sa : Nat → Nat) (mm m1 m9 m10 m11 m12 m13 m14 m15 m19 m20 m21 m23 m24 m25 m26 m27 m28 m33 m35 : Nat) (th tp sz_ ap bad bk opn fp im nr nl sp_ wtc wcl ir ip shu sfa swr : Int) (f10 f12 : Nat → Int32) (us x y fa gd : Int) (sz : Nat) (hr_th : (-2147483648) ≤ th ∧ th ≤ 2147483647) (hr_tp : 0 ≤ tp ∧ tp ≤ 600) (hr_sz_ : 0 ≤ sz_ ∧ sz_ ≤ 600) (hr_ap : 0 ≤ ap ∧ ap ≤ 602) (hr_bad : (-1) ≤ bad ∧ bad ≤ 602) (hr_bk : 0 ≤ bk ∧ bk ≤ 4) (hr_opn : 0 ≤ opn ∧ opn ≤ 7) (hr_fp : (-2147483648) ≤ fp ∧ fp ≤ 2147483647) (hr_im : 0 ≤ im ∧ im ≤ 3) (hr_nr : 0 ≤ nr ∧ nr ≤ 4) (hr_nl : 0 ≤ nl ∧ nl ≤ 4) (hr_sp_ : 0 ≤ sp_ ∧ sp_ ≤ 602) (hr_wtc : (-2147483648) ≤ wtc ∧ wtc ≤ 2147483647) (hr_wcl : 0 ≤ wcl ∧ wcl ≤ 95) (hr_ir : 0 ≤ ir ∧ ir ≤ 5) (hr_ip : (-2147483648) ≤ ip ∧ ip ≤ 2147483647) (hr_shu : (-2147483648) ≤ shu ∧ shu ≤ 2147483647) (hr_sfa : (-2147483648) ≤ sfa ∧ sfa ≤ 2147483647) (hr_swr : (-2147483648) ≤ swr ∧ swr ≤ 2147483647) (hr_us : 0 ≤ us ∧ us ≤ 63) (hr_x : 0 ≤ x ∧ x ≤ 15) (hr_y : 0 ≤ y ∧ y ≤ 5) (hr_fa : (-2147483648) ≤ fa ∧ fa ≤ 2147483647) (hr_gd : (-2147483648) ≤ gd ∧ gd ≤ 2147483647) (hf10 : BI f10) (hf12 : SI 8 f12) : Met l yX12_sweeps vs_m_sweeps ({ frames := 256, cells := 0, slots := 0, locals := 12800 }) (va_Pc [vR mm, vI us, vI x, vI y, vI fa, vI gd] (pcW D cy sa sz [zO mm 12 [vI th, vR m1, vI tp, vI sz_, vI ap, vI bad, vI bk, vI opn, vI fp, vR m9, vR m10, vR m11, vR m12, vR m13, vR m14, vR m15, vI im, vI nr, vI nl, vR m19, vR m20, vR m21, vI sp_, vR m23, vR m24, vR m25, vR m26, vR m27, vR m28, vI wtc, vI wcl, vI ir, vI ip, vR m33, vI shu, vR m35, vI sfa, vI swr], zI m10 (cy 0) 68 f10, zI m12 (cy 0) 389 f12])) (va_Qv (fun u : SV => ((-2147483648) ≤ u.2.1 0 ∧ u.2.1 0 ≤ 2147483647) ∧ ((-2147483648) ≤ u.2.1 1 ∧ u.2.1 1 ≤ 2147483647) ∧ BI f10 ∧ SI 8 f12) (fun u t => atW D (va_A [zO mm 12 [vI th, vR m1, vI tp, vI sz_, vI ap, vI bad, vI bk, vI opn, vI fp, vR m9, vR m10, vR m11, vR m12, vR m13, vR m14, vR m15, vI im, vI nr, vI nl, vR m19, vR m20, vR m21, vI sp_, vR m23, vR m24, vR m25, vR m26, vR m27, vR m28, vI wtc, vI wcl, vI ir, vI ip, vR m33, vI shu, vR m35, vI sfa, vI swr], zI m10 (cy 0) 68 f10, zI m12 (cy 0) 389 f12] sz) [zO mm 12 [vI th, vR m1, vI tp, vI sz_, vI ap, vI bad, vI bk, vI opn, vI fp, vR m9, vR m10, vR m11, vR m12, vR m13, vR m14, vR m15, vI im, vI nr, vI nl, vR m19, vR m20, vR m21, vI sp_, vR m23, vR m24, vR m25, vR m26, vR m27, vR m28, vI wtc, vI wcl, vI ir, vI ip, vR m33, vI shu, vR m35, vI (u.2.1 0), vI (u.2.1 1)], zI m10 (cy 0) 68 f10, zI m12 (cy 0) 389 f12] t) (va_A [zO mm 12 [vI th, vR m1, vI tp, vI sz_, vI ap, vI bad, vI bk, vI opn, vI fp, vR m9, vR m10, vR m11, vR m12, vR m13, vR m14, vR m15, vI im, vI nr, vI nl, vR m19, vR m20, vR m21, vI sp_, vR m23, vR m24, vR m25, vR m26, vR m27, vR m28, vI wtc, vI wcl, vI ir, vI ip, vR m33, vI shu, vR m35, vI sfa, vI swr], zI m10 (cy 0) 68 f10, zI m12 (cy 0) 389 f12] sz)) 0 0 (va_A [zO mm 12 [vI th, vR m1, vI tp, vI sz_, vI ap, vI bad, vI bk, vI opn, vI fp, vR m9, vR m10, vR m11, vR m12, vR m13, vR m14, vR m15, vI im, vI nr, vI nl, vR m19, vR m20, vR m21, vI sp_, vR m23, vR m24, vR m25, vR m26, vR m27, vR m28, vI wtc, vI wcl, vI ir, vI ip, vR m33, vI shu, vR m35, vI sfa, vI swr], zI m10 (cy 0) 68 f10, zI m12 (cy 0) 389 f12] sz) :=
  (MS_all l hl D cy sa 64) mm m1 m9 m10 m11 m12 m13 m14 m15 m19 m20 m21 m23 m24 m25 m26 m27 m28 m33 m35 th tp sz_ ap bad bk opn fp im nr nl sp_ wtc wcl ir ip shu sfa swr f10 f12 us x y fa gd sz hr_th hr_tp hr_sz_ hr_ap hr_bad hr_bk hr_opn hr_fp hr_im hr_nr hr_nl hr_sp_ hr_wtc hr_wcl hr_ir hr_ip hr_shu hr_sfa hr_swr hr_us hr_x hr_y hr_fa hr_gd hf10 hf12 (by omega)
def vs_m_sweep : List Cond := .code yX12_sweep cX12_sweep 2 (some .int) :: (([.fieldLink RX12 1 "KerbSplashModel" "thrown" "I", .fieldLink RX12 409 "KerbSplashModel" "sweepFar" "I", .fieldLink RX12 412 "KerbSplashModel" "sweepRow" "I"] : List Cond) ++ ((wsX120) ++ ((va_wsS RX12 279 yX12_within vs_m_within) ++ ((wsV RX12 175 RX12 yX12_may vs_m_may) ++ ((wsV RX12 406 RX12 yX12_sweeps vs_m_sweeps) ++ ([]))))))
set_option maxHeartbeats 4000000 in
set_option maxRecDepth 100000 in
theorem m_sweep (l : Launch) (hl : l.stackTraces = false) (D : va_G) (cy : Nat → ClassId) (sa : Nat → Nat) (mm m1 m9 m10 m11 m12 m13 m14 m15 m19 m20 m21 m23 m24 m25 m26 m27 m28 m33 m35 : Nat) (th tp sz_ ap bad bk opn fp im nr nl sp_ wtc wcl ir ip shu sfa swr : Int) (f1 f10 f12 : Nat → Int32) (n : Int) (sz : Nat) (hr_th : (-2147483648) ≤ th ∧ th ≤ 2147483647) (hr_tp : 0 ≤ tp ∧ tp ≤ 600) (hr_sz_ : 0 ≤ sz_ ∧ sz_ ≤ 600) (hr_ap : 0 ≤ ap ∧ ap ≤ 602) (hr_bad : (-1) ≤ bad ∧ bad ≤ 602) (hr_bk : 0 ≤ bk ∧ bk ≤ 4) (hr_opn : 0 ≤ opn ∧ opn ≤ 7) (hr_fp : (-2147483648) ≤ fp ∧ fp ≤ 2147483647) (hr_im : 0 ≤ im ∧ im ≤ 3) (hr_nr : 0 ≤ nr ∧ nr ≤ 4) (hr_nl : 0 ≤ nl ∧ nl ≤ 4) (hr_sp_ : 0 ≤ sp_ ∧ sp_ ≤ 602) (hr_wtc : (-2147483648) ≤ wtc ∧ wtc ≤ 2147483647) (hr_wcl : 0 ≤ wcl ∧ wcl ≤ 95) (hr_ir : 0 ≤ ir ∧ ir ≤ 5) (hr_ip : (-2147483648) ≤ ip ∧ ip ≤ 2147483647) (hr_shu : (-2147483648) ≤ shu ∧ shu ≤ 2147483647) (hr_sfa : (-2147483648) ≤ sfa ∧ sfa ≤ 2147483647) (hr_swr : (-2147483648) ≤ swr ∧ swr ≤ 2147483647) (hr_n : (-2147483648) ≤ n ∧ n ≤ 2147483647) (hf10 : BI f10) (hf12 : SI 8 f12) : Met l yX12_sweep vs_m_sweep ({ frames := 257, cells := 0, slots := 0, locals := 12829 }) (va_Pc [vR mm, vI n] (pcW D cy sa sz [zO mm 12 [vI th, vR m1, vI tp, vI sz_, vI ap, vI bad, vI bk, vI opn, vI fp, vR m9, vR m10, vR m11, vR m12, vR m13, vR m14, vR m15, vI im, vI nr, vI nl, vR m19, vR m20, vR m21, vI sp_, vR m23, vR m24, vR m25, vR m26, vR m27, vR m28, vI wtc, vI wcl, vI ir, vI ip, vR m33, vI shu, vR m35, vI sfa, vI swr], zI m1 (cy 0) 4 f1, zI m10 (cy 0) 68 f10, zI m12 (cy 0) 389 f12])) (va_Qi (fun (r : Int32) (u : SV) => r = iI (u.2.1 0) ∧ ((-2147483648) ≤ u.2.1 1 ∧ u.2.1 1 ≤ 2147483647) ∧ ((-2147483648) ≤ u.2.1 2 ∧ u.2.1 2 ≤ 2147483647) ∧ ((-2147483648) ≤ u.2.1 3 ∧ u.2.1 3 ≤ 2147483647) ∧ ((-2147483648) ≤ u.2.1 0 ∧ u.2.1 0 ≤ 2147483647) ∧ BI f10 ∧ SI 8 f12) (fun u t => atW D (va_A [zO mm 12 [vI th, vR m1, vI tp, vI sz_, vI ap, vI bad, vI bk, vI opn, vI fp, vR m9, vR m10, vR m11, vR m12, vR m13, vR m14, vR m15, vI im, vI nr, vI nl, vR m19, vR m20, vR m21, vI sp_, vR m23, vR m24, vR m25, vR m26, vR m27, vR m28, vI wtc, vI wcl, vI ir, vI ip, vR m33, vI shu, vR m35, vI sfa, vI swr], zI m1 (cy 0) 4 f1, zI m10 (cy 0) 68 f10, zI m12 (cy 0) 389 f12] sz) [zO mm 12 [vI (u.2.1 1), vR m1, vI tp, vI sz_, vI ap, vI bad, vI bk, vI opn, vI fp, vR m9, vR m10, vR m11, vR m12, vR m13, vR m14, vR m15, vI im, vI nr, vI nl, vR m19, vR m20, vR m21, vI sp_, vR m23, vR m24, vR m25, vR m26, vR m27, vR m28, vI wtc, vI wcl, vI ir, vI ip, vR m33, vI shu, vR m35, vI (u.2.1 2), vI (u.2.1 3)], zI m1 (cy 0) 4 (u.2.2 0), zI m10 (cy 0) 68 f10, zI m12 (cy 0) 389 f12] t) (va_A [zO mm 12 [vI th, vR m1, vI tp, vI sz_, vI ap, vI bad, vI bk, vI opn, vI fp, vR m9, vR m10, vR m11, vR m12, vR m13, vR m14, vR m15, vI im, vI nr, vI nl, vR m19, vR m20, vR m21, vI sp_, vR m23, vR m24, vR m25, vR m26, vR m27, vR m28, vI wtc, vI wcl, vI ir, vI ip, vR m33, vI shu, vR m35, vI sfa, vI swr], zI m1 (cy 0) 4 f1, zI m10 (cy 0) 68 f10, zI m12 (cy 0) 389 f12] sz)) 0 0 (va_A [zO mm 12 [vI th, vR m1, vI tp, vI sz_, vI ap, vI bad, vI bk, vI opn, vI fp, vR m9, vR m10, vR m11, vR m12, vR m13, vR m14, vR m15, vI im, vI nr, vI nl, vR m19, vR m20, vR m21, vI sp_, vR m23, vR m24, vR m25, vR m26, vR m27, vR m28, vI wtc, vI wcl, vI ir, vI ip, vR m33, vI shu, vR m35, vI sfa, vI swr], zI m1 (cy 0) 4 f1, zI m10 (cy 0) 68 f10, zI m12 (cy 0) 389 f12] sz) := by
  refine Met.ofW (cc := cX12_sweep) (maxL := 2) (ret := (some .int)) (by decide) rfl ?_
  intro p e s m args below meth c s₁ B hml hv
  obtain ⟨rfl, hsz, hP, hG, hD0, hT⟩ := hv
  have hx := B.exec
  have hb := B.bytes
  have hr := B.returns
  have hts := atoms_spec (ws := vs_m_sweep) B.pre
  have hown : s.vm.findClass RX12 = some m.cls := findClass_of_methodNamed B.named
  have hlocks := B.notSynchronized
  subst hsz
  have hD := hD0.self (sz := s.heap.size)
  generalize hAe : va_A [zO mm 12 [vI th, vR m1, vI tp, vI sz_, vI ap, vI bad, vI bk, vI opn, vI fp, vR m9, vR m10, vR m11, vR m12, vR m13, vR m14, vR m15, vI im, vI nr, vI nl, vR m19, vR m20, vR m21, vI sp_, vR m23, vR m24, vR m25, vR m26, vR m27, vR m28, vI wtc, vI wcl, vI ir, vI ip, vR m33, vI shu, vR m35, vI sfa, vI swr], zI m1 (cy 0) 4 f1, zI m10 (cy 0) 68 f10, zI m12 (cy 0) 389 f12] s.heap.size = A at hD hT ⊢
  have hA : ∀ q : Nat, s.heap.size ≤ q → A q := fun q h => by rw [← hAe]; exact Or.inr h
  have hS : va_S A s.heap s.heap [] := va_S.rf
  have hl0 := lv_entry ([vR mm, vI n]) (n := 2) (Nat.le_of_ble_eq_true rfl)
  rw [lg_entry_eq]
  generalize (lg_sl ([vR mm, vI n]) ++ List.replicate (2 - (lg_sl ([vR mm, vI n])).length) Slot.unset).toArray = ls at hl0 ⊢
  have hlv : lv_has ls 2 [(0, vR mm), (1, vI n)] := hl0
  have lf1 := hts (.fieldLink RX12 1 "KerbSplashModel" "thrown" "I") (List.mem_of_getElem? (i := 1) rfl)
  have hi12 : ∀ w ∈ wsX120, w ∈ vs_m_sweep := fun w h => List.mem_cons_of_mem _ (List.mem_append_right _ (List.mem_append_left _ h))
  have gg_1 : GoodIn vs_m_sweep (va_wsS RX12 279 yX12_within vs_m_within) := goodIn_sub (fun w h => List.mem_cons_of_mem _ (List.mem_append_right _ (List.mem_append_right _ (List.mem_append_left _ h)))) (gd_S gd_m_within (by decide +kernel))
  have gg_2 : GoodIn vs_m_sweep (wsV RX12 175 RX12 yX12_may vs_m_may) := goodIn_sub (fun w h => List.mem_cons_of_mem _ (List.mem_append_right _ (List.mem_append_right _ (List.mem_append_right _ (List.mem_append_left _ h))))) (gd_V gd_m_may (by decide +kernel))
  have lf409 := hts (.fieldLink RX12 409 "KerbSplashModel" "sweepFar" "I") (List.mem_of_getElem? (i := 2) rfl)
  have gg_3 : GoodIn vs_m_sweep (wsV RX12 406 RX12 yX12_sweeps vs_m_sweeps) := goodIn_sub (fun w h => List.mem_cons_of_mem _ (List.mem_append_right _ (List.mem_append_right _ (List.mem_append_right _ (List.mem_append_right _ (List.mem_append_left _ h)))))) (gd_V gd_m_sweeps (by decide +kernel))
  have lf412 := hts (.fieldLink RX12 412 "KerbSplashModel" "sweepRow" "I") (List.mem_of_getElem? (i := 3) rfl)
  refine lv_aload_n hx hb dX12_sweep_0 rfl (lv_at hlv 0 rfl) ?_
  refine lv_iconst (v := iI 0) hx hb dX12_sweep_1 (by decide) ?_
  refine va_put (D := D) (ci := 12) (v := vI 0) (ty := .int) (C := RX12) (T := TX12) (N := 38) hx hb hts hi12 tyX12 tyX12_ok nmX12 hown hG.1 hP hD hS 0 rfl rfl 0 (by decide) lf1 (fun _ h9 => h9) rfl (by decide +kernel) rfl rfl (Nat.le_of_ble_eq_true rfl) dX12_sweep_2 (fun H locs hP hD hS => ?_)
  have hP : va_P D vwCl [zO mm 12 [vI 0, vR m1, vI tp, vI sz_, vI ap, vI bad, vI bk, vI opn, vI fp, vR m9, vR m10, vR m11, vR m12, vR m13, vR m14, vR m15, vI im, vI nr, vI nl, vR m19, vR m20, vR m21, vI sp_, vR m23, vR m24, vR m25, vR m26, vR m27, vR m28, vI wtc, vI wcl, vI ir, vI ip, vR m33, vI shu, vR m35, vI sfa, vI swr], zI m1 (cy 0) 4 f1, zI m10 (cy 0) 68 f10, zI m12 (cy 0) 389 f12] H := hP
  have hD : va_D A [zO mm 12 [vI 0, vR m1, vI tp, vI sz_, vI ap, vI bad, vI bk, vI opn, vI fp, vR m9, vR m10, vR m11, vR m12, vR m13, vR m14, vR m15, vI im, vI nr, vI nl, vR m19, vR m20, vR m21, vI sp_, vR m23, vR m24, vR m25, vR m26, vR m27, vR m28, vI wtc, vI wcl, vI ir, vI ip, vR m33, vI shu, vR m35, vI sfa, vI swr], zI m1 (cy 0) 4 f1, zI m10 (cy 0) 68 f10, zI m12 (cy 0) 389 f12] := hD
  refine lv_aload_n hx hb dX12_sweep_5 rfl (lv_at hlv 0 rfl) ?_
  refine lv_iload_n hx hb dX12_sweep_6 rfl (lv_at hlv 1 rfl) ?_
  refine lv_iconst (v := iI 0) hx hb dX12_sweep_7 (by decide) ?_
  refine lv_iconst (v := iI 1) hx hb dX12_sweep_8 (by decide) ?_
  refine cj_i (wr := [zO mm 12 [vI 0, vR m1, vI tp, vI sz_, vI ap, vI bad, vI bk, vI opn, vI fp, vR m9, vR m10, vR m11, vR m12, vR m13, vR m14, vR m15, vI im, vI nr, vI nl, vR m19, vR m20, vR m21, vI sp_, vR m23, vR m24, vR m25, vR m26, vR m27, vR m28, vI wtc, vI wcl, vI ir, vI ip, vR m33, vI shu, vR m35, vI sfa, vI swr], zI m1 (cy 0) 4 f1, zI m10 (cy 0) 68 f10, zI m12 (cy 0) 389 f12]) (va_runS (As := [vI n, vI 0, vI 1]) (rest := [vR mm]) ⟨hx, hb, hml, hown, hts⟩ (m_within l hl D cy sa n 0 1 H.size (by first | exact hr_n | omega) (by show ((-2147483648) : Int) ≤ 0 ∧ (0 : Int) ≤ 2147483647; decide) (by show ((-2147483648) : Int) ≤ 1 ∧ (1 : Int) ≤ 2147483647; decide)) (va_cwS 3 hts gg_1 rfl rfl rfl (by decide +kernel) ⟨Nat.le_of_ble_eq_true rfl, Nat.le_of_ble_eq_true rfl⟩) ⟨pcW.blind, (pcW.mk hP hD hS hA hG hT [] rfl (by decide))⟩ rfl rfl hlv.1 rfl (lv_room (Nat.le_of_ble_eq_true rfl)) dX12_sweep_9 ⟨Nat.le_of_ble_eq_true rfl, Nat.le_of_ble_eq_true rfl⟩) hP hD hS hA [] [0, 1, 2, 3] rfl rfl (by decide) (by decide) (fun r1 u1 H locs hw1 hP hD hS => ?_)
  obtain ⟨rfl, hq1_1, hq1_2, hq1_3⟩ := hw1
  have hP : va_P D vwCl [zO mm 12 [vI 0, vR m1, vI tp, vI sz_, vI ap, vI bad, vI bk, vI opn, vI fp, vR m9, vR m10, vR m11, vR m12, vR m13, vR m14, vR m15, vI im, vI nr, vI nl, vR m19, vR m20, vR m21, vI sp_, vR m23, vR m24, vR m25, vR m26, vR m27, vR m28, vI wtc, vI wcl, vI ir, vI ip, vR m33, vI shu, vR m35, vI sfa, vI swr], zI m1 (cy 0) 4 f1, zI m10 (cy 0) 68 f10, zI m12 (cy 0) 389 f12] H := hP
  have hD : va_D A [zO mm 12 [vI 0, vR m1, vI tp, vI sz_, vI ap, vI bad, vI bk, vI opn, vI fp, vR m9, vR m10, vR m11, vR m12, vR m13, vR m14, vR m15, vI im, vI nr, vI nl, vR m19, vR m20, vR m21, vI sp_, vR m23, vR m24, vR m25, vR m26, vR m27, vR m28, vI wtc, vI wcl, vI ir, vI ip, vR m33, vI shu, vR m35, vI sfa, vI swr], zI m1 (cy 0) 4 f1, zI m10 (cy 0) 68 f10, zI m12 (cy 0) 389 f12] := hD
  refine lv_iconst (v := iI 1) hx hb dX12_sweep_12 (by decide) ?_
  refine lv_iconst (v := iI 2) hx hb dX12_sweep_13 (by decide) ?_
  refine cj_i (wr := [zI m10 (cy 0) 68 f10, zI m12 (cy 0) 389 f12]) (va_runV (As := [vI (u1.2.1 0), vI 1, vI 2]) (rest := []) ⟨hx, hb, hml, hown, hts⟩ (m_may l hl D cy sa mm m1 m9 m10 m11 m12 m13 m14 m15 m19 m20 m21 m23 m24 m25 m26 m27 m28 m33 m35 0 tp sz_ ap bad bk opn fp im nr nl sp_ wtc wcl ir ip shu sfa swr f1 (u1.2.1 0) 1 2 H.size (by show ((-2147483648) : Int) ≤ 0 ∧ (0 : Int) ≤ 2147483647; decide) (by first | exact hr_tp | omega) (by first | exact hr_sz_ | omega) (by first | exact hr_ap | omega) (by first | exact hr_bad | omega) (by first | exact hr_bk | omega) (by first | exact hr_opn | omega) (by first | exact hr_fp | omega) (by first | exact hr_im | omega) (by first | exact hr_nr | omega) (by first | exact hr_nl | omega) (by first | exact hr_sp_ | omega) (by first | exact hr_wtc | omega) (by first | exact hr_wcl | omega) (by first | exact hr_ir | omega) (by first | exact hr_ip | omega) (by first | exact hr_shu | omega) (by first | exact hr_sfa | omega) (by first | exact hr_swr | omega) (by first | exact hq1_1 | omega) (by show (1 : Int) ≤ 1 ∧ (1 : Int) ≤ 4; decide) (by show (0 : Int) ≤ 2 ∧ (2 : Int) ≤ 3; decide)) (cwV 3 hts gg_2 rfl rfl rfl (by decide +kernel) ⟨Nat.le_of_ble_eq_true rfl, Nat.le_of_ble_eq_true rfl⟩) ⟨pcW.blind, (va_recv hG.1 hP (ci := 12) (q0 := 0) rfl rfl), (pcW.mk hP hD hS hA hG hT [0, 1] rfl (by decide))⟩ rfl rfl hlv.1 rfl (lv_room (Nat.le_of_ble_eq_true rfl)) dX12_sweep_14 ⟨Nat.le_of_ble_eq_true rfl, Nat.le_of_ble_eq_true rfl⟩) hP hD hS hA [0, 1] [2, 3] rfl rfl (by decide) (by decide) (fun r2 u2 H locs hw2 hP hD hS => ?_)
  obtain ⟨rfl, hq2_1, hq2_2, hq2_3, hq2_4⟩ := hw2
  have hP : va_P D vwCl [zI m10 (cy 0) 68 f10, zI m12 (cy 0) 389 f12, zO mm 12 [vI (u2.2.1 1), vR m1, vI tp, vI sz_, vI ap, vI bad, vI bk, vI opn, vI fp, vR m9, vR m10, vR m11, vR m12, vR m13, vR m14, vR m15, vI im, vI nr, vI nl, vR m19, vR m20, vR m21, vI sp_, vR m23, vR m24, vR m25, vR m26, vR m27, vR m28, vI wtc, vI wcl, vI ir, vI ip, vR m33, vI shu, vR m35, vI sfa, vI swr], zI m1 (cy 0) 4 (u2.2.2 0)] H := hP
  have hD : va_D A [zI m10 (cy 0) 68 f10, zI m12 (cy 0) 389 f12, zO mm 12 [vI (u2.2.1 1), vR m1, vI tp, vI sz_, vI ap, vI bad, vI bk, vI opn, vI fp, vR m9, vR m10, vR m11, vR m12, vR m13, vR m14, vR m15, vI im, vI nr, vI nl, vR m19, vR m20, vR m21, vI sp_, vR m23, vR m24, vR m25, vR m26, vR m27, vR m28, vI wtc, vI wcl, vI ir, vI ip, vR m33, vI shu, vR m35, vI sfa, vI swr], zI m1 (cy 0) 4 (u2.2.2 0)] := hD
  refine iz_ne (tgt := 22) hx hb dX12_sweep_17 (by decide) (by first | exact rgw hq2_2 (by decide) (by decide) | omega) (fun c_1 => ?_) (fun c_1 => ?_)
  · refine lv_aload_n hx hb dX12_sweep_22 rfl (lv_at hlv 0 rfl) ?_
    refine lv_iconst (v := iI (-1)) hx hb dX12_sweep_23 (by decide) ?_
    refine va_put (D := D) (ci := 12) (v := vI (-1)) (ty := .int) (C := RX12) (T := TX12) (N := 38) hx hb hts hi12 tyX12 tyX12_ok nmX12 hown hG.1 hP hD hS 2 rfl rfl 36 (by decide) lf409 (fun _ h9 => h9) rfl (by decide +kernel) rfl rfl (Nat.le_of_ble_eq_true rfl) dX12_sweep_24 (fun H locs hP hD hS => ?_)
    have hP : va_P D vwCl [zI m10 (cy 0) 68 f10, zI m12 (cy 0) 389 f12, zO mm 12 [vI (u2.2.1 1), vR m1, vI tp, vI sz_, vI ap, vI bad, vI bk, vI opn, vI fp, vR m9, vR m10, vR m11, vR m12, vR m13, vR m14, vR m15, vI im, vI nr, vI nl, vR m19, vR m20, vR m21, vI sp_, vR m23, vR m24, vR m25, vR m26, vR m27, vR m28, vI wtc, vI wcl, vI ir, vI ip, vR m33, vI shu, vR m35, vI (-1), vI swr], zI m1 (cy 0) 4 (u2.2.2 0)] H := hP
    have hD : va_D A [zI m10 (cy 0) 68 f10, zI m12 (cy 0) 389 f12, zO mm 12 [vI (u2.2.1 1), vR m1, vI tp, vI sz_, vI ap, vI bad, vI bk, vI opn, vI fp, vR m9, vR m10, vR m11, vR m12, vR m13, vR m14, vR m15, vI im, vI nr, vI nl, vR m19, vR m20, vR m21, vI sp_, vR m23, vR m24, vR m25, vR m26, vR m27, vR m28, vI wtc, vI wcl, vI ir, vI ip, vR m33, vI shu, vR m35, vI (-1), vI swr], zI m1 (cy 0) 4 (u2.2.2 0)] := hD
    refine lv_aload_n hx hb dX12_sweep_27 rfl (lv_at hlv 0 rfl) ?_
    refine lv_iconst (v := iI 0) hx hb dX12_sweep_28 (by decide) ?_
    refine lv_iconst (v := iI 0) hx hb dX12_sweep_29 (by decide) ?_
    refine lv_iconst (v := iI 0) hx hb dX12_sweep_30 (by decide) ?_
    refine lv_iconst (v := iI 0) hx hb dX12_sweep_31 (by decide) ?_
    refine lv_iconst (v := iI 0) hx hb dX12_sweep_32 (by decide) ?_
    refine cj_v (wr := [zI m1 (cy 0) 4 (u2.2.2 0)]) (va_runV (As := [vI 0, vI 0, vI 0, vI 0, vI 0]) (rest := []) ⟨hx, hb, hml, hown, hts⟩ (m_sweeps l hl D cy sa mm m1 m9 m10 m11 m12 m13 m14 m15 m19 m20 m21 m23 m24 m25 m26 m27 m28 m33 m35 (u2.2.1 1) tp sz_ ap bad bk opn fp im nr nl sp_ wtc wcl ir ip shu (-1) swr f10 f12 0 0 0 0 0 H.size (by first | exact hq2_1 | omega) (by first | exact hr_tp | omega) (by first | exact hr_sz_ | omega) (by first | exact hr_ap | omega) (by first | exact hr_bad | omega) (by first | exact hr_bk | omega) (by first | exact hr_opn | omega) (by first | exact hr_fp | omega) (by first | exact hr_im | omega) (by first | exact hr_nr | omega) (by first | exact hr_nl | omega) (by first | exact hr_sp_ | omega) (by first | exact hr_wtc | omega) (by first | exact hr_wcl | omega) (by first | exact hr_ir | omega) (by first | exact hr_ip | omega) (by first | exact hr_shu | omega) (by show ((-2147483648) : Int) ≤ (-1) ∧ ((-1) : Int) ≤ 2147483647; decide) (by first | exact hr_swr | omega) (by show (0 : Int) ≤ 0 ∧ (0 : Int) ≤ 63; decide) (by show (0 : Int) ≤ 0 ∧ (0 : Int) ≤ 15; decide) (by show (0 : Int) ≤ 0 ∧ (0 : Int) ≤ 5; decide) (by show ((-2147483648) : Int) ≤ 0 ∧ (0 : Int) ≤ 2147483647; decide) (by show ((-2147483648) : Int) ≤ 0 ∧ (0 : Int) ≤ 2147483647; decide) hf10 hf12) (cwV 5 hts gg_3 rfl rfl rfl (by decide +kernel) ⟨Nat.le_of_ble_eq_true rfl, Nat.le_of_ble_eq_true rfl⟩) ⟨pcW.blind, (va_recv hG.1 hP (ci := 12) (q0 := 2) rfl rfl), (pcW.mk hP hD hS hA hG hT [2, 0, 1] rfl (by decide))⟩ rfl rfl hlv.1 rfl (lv_room (Nat.le_of_ble_eq_true rfl)) dX12_sweep_33 ⟨Nat.le_of_ble_eq_true rfl, Nat.le_of_ble_eq_true rfl⟩) hP hD hS hA [2, 0, 1] [3] rfl rfl (by decide) (by decide) (fun u3 H locs hw3 hP hD hS => ?_)
    obtain ⟨hq3_0, hq3_1, hq3_2, hq3_3⟩ := hw3
    have hP : va_P D vwCl [zI m1 (cy 0) 4 (u2.2.2 0), zO mm 12 [vI (u2.2.1 1), vR m1, vI tp, vI sz_, vI ap, vI bad, vI bk, vI opn, vI fp, vR m9, vR m10, vR m11, vR m12, vR m13, vR m14, vR m15, vI im, vI nr, vI nl, vR m19, vR m20, vR m21, vI sp_, vR m23, vR m24, vR m25, vR m26, vR m27, vR m28, vI wtc, vI wcl, vI ir, vI ip, vR m33, vI shu, vR m35, vI (u3.2.1 0), vI (u3.2.1 1)], zI m10 (cy 0) 68 f10, zI m12 (cy 0) 389 f12] H := hP
    have hD : va_D A [zI m1 (cy 0) 4 (u2.2.2 0), zO mm 12 [vI (u2.2.1 1), vR m1, vI tp, vI sz_, vI ap, vI bad, vI bk, vI opn, vI fp, vR m9, vR m10, vR m11, vR m12, vR m13, vR m14, vR m15, vI im, vI nr, vI nl, vR m19, vR m20, vR m21, vI sp_, vR m23, vR m24, vR m25, vR m26, vR m27, vR m28, vI wtc, vI wcl, vI ir, vI ip, vR m33, vI shu, vR m35, vI (u3.2.1 0), vI (u3.2.1 1)], zI m10 (cy 0) 68 f10, zI m12 (cy 0) 389 f12] := hD
    refine lv_iload_n hx hb dX12_sweep_36 rfl (lv_at hlv 1 rfl) ?_
    refine iz_ne (tgt := 47) hx hb dX12_sweep_37 (by decide) (by first | exact hr_n | omega) (fun c_2 => ?_) (fun c_2 => ?_)
    · refine lv_aload_n hx hb dX12_sweep_47 rfl (lv_at hlv 0 rfl) ?_
      refine va_get (D := D) (ci := 12) (v := vI (u3.2.1 1)) (C := RX12) (T := TX12) (N := 38) hx hb hts hi12 hown hG.1 hP 1 rfl rfl 37 (by decide) lf412 (fun _ h9 => h9) rfl dX12_sweep_48 ?_
      refine W.widen (k := 0) (n := 0) (Nat.le_of_ble_eq_true rfl) (Nat.le_of_ble_eq_true rfl) ?_
      exact W.iret (v := iI (u3.2.1 1)) hx hb hr (fun t ht hW => ⟨⟨iI (u3.2.1 1), ((fun k => ([] : List Nat).getD k 0), (fun k => ([(u3.2.1 1), (u2.2.1 1), (u3.2.1 0), (u3.2.1 1)] : List Int).getD k 0), (fun k => ([(u2.2.2 0)] : List (Nat → Int32)).getD k (fun _ => 0))), rfl, ⟨rfl, (by show ((-2147483648) ≤ (u2.2.1 1) ∧ (u2.2.1 1) ≤ 2147483647); first | exact hq2_1 | omega), (by show ((-2147483648) ≤ (u3.2.1 0) ∧ (u3.2.1 0) ≤ 2147483647); first | exact hq3_0 | omega), (by show ((-2147483648) ≤ (u3.2.1 1) ∧ (u3.2.1 1) ≤ 2147483647); first | exact hq3_1 | omega), (by show ((-2147483648) ≤ (u3.2.1 1) ∧ (u3.2.1 1) ≤ 2147483647); first | exact hq3_1 | omega), hq3_2, hq3_3⟩, by rw [ht]; exact hP.sub [1, 0, 2, 3] rfl, hD.sub [1, 0, 2, 3] (by decide) rfl⟩, hS.F ht⟩) hS.2.2 dX12_sweep_51
    · refine lv_aload_n hx hb dX12_sweep_40 rfl (lv_at hlv 0 rfl) ?_
      refine va_get (D := D) (ci := 12) (v := vI (u3.2.1 0)) (C := RX12) (T := TX12) (N := 38) hx hb hts hi12 hown hG.1 hP 1 rfl rfl 36 (by decide) lf409 (fun _ h9 => h9) rfl dX12_sweep_41 ?_
      refine lv_goto (tgt := 51) hx hb dX12_sweep_44 (by decide) ?_
      refine W.widen (k := 0) (n := 0) (Nat.le_of_ble_eq_true rfl) (Nat.le_of_ble_eq_true rfl) ?_
      exact W.iret (v := iI (u3.2.1 0)) hx hb hr (fun t ht hW => ⟨⟨iI (u3.2.1 0), ((fun k => ([] : List Nat).getD k 0), (fun k => ([(u3.2.1 0), (u2.2.1 1), (u3.2.1 0), (u3.2.1 1)] : List Int).getD k 0), (fun k => ([(u2.2.2 0)] : List (Nat → Int32)).getD k (fun _ => 0))), rfl, ⟨rfl, (by show ((-2147483648) ≤ (u2.2.1 1) ∧ (u2.2.1 1) ≤ 2147483647); first | exact hq2_1 | omega), (by show ((-2147483648) ≤ (u3.2.1 0) ∧ (u3.2.1 0) ≤ 2147483647); first | exact hq3_0 | omega), (by show ((-2147483648) ≤ (u3.2.1 1) ∧ (u3.2.1 1) ≤ 2147483647); first | exact hq3_1 | omega), (by show ((-2147483648) ≤ (u3.2.1 0) ∧ (u3.2.1 0) ≤ 2147483647); first | exact hq3_0 | omega), hq3_2, hq3_3⟩, by rw [ht]; exact hP.sub [1, 0, 2, 3] rfl, hD.sub [1, 0, 2, 3] (by decide) rfl⟩, hS.F ht⟩) hS.2.2 dX12_sweep_51
  · refine lv_iconst (v := iI 0) hx hb dX12_sweep_20 (by decide) ?_
    refine W.widen (k := 0) (n := 0) (Nat.le_of_ble_eq_true rfl) (Nat.le_of_ble_eq_true rfl) ?_
    exact W.iret (v := iI 0) hx hb hr (fun t ht hW => ⟨⟨iI 0, ((fun k => ([] : List Nat).getD k 0), (fun k => ([0, (u2.2.1 1), sfa, swr] : List Int).getD k 0), (fun k => ([(u2.2.2 0)] : List (Nat → Int32)).getD k (fun _ => 0))), rfl, ⟨rfl, (by show ((-2147483648) ≤ (u2.2.1 1) ∧ (u2.2.1 1) ≤ 2147483647); first | exact hq2_1 | omega), (by show ((-2147483648) ≤ sfa ∧ sfa ≤ 2147483647); first | exact hr_sfa | omega), (by show ((-2147483648) ≤ swr ∧ swr ≤ 2147483647); first | exact hr_swr | omega), (by show ((-2147483648) ≤ 0 ∧ 0 ≤ 2147483647); show ((-2147483648) : Int) ≤ 0 ∧ (0 : Int) ≤ 2147483647; decide), hf10, hf12⟩, by rw [ht]; exact hP.sub [2, 3, 0, 1] rfl, hD.sub [2, 3, 0, 1] (by decide) rfl⟩, hS.F ht⟩) hS.2.2 dX12_sweep_21
