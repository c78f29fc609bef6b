theorem X_room {G : xG} {mt : xM} {d rc rs rc' rs' pc : Nat} {ex : Bool} {ls : List (Option Value)} {st : List Value} {h : xH} {Q : xQ} (h1 : rc ≤ rc') (h2 : rs ≤ rs') (k : X G mt d rc rs ex pc ls st h Q) : X G mt d rc' rs' ex pc ls st h Q :=
  fun p e s m args below meth c K H locs cells slots mc ms lsA hP hS hZ q1 q2 hl => k p e s m args below meth c K H locs cells slots mc ms lsA hP hS hZ (by omega) (by omega) hl
theorem nc_s {P : Nat → Prop} {n : Nat} (h : ∀ r, r < n → P r) (hn : P n) : ∀ r, r < n + 1 → P r := fun r hr => (Nat.lt_succ_iff_lt_or_eq.mp hr).elim (h r) (fun e => e ▸ hn)
theorem and127 (a : Int32) : ∃ r : Nat, r < 128 ∧ xI a.toInt &&& xI 127 = xI (r : Int) := by
  refine ⟨a.toBitVec.toNat % 128, Nat.mod_lt _ (by decide), ?_⟩
  rw [xI_of]
  refine Int32.toBitVec_inj.mp ?_
  refine BitVec.eq_of_toNat_eq ?_
  unfold xI
  rw [Int32.toBitVec_and, Int32.toBitVec_ofInt, Int32.toBitVec_ofInt, BitVec.toNat_and, BitVec.ofInt_natCast, BitVec.toNat_ofNat]
  show a.toBitVec.toNat &&& (2 ^ 7 - 1) = _
  rw [Nat.and_two_pow_sub_one_eq_mod, Nat.mod_eq_of_lt (a := a.toBitVec.toNat % 128) (by omega)]
def B_Lst : ByteArray := .mk #[0xbb, 0x00, 0x08, 0x59, 0xb7, 0x00, 0xe8, 0x4c, 0xbb, 0x00, 0xe9, 0x59, 0xb7, 0x00, 0xeb, 0x4d, 0x04, 0xbc, 0x0b, 0x4e, 0x04, 0xbc, 0x07, 0x3a, 0x04, 0x03, 0x36, 0x05]
theorem W_Lst : sameFrom m_L_law.2.1 B_Lst 0 := sameFrom_of (by decide +kernel)
def t_Lst : List (Nat × Instr × Nat) := [(0, .new 8, 3), (3, .dup, 1), (4, .invokespecial 232, 3), (7, .astore_n 1, 1), (8, .new 233, 3), (11, .dup, 1), (12, .invokespecial 235, 3), (15, .astore_n 2, 1), (16, .iconst 1, 1), (17, .newarray .long, 2), (19, .astore_n 3, 1), (20, .iconst 1, 1), (21, .newarray .double, 2), (23, .astore 4, 2), (25, .iconst 0, 1), (26, .istore 5, 2)]
set_option maxRecDepth 20000 in
theorem U_Lst : okT m_L_law.2.1 t_Lst = true := dSt [(0, .new 8, 3), (3, .dup, 1), (4, .invokespecial 232, 3), (7, .astore_n 1, 1), (8, .new 233, 3), (11, .dup, 1), (12, .invokespecial 235, 3), (15, .astore_n 2, 1), (16, .iconst 1, 1), (17, .newarray .long, 2), (19, .astore_n 3, 1), (20, .iconst 1, 1), (21, .newarray .double, 2), (23, .astore 4, 2), (25, .iconst 0, 1), (26, .istore 5, 2)] W_Lst (by decide +kernel) (by decide +kernel)
def B_Lhd : ByteArray := .mk #[0x15, 0x05, 0x2a, 0xbe, 0x10, 0x0a, 0x64, 0xa3, 0x15, 0x95, 0x2a, 0x15, 0x05, 0x2e, 0x10, 0x7f, 0x7e]
theorem W_Lhd : sameFrom m_L_law.2.1 B_Lhd 28 := sameFrom_of (by decide +kernel)
def t_Lhd : List (Nat × Instr × Nat) := [(28, .iload 5, 2), (30, .aload_n 0, 1), (31, .arraylength, 1), (32, .bipush 10, 2), (34, .isub, 1), (35, .if_icmp .gt 5525, 3), (38, .aload_n 0, 1), (39, .iload 5, 2), (41, .iaload, 1), (42, .bipush 127, 2), (44, .iand, 1)]
set_option maxRecDepth 20000 in
theorem U_Lhd : okT m_L_law.2.1 t_Lhd = true := dSt [(0, .iload 5, 2), (2, .aload_n 0, 1), (3, .arraylength, 1), (4, .bipush 10, 2), (6, .isub, 1), (7, .if_icmp .gt 5525, 3), (10, .aload_n 0, 1), (11, .iload 5, 2), (13, .iaload, 1), (14, .bipush 127, 2), (16, .iand, 1)] W_Lhd (by decide +kernel) (by decide +kernel)
def B_Ltl : ByteArray := .mk #[0x03, 0xac, 0x84, 0x05, 0x0a, 0xa7, 0xea, 0x67, 0x04, 0xac]
theorem W_Ltl : sameFrom m_L_law.2.1 B_Ltl 5552 := sameFrom_of (by decide +kernel)
def t_Ltl : List (Nat × Instr × Nat) := [(5552, .iconst 0, 1), (5553, .ireturn, 1), (5554, .iinc 5 10, 3), (5557, .goto (-5529), 3), (5560, .iconst 1, 1), (5561, .ireturn, 1)]
set_option maxRecDepth 20000 in
theorem U_Ltl : okT m_L_law.2.1 t_Ltl = true := dSt [(0, .iconst 0, 1), (1, .ireturn, 1), (2, .iinc 5 10, 3), (5, .goto (-5529), 3), (8, .iconst 1, 1), (9, .ireturn, 1)] W_Ltl (by decide +kernel) (by decide +kernel)
def L_pcs : List Nat := [352, 408, 421, 501, 661, 729, 785, 853, 921, 1013, 1093, 1185, 1277, 1345, 1420, 1488, 1544, 1569, 1625, 1693, 1780, 1872, 1940, 2008, 2064, 2144, 2248, 2408, 2500, 2580, 2660, 2728, 2784, 2864, 2944, 3007, 3099, 3179, 3271, 3358, 3414, 3482, 3578, 3670, 3762, 3882, 3962, 4054, 4122, 4185, 4265, 4333, 4425, 4438, 4494, 4562, 4618, 4674, 4766, 4834, 4902, 4958, 5002, 5053, 5097, 5165, 5245, 5313, 5369, 5437, 5450, 5527, 5541]
def L_pc (r : Nat) : Nat := L_pcs.getD r 0
def L_offs : Array Int := #[307, 363, 376, 456, 616, 684, 740, 808, 876, 968, 1048, 1140, 1232, 1300, 1375, 1443, 1499, 1524, 1580, 1648, 1735, 1827, 1895, 1963, 2019, 2099, 2203, 2363, 2455, 2535, 2615, 2683, 2739, 2819, 2899, 2962, 3054, 3134, 3226, 3313, 3369, 3437, 3533, 3625, 3717, 3837, 3917, 4009, 4077, 4140, 4220, 4288, 4380, 4393, 4449, 4517, 4573, 4629, 4721, 4789, 4857, 4913, 4957, 5008, 5052, 5120, 5200, 5268, 5324, 5392, 5405, 5482, 5496]
set_option maxRecDepth 20000 in
theorem d_L45 : decode m_L_law.2.1 45 = .ok (.tableswitch 5509 0 72 L_offs, 307) := by decide +kernel
set_option maxRecDepth 20000 in
theorem L_off0 : ∀ r ∈ List.range 73, L_offs[((r : Int) - 0).toNat]? = some ((L_pc r : Int) - 45) := by decide +kernel
theorem L_tail {G : xG} {d rc rs : Nat} {ex : Bool} {h : xH} {Q : xQ} {i : Nat} (k : X G m_L_law (d + 10) rc rs ex 28 [some (.ref 0), some (.ref 3), some (.ref 70), some (.ref 143), some (.ref 144), some (vi ((i + 10 : Nat) : Int)), none, none, none] [] h Q) : X G m_L_law (d + 10) rc rs ex 5554 [some (.ref 0), some (.ref 3), some (.ref 70), some (.ref 143), some (.ref 144), some (vi (i : Int)), none, none, none] [] h Q := by
  refine x_iinc (ls' := [some (.ref 0), some (.ref 3), some (.ref 70), some (.ref 143), some (.ref 144), some (vi ((i + 10 : Nat) : Int)), none, none, none]) (dT U_Ltl 2 rfl) (by decide) rfl rfl ?_
  refine x_goto (tgt := 28) (dT U_Ltl 3 rfl) (by decide) ?_
  exact k
theorem L_end {G : xG} {d rc rs : Nat} {ex : Bool} {h : xH} {Q : xQ} {i : Nat} (q : Q (.inl (some (vi 1))) ex h) : X G m_L_law (d + 10) rc rs ex 5560 [some (.ref 0), some (.ref 3), some (.ref 70), some (.ref 143), some (.ref 144), some (vi (i : Int)), none, none, none] [] h Q := by
  refine x_iconst (dT U_Ltl 4 rfl) ?_
  exact x_zreturn (dT U_Ltl 5 rfl) rfl (Or.inr rfl) q
theorem L_head {G : xG} {d rc rs : Nat} {ex : Bool} {h : xH} {Q : xQ} {i : Nat} (hL : G.2.2.2.2.2.1 ≤ 5120) (hi : i ≤ 6000) (k1 : G.2.2.2.2.2.1 < i + 10 → X G m_L_law (d + 10) rc rs ex 5560 [some (.ref 0), some (.ref 3), some (.ref 70), some (.ref 143), some (.ref 144), some (vi (i : Int)), none, none, none] [] h Q) (k2 : i + 10 ≤ G.2.2.2.2.2.1 → X G m_L_law (d + 10) rc rs ex 38 [some (.ref 0), some (.ref 3), some (.ref 70), some (.ref 143), some (.ref 144), some (vi (i : Int)), none, none, none] [] h Q) : X G m_L_law (d + 10) rc rs ex 28 [some (.ref 0), some (.ref 3), some (.ref 70), some (.ref 143), some (.ref 144), some (vi (i : Int)), none, none, none] [] h Q := by
  refine x_iload (dT U_Lhd 0 rfl) rfl ?_
  refine x_aload_n (dT U_Lhd 1 rfl) rfl ?_
  refine x_slen (by omega) (dT U_Lhd 2 rfl) ?_
  refine x_bipush (dT U_Lhd 3 rfl) (by decide) ?_
  refine x_isub (dT U_Lhd 4 rfl) ?_
  exact x_icmp_gt (tgt := 5560) (dT U_Lhd 5 rfl) (by decide) (by unfold xr; omega) (by unfold xr; omega) (fun c => k1 (by omega)) (fun c => k2 (by omega))
theorem L_disp {G : xG} {d rc rs : Nat} {ex : Bool} {h : xH} {Q : xQ} {i : Nat} (hL : G.2.2.2.2.2.1 ≤ 5120) (hi : i + 10 ≤ G.2.2.2.2.2.1) (k0 : X G m_L_law (d + 10) rc rs ex 5554 [some (.ref 0), some (.ref 3), some (.ref 70), some (.ref 143), some (.ref 144), some (vi (i : Int)), none, none, none] [] h Q) (k : ∀ r : Nat, r < 73 → X G m_L_law (d + 10) rc rs ex (L_pc r) [some (.ref 0), some (.ref 3), some (.ref 70), some (.ref 143), some (.ref 144), some (vi (i : Int)), none, none, none] [] h Q) : X G m_L_law (d + 10) rc rs ex 38 [some (.ref 0), some (.ref 3), some (.ref 70), some (.ref 143), some (.ref 144), some (vi (i : Int)), none, none, none] [] h Q := by
  refine x_aload_n (dT U_Lhd 6 rfl) rfl ?_
  refine x_iload (dT U_Lhd 7 rfl) rfl ?_
  refine x_sld i (by omega) (dT U_Lhd 8 rfl) rfl (by omega) ?_
  refine x_bipush (dT U_Lhd 9 rfl) (by decide) ?_
  obtain ⟨r, hr, e⟩ := and127 (G.2.2.2.2.2.2 i)
  refine x_iand (r := (r : Int)) (dT U_Lhd 10 rfl) e ?_
  by_cases h9 : r < 73
  · exact x_tableIn (off := (L_pc r : Int) - 45) (tgt := L_pc r) d_L45 (by unfold xr; omega) (by omega) (by omega) (L_off0 r (List.mem_range.mpr h9)) (by omega) (k r h9)
  · exact x_tableOut (tgt := 5554) d_L45 (by unfold xr; omega) (Or.inr (by omega)) (by decide) k0
theorem L_cases {G : xG} {d rc rs : Nat} {ex : Bool} {h : xH} {Q : xQ} {σ : St} {c0 : Int} {rr : Nat} {ss : Int} {l0 : Int} {d0 : UInt64} {i : Nat} (hL : G.2.2.2.2.2.1 < 2147483648) (hi : i + 10 ≤ G.2.2.2.2.2.1) (w : CW σ h) (wm : MX σ c0 rr ss h) (v : INV σ) (ho : h[143]? = some (cJ [l0])) (hod : h[144]? = some (cD [d0])) (M : ∀ (σ9 : St) (h9 : xH) (e9 : Bool) (c9 : Int) (r9 : Nat) (s9 : Int) (l9 : Int) (d9 : UInt64), INV σ9 → CW σ9 h9 → MX σ9 c9 r9 s9 h9 → h9[143]? = some (cJ [l9]) → h9[144]? = some (cD [d9]) → X G m_L_law (d + 10) rc rs e9 5554 [some (.ref 0), some (.ref 3), some (.ref 70), some (.ref 143), some (.ref 144), some (vi (i : Int)), none, none, none] [] h9 Q) : ∀ r : Nat, r < 73 → X G m_L_law (d + 10) (rc + 9) (rs + 54) ex (L_pc r) [some (.ref 0), some (.ref 3), some (.ref 70), some (.ref 143), some (.ref 144), some (vi (i : Int)), none, none, none] [] h Q := by
  have s0 : ∀ r : Nat, r < 0 → X G m_L_law (d + 10) (rc + 9) (rs + 54) ex (L_pc r) [some (.ref 0), some (.ref 3), some (.ref 70), some (.ref 143), some (.ref 144), some (vi (i : Int)), none, none, none] [] h Q := fun r hr => absurd hr (Nat.not_lt_zero r)
  have s1 := nc_s s0 (X_room (by omega) (by omega) (LC_0 hL hi w wm v ho hod M))
  have s2 := nc_s s1 (X_room (by omega) (by omega) (LC_1 hL hi w wm v ho hod M))
  have s3 := nc_s s2 (X_room (by omega) (by omega) (LC_2 hL hi w wm v ho hod M))
  have s4 := nc_s s3 (X_room (by omega) (by omega) (LC_3 hL hi w wm v ho hod M))
  have s5 := nc_s s4 (X_room (by omega) (by omega) (LC_4 hL hi w wm v ho hod M))
  have s6 := nc_s s5 (X_room (by omega) (by omega) (LC_5 hL hi w wm v ho hod M))
  have s7 := nc_s s6 (X_room (by omega) (by omega) (LC_6 hL hi w wm v ho hod M))
  have s8 := nc_s s7 (X_room (by omega) (by omega) (LC_7 hL hi w wm v ho hod M))
  have s9 := nc_s s8 (X_room (by omega) (by omega) (LC_8 hL hi w wm v ho hod M))
  have s10 := nc_s s9 (X_room (by omega) (by omega) (LC_9 hL hi w wm v ho hod M))
  have s11 := nc_s s10 (X_room (by omega) (by omega) (LC_10 hL hi w wm v ho hod M))
  have s12 := nc_s s11 (X_room (by omega) (by omega) (LC_11 hL hi w wm v ho hod M))
  have s13 := nc_s s12 (X_room (by omega) (by omega) (LC_12 hL hi w wm v ho hod M))
  have s14 := nc_s s13 (X_room (by omega) (by omega) (LC_13 hL hi w wm v ho hod M))
  have s15 := nc_s s14 (X_room (by omega) (by omega) (LC_14 hL hi w wm v ho hod M))
  have s16 := nc_s s15 (X_room (by omega) (by omega) (LC_15 hL hi w wm v ho hod M))
  have s17 := nc_s s16 (X_room (by omega) (by omega) (LC_16 hL hi w wm v ho hod M))
  have s18 := nc_s s17 (X_room (by omega) (by omega) (LC_17 hL hi w wm v ho hod M))
  have s19 := nc_s s18 (X_room (by omega) (by omega) (LC_18 hL hi w wm v ho hod M))
  have s20 := nc_s s19 (X_room (by omega) (by omega) (LC_19 hL hi w wm v ho hod M))
  have s21 := nc_s s20 (X_room (by omega) (by omega) (LC_20 hL hi w wm v ho hod M))
  have s22 := nc_s s21 (X_room (by omega) (by omega) (LC_21 hL hi w wm v ho hod M))
  have s23 := nc_s s22 (X_room (by omega) (by omega) (LC_22 hL hi w wm v ho hod M))
  have s24 := nc_s s23 (X_room (by omega) (by omega) (LC_23 hL hi w wm v ho hod M))
  have s25 := nc_s s24 (X_room (by omega) (by omega) (LC_24 hL hi w wm v ho hod M))
  have s26 := nc_s s25 (X_room (by omega) (by omega) (LC_25 hL hi w wm v ho hod M))
  have s27 := nc_s s26 (X_room (by omega) (by omega) (LC_26 hL hi w wm v ho hod M))
  have s28 := nc_s s27 (X_room (by omega) (by omega) (LC_27 hL hi w wm v ho hod M))
  have s29 := nc_s s28 (X_room (by omega) (by omega) (LC_28 hL hi w wm v ho hod M))
  have s30 := nc_s s29 (X_room (by omega) (by omega) (LC_29 hL hi w wm v ho hod M))
  have s31 := nc_s s30 (X_room (by omega) (by omega) (LC_30 hL hi w wm v ho hod M))
  have s32 := nc_s s31 (X_room (by omega) (by omega) (LC_31 hL hi w wm v ho hod M))
  have s33 := nc_s s32 (X_room (by omega) (by omega) (LC_32 hL hi w wm v ho hod M))
  have s34 := nc_s s33 (X_room (by omega) (by omega) (LC_33 hL hi w wm v ho hod M))
  have s35 := nc_s s34 (X_room (by omega) (by omega) (LC_34 hL hi w wm v ho hod M))
  have s36 := nc_s s35 (X_room (by omega) (by omega) (LC_35 hL hi w wm v ho hod M))
  have s37 := nc_s s36 (X_room (by omega) (by omega) (LC_36 hL hi w wm v ho hod M))
  have s38 := nc_s s37 (X_room (by omega) (by omega) (LC_37 hL hi w wm v ho hod M))
  have s39 := nc_s s38 (X_room (by omega) (by omega) (LC_38 hL hi w wm v ho hod M))
  have s40 := nc_s s39 (X_room (by omega) (by omega) (LC_39 hL hi w wm v ho hod M))
  have s41 := nc_s s40 (X_room (by omega) (by omega) (LC_40 hL hi w wm v ho hod M))
  have s42 := nc_s s41 (X_room (by omega) (by omega) (LC_41 hL hi w wm v ho hod M))
  have s43 := nc_s s42 (X_room (by omega) (by omega) (LC_42 hL hi w wm v ho hod M))
  have s44 := nc_s s43 (X_room (by omega) (by omega) (LC_43 hL hi w wm v ho hod M))
  have s45 := nc_s s44 (X_room (by omega) (by omega) (LC_44 hL hi w wm v ho hod M))
  have s46 := nc_s s45 (X_room (by omega) (by omega) (LC_45 hL hi w wm v ho hod M))
  have s47 := nc_s s46 (X_room (by omega) (by omega) (LC_46 hL hi w wm v ho hod M))
  have s48 := nc_s s47 (X_room (by omega) (by omega) (LC_47 hL hi w wm v ho hod M))
  have s49 := nc_s s48 (X_room (by omega) (by omega) (LC_48 hL hi w wm v ho hod M))
  have s50 := nc_s s49 (X_room (by omega) (by omega) (LC_49 hL hi w wm v ho hod M))
  have s51 := nc_s s50 (X_room (by omega) (by omega) (LC_50 hL hi w wm v ho hod M))
  have s52 := nc_s s51 (X_room (by omega) (by omega) (LC_51 hL hi w wm v ho hod M))
  have s53 := nc_s s52 (X_room (by omega) (by omega) (LC_52 hL hi w wm v ho hod M))
  have s54 := nc_s s53 (X_room (by omega) (by omega) (LC_53 hL hi w wm v ho hod M))
  have s55 := nc_s s54 (X_room (by omega) (by omega) (LC_54 hL hi w wm v ho hod M))
  have s56 := nc_s s55 (X_room (by omega) (by omega) (LC_55 hL hi w wm v ho hod M))
  have s57 := nc_s s56 (X_room (by omega) (by omega) (LC_56 hL hi w wm v ho hod M))
  have s58 := nc_s s57 (X_room (by omega) (by omega) (LC_57 hL hi w wm v ho hod M))
  have s59 := nc_s s58 (X_room (by omega) (by omega) (LC_58 hL hi w wm v ho hod M))
  have s60 := nc_s s59 (X_room (by omega) (by omega) (LC_59 hL hi w wm v ho hod M))
  have s61 := nc_s s60 (X_room (by omega) (by omega) (LC_60 hL hi w wm v ho hod M))
  have s62 := nc_s s61 (X_room (by omega) (by omega) (LC_61 hL hi w wm v ho hod M))
  have s63 := nc_s s62 (X_room (by omega) (by omega) (LC_62 hL hi w wm v ho hod M))
  have s64 := nc_s s63 (X_room (by omega) (by omega) (LC_63 hL hi w wm v ho hod M))
  have s65 := nc_s s64 (X_room (by omega) (by omega) (LC_64 hL hi w wm v ho hod M))
  have s66 := nc_s s65 (X_room (by omega) (by omega) (LC_65 hL hi w wm v ho hod M))
  have s67 := nc_s s66 (X_room (by omega) (by omega) (LC_66 hL hi w wm v ho hod M))
  have s68 := nc_s s67 (X_room (by omega) (by omega) (LC_67 hL hi w wm v ho hod M))
  have s69 := nc_s s68 (X_room (by omega) (by omega) (LC_68 hL hi w wm v ho hod M))
  have s70 := nc_s s69 (X_room (by omega) (by omega) (LC_69 hL hi w wm v ho hod M))
  have s71 := nc_s s70 (X_room (by omega) (by omega) (LC_70 hL hi w wm v ho hod M))
  have s72 := nc_s s71 (X_room (by omega) (by omega) (LC_71 hL hi w wm v ho hod M))
  have s73 := nc_s s72 (X_room (by omega) (by omega) (LC_72 hL hi w wm v ho hod M))
  exact s73
theorem L_loop {G : xG} {d rc rs : Nat} {Q : xQ} (hL : G.2.2.2.2.2.1 ≤ 5120) (q : ∀ (ex : Bool) (h : xH), Q (.inl (some (vi 1))) ex h) : ∀ (n i : Nat) (ex : Bool) (h : xH) (σ : St) (c0 : Int) (rr : Nat) (ss l0 : Int) (d0 : UInt64), i ≤ 6000 → G.2.2.2.2.2.1 < i + 10 * n + 10 → INV σ → CW σ h → MX σ c0 rr ss h → h[143]? = some (cJ [l0]) → h[144]? = some (cD [d0]) → X G m_L_law (d + 10) (rc + 9 * n) (rs + 54 * n) ex 28 [some (.ref 0), some (.ref 3), some (.ref 70), some (.ref 143), some (.ref 144), some (vi (i : Int)), none, none, none] [] h Q := by
  intro n
  induction n with
  | zero =>
    intro i ex h σ c0 rr ss l0 d0 hi hn v w wm ho hod
    exact L_head hL hi (fun _ => L_end (q _ _)) (fun c => absurd c (by omega))
  | succ n ih =>
    intro i ex h σ c0 rr ss l0 d0 hi hn v w wm ho hod
    rw [show rc + 9 * (n + 1) = rc + 9 * n + 9 by omega, show rs + 54 * (n + 1) = rs + 54 * n + 54 by omega]
    refine L_head hL hi (fun _ => L_end (q _ _)) (fun c => ?_)
    refine L_disp hL c ?_ ?_
    · exact X_room (by omega) (by omega) (L_tail (ih (i + 10) ex h σ c0 rr ss l0 d0 (by omega) (by omega) v w wm ho hod))
    · exact L_cases (by omega) c w wm v ho hod (fun σ9 h9 e9 c9 r9 s9 l9 d9 v9 w9 wm9 ho9 hod9 => L_tail (ih (i + 10) e9 h9 σ9 c9 r9 s9 l9 d9 (by omega) (by omega) v9 w9 wm9 ho9 hod9))
def KP (h h2 : xH) : Prop := ∀ (b : Nat) (x : xC), b < 70 → h[b]? = some x → h2[b]? = some x
theorem kget {h h2 : xH} {a : Nat} {c : xC} (g : KP h h2) (hc : h[a]? = some c) (ha : a < 70) : h2[a]? = some c := g a c ha hc
theorem GW.kp {p : Nat} {h h2 : xH} (w : GW p h) (g : KP h h2) (q : 9 ≤ 70) : GW p h2 := by
  obtain ⟨a1, b, ⟨ml, c1, c2, c3⟩, d, e⟩ := w
  exact ⟨kget g a1 (by omega), kget g b (by omega), ⟨ml, kget g c1 (by omega), c2, c3⟩, kget g d (by omega), kget g e (by omega)⟩
theorem RA.kp {p ra : Nat} {R : RS} {h h2 : xH} (w : RA p ra R h) (g : KP h h2) (q : ra + 3 < 70) : RA p ra R h2 := by
  obtain ⟨a, b, c, d, e⟩ := w
  exact ⟨a, kget g b (by omega), kget g c (by omega), kget g d (by omega), kget g e (by omega)⟩
theorem PAt.kp {p pa : Nat} {P : PS} {h h2 : xH} (w : PAt p pa P h) (g : KP h h2) (q : pa + 3 < 70) : PAt p pa P h2 := by
  obtain ⟨a, b, c, d, e⟩ := w
  exact ⟨a, kget g b (by omega), kget g c (by omega), kget g d (by omega), kget g e (by omega)⟩
theorem CW.kp {σ : St} {h h2 : xH} (w : CW σ h) (g : KP h h2) : CW σ h2 := ⟨
  kget g w.c3 (by omega),
  w.gw.kp g (by omega),
  kget g w.c9 (by omega),
  fun j hj => kget g (w.rows j hj) (by omega),
  kget g w.c18 (by omega),
  Exists.elim w.s19 (fun l q => ⟨l, kget g q.1 (by omega), q.2⟩),
  Exists.elim w.s20 (fun l q => ⟨l, kget g q.1 (by omega), q.2⟩),
  kget g w.c21 (by omega),
  fun i hi => (w.runs i hi).kp g (by omega),
  kget g w.c38 (by omega),
  fun j hj => (w.pairs j hj).kp g (by omega),
  kget g w.c47 (by omega),
  kget g w.c48 (by omega),
  kget g w.c49 (by omega),
  kget g w.c50 (by omega),
  kget g w.c51 (by omega),
  kget g w.c52 (by omega),
  kget g w.c53 (by omega),
  kget g w.c54 (by omega),
  kget g w.c55 (by omega),
  kget g w.c56 (by omega),
  Exists.elim w.s57 (fun l q => ⟨l, kget g q.1 (by omega), q.2⟩),
  kget g w.c58 (by omega),
  Exists.elim w.s59 (fun l q => ⟨l, kget g q.1 (by omega), q.2⟩),
  kget g w.c60 (by omega),
  Exists.elim w.s61 (fun l q => ⟨l, kget g q.1 (by omega), q.2⟩),
  Exists.elim w.s62 (fun l q => ⟨l, kget g q.1 (by omega), q.2⟩),
  Exists.elim w.s63 (fun l q => ⟨l, kget g q.1 (by omega), q.2⟩),
  kget g w.c64 (by omega),
  Exists.elim w.s65 (fun l q => ⟨l, kget g q.1 (by omega), q.2⟩),
  Exists.elim w.s66 (fun l q => ⟨l, kget g q.1 (by omega), q.2⟩),
  Exists.elim w.s67 (fun l q => ⟨l, kget g q.1 (by omega), q.2⟩),
  Exists.elim w.s68 (fun l q => ⟨l, kget g q.1 (by omega), q.2⟩),
  Exists.elim w.s69 (fun l q => ⟨l, kget g q.1 (by omega), q.2⟩)⟩
set_option maxRecDepth 20000 in
theorem L_start {G : xG} {Q : xQ} {h : xH} (hN : h.length = 3) (hL : G.2.2.2.2.2.1 ≤ 5120) (q : ∀ (ex : Bool) (h : xH), Q (.inl (some (vi 1))) ex h) : X G m_L_law (10 + 10) (142 + 9 * 512) (1351 + 54 * 512) true 0 (xe m_L_law.2.2.1 [.ref 0]) [] h Q := by
  show X G m_L_law _ _ _ _ 0 [some (.ref 0), none, none, none, none, none, none, none, none] [] h Q
  refine y_new (rc' := 141 + 9 * 512) (rs' := 1336 + 54 * 512) (N := 3) (ci := 10) hN (by decide) W_L_8 N_X10 I_X10 (dT U_Lst 0 rfl) xd_10 rfl rfl (fun h1 l1 k1 f1 => ?_)
  have l1 : h1.length = 4 := l1
  refine x_dup (dT U_Lst 1 rfl) rfl ?_
  refine x_invokespecial (rc' := 75 + 9 * 512) (rs' := 672 + 54 * 512) (rc2 := 0 + 66) (rs2 := 0 + 664) (As := []) (st := _) M_X10_init K_L_232 (dT U_Lst 2 rfl) rfl rfl rfl rfl rfl rfl (Nat.le_of_ble_eq_true rfl) rfl (by decide) (Nat.le_of_ble_eq_true rfl) rfl rfl ?_
  refine S_X10_init l1 f1 (fun h2 l2 k2 w => ?_)
  refine xRet_none ?_
  refine x_astore_n (ls' := [some (.ref 0), some (.ref 3), none, none, none, none, none, none, none]) (dT U_Lst 3 rfl) (by decide) rfl ?_
  refine y_new (rc' := 74 + 9 * 512) (rs' := 626 + 54 * 512) (N := 70) (ci := 11) l2 (by decide) W_L_233 N_X11 I_X11 (dT U_Lst 4 rfl) xd_11 rfl rfl (fun h3 l3 k3 f3 => ?_)
  have l3 : h3.length = 71 := l3
  refine x_dup (dT U_Lst 5 rfl) rfl ?_
  refine x_invokespecial (rc' := 2 + 9 * 512) (rs' := 2 + 54 * 512) (rc2 := 0 + 72) (rs2 := 0 + 624) (As := []) (st := _) M_X11_init K_L_235 (dT U_Lst 6 rfl) rfl rfl rfl rfl rfl rfl (Nat.le_of_ble_eq_true rfl) rfl (by decide) (Nat.le_of_ble_eq_true rfl) rfl rfl ?_
  refine S_X11_init l3 f3 (fun h4 l4 k4 wm => ?_)
  refine xRet_none ?_
  have w : CW σ0 h4 := w.kp (fun b x hb hx => k4 b x hb (k3 b x hx))
  refine x_astore_n (ls' := [some (.ref 0), some (.ref 3), some (.ref 70), none, none, none, none, none, none]) (dT U_Lst 7 rfl) (by decide) rfl ?_
  refine x_iconst (dT U_Lst 8 rfl) ?_
  refine x_newarrayJ (rc' := 1 + 9 * 512) (rs' := 1 + 54 * 512) 1 w_ac_long (dT U_Lst 9 rfl) rfl (by decide) rfl rfl ?_
  rw [l4]
  refine x_astore_n (ls' := [some (.ref 0), some (.ref 3), some (.ref 70), some (.ref 143), none, none, none, none, none]) (dT U_Lst 10 rfl) (by decide) rfl ?_
  refine x_iconst (dT U_Lst 11 rfl) ?_
  refine x_newarrayD (rc' := 0 + 9 * 512) (rs' := 0 + 54 * 512) 1 w_ac_double (dT U_Lst 12 rfl) rfl (by decide) rfl rfl ?_
  have l5 : (h4 ++ [cJ (List.replicate 1 0)]).length = 144 := by rw [List.length_append, l4]; rfl
  rw [l5]
  refine x_astore (ls' := [some (.ref 0), some (.ref 3), some (.ref 70), some (.ref 143), some (.ref 144), none, none, none, none]) (dT U_Lst 13 rfl) (by decide) rfl ?_
  refine x_iconst (dT U_Lst 14 rfl) ?_
  refine x_istore (ls' := [some (.ref 0), some (.ref 3), some (.ref 70), some (.ref 143), some (.ref 144), some (vi (0 : Nat)), none, none, none]) (dT U_Lst 15 rfl) (by decide) rfl ?_
  have e6 : ∀ a, a < 143 → ((h4 ++ [cJ (List.replicate 1 0)]) ++ [cD (List.replicate 1 0)])[a]? = h4[a]? := fun a ha => by
    rw [List.getElem?_append_left (by rw [l5]; omega), List.getElem?_append_left (by rw [l4]; omega)]
  refine L_loop hL q 512 0 true _ σ0 0 0 0 0 0 (by omega) (by omega) INV_0 (w.kp (fun b x hb hx => (e6 b (by omega)).trans hx)) (wm.out (fun a ha => e6 a (by omega))) ?_ ?_
  · rw [List.getElem?_append_left (by rw [l5]; omega), List.getElem?_append_right (by rw [l4]; omega), l4]; rfl
  · rw [List.getElem?_append_right (by rw [l5]; omega), l5]; rfl
