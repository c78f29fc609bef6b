def B_Lc10 : ByteArray := .mk #[0x2b, 0x2a, 0x15, 0x05, 0x04, 0x60, 0x2e, 0x2a, 0x15, 0x05, 0x05, 0x60, 0x2e, 0x2a, 0x15, 0x05, 0x06, 0x60, 0x2e, 0x2a, 0x15, 0x05, 0x07, 0x60, 0x2e, 0x2d, 0xb8, 0x01, 0x15, 0x36, 0x06, 0x2c, 0x2a, 0x15, 0x05, 0x04, 0x60, 0x2e, 0x2a, 0x15, 0x05, 0x05, 0x60, 0x2e, 0x2a, 0x15, 0x05, 0x06, 0x60, 0x2e, 0x2a, 0x15, 0x05, 0x07, 0x60, 0x2e, 0xb6, 0x01, 0x17, 0x36, 0x07, 0x2c, 0xb6, 0x00, 0xf2, 0x15, 0x06, 0x9f, 0x00, 0x05, 0x03, 0xac, 0x15, 0x06, 0x9a, 0x00, 0x0f, 0x2d, 0x03, 0x2f, 0x15, 0x07, 0x85, 0x94, 0x99, 0x00, 0x05, 0x03, 0xac, 0xa7, 0x11, 0x14]
theorem W_Lc10 : sameFrom m_L_law.2.1 B_Lc10 1093 := sameFrom_of (by decide +kernel)
def t_Lc10 : List (Nat × Instr × Nat) := [(1093, .aload_n 1, 1), (1094, .aload_n 0, 1), (1095, .iload 5, 2), (1097, .iconst 1, 1), (1098, .iadd, 1), (1099, .iaload, 1), (1100, .aload_n 0, 1), (1101, .iload 5, 2), (1103, .iconst 2, 1), (1104, .iadd, 1), (1105, .iaload, 1), (1106, .aload_n 0, 1), (1107, .iload 5, 2), (1109, .iconst 3, 1), (1110, .iadd, 1), (1111, .iaload, 1), (1112, .aload_n 0, 1), (1113, .iload 5, 2), (1115, .iconst 4, 1), (1116, .iadd, 1), (1117, .iaload, 1), (1118, .aload_n 3, 1), (1119, .invokestatic 277, 3), (1122, .istore 6, 2), (1124, .aload_n 2, 1), (1125, .aload_n 0, 1), (1126, .iload 5, 2), (1128, .iconst 1, 1), (1129, .iadd, 1), (1130, .iaload, 1), (1131, .aload_n 0, 1), (1132, .iload 5, 2), (1134, .iconst 2, 1), (1135, .iadd, 1), (1136, .iaload, 1), (1137, .aload_n 0, 1), (1138, .iload 5, 2), (1140, .iconst 3, 1), (1141, .iadd, 1), (1142, .iaload, 1), (1143, .aload_n 0, 1), (1144, .iload 5, 2), (1146, .iconst 4, 1), (1147, .iadd, 1), (1148, .iaload, 1), (1149, .invokevirtual 279, 3), (1152, .istore 7, 2), (1154, .aload_n 2, 1), (1155, .invokevirtual 242, 3), (1158, .iload 6, 2), (1160, .if_icmp .eq 5, 3), (1163, .iconst 0, 1), (1164, .ireturn, 1), (1165, .iload 6, 2), (1167, .ifCond .ne 15, 3), (1170, .aload_n 3, 1), (1171, .iconst 0, 1), (1172, .laload, 1), (1173, .iload 7, 2), (1175, .i2l, 1), (1176, .lcmp, 1), (1177, .ifCond .eq 5, 3), (1180, .iconst 0, 1), (1181, .ireturn, 1), (1182, .goto 4372, 3)]
set_option maxRecDepth 20000 in
theorem U_Lc10 : okT m_L_law.2.1 t_Lc10 = true := dSt [(0, .aload_n 1, 1), (1, .aload_n 0, 1), (2, .iload 5, 2), (4, .iconst 1, 1), (5, .iadd, 1), (6, .iaload, 1), (7, .aload_n 0, 1), (8, .iload 5, 2), (10, .iconst 2, 1), (11, .iadd, 1), (12, .iaload, 1), (13, .aload_n 0, 1), (14, .iload 5, 2), (16, .iconst 3, 1), (17, .iadd, 1), (18, .iaload, 1), (19, .aload_n 0, 1), (20, .iload 5, 2), (22, .iconst 4, 1), (23, .iadd, 1), (24, .iaload, 1), (25, .aload_n 3, 1), (26, .invokestatic 277, 3), (29, .istore 6, 2), (31, .aload_n 2, 1), (32, .aload_n 0, 1), (33, .iload 5, 2), (35, .iconst 1, 1), (36, .iadd, 1), (37, .iaload, 1), (38, .aload_n 0, 1), (39, .iload 5, 2), (41, .iconst 2, 1), (42, .iadd, 1), (43, .iaload, 1), (44, .aload_n 0, 1), (45, .iload 5, 2), (47, .iconst 3, 1), (48, .iadd, 1), (49, .iaload, 1), (50, .aload_n 0, 1), (51, .iload 5, 2), (53, .iconst 4, 1), (54, .iadd, 1), (55, .iaload, 1), (56, .invokevirtual 279, 3), (59, .istore 7, 2), (61, .aload_n 2, 1), (62, .invokevirtual 242, 3), (65, .iload 6, 2), (67, .if_icmp .eq 5, 3), (70, .iconst 0, 1), (71, .ireturn, 1), (72, .iload 6, 2), (74, .ifCond .ne 15, 3), (77, .aload_n 3, 1), (78, .iconst 0, 1), (79, .laload, 1), (80, .iload 7, 2), (82, .i2l, 1), (83, .lcmp, 1), (84, .ifCond .eq 5, 3), (87, .iconst 0, 1), (88, .ireturn, 1), (89, .goto 4372, 3)] W_Lc10 (by decide +kernel) (by decide +kernel)
set_option maxRecDepth 20000 in
set_option maxHeartbeats 1000000 in
theorem LC_10 {G : xG} {d rc rs : Nat} {ex : Bool} {h : xH} {Q : xQ} {σ : St} {c0 : Int} {rr : Nat} {ss : Int} {l0 : Int} {d0 : UInt64} {i : Nat} (hL : G.2.2.2.2.2.1 < 2147483648) (hi : i + 10 ≤ G.2.2.2.2.2.1) (w : CW σ h) (wm : MX σ c0 rr ss h) (v : INV σ) (ho : h[143]? = some (cJ [l0])) (hod : h[144]? = some (cD [d0]))
    (M : ∀ (σ9 : St) (h9 : xH) (e9 : Bool) (c9 : Int) (r9 : Nat) (s9 : Int) (l9 : Int) (d9 : UInt64), INV σ9 → CW σ9 h9 → MX σ9 c9 r9 s9 h9 → h9[143]? = some (cJ [l9]) → h9[144]? = some (cD [d9]) → X G m_L_law (d + 10) rc rs e9 5554 [some (.ref 0), some (.ref 3), some (.ref 70), some (.ref 143), some (.ref 144), some (vi (i : Int)), none, none, none] [] h9 Q) : X G m_L_law (d + 10) (rc + 5) (rs + 30) ex 1093 [some (.ref 0), some (.ref 3), some (.ref 70), some (.ref 143), some (.ref 144), some (vi (i : Int)), none, none, none] [] h Q := by
  refine x_aload_n (dT U_Lc10 0 rfl) rfl ?_
  refine x_aload_n (dT U_Lc10 1 rfl) rfl ?_
  refine x_iload (dT U_Lc10 2 rfl) rfl ?_
  refine x_iconst (dT U_Lc10 3 rfl) ?_
  refine x_iadd (dT U_Lc10 4 rfl) ?_
  refine x_sld (i + 1) hL (dT U_Lc10 5 rfl) (by omega) (by omega) ?_
  refine x_aload_n (dT U_Lc10 6 rfl) rfl ?_
  refine x_iload (dT U_Lc10 7 rfl) rfl ?_
  refine x_iconst (dT U_Lc10 8 rfl) ?_
  refine x_iadd (dT U_Lc10 9 rfl) ?_
  refine x_sld (i + 2) hL (dT U_Lc10 10 rfl) (by omega) (by omega) ?_
  refine x_aload_n (dT U_Lc10 11 rfl) rfl ?_
  refine x_iload (dT U_Lc10 12 rfl) rfl ?_
  refine x_iconst (dT U_Lc10 13 rfl) ?_
  refine x_iadd (dT U_Lc10 14 rfl) ?_
  refine x_sld (i + 3) hL (dT U_Lc10 15 rfl) (by omega) (by omega) ?_
  refine x_aload_n (dT U_Lc10 16 rfl) rfl ?_
  refine x_iload (dT U_Lc10 17 rfl) rfl ?_
  refine x_iconst (dT U_Lc10 18 rfl) ?_
  refine x_iadd (dT U_Lc10 19 rfl) ?_
  refine x_sld (i + 4) hL (dT U_Lc10 20 rfl) (by omega) (by omega) ?_
  refine x_aload_n (dT U_Lc10 21 rfl) rfl ?_
  refine x_invokestaticT (rc' := rc) (rs' := rs) (rc2 := 0 + 5) (rs2 := 0 + 30) (As := [_, _, _, _, _, _]) (st := _) M_L_divide K_L_277 (dT U_Lc10 22 rfl) rfl (by decide) rfl rfl (Nat.le_of_ble_eq_true rfl) rfl (by decide) (Nat.le_of_ble_eq_true rfl) (by omega) (by omega) ?_
  refine S_L_divide w v (xr_s _) (xr_s _) (xr_s _) (xr_s _) ho (fun c1 => ?_) (fun c1 c2 => ?_) (fun c1 c2 c3 => ?_) (fun c1 c2 c3 h2 fc w2 z9 hz9 ez9 => ?_)
  · refine xRet_some ?_
    refine x_istore (ls' := [some (.ref _), some (.ref _), some (.ref _), some (.ref _), some (.ref _), some (vi _), some (vi _), none, none]) (dT U_Lc10 23 rfl) (by decide) rfl ?_
    refine x_aload_n (dT U_Lc10 24 rfl) rfl ?_
    refine x_aload_n (dT U_Lc10 25 rfl) rfl ?_
    refine x_iload (dT U_Lc10 26 rfl) rfl ?_
    refine x_iconst (dT U_Lc10 27 rfl) ?_
    refine x_iadd (dT U_Lc10 28 rfl) ?_
    refine x_sld (i + 1) hL (dT U_Lc10 29 rfl) (by omega) (by omega) ?_
    refine x_aload_n (dT U_Lc10 30 rfl) rfl ?_
    refine x_iload (dT U_Lc10 31 rfl) rfl ?_
    refine x_iconst (dT U_Lc10 32 rfl) ?_
    refine x_iadd (dT U_Lc10 33 rfl) ?_
    refine x_sld (i + 2) hL (dT U_Lc10 34 rfl) (by omega) (by omega) ?_
    refine x_aload_n (dT U_Lc10 35 rfl) rfl ?_
    refine x_iload (dT U_Lc10 36 rfl) rfl ?_
    refine x_iconst (dT U_Lc10 37 rfl) ?_
    refine x_iadd (dT U_Lc10 38 rfl) ?_
    refine x_sld (i + 3) hL (dT U_Lc10 39 rfl) (by omega) (by omega) ?_
    refine x_aload_n (dT U_Lc10 40 rfl) rfl ?_
    refine x_iload (dT U_Lc10 41 rfl) rfl ?_
    refine x_iconst (dT U_Lc10 42 rfl) ?_
    refine x_iadd (dT U_Lc10 43 rfl) ?_
    refine x_sld (i + 4) hL (dT U_Lc10 44 rfl) (by omega) (by omega) ?_
    refine x_invokevirtual (rc' := rc) (rs' := rs) (rc2 := 0) (rs2 := 0) (As := [_, _, _, _]) (st := _) M_X11_divide K_L_279 (dT U_Lc10 45 rfl) rfl rfl (by decide) rfl rfl wm.c70 (Nat.le_of_ble_eq_true rfl) (by decide) rfl (Nat.le_of_ble_eq_true rfl) rfl (by decide) (Nat.le_of_ble_eq_true rfl) rfl rfl ?_
    refine S_X11_divide wm v (xr_s _) (xr_s _) (xr_s _) (xr_s _) (fun m1 h3 z ag wx xz => ?_) (fun m1 m2 _ _ _ _ _ => absurd m1 c1) (fun m1 m2 m3 _ _ _ _ _ => absurd m1 c1) (fun m1 m2 m3 _ _ _ _ _ => absurd m1 c1)
    refine xRet_some ?_
    refine x_istore (ls' := [some (.ref _), some (.ref _), some (.ref _), some (.ref _), some (.ref _), some (vi _), some (vi _), some (vi _), none]) (dT U_Lc10 46 rfl) (by decide) rfl ?_
    refine x_aload_n (dT U_Lc10 47 rfl) rfl ?_
    refine x_invokevirtual (rc' := rc) (rs' := rs) (rc2 := 0) (rs2 := 0) (As := []) (st := _) M_X11_thrown K_L_242 (dT U_Lc10 48 rfl) rfl rfl (by decide) rfl rfl wx.c70 (Nat.le_of_ble_eq_true rfl) (by decide) rfl (Nat.le_of_ble_eq_true rfl) rfl (by decide) (Nat.le_of_ble_eq_true rfl) rfl rfl ?_
    refine S_X11_thrown wx ?_
    refine xRet_some ?_
    refine x_iload (dT U_Lc10 49 rfl) rfl ?_
    refine x_icmp_eq (tgt := 1165) (dT U_Lc10 50 rfl) (by decide) (by unfold xr; omega) (by unfold xr; omega) (fun c1160 => ?_) (fun c1160 => (by exfalso; omega))
    refine x_iload (dT U_Lc10 53 rfl) rfl ?_
    refine x_if_nej (tgt := 1182) (dT U_Lc10 54 rfl) (by decide) (by decide) ?_
    refine x_goto (tgt := 5554) (dT U_Lc10 64 rfl) (by decide) ?_
    refine x_drop ?_ (M _ _ _ _ _ _ _ _ v (w.out ag (by omega)) wx (ag.get ho (by omega)) (ag.get hod (by omega)))
    repeat (first | exact trivial | refine ⟨rfl, ?_⟩ | refine ⟨trivial, ?_⟩)
  · refine xRet_some ?_
    refine x_istore (ls' := [some (.ref _), some (.ref _), some (.ref _), some (.ref _), some (.ref _), some (vi _), some (vi _), none, none]) (dT U_Lc10 23 rfl) (by decide) rfl ?_
    refine x_aload_n (dT U_Lc10 24 rfl) rfl ?_
    refine x_aload_n (dT U_Lc10 25 rfl) rfl ?_
    refine x_iload (dT U_Lc10 26 rfl) rfl ?_
    refine x_iconst (dT U_Lc10 27 rfl) ?_
    refine x_iadd (dT U_Lc10 28 rfl) ?_
    refine x_sld (i + 1) hL (dT U_Lc10 29 rfl) (by omega) (by omega) ?_
    refine x_aload_n (dT U_Lc10 30 rfl) rfl ?_
    refine x_iload (dT U_Lc10 31 rfl) rfl ?_
    refine x_iconst (dT U_Lc10 32 rfl) ?_
    refine x_iadd (dT U_Lc10 33 rfl) ?_
    refine x_sld (i + 2) hL (dT U_Lc10 34 rfl) (by omega) (by omega) ?_
    refine x_aload_n (dT U_Lc10 35 rfl) rfl ?_
    refine x_iload (dT U_Lc10 36 rfl) rfl ?_
    refine x_iconst (dT U_Lc10 37 rfl) ?_
    refine x_iadd (dT U_Lc10 38 rfl) ?_
    refine x_sld (i + 3) hL (dT U_Lc10 39 rfl) (by omega) (by omega) ?_
    refine x_aload_n (dT U_Lc10 40 rfl) rfl ?_
    refine x_iload (dT U_Lc10 41 rfl) rfl ?_
    refine x_iconst (dT U_Lc10 42 rfl) ?_
    refine x_iadd (dT U_Lc10 43 rfl) ?_
    refine x_sld (i + 4) hL (dT U_Lc10 44 rfl) (by omega) (by omega) ?_
    refine x_invokevirtual (rc' := rc) (rs' := rs) (rc2 := 0) (rs2 := 0) (As := [_, _, _, _]) (st := _) M_X11_divide K_L_279 (dT U_Lc10 45 rfl) rfl rfl (by decide) rfl rfl wm.c70 (Nat.le_of_ble_eq_true rfl) (by decide) rfl (Nat.le_of_ble_eq_true rfl) rfl (by decide) (Nat.le_of_ble_eq_true rfl) rfl rfl ?_
    refine S_X11_divide wm v (xr_s _) (xr_s _) (xr_s _) (xr_s _) (fun m1 _ _ _ _ _ => absurd c1 m1) (fun m1 m2 h3 z ag wx xz => ?_) (fun m1 m2 m3 _ _ _ _ _ => absurd m2 c2) (fun m1 m2 m3 _ _ _ _ _ => absurd m2 c2)
    refine xRet_some ?_
    refine x_istore (ls' := [some (.ref _), some (.ref _), some (.ref _), some (.ref _), some (.ref _), some (vi _), some (vi _), some (vi _), none]) (dT U_Lc10 46 rfl) (by decide) rfl ?_
    refine x_aload_n (dT U_Lc10 47 rfl) rfl ?_
    refine x_invokevirtual (rc' := rc) (rs' := rs) (rc2 := 0) (rs2 := 0) (As := []) (st := _) M_X11_thrown K_L_242 (dT U_Lc10 48 rfl) rfl rfl (by decide) rfl rfl wx.c70 (Nat.le_of_ble_eq_true rfl) (by decide) rfl (Nat.le_of_ble_eq_true rfl) rfl (by decide) (Nat.le_of_ble_eq_true rfl) rfl rfl ?_
    refine S_X11_thrown wx ?_
    refine xRet_some ?_
    refine x_iload (dT U_Lc10 49 rfl) rfl ?_
    refine x_icmp_eq (tgt := 1165) (dT U_Lc10 50 rfl) (by decide) (by unfold xr; omega) (by unfold xr; omega) (fun c1160 => ?_) (fun c1160 => (by exfalso; omega))
    refine x_iload (dT U_Lc10 53 rfl) rfl ?_
    refine x_if_ne (tgt := 1182) (dT U_Lc10 54 rfl) (by decide) (by unfold xr; omega) (fun c1167 => ?_) (fun c1167 => (by exfalso; omega))
    refine x_goto (tgt := 5554) (dT U_Lc10 64 rfl) (by decide) ?_
    refine x_drop ?_ (M _ _ _ _ _ _ _ _ v (w.out ag (by omega)) wx (ag.get ho (by omega)) (ag.get hod (by omega)))
    repeat (first | exact trivial | refine ⟨rfl, ?_⟩ | refine ⟨trivial, ?_⟩)
  · refine xRet_some ?_
    refine x_istore (ls' := [some (.ref _), some (.ref _), some (.ref _), some (.ref _), some (.ref _), some (vi _), some (vi _), none, none]) (dT U_Lc10 23 rfl) (by decide) rfl ?_
    refine x_aload_n (dT U_Lc10 24 rfl) rfl ?_
    refine x_aload_n (dT U_Lc10 25 rfl) rfl ?_
    refine x_iload (dT U_Lc10 26 rfl) rfl ?_
    refine x_iconst (dT U_Lc10 27 rfl) ?_
    refine x_iadd (dT U_Lc10 28 rfl) ?_
    refine x_sld (i + 1) hL (dT U_Lc10 29 rfl) (by omega) (by omega) ?_
    refine x_aload_n (dT U_Lc10 30 rfl) rfl ?_
    refine x_iload (dT U_Lc10 31 rfl) rfl ?_
    refine x_iconst (dT U_Lc10 32 rfl) ?_
    refine x_iadd (dT U_Lc10 33 rfl) ?_
    refine x_sld (i + 2) hL (dT U_Lc10 34 rfl) (by omega) (by omega) ?_
    refine x_aload_n (dT U_Lc10 35 rfl) rfl ?_
    refine x_iload (dT U_Lc10 36 rfl) rfl ?_
    refine x_iconst (dT U_Lc10 37 rfl) ?_
    refine x_iadd (dT U_Lc10 38 rfl) ?_
    refine x_sld (i + 3) hL (dT U_Lc10 39 rfl) (by omega) (by omega) ?_
    refine x_aload_n (dT U_Lc10 40 rfl) rfl ?_
    refine x_iload (dT U_Lc10 41 rfl) rfl ?_
    refine x_iconst (dT U_Lc10 42 rfl) ?_
    refine x_iadd (dT U_Lc10 43 rfl) ?_
    refine x_sld (i + 4) hL (dT U_Lc10 44 rfl) (by omega) (by omega) ?_
    refine x_invokevirtual (rc' := rc) (rs' := rs) (rc2 := 0) (rs2 := 0) (As := [_, _, _, _]) (st := _) M_X11_divide K_L_279 (dT U_Lc10 45 rfl) rfl rfl (by decide) rfl rfl wm.c70 (Nat.le_of_ble_eq_true rfl) (by decide) rfl (Nat.le_of_ble_eq_true rfl) rfl (by decide) (Nat.le_of_ble_eq_true rfl) rfl rfl ?_
    refine S_X11_divide wm v (xr_s _) (xr_s _) (xr_s _) (xr_s _) (fun m1 _ _ _ _ _ => absurd c1 m1) (fun m1 m2 _ _ _ _ _ => absurd c2 m2) (fun m1 m2 m3 h3 z ag wx xz => ?_) (fun m1 m2 m3 _ _ _ _ _ => absurd m3 c3)
    refine xRet_some ?_
    refine x_istore (ls' := [some (.ref _), some (.ref _), some (.ref _), some (.ref _), some (.ref _), some (vi _), some (vi _), some (vi _), none]) (dT U_Lc10 46 rfl) (by decide) rfl ?_
    refine x_aload_n (dT U_Lc10 47 rfl) rfl ?_
    refine x_invokevirtual (rc' := rc) (rs' := rs) (rc2 := 0) (rs2 := 0) (As := []) (st := _) M_X11_thrown K_L_242 (dT U_Lc10 48 rfl) rfl rfl (by decide) rfl rfl wx.c70 (Nat.le_of_ble_eq_true rfl) (by decide) rfl (Nat.le_of_ble_eq_true rfl) rfl (by decide) (Nat.le_of_ble_eq_true rfl) rfl rfl ?_
    refine S_X11_thrown wx ?_
    refine xRet_some ?_
    refine x_iload (dT U_Lc10 49 rfl) rfl ?_
    refine x_icmp_eq (tgt := 1165) (dT U_Lc10 50 rfl) (by decide) (by unfold xr; omega) (by unfold xr; omega) (fun c1160 => ?_) (fun c1160 => (by exfalso; omega))
    refine x_iload (dT U_Lc10 53 rfl) rfl ?_
    refine x_if_ne (tgt := 1182) (dT U_Lc10 54 rfl) (by decide) (by unfold xr; omega) (fun c1167 => ?_) (fun c1167 => (by exfalso; omega))
    refine x_goto (tgt := 5554) (dT U_Lc10 64 rfl) (by decide) ?_
    refine x_drop ?_ (M _ _ _ _ _ _ _ _ v (w.out ag (by omega)) wx (ag.get ho (by omega)) (ag.get hod (by omega)))
    repeat (first | exact trivial | refine ⟨rfl, ?_⟩ | refine ⟨trivial, ?_⟩)
  · refine xRet_some ?_
    have wmx := wm.out (h2 := (h2.set 143 (cJ [z9]))) (fun a ha => by rw [hset_fr (by omega)]; exact fc.2 a (by omega))
    refine x_istore (ls' := [some (.ref _), some (.ref _), some (.ref _), some (.ref _), some (.ref _), some (vi _), some (vi _), none, none]) (dT U_Lc10 23 rfl) (by decide) rfl ?_
    refine x_aload_n (dT U_Lc10 24 rfl) rfl ?_
    refine x_aload_n (dT U_Lc10 25 rfl) rfl ?_
    refine x_iload (dT U_Lc10 26 rfl) rfl ?_
    refine x_iconst (dT U_Lc10 27 rfl) ?_
    refine x_iadd (dT U_Lc10 28 rfl) ?_
    refine x_sld (i + 1) hL (dT U_Lc10 29 rfl) (by omega) (by omega) ?_
    refine x_aload_n (dT U_Lc10 30 rfl) rfl ?_
    refine x_iload (dT U_Lc10 31 rfl) rfl ?_
    refine x_iconst (dT U_Lc10 32 rfl) ?_
    refine x_iadd (dT U_Lc10 33 rfl) ?_
    refine x_sld (i + 2) hL (dT U_Lc10 34 rfl) (by omega) (by omega) ?_
    refine x_aload_n (dT U_Lc10 35 rfl) rfl ?_
    refine x_iload (dT U_Lc10 36 rfl) rfl ?_
    refine x_iconst (dT U_Lc10 37 rfl) ?_
    refine x_iadd (dT U_Lc10 38 rfl) ?_
    refine x_sld (i + 3) hL (dT U_Lc10 39 rfl) (by omega) (by omega) ?_
    refine x_aload_n (dT U_Lc10 40 rfl) rfl ?_
    refine x_iload (dT U_Lc10 41 rfl) rfl ?_
    refine x_iconst (dT U_Lc10 42 rfl) ?_
    refine x_iadd (dT U_Lc10 43 rfl) ?_
    refine x_sld (i + 4) hL (dT U_Lc10 44 rfl) (by omega) (by omega) ?_
    refine x_invokevirtual (rc' := rc) (rs' := rs) (rc2 := 0) (rs2 := 0) (As := [_, _, _, _]) (st := _) M_X11_divide K_L_279 (dT U_Lc10 45 rfl) rfl rfl (by decide) rfl rfl wmx.c70 (Nat.le_of_ble_eq_true rfl) (by decide) rfl (Nat.le_of_ble_eq_true rfl) rfl (by decide) (Nat.le_of_ble_eq_true rfl) rfl rfl ?_
    refine S_X11_divide wmx v (xr_s _) (xr_s _) (xr_s _) (xr_s _) (fun m1 _ _ _ _ _ => absurd c1 m1) (fun m1 m2 _ _ _ _ _ => absurd c2 m2) (fun m1 m2 m3 _ _ _ _ _ => absurd c3 m3) (fun m1 m2 m3 h3 r3 s3 ag wx => ?_)
    refine xRet_some ?_
    rw [ez9]
    refine x_istore (ls' := [some (.ref _), some (.ref _), some (.ref _), some (.ref _), some (.ref _), some (vi _), some (vi _), some (vi _), none]) (dT U_Lc10 46 rfl) (by decide) rfl ?_
    refine x_aload_n (dT U_Lc10 47 rfl) rfl ?_
    refine x_invokevirtual (rc' := rc) (rs' := rs) (rc2 := 0) (rs2 := 0) (As := []) (st := _) M_X11_thrown K_L_242 (dT U_Lc10 48 rfl) rfl rfl (by decide) rfl rfl wx.c70 (Nat.le_of_ble_eq_true rfl) (by decide) rfl (Nat.le_of_ble_eq_true rfl) rfl (by decide) (Nat.le_of_ble_eq_true rfl) rfl rfl ?_
    refine S_X11_thrown wx ?_
    refine xRet_some ?_
    refine x_iload (dT U_Lc10 49 rfl) rfl ?_
    refine x_icmp_eq (tgt := 1165) (dT U_Lc10 50 rfl) (by decide) (by unfold xr; omega) (by unfold xr; omega) (fun c1160 => ?_) (fun c1160 => (by exfalso; omega))
    refine x_iload (dT U_Lc10 53 rfl) rfl ?_
    refine x_if_nen (tgt := 1182) (dT U_Lc10 54 rfl) (by decide) (by decide) ?_
    refine x_aload_n (dT U_Lc10 55 rfl) rfl ?_
    refine x_iconst (dT U_Lc10 56 rfl) ?_
    refine x_laload 0 (dT U_Lc10 57 rfl) (ag.get (hset_eq (fc.get ho (by omega))) (by omega)) (Nat.le_of_ble_eq_true rfl) rfl (Nat.le_of_ble_eq_true rfl) (Nat.le_of_ble_eq_true rfl) ?_
    refine x_iload (dT U_Lc10 58 rfl) rfl ?_
    refine x_i2l (dT U_Lc10 59 rfl) hz9 ?_
    refine x_lcmp (dT U_Lc10 60 rfl) (xr_l hz9) (xr_l hz9) ?_
    refine x_if_eqj (tgt := 1182) (dT U_Lc10 61 rfl) (by decide) (xcmp_rf _) ?_
    refine x_goto (tgt := 5554) (dT U_Lc10 64 rfl) (by decide) ?_
    refine x_drop ?_ (M _ _ _ _ _ _ _ _ (IV_divide v c1 c2 c3) ((w2.out ((Ag.rf 143 143 h2).set (by omega)) (by omega)).out ag (by omega)) wx (ag.get (hset_eq (fc.get ho (by omega))) (by omega)) (ag.get (hset_ne (by omega) (fc.get hod (by omega))) (by omega)))
    repeat (first | exact trivial | refine ⟨rfl, ?_⟩ | refine ⟨trivial, ?_⟩)

def B_Lc11 : ByteArray := .mk #[0x2b, 0x2a, 0x15, 0x05, 0x04, 0x60, 0x2e, 0x2a, 0x15, 0x05, 0x05, 0x60, 0x2e, 0x2a, 0x15, 0x05, 0x06, 0x60, 0x2e, 0x2a, 0x15, 0x05, 0x07, 0x60, 0x2e, 0x2d, 0xb8, 0x01, 0x18, 0x36, 0x06, 0x2c, 0x2a, 0x15, 0x05, 0x04, 0x60, 0x2e, 0x2a, 0x15, 0x05, 0x05, 0x60, 0x2e, 0x2a, 0x15, 0x05, 0x06, 0x60, 0x2e, 0x2a, 0x15, 0x05, 0x07, 0x60, 0x2e, 0xb6, 0x01, 0x1a, 0x36, 0x07, 0x2c, 0xb6, 0x00, 0xf2, 0x15, 0x06, 0x9f, 0x00, 0x05, 0x03, 0xac, 0x15, 0x06, 0x9a, 0x00, 0x0f, 0x2d, 0x03, 0x2f, 0x15, 0x07, 0x85, 0x94, 0x99, 0x00, 0x05, 0x03, 0xac, 0xa7, 0x10, 0xb8]
theorem W_Lc11 : sameFrom m_L_law.2.1 B_Lc11 1185 := sameFrom_of (by decide +kernel)
def t_Lc11 : List (Nat × Instr × Nat) := [(1185, .aload_n 1, 1), (1186, .aload_n 0, 1), (1187, .iload 5, 2), (1189, .iconst 1, 1), (1190, .iadd, 1), (1191, .iaload, 1), (1192, .aload_n 0, 1), (1193, .iload 5, 2), (1195, .iconst 2, 1), (1196, .iadd, 1), (1197, .iaload, 1), (1198, .aload_n 0, 1), (1199, .iload 5, 2), (1201, .iconst 3, 1), (1202, .iadd, 1), (1203, .iaload, 1), (1204, .aload_n 0, 1), (1205, .iload 5, 2), (1207, .iconst 4, 1), (1208, .iadd, 1), (1209, .iaload, 1), (1210, .aload_n 3, 1), (1211, .invokestatic 280, 3), (1214, .istore 6, 2), (1216, .aload_n 2, 1), (1217, .aload_n 0, 1), (1218, .iload 5, 2), (1220, .iconst 1, 1), (1221, .iadd, 1), (1222, .iaload, 1), (1223, .aload_n 0, 1), (1224, .iload 5, 2), (1226, .iconst 2, 1), (1227, .iadd, 1), (1228, .iaload, 1), (1229, .aload_n 0, 1), (1230, .iload 5, 2), (1232, .iconst 3, 1), (1233, .iadd, 1), (1234, .iaload, 1), (1235, .aload_n 0, 1), (1236, .iload 5, 2), (1238, .iconst 4, 1), (1239, .iadd, 1), (1240, .iaload, 1), (1241, .invokevirtual 282, 3), (1244, .istore 7, 2), (1246, .aload_n 2, 1), (1247, .invokevirtual 242, 3), (1250, .iload 6, 2), (1252, .if_icmp .eq 5, 3), (1255, .iconst 0, 1), (1256, .ireturn, 1), (1257, .iload 6, 2), (1259, .ifCond .ne 15, 3), (1262, .aload_n 3, 1), (1263, .iconst 0, 1), (1264, .laload, 1), (1265, .iload 7, 2), (1267, .i2l, 1), (1268, .lcmp, 1), (1269, .ifCond .eq 5, 3), (1272, .iconst 0, 1), (1273, .ireturn, 1), (1274, .goto 4280, 3)]
set_option maxRecDepth 20000 in
theorem U_Lc11 : okT m_L_law.2.1 t_Lc11 = true := dSt [(0, .aload_n 1, 1), (1, .aload_n 0, 1), (2, .iload 5, 2), (4, .iconst 1, 1), (5, .iadd, 1), (6, .iaload, 1), (7, .aload_n 0, 1), (8, .iload 5, 2), (10, .iconst 2, 1), (11, .iadd, 1), (12, .iaload, 1), (13, .aload_n 0, 1), (14, .iload 5, 2), (16, .iconst 3, 1), (17, .iadd, 1), (18, .iaload, 1), (19, .aload_n 0, 1), (20, .iload 5, 2), (22, .iconst 4, 1), (23, .iadd, 1), (24, .iaload, 1), (25, .aload_n 3, 1), (26, .invokestatic 280, 3), (29, .istore 6, 2), (31, .aload_n 2, 1), (32, .aload_n 0, 1), (33, .iload 5, 2), (35, .iconst 1, 1), (36, .iadd, 1), (37, .iaload, 1), (38, .aload_n 0, 1), (39, .iload 5, 2), (41, .iconst 2, 1), (42, .iadd, 1), (43, .iaload, 1), (44, .aload_n 0, 1), (45, .iload 5, 2), (47, .iconst 3, 1), (48, .iadd, 1), (49, .iaload, 1), (50, .aload_n 0, 1), (51, .iload 5, 2), (53, .iconst 4, 1), (54, .iadd, 1), (55, .iaload, 1), (56, .invokevirtual 282, 3), (59, .istore 7, 2), (61, .aload_n 2, 1), (62, .invokevirtual 242, 3), (65, .iload 6, 2), (67, .if_icmp .eq 5, 3), (70, .iconst 0, 1), (71, .ireturn, 1), (72, .iload 6, 2), (74, .ifCond .ne 15, 3), (77, .aload_n 3, 1), (78, .iconst 0, 1), (79, .laload, 1), (80, .iload 7, 2), (82, .i2l, 1), (83, .lcmp, 1), (84, .ifCond .eq 5, 3), (87, .iconst 0, 1), (88, .ireturn, 1), (89, .goto 4280, 3)] W_Lc11 (by decide +kernel) (by decide +kernel)
set_option maxRecDepth 20000 in
set_option maxHeartbeats 1000000 in
theorem LC_11 {G : xG} {d rc rs : Nat} {ex : Bool} {h : xH} {Q : xQ} {σ : St} {c0 : Int} {rr : Nat} {ss : Int} {l0 : Int} {d0 : UInt64} {i : Nat} (hL : G.2.2.2.2.2.1 < 2147483648) (hi : i + 10 ≤ G.2.2.2.2.2.1) (w : CW σ h) (wm : MX σ c0 rr ss h) (v : INV σ) (ho : h[143]? = some (cJ [l0])) (hod : h[144]? = some (cD [d0]))
    (M : ∀ (σ9 : St) (h9 : xH) (e9 : Bool) (c9 : Int) (r9 : Nat) (s9 : Int) (l9 : Int) (d9 : UInt64), INV σ9 → CW σ9 h9 → MX σ9 c9 r9 s9 h9 → h9[143]? = some (cJ [l9]) → h9[144]? = some (cD [d9]) → X G m_L_law (d + 10) rc rs e9 5554 [some (.ref 0), some (.ref 3), some (.ref 70), some (.ref 143), some (.ref 144), some (vi (i : Int)), none, none, none] [] h9 Q) : X G m_L_law (d + 10) (rc + 4) (rs + 24) ex 1185 [some (.ref 0), some (.ref 3), some (.ref 70), some (.ref 143), some (.ref 144), some (vi (i : Int)), none, none, none] [] h Q := by
  refine x_aload_n (dT U_Lc11 0 rfl) rfl ?_
  refine x_aload_n (dT U_Lc11 1 rfl) rfl ?_
  refine x_iload (dT U_Lc11 2 rfl) rfl ?_
  refine x_iconst (dT U_Lc11 3 rfl) ?_
  refine x_iadd (dT U_Lc11 4 rfl) ?_
  refine x_sld (i + 1) hL (dT U_Lc11 5 rfl) (by omega) (by omega) ?_
  refine x_aload_n (dT U_Lc11 6 rfl) rfl ?_
  refine x_iload (dT U_Lc11 7 rfl) rfl ?_
  refine x_iconst (dT U_Lc11 8 rfl) ?_
  refine x_iadd (dT U_Lc11 9 rfl) ?_
  refine x_sld (i + 2) hL (dT U_Lc11 10 rfl) (by omega) (by omega) ?_
  refine x_aload_n (dT U_Lc11 11 rfl) rfl ?_
  refine x_iload (dT U_Lc11 12 rfl) rfl ?_
  refine x_iconst (dT U_Lc11 13 rfl) ?_
  refine x_iadd (dT U_Lc11 14 rfl) ?_
  refine x_sld (i + 3) hL (dT U_Lc11 15 rfl) (by omega) (by omega) ?_
  refine x_aload_n (dT U_Lc11 16 rfl) rfl ?_
  refine x_iload (dT U_Lc11 17 rfl) rfl ?_
  refine x_iconst (dT U_Lc11 18 rfl) ?_
  refine x_iadd (dT U_Lc11 19 rfl) ?_
  refine x_sld (i + 4) hL (dT U_Lc11 20 rfl) (by omega) (by omega) ?_
  refine x_aload_n (dT U_Lc11 21 rfl) rfl ?_
  refine x_invokestaticT (rc' := rc) (rs' := rs) (rc2 := 0 + 4) (rs2 := 0 + 24) (As := [_, _, _, _, _, _]) (st := _) M_L_through K_L_280 (dT U_Lc11 22 rfl) rfl (by decide) rfl rfl (Nat.le_of_ble_eq_true rfl) rfl (by decide) (Nat.le_of_ble_eq_true rfl) (by omega) (by omega) ?_
  refine S_L_through w v (xr_s _) (xr_s _) (xr_s _) (xr_s _) ho (fun c1 => ?_) (fun c1 c2 => ?_) (fun c1 c2 h2 fc w2 z9 hz9 ez9 => ?_)
  · refine xRet_some ?_
    refine x_istore (ls' := [some (.ref _), some (.ref _), some (.ref _), some (.ref _), some (.ref _), some (vi _), some (vi _), none, none]) (dT U_Lc11 23 rfl) (by decide) rfl ?_
    refine x_aload_n (dT U_Lc11 24 rfl) rfl ?_
    refine x_aload_n (dT U_Lc11 25 rfl) rfl ?_
    refine x_iload (dT U_Lc11 26 rfl) rfl ?_
    refine x_iconst (dT U_Lc11 27 rfl) ?_
    refine x_iadd (dT U_Lc11 28 rfl) ?_
    refine x_sld (i + 1) hL (dT U_Lc11 29 rfl) (by omega) (by omega) ?_
    refine x_aload_n (dT U_Lc11 30 rfl) rfl ?_
    refine x_iload (dT U_Lc11 31 rfl) rfl ?_
    refine x_iconst (dT U_Lc11 32 rfl) ?_
    refine x_iadd (dT U_Lc11 33 rfl) ?_
    refine x_sld (i + 2) hL (dT U_Lc11 34 rfl) (by omega) (by omega) ?_
    refine x_aload_n (dT U_Lc11 35 rfl) rfl ?_
    refine x_iload (dT U_Lc11 36 rfl) rfl ?_
    refine x_iconst (dT U_Lc11 37 rfl) ?_
    refine x_iadd (dT U_Lc11 38 rfl) ?_
    refine x_sld (i + 3) hL (dT U_Lc11 39 rfl) (by omega) (by omega) ?_
    refine x_aload_n (dT U_Lc11 40 rfl) rfl ?_
    refine x_iload (dT U_Lc11 41 rfl) rfl ?_
    refine x_iconst (dT U_Lc11 42 rfl) ?_
    refine x_iadd (dT U_Lc11 43 rfl) ?_
    refine x_sld (i + 4) hL (dT U_Lc11 44 rfl) (by omega) (by omega) ?_
    refine x_invokevirtual (rc' := rc) (rs' := rs) (rc2 := 0) (rs2 := 0) (As := [_, _, _, _]) (st := _) M_X11_through K_L_282 (dT U_Lc11 45 rfl) rfl rfl (by decide) rfl rfl wm.c70 (Nat.le_of_ble_eq_true rfl) (by decide) rfl (Nat.le_of_ble_eq_true rfl) rfl (by decide) (Nat.le_of_ble_eq_true rfl) rfl rfl ?_
    refine S_X11_through wm v (xr_s _) (xr_s _) (xr_s _) (xr_s _) (fun m1 h3 z ag wx xz => ?_) (fun m1 m2 _ _ _ _ _ => absurd m1 c1) (fun m1 m2 _ _ _ _ _ => absurd m1 c1)
    refine xRet_some ?_
    refine x_istore (ls' := [some (.ref _), some (.ref _), some (.ref _), some (.ref _), some (.ref _), some (vi _), some (vi _), some (vi _), none]) (dT U_Lc11 46 rfl) (by decide) rfl ?_
    refine x_aload_n (dT U_Lc11 47 rfl) rfl ?_
    refine x_invokevirtual (rc' := rc) (rs' := rs) (rc2 := 0) (rs2 := 0) (As := []) (st := _) M_X11_thrown K_L_242 (dT U_Lc11 48 rfl) rfl rfl (by decide) rfl rfl wx.c70 (Nat.le_of_ble_eq_true rfl) (by decide) rfl (Nat.le_of_ble_eq_true rfl) rfl (by decide) (Nat.le_of_ble_eq_true rfl) rfl rfl ?_
    refine S_X11_thrown wx ?_
    refine xRet_some ?_
    refine x_iload (dT U_Lc11 49 rfl) rfl ?_
    refine x_icmp_eq (tgt := 1257) (dT U_Lc11 50 rfl) (by decide) (by unfold xr; omega) (by unfold xr; omega) (fun c1252 => ?_) (fun c1252 => (by exfalso; omega))
    refine x_iload (dT U_Lc11 53 rfl) rfl ?_
    refine x_if_nej (tgt := 1274) (dT U_Lc11 54 rfl) (by decide) (by decide) ?_
    refine x_goto (tgt := 5554) (dT U_Lc11 64 rfl) (by decide) ?_
    refine x_drop ?_ (M _ _ _ _ _ _ _ _ v (w.out ag (by omega)) wx (ag.get ho (by omega)) (ag.get hod (by omega)))
    repeat (first | exact trivial | refine ⟨rfl, ?_⟩ | refine ⟨trivial, ?_⟩)
  · refine xRet_some ?_
    refine x_istore (ls' := [some (.ref _), some (.ref _), some (.ref _), some (.ref _), some (.ref _), some (vi _), some (vi _), none, none]) (dT U_Lc11 23 rfl) (by decide) rfl ?_
    refine x_aload_n (dT U_Lc11 24 rfl) rfl ?_
    refine x_aload_n (dT U_Lc11 25 rfl) rfl ?_
    refine x_iload (dT U_Lc11 26 rfl) rfl ?_
    refine x_iconst (dT U_Lc11 27 rfl) ?_
    refine x_iadd (dT U_Lc11 28 rfl) ?_
    refine x_sld (i + 1) hL (dT U_Lc11 29 rfl) (by omega) (by omega) ?_
    refine x_aload_n (dT U_Lc11 30 rfl) rfl ?_
    refine x_iload (dT U_Lc11 31 rfl) rfl ?_
    refine x_iconst (dT U_Lc11 32 rfl) ?_
    refine x_iadd (dT U_Lc11 33 rfl) ?_
    refine x_sld (i + 2) hL (dT U_Lc11 34 rfl) (by omega) (by omega) ?_
    refine x_aload_n (dT U_Lc11 35 rfl) rfl ?_
    refine x_iload (dT U_Lc11 36 rfl) rfl ?_
    refine x_iconst (dT U_Lc11 37 rfl) ?_
    refine x_iadd (dT U_Lc11 38 rfl) ?_
    refine x_sld (i + 3) hL (dT U_Lc11 39 rfl) (by omega) (by omega) ?_
    refine x_aload_n (dT U_Lc11 40 rfl) rfl ?_
    refine x_iload (dT U_Lc11 41 rfl) rfl ?_
    refine x_iconst (dT U_Lc11 42 rfl) ?_
    refine x_iadd (dT U_Lc11 43 rfl) ?_
    refine x_sld (i + 4) hL (dT U_Lc11 44 rfl) (by omega) (by omega) ?_
    refine x_invokevirtual (rc' := rc) (rs' := rs) (rc2 := 0) (rs2 := 0) (As := [_, _, _, _]) (st := _) M_X11_through K_L_282 (dT U_Lc11 45 rfl) rfl rfl (by decide) rfl rfl wm.c70 (Nat.le_of_ble_eq_true rfl) (by decide) rfl (Nat.le_of_ble_eq_true rfl) rfl (by decide) (Nat.le_of_ble_eq_true rfl) rfl rfl ?_
    refine S_X11_through wm v (xr_s _) (xr_s _) (xr_s _) (xr_s _) (fun m1 _ _ _ _ _ => absurd c1 m1) (fun m1 m2 h3 z ag wx xz => ?_) (fun m1 m2 _ _ _ _ _ => absurd m2 c2)
    refine xRet_some ?_
    refine x_istore (ls' := [some (.ref _), some (.ref _), some (.ref _), some (.ref _), some (.ref _), some (vi _), some (vi _), some (vi _), none]) (dT U_Lc11 46 rfl) (by decide) rfl ?_
    refine x_aload_n (dT U_Lc11 47 rfl) rfl ?_
    refine x_invokevirtual (rc' := rc) (rs' := rs) (rc2 := 0) (rs2 := 0) (As := []) (st := _) M_X11_thrown K_L_242 (dT U_Lc11 48 rfl) rfl rfl (by decide) rfl rfl wx.c70 (Nat.le_of_ble_eq_true rfl) (by decide) rfl (Nat.le_of_ble_eq_true rfl) rfl (by decide) (Nat.le_of_ble_eq_true rfl) rfl rfl ?_
    refine S_X11_thrown wx ?_
    refine xRet_some ?_
    refine x_iload (dT U_Lc11 49 rfl) rfl ?_
    refine x_icmp_eq (tgt := 1257) (dT U_Lc11 50 rfl) (by decide) (by unfold xr; omega) (by unfold xr; omega) (fun c1252 => ?_) (fun c1252 => (by exfalso; omega))
    refine x_iload (dT U_Lc11 53 rfl) rfl ?_
    refine x_if_ne (tgt := 1274) (dT U_Lc11 54 rfl) (by decide) (by unfold xr; omega) (fun c1259 => ?_) (fun c1259 => (by exfalso; omega))
    refine x_goto (tgt := 5554) (dT U_Lc11 64 rfl) (by decide) ?_
    refine x_drop ?_ (M _ _ _ _ _ _ _ _ v (w.out ag (by omega)) wx (ag.get ho (by omega)) (ag.get hod (by omega)))
    repeat (first | exact trivial | refine ⟨rfl, ?_⟩ | refine ⟨trivial, ?_⟩)
  · refine xRet_some ?_
    have wmx := wm.out (h2 := (h2.set 143 (cJ [z9]))) (fun a ha => by rw [hset_fr (by omega)]; exact fc.2 a (by omega))
    refine x_istore (ls' := [some (.ref _), some (.ref _), some (.ref _), some (.ref _), some (.ref _), some (vi _), some (vi _), none, none]) (dT U_Lc11 23 rfl) (by decide) rfl ?_
    refine x_aload_n (dT U_Lc11 24 rfl) rfl ?_
    refine x_aload_n (dT U_Lc11 25 rfl) rfl ?_
    refine x_iload (dT U_Lc11 26 rfl) rfl ?_
    refine x_iconst (dT U_Lc11 27 rfl) ?_
    refine x_iadd (dT U_Lc11 28 rfl) ?_
    refine x_sld (i + 1) hL (dT U_Lc11 29 rfl) (by omega) (by omega) ?_
    refine x_aload_n (dT U_Lc11 30 rfl) rfl ?_
    refine x_iload (dT U_Lc11 31 rfl) rfl ?_
    refine x_iconst (dT U_Lc11 32 rfl) ?_
    refine x_iadd (dT U_Lc11 33 rfl) ?_
    refine x_sld (i + 2) hL (dT U_Lc11 34 rfl) (by omega) (by omega) ?_
    refine x_aload_n (dT U_Lc11 35 rfl) rfl ?_
    refine x_iload (dT U_Lc11 36 rfl) rfl ?_
    refine x_iconst (dT U_Lc11 37 rfl) ?_
    refine x_iadd (dT U_Lc11 38 rfl) ?_
    refine x_sld (i + 3) hL (dT U_Lc11 39 rfl) (by omega) (by omega) ?_
    refine x_aload_n (dT U_Lc11 40 rfl) rfl ?_
    refine x_iload (dT U_Lc11 41 rfl) rfl ?_
    refine x_iconst (dT U_Lc11 42 rfl) ?_
    refine x_iadd (dT U_Lc11 43 rfl) ?_
    refine x_sld (i + 4) hL (dT U_Lc11 44 rfl) (by omega) (by omega) ?_
    refine x_invokevirtual (rc' := rc) (rs' := rs) (rc2 := 0) (rs2 := 0) (As := [_, _, _, _]) (st := _) M_X11_through K_L_282 (dT U_Lc11 45 rfl) rfl rfl (by decide) rfl rfl wmx.c70 (Nat.le_of_ble_eq_true rfl) (by decide) rfl (Nat.le_of_ble_eq_true rfl) rfl (by decide) (Nat.le_of_ble_eq_true rfl) rfl rfl ?_
    refine S_X11_through wmx v (xr_s _) (xr_s _) (xr_s _) (xr_s _) (fun m1 _ _ _ _ _ => absurd c1 m1) (fun m1 m2 _ _ _ _ _ => absurd c2 m2) (fun m1 m2 h3 r3 s3 ag wx => ?_)
    refine xRet_some ?_
    rw [ez9]
    refine x_istore (ls' := [some (.ref _), some (.ref _), some (.ref _), some (.ref _), some (.ref _), some (vi _), some (vi _), some (vi _), none]) (dT U_Lc11 46 rfl) (by decide) rfl ?_
    refine x_aload_n (dT U_Lc11 47 rfl) rfl ?_
    refine x_invokevirtual (rc' := rc) (rs' := rs) (rc2 := 0) (rs2 := 0) (As := []) (st := _) M_X11_thrown K_L_242 (dT U_Lc11 48 rfl) rfl rfl (by decide) rfl rfl wx.c70 (Nat.le_of_ble_eq_true rfl) (by decide) rfl (Nat.le_of_ble_eq_true rfl) rfl (by decide) (Nat.le_of_ble_eq_true rfl) rfl rfl ?_
    refine S_X11_thrown wx ?_
    refine xRet_some ?_
    refine x_iload (dT U_Lc11 49 rfl) rfl ?_
    refine x_icmp_eq (tgt := 1257) (dT U_Lc11 50 rfl) (by decide) (by unfold xr; omega) (by unfold xr; omega) (fun c1252 => ?_) (fun c1252 => (by exfalso; omega))
    refine x_iload (dT U_Lc11 53 rfl) rfl ?_
    refine x_if_nen (tgt := 1274) (dT U_Lc11 54 rfl) (by decide) (by decide) ?_
    refine x_aload_n (dT U_Lc11 55 rfl) rfl ?_
    refine x_iconst (dT U_Lc11 56 rfl) ?_
    refine x_laload 0 (dT U_Lc11 57 rfl) (ag.get (hset_eq (fc.get ho (by omega))) (by omega)) (Nat.le_of_ble_eq_true rfl) rfl (Nat.le_of_ble_eq_true rfl) (Nat.le_of_ble_eq_true rfl) ?_
    refine x_iload (dT U_Lc11 58 rfl) rfl ?_
    refine x_i2l (dT U_Lc11 59 rfl) hz9 ?_
    refine x_lcmp (dT U_Lc11 60 rfl) (xr_l hz9) (xr_l hz9) ?_
    refine x_if_eqj (tgt := 1274) (dT U_Lc11 61 rfl) (by decide) (xcmp_rf _) ?_
    refine x_goto (tgt := 5554) (dT U_Lc11 64 rfl) (by decide) ?_
    refine x_drop ?_ (M _ _ _ _ _ _ _ _ (IV_through v c1 c2) ((w2.out ((Ag.rf 143 143 h2).set (by omega)) (by omega)).out ag (by omega)) wx (ag.get (hset_eq (fc.get ho (by omega))) (by omega)) (ag.get (hset_ne (by omega) (fc.get hod (by omega))) (by omega)))
    repeat (first | exact trivial | refine ⟨rfl, ?_⟩ | refine ⟨trivial, ?_⟩)

def B_Lc12 : ByteArray := .mk #[0x2b, 0x2a, 0x15, 0x05, 0x04, 0x60, 0x2e, 0x2a, 0x15, 0x05, 0x05, 0x60, 0x2e, 0x2d, 0xb8, 0x01, 0x1b, 0x36, 0x06, 0x2c, 0x2a, 0x15, 0x05, 0x04, 0x60, 0x2e, 0x2a, 0x15, 0x05, 0x05, 0x60, 0x2e, 0xb6, 0x01, 0x1d, 0x36, 0x07, 0x2c, 0xb6, 0x00, 0xf2, 0x15, 0x06, 0x9f, 0x00, 0x05, 0x03, 0xac, 0x15, 0x06, 0x9a, 0x00, 0x0f, 0x2d, 0x03, 0x2f, 0x15, 0x07, 0x85, 0x94, 0x99, 0x00, 0x05, 0x03, 0xac, 0xa7, 0x10, 0x74]
theorem W_Lc12 : sameFrom m_L_law.2.1 B_Lc12 1277 := sameFrom_of (by decide +kernel)
def t_Lc12 : List (Nat × Instr × Nat) := [(1277, .aload_n 1, 1), (1278, .aload_n 0, 1), (1279, .iload 5, 2), (1281, .iconst 1, 1), (1282, .iadd, 1), (1283, .iaload, 1), (1284, .aload_n 0, 1), (1285, .iload 5, 2), (1287, .iconst 2, 1), (1288, .iadd, 1), (1289, .iaload, 1), (1290, .aload_n 3, 1), (1291, .invokestatic 283, 3), (1294, .istore 6, 2), (1296, .aload_n 2, 1), (1297, .aload_n 0, 1), (1298, .iload 5, 2), (1300, .iconst 1, 1), (1301, .iadd, 1), (1302, .iaload, 1), (1303, .aload_n 0, 1), (1304, .iload 5, 2), (1306, .iconst 2, 1), (1307, .iadd, 1), (1308, .iaload, 1), (1309, .invokevirtual 285, 3), (1312, .istore 7, 2), (1314, .aload_n 2, 1), (1315, .invokevirtual 242, 3), (1318, .iload 6, 2), (1320, .if_icmp .eq 5, 3), (1323, .iconst 0, 1), (1324, .ireturn, 1), (1325, .iload 6, 2), (1327, .ifCond .ne 15, 3), (1330, .aload_n 3, 1), (1331, .iconst 0, 1), (1332, .laload, 1), (1333, .iload 7, 2), (1335, .i2l, 1), (1336, .lcmp, 1), (1337, .ifCond .eq 5, 3), (1340, .iconst 0, 1), (1341, .ireturn, 1), (1342, .goto 4212, 3)]
set_option maxRecDepth 20000 in
theorem U_Lc12 : okT m_L_law.2.1 t_Lc12 = true := dSt [(0, .aload_n 1, 1), (1, .aload_n 0, 1), (2, .iload 5, 2), (4, .iconst 1, 1), (5, .iadd, 1), (6, .iaload, 1), (7, .aload_n 0, 1), (8, .iload 5, 2), (10, .iconst 2, 1), (11, .iadd, 1), (12, .iaload, 1), (13, .aload_n 3, 1), (14, .invokestatic 283, 3), (17, .istore 6, 2), (19, .aload_n 2, 1), (20, .aload_n 0, 1), (21, .iload 5, 2), (23, .iconst 1, 1), (24, .iadd, 1), (25, .iaload, 1), (26, .aload_n 0, 1), (27, .iload 5, 2), (29, .iconst 2, 1), (30, .iadd, 1), (31, .iaload, 1), (32, .invokevirtual 285, 3), (35, .istore 7, 2), (37, .aload_n 2, 1), (38, .invokevirtual 242, 3), (41, .iload 6, 2), (43, .if_icmp .eq 5, 3), (46, .iconst 0, 1), (47, .ireturn, 1), (48, .iload 6, 2), (50, .ifCond .ne 15, 3), (53, .aload_n 3, 1), (54, .iconst 0, 1), (55, .laload, 1), (56, .iload 7, 2), (58, .i2l, 1), (59, .lcmp, 1), (60, .ifCond .eq 5, 3), (63, .iconst 0, 1), (64, .ireturn, 1), (65, .goto 4212, 3)] W_Lc12 (by decide +kernel) (by decide +kernel)
set_option maxRecDepth 20000 in
set_option maxHeartbeats 1000000 in
theorem LC_12 {G : xG} {d rc rs : Nat} {ex : Bool} {h : xH} {Q : xQ} {σ : St} {c0 : Int} {rr : Nat} {ss : Int} {l0 : Int} {d0 : UInt64} {i : Nat} (hL : G.2.2.2.2.2.1 < 2147483648) (hi : i + 10 ≤ G.2.2.2.2.2.1) (w : CW σ h) (wm : MX σ c0 rr ss h) (v : INV σ) (ho : h[143]? = some (cJ [l0])) (hod : h[144]? = some (cD [d0]))
    (M : ∀ (σ9 : St) (h9 : xH) (e9 : Bool) (c9 : Int) (r9 : Nat) (s9 : Int) (l9 : Int) (d9 : UInt64), INV σ9 → CW σ9 h9 → MX σ9 c9 r9 s9 h9 → h9[143]? = some (cJ [l9]) → h9[144]? = some (cD [d9]) → X G m_L_law (d + 10) rc rs e9 5554 [some (.ref 0), some (.ref 3), some (.ref 70), some (.ref 143), some (.ref 144), some (vi (i : Int)), none, none, none] [] h9 Q) : X G m_L_law (d + 10) (rc + 2) (rs + 12) ex 1277 [some (.ref 0), some (.ref 3), some (.ref 70), some (.ref 143), some (.ref 144), some (vi (i : Int)), none, none, none] [] h Q := by
  refine x_aload_n (dT U_Lc12 0 rfl) rfl ?_
  refine x_aload_n (dT U_Lc12 1 rfl) rfl ?_
  refine x_iload (dT U_Lc12 2 rfl) rfl ?_
  refine x_iconst (dT U_Lc12 3 rfl) ?_
  refine x_iadd (dT U_Lc12 4 rfl) ?_
  refine x_sld (i + 1) hL (dT U_Lc12 5 rfl) (by omega) (by omega) ?_
  refine x_aload_n (dT U_Lc12 6 rfl) rfl ?_
  refine x_iload (dT U_Lc12 7 rfl) rfl ?_
  refine x_iconst (dT U_Lc12 8 rfl) ?_
  refine x_iadd (dT U_Lc12 9 rfl) ?_
  refine x_sld (i + 2) hL (dT U_Lc12 10 rfl) (by omega) (by omega) ?_
  refine x_aload_n (dT U_Lc12 11 rfl) rfl ?_
  refine x_invokestaticT (rc' := rc) (rs' := rs) (rc2 := 0 + 2) (rs2 := 0 + 12) (As := [_, _, _, _]) (st := _) M_L_powers K_L_283 (dT U_Lc12 12 rfl) rfl (by decide) rfl rfl (Nat.le_of_ble_eq_true rfl) rfl (by decide) (Nat.le_of_ble_eq_true rfl) (by omega) (by omega) ?_
  refine S_L_powers w v (xr_s _) (xr_s _) ho (fun c1 => ?_) (fun c1 c2 => ?_) (fun c1 c2 h2 fc w2 z9 hz9 ez9 => ?_)
  · refine xRet_some ?_
    refine x_istore (ls' := [some (.ref _), some (.ref _), some (.ref _), some (.ref _), some (.ref _), some (vi _), some (vi _), none, none]) (dT U_Lc12 13 rfl) (by decide) rfl ?_
    refine x_aload_n (dT U_Lc12 14 rfl) rfl ?_
    refine x_aload_n (dT U_Lc12 15 rfl) rfl ?_
    refine x_iload (dT U_Lc12 16 rfl) rfl ?_
    refine x_iconst (dT U_Lc12 17 rfl) ?_
    refine x_iadd (dT U_Lc12 18 rfl) ?_
    refine x_sld (i + 1) hL (dT U_Lc12 19 rfl) (by omega) (by omega) ?_
    refine x_aload_n (dT U_Lc12 20 rfl) rfl ?_
    refine x_iload (dT U_Lc12 21 rfl) rfl ?_
    refine x_iconst (dT U_Lc12 22 rfl) ?_
    refine x_iadd (dT U_Lc12 23 rfl) ?_
    refine x_sld (i + 2) hL (dT U_Lc12 24 rfl) (by omega) (by omega) ?_
    refine x_invokevirtual (rc' := rc) (rs' := rs) (rc2 := 0) (rs2 := 0) (As := [_, _]) (st := _) M_X11_powers K_L_285 (dT U_Lc12 25 rfl) rfl rfl (by decide) rfl rfl wm.c70 (Nat.le_of_ble_eq_true rfl) (by decide) rfl (Nat.le_of_ble_eq_true rfl) rfl (by decide) (Nat.le_of_ble_eq_true rfl) rfl rfl ?_
    refine S_X11_powers wm v (xr_s _) (xr_s _) (fun m1 h3 z ag wx xz => ?_) (fun m1 m2 _ _ _ _ _ => absurd m1 c1) (fun m1 m2 _ _ _ _ _ => absurd m1 c1)
    refine xRet_some ?_
    refine x_istore (ls' := [some (.ref _), some (.ref _), some (.ref _), some (.ref _), some (.ref _), some (vi _), some (vi _), some (vi _), none]) (dT U_Lc12 26 rfl) (by decide) rfl ?_
    refine x_aload_n (dT U_Lc12 27 rfl) rfl ?_
    refine x_invokevirtual (rc' := rc) (rs' := rs) (rc2 := 0) (rs2 := 0) (As := []) (st := _) M_X11_thrown K_L_242 (dT U_Lc12 28 rfl) rfl rfl (by decide) rfl rfl wx.c70 (Nat.le_of_ble_eq_true rfl) (by decide) rfl (Nat.le_of_ble_eq_true rfl) rfl (by decide) (Nat.le_of_ble_eq_true rfl) rfl rfl ?_
    refine S_X11_thrown wx ?_
    refine xRet_some ?_
    refine x_iload (dT U_Lc12 29 rfl) rfl ?_
    refine x_icmp_eq (tgt := 1325) (dT U_Lc12 30 rfl) (by decide) (by unfold xr; omega) (by unfold xr; omega) (fun c1320 => ?_) (fun c1320 => (by exfalso; omega))
    refine x_iload (dT U_Lc12 33 rfl) rfl ?_
    refine x_if_nej (tgt := 1342) (dT U_Lc12 34 rfl) (by decide) (by decide) ?_
    refine x_goto (tgt := 5554) (dT U_Lc12 44 rfl) (by decide) ?_
    refine x_drop ?_ (M _ _ _ _ _ _ _ _ v (w.out ag (by omega)) wx (ag.get ho (by omega)) (ag.get hod (by omega)))
    repeat (first | exact trivial | refine ⟨rfl, ?_⟩ | refine ⟨trivial, ?_⟩)
  · refine xRet_some ?_
    refine x_istore (ls' := [some (.ref _), some (.ref _), some (.ref _), some (.ref _), some (.ref _), some (vi _), some (vi _), none, none]) (dT U_Lc12 13 rfl) (by decide) rfl ?_
    refine x_aload_n (dT U_Lc12 14 rfl) rfl ?_
    refine x_aload_n (dT U_Lc12 15 rfl) rfl ?_
    refine x_iload (dT U_Lc12 16 rfl) rfl ?_
    refine x_iconst (dT U_Lc12 17 rfl) ?_
    refine x_iadd (dT U_Lc12 18 rfl) ?_
    refine x_sld (i + 1) hL (dT U_Lc12 19 rfl) (by omega) (by omega) ?_
    refine x_aload_n (dT U_Lc12 20 rfl) rfl ?_
    refine x_iload (dT U_Lc12 21 rfl) rfl ?_
    refine x_iconst (dT U_Lc12 22 rfl) ?_
    refine x_iadd (dT U_Lc12 23 rfl) ?_
    refine x_sld (i + 2) hL (dT U_Lc12 24 rfl) (by omega) (by omega) ?_
    refine x_invokevirtual (rc' := rc) (rs' := rs) (rc2 := 0) (rs2 := 0) (As := [_, _]) (st := _) M_X11_powers K_L_285 (dT U_Lc12 25 rfl) rfl rfl (by decide) rfl rfl wm.c70 (Nat.le_of_ble_eq_true rfl) (by decide) rfl (Nat.le_of_ble_eq_true rfl) rfl (by decide) (Nat.le_of_ble_eq_true rfl) rfl rfl ?_
    refine S_X11_powers wm v (xr_s _) (xr_s _) (fun m1 _ _ _ _ _ => absurd c1 m1) (fun m1 m2 h3 z ag wx xz => ?_) (fun m1 m2 _ _ _ _ _ => absurd m2 c2)
    refine xRet_some ?_
    refine x_istore (ls' := [some (.ref _), some (.ref _), some (.ref _), some (.ref _), some (.ref _), some (vi _), some (vi _), some (vi _), none]) (dT U_Lc12 26 rfl) (by decide) rfl ?_
    refine x_aload_n (dT U_Lc12 27 rfl) rfl ?_
    refine x_invokevirtual (rc' := rc) (rs' := rs) (rc2 := 0) (rs2 := 0) (As := []) (st := _) M_X11_thrown K_L_242 (dT U_Lc12 28 rfl) rfl rfl (by decide) rfl rfl wx.c70 (Nat.le_of_ble_eq_true rfl) (by decide) rfl (Nat.le_of_ble_eq_true rfl) rfl (by decide) (Nat.le_of_ble_eq_true rfl) rfl rfl ?_
    refine S_X11_thrown wx ?_
    refine xRet_some ?_
    refine x_iload (dT U_Lc12 29 rfl) rfl ?_
    refine x_icmp_eq (tgt := 1325) (dT U_Lc12 30 rfl) (by decide) (by unfold xr; omega) (by unfold xr; omega) (fun c1320 => ?_) (fun c1320 => (by exfalso; omega))
    refine x_iload (dT U_Lc12 33 rfl) rfl ?_
    refine x_if_ne (tgt := 1342) (dT U_Lc12 34 rfl) (by decide) (by unfold xr; omega) (fun c1327 => ?_) (fun c1327 => (by exfalso; omega))
    refine x_goto (tgt := 5554) (dT U_Lc12 44 rfl) (by decide) ?_
    refine x_drop ?_ (M _ _ _ _ _ _ _ _ v (w.out ag (by omega)) wx (ag.get ho (by omega)) (ag.get hod (by omega)))
    repeat (first | exact trivial | refine ⟨rfl, ?_⟩ | refine ⟨trivial, ?_⟩)
  · refine xRet_some ?_
    have wmx := wm.out (h2 := (h2.set 143 (cJ [z9]))) (fun a ha => by rw [hset_fr (by omega)]; exact fc.2 a (by omega))
    refine x_istore (ls' := [some (.ref _), some (.ref _), some (.ref _), some (.ref _), some (.ref _), some (vi _), some (vi _), none, none]) (dT U_Lc12 13 rfl) (by decide) rfl ?_
    refine x_aload_n (dT U_Lc12 14 rfl) rfl ?_
    refine x_aload_n (dT U_Lc12 15 rfl) rfl ?_
    refine x_iload (dT U_Lc12 16 rfl) rfl ?_
    refine x_iconst (dT U_Lc12 17 rfl) ?_
    refine x_iadd (dT U_Lc12 18 rfl) ?_
    refine x_sld (i + 1) hL (dT U_Lc12 19 rfl) (by omega) (by omega) ?_
    refine x_aload_n (dT U_Lc12 20 rfl) rfl ?_
    refine x_iload (dT U_Lc12 21 rfl) rfl ?_
    refine x_iconst (dT U_Lc12 22 rfl) ?_
    refine x_iadd (dT U_Lc12 23 rfl) ?_
    refine x_sld (i + 2) hL (dT U_Lc12 24 rfl) (by omega) (by omega) ?_
    refine x_invokevirtual (rc' := rc) (rs' := rs) (rc2 := 0) (rs2 := 0) (As := [_, _]) (st := _) M_X11_powers K_L_285 (dT U_Lc12 25 rfl) rfl rfl (by decide) rfl rfl wmx.c70 (Nat.le_of_ble_eq_true rfl) (by decide) rfl (Nat.le_of_ble_eq_true rfl) rfl (by decide) (Nat.le_of_ble_eq_true rfl) rfl rfl ?_
    refine S_X11_powers wmx v (xr_s _) (xr_s _) (fun m1 _ _ _ _ _ => absurd c1 m1) (fun m1 m2 _ _ _ _ _ => absurd c2 m2) (fun m1 m2 h3 r3 s3 ag wx => ?_)
    refine xRet_some ?_
    rw [ez9]
    refine x_istore (ls' := [some (.ref _), some (.ref _), some (.ref _), some (.ref _), some (.ref _), some (vi _), some (vi _), some (vi _), none]) (dT U_Lc12 26 rfl) (by decide) rfl ?_
    refine x_aload_n (dT U_Lc12 27 rfl) rfl ?_
    refine x_invokevirtual (rc' := rc) (rs' := rs) (rc2 := 0) (rs2 := 0) (As := []) (st := _) M_X11_thrown K_L_242 (dT U_Lc12 28 rfl) rfl rfl (by decide) rfl rfl wx.c70 (Nat.le_of_ble_eq_true rfl) (by decide) rfl (Nat.le_of_ble_eq_true rfl) rfl (by decide) (Nat.le_of_ble_eq_true rfl) rfl rfl ?_
    refine S_X11_thrown wx ?_
    refine xRet_some ?_
    refine x_iload (dT U_Lc12 29 rfl) rfl ?_
    refine x_icmp_eq (tgt := 1325) (dT U_Lc12 30 rfl) (by decide) (by unfold xr; omega) (by unfold xr; omega) (fun c1320 => ?_) (fun c1320 => (by exfalso; omega))
    refine x_iload (dT U_Lc12 33 rfl) rfl ?_
    refine x_if_nen (tgt := 1342) (dT U_Lc12 34 rfl) (by decide) (by decide) ?_
    refine x_aload_n (dT U_Lc12 35 rfl) rfl ?_
    refine x_iconst (dT U_Lc12 36 rfl) ?_
    refine x_laload 0 (dT U_Lc12 37 rfl) (ag.get (hset_eq (fc.get ho (by omega))) (by omega)) (Nat.le_of_ble_eq_true rfl) rfl (Nat.le_of_ble_eq_true rfl) (Nat.le_of_ble_eq_true rfl) ?_
    refine x_iload (dT U_Lc12 38 rfl) rfl ?_
    refine x_i2l (dT U_Lc12 39 rfl) hz9 ?_
    refine x_lcmp (dT U_Lc12 40 rfl) (xr_l hz9) (xr_l hz9) ?_
    refine x_if_eqj (tgt := 1342) (dT U_Lc12 41 rfl) (by decide) (xcmp_rf _) ?_
    refine x_goto (tgt := 5554) (dT U_Lc12 44 rfl) (by decide) ?_
    refine x_drop ?_ (M _ _ _ _ _ _ _ _ (IV_powers v c1 c2) ((w2.out ((Ag.rf 143 143 h2).set (by omega)) (by omega)).out ag (by omega)) wx (ag.get (hset_eq (fc.get ho (by omega))) (by omega)) (ag.get (hset_ne (by omega) (fc.get hod (by omega))) (by omega)))
    repeat (first | exact trivial | refine ⟨rfl, ?_⟩ | refine ⟨trivial, ?_⟩)

def B_Lc13 : ByteArray := .mk #[0x2b, 0x2a, 0x15, 0x05, 0x04, 0x60, 0x2e, 0x2a, 0x15, 0x05, 0x05, 0x60, 0x2e, 0x2d, 0xb8, 0x01, 0x1e, 0x36, 0x06, 0x2c, 0x2a, 0x15, 0x05, 0x04, 0x60, 0x2e, 0x2a, 0x15, 0x05, 0x05, 0x60, 0x2e, 0xb6, 0x01, 0x20, 0x36, 0x07, 0x2c, 0xb6, 0x00, 0xf2, 0x15, 0x06, 0x9f, 0x00, 0x05, 0x03, 0xac, 0x15, 0x06, 0x9a, 0x00, 0x16, 0x2d, 0x03, 0x2f, 0x15, 0x07, 0x99, 0x00, 0x07, 0x0a, 0xa7, 0x00, 0x04, 0x09, 0x94, 0x99, 0x00, 0x05, 0x03, 0xac, 0xa7, 0x10, 0x29]
theorem W_Lc13 : sameFrom m_L_law.2.1 B_Lc13 1345 := sameFrom_of (by decide +kernel)
def t_Lc13 : List (Nat × Instr × Nat) := [(1345, .aload_n 1, 1), (1346, .aload_n 0, 1), (1347, .iload 5, 2), (1349, .iconst 1, 1), (1350, .iadd, 1), (1351, .iaload, 1), (1352, .aload_n 0, 1), (1353, .iload 5, 2), (1355, .iconst 2, 1), (1356, .iadd, 1), (1357, .iaload, 1), (1358, .aload_n 3, 1), (1359, .invokestatic 286, 3), (1362, .istore 6, 2), (1364, .aload_n 2, 1), (1365, .aload_n 0, 1), (1366, .iload 5, 2), (1368, .iconst 1, 1), (1369, .iadd, 1), (1370, .iaload, 1), (1371, .aload_n 0, 1), (1372, .iload 5, 2), (1374, .iconst 2, 1), (1375, .iadd, 1), (1376, .iaload, 1), (1377, .invokevirtual 288, 3), (1380, .istore 7, 2), (1382, .aload_n 2, 1), (1383, .invokevirtual 242, 3), (1386, .iload 6, 2), (1388, .if_icmp .eq 5, 3), (1391, .iconst 0, 1), (1392, .ireturn, 1), (1393, .iload 6, 2), (1395, .ifCond .ne 22, 3), (1398, .aload_n 3, 1), (1399, .iconst 0, 1), (1400, .laload, 1), (1401, .iload 7, 2), (1403, .ifCond .eq 7, 3), (1406, .lconst 1, 1), (1407, .goto 4, 3), (1410, .lconst 0, 1), (1411, .lcmp, 1), (1412, .ifCond .eq 5, 3), (1415, .iconst 0, 1), (1416, .ireturn, 1), (1417, .goto 4137, 3)]
set_option maxRecDepth 20000 in
theorem U_Lc13 : okT m_L_law.2.1 t_Lc13 = true := dSt [(0, .aload_n 1, 1), (1, .aload_n 0, 1), (2, .iload 5, 2), (4, .iconst 1, 1), (5, .iadd, 1), (6, .iaload, 1), (7, .aload_n 0, 1), (8, .iload 5, 2), (10, .iconst 2, 1), (11, .iadd, 1), (12, .iaload, 1), (13, .aload_n 3, 1), (14, .invokestatic 286, 3), (17, .istore 6, 2), (19, .aload_n 2, 1), (20, .aload_n 0, 1), (21, .iload 5, 2), (23, .iconst 1, 1), (24, .iadd, 1), (25, .iaload, 1), (26, .aload_n 0, 1), (27, .iload 5, 2), (29, .iconst 2, 1), (30, .iadd, 1), (31, .iaload, 1), (32, .invokevirtual 288, 3), (35, .istore 7, 2), (37, .aload_n 2, 1), (38, .invokevirtual 242, 3), (41, .iload 6, 2), (43, .if_icmp .eq 5, 3), (46, .iconst 0, 1), (47, .ireturn, 1), (48, .iload 6, 2), (50, .ifCond .ne 22, 3), (53, .aload_n 3, 1), (54, .iconst 0, 1), (55, .laload, 1), (56, .iload 7, 2), (58, .ifCond .eq 7, 3), (61, .lconst 1, 1), (62, .goto 4, 3), (65, .lconst 0, 1), (66, .lcmp, 1), (67, .ifCond .eq 5, 3), (70, .iconst 0, 1), (71, .ireturn, 1), (72, .goto 4137, 3)] W_Lc13 (by decide +kernel) (by decide +kernel)
set_option maxRecDepth 20000 in
set_option maxHeartbeats 1000000 in
theorem LC_13 {G : xG} {d rc rs : Nat} {ex : Bool} {h : xH} {Q : xQ} {σ : St} {c0 : Int} {rr : Nat} {ss : Int} {l0 : Int} {d0 : UInt64} {i : Nat} (hL : G.2.2.2.2.2.1 < 2147483648) (hi : i + 10 ≤ G.2.2.2.2.2.1) (w : CW σ h) (wm : MX σ c0 rr ss h) (v : INV σ) (ho : h[143]? = some (cJ [l0])) (hod : h[144]? = some (cD [d0]))
    (M : ∀ (σ9 : St) (h9 : xH) (e9 : Bool) (c9 : Int) (r9 : Nat) (s9 : Int) (l9 : Int) (d9 : UInt64), INV σ9 → CW σ9 h9 → MX σ9 c9 r9 s9 h9 → h9[143]? = some (cJ [l9]) → h9[144]? = some (cD [d9]) → X G m_L_law (d + 10) rc rs e9 5554 [some (.ref 0), some (.ref 3), some (.ref 70), some (.ref 143), some (.ref 144), some (vi (i : Int)), none, none, none] [] h9 Q) : X G m_L_law (d + 10) (rc + 2) (rs + 12) ex 1345 [some (.ref 0), some (.ref 3), some (.ref 70), some (.ref 143), some (.ref 144), some (vi (i : Int)), none, none, none] [] h Q := by
  refine x_aload_n (dT U_Lc13 0 rfl) rfl ?_
  refine x_aload_n (dT U_Lc13 1 rfl) rfl ?_
  refine x_iload (dT U_Lc13 2 rfl) rfl ?_
  refine x_iconst (dT U_Lc13 3 rfl) ?_
  refine x_iadd (dT U_Lc13 4 rfl) ?_
  refine x_sld (i + 1) hL (dT U_Lc13 5 rfl) (by omega) (by omega) ?_
  refine x_aload_n (dT U_Lc13 6 rfl) rfl ?_
  refine x_iload (dT U_Lc13 7 rfl) rfl ?_
  refine x_iconst (dT U_Lc13 8 rfl) ?_
  refine x_iadd (dT U_Lc13 9 rfl) ?_
  refine x_sld (i + 2) hL (dT U_Lc13 10 rfl) (by omega) (by omega) ?_
  refine x_aload_n (dT U_Lc13 11 rfl) rfl ?_
  refine x_invokestaticT (rc' := rc) (rs' := rs) (rc2 := 0 + 2) (rs2 := 0 + 12) (As := [_, _, _, _]) (st := _) M_L_isMixed K_L_286 (dT U_Lc13 12 rfl) rfl (by decide) rfl rfl (Nat.le_of_ble_eq_true rfl) rfl (by decide) (Nat.le_of_ble_eq_true rfl) (by omega) (by omega) ?_
  refine S_L_isMixed w v (xr_s _) (xr_s _) ho (fun c1 => ?_) (fun c1 c2 => ?_) (fun c1 c2 => ?_)
  · refine xRet_some ?_
    refine x_istore (ls' := [some (.ref _), some (.ref _), some (.ref _), some (.ref _), some (.ref _), some (vi _), some (vi _), none, none]) (dT U_Lc13 13 rfl) (by decide) rfl ?_
    refine x_aload_n (dT U_Lc13 14 rfl) rfl ?_
    refine x_aload_n (dT U_Lc13 15 rfl) rfl ?_
    refine x_iload (dT U_Lc13 16 rfl) rfl ?_
    refine x_iconst (dT U_Lc13 17 rfl) ?_
    refine x_iadd (dT U_Lc13 18 rfl) ?_
    refine x_sld (i + 1) hL (dT U_Lc13 19 rfl) (by omega) (by omega) ?_
    refine x_aload_n (dT U_Lc13 20 rfl) rfl ?_
    refine x_iload (dT U_Lc13 21 rfl) rfl ?_
    refine x_iconst (dT U_Lc13 22 rfl) ?_
    refine x_iadd (dT U_Lc13 23 rfl) ?_
    refine x_sld (i + 2) hL (dT U_Lc13 24 rfl) (by omega) (by omega) ?_
    refine x_invokevirtual (rc' := rc) (rs' := rs) (rc2 := 0) (rs2 := 0) (As := [_, _]) (st := _) M_X11_isMixed K_L_288 (dT U_Lc13 25 rfl) rfl rfl (by decide) rfl rfl wm.c70 (Nat.le_of_ble_eq_true rfl) (by decide) rfl (Nat.le_of_ble_eq_true rfl) rfl (by decide) (Nat.le_of_ble_eq_true rfl) rfl rfl ?_
    refine S_X11_isMixed wm v (xr_s _) (xr_s _) (fun m1 h3 z ag wx xz => ?_) (fun m1 m2 _ _ _ _ _ => absurd m1 c1) (fun m1 m2 _ _ _ _ _ => absurd m1 c1)
    refine xRet_some ?_
    refine x_istore (ls' := [some (.ref _), some (.ref _), some (.ref _), some (.ref _), some (.ref _), some (vi _), some (vi _), some (vi _), none]) (dT U_Lc13 26 rfl) (by decide) rfl ?_
    refine x_aload_n (dT U_Lc13 27 rfl) rfl ?_
    refine x_invokevirtual (rc' := rc) (rs' := rs) (rc2 := 0) (rs2 := 0) (As := []) (st := _) M_X11_thrown K_L_242 (dT U_Lc13 28 rfl) rfl rfl (by decide) rfl rfl wx.c70 (Nat.le_of_ble_eq_true rfl) (by decide) rfl (Nat.le_of_ble_eq_true rfl) rfl (by decide) (Nat.le_of_ble_eq_true rfl) rfl rfl ?_
    refine S_X11_thrown wx ?_
    refine xRet_some ?_
    refine x_iload (dT U_Lc13 29 rfl) rfl ?_
    refine x_icmp_eq (tgt := 1393) (dT U_Lc13 30 rfl) (by decide) (by unfold xr; omega) (by unfold xr; omega) (fun c1388 => ?_) (fun c1388 => (by exfalso; omega))
    refine x_iload (dT U_Lc13 33 rfl) rfl ?_
    refine x_if_nej (tgt := 1417) (dT U_Lc13 34 rfl) (by decide) (by decide) ?_
    refine x_goto (tgt := 5554) (dT U_Lc13 47 rfl) (by decide) ?_
    refine x_drop ?_ (M _ _ _ _ _ _ _ _ v (w.out ag (by omega)) wx (ag.get ho (by omega)) (ag.get hod (by omega)))
    repeat (first | exact trivial | refine ⟨rfl, ?_⟩ | refine ⟨trivial, ?_⟩)
  · refine xRet_some ?_
    have wmx := wm.out (h2 := (h.set 143 (cJ [1]))) (fun a ha => by rw [hset_fr (by omega)])
    refine x_istore (ls' := [some (.ref _), some (.ref _), some (.ref _), some (.ref _), some (.ref _), some (vi _), some (vi _), none, none]) (dT U_Lc13 13 rfl) (by decide) rfl ?_
    refine x_aload_n (dT U_Lc13 14 rfl) rfl ?_
    refine x_aload_n (dT U_Lc13 15 rfl) rfl ?_
    refine x_iload (dT U_Lc13 16 rfl) rfl ?_
    refine x_iconst (dT U_Lc13 17 rfl) ?_
    refine x_iadd (dT U_Lc13 18 rfl) ?_
    refine x_sld (i + 1) hL (dT U_Lc13 19 rfl) (by omega) (by omega) ?_
    refine x_aload_n (dT U_Lc13 20 rfl) rfl ?_
    refine x_iload (dT U_Lc13 21 rfl) rfl ?_
    refine x_iconst (dT U_Lc13 22 rfl) ?_
    refine x_iadd (dT U_Lc13 23 rfl) ?_
    refine x_sld (i + 2) hL (dT U_Lc13 24 rfl) (by omega) (by omega) ?_
    refine x_invokevirtual (rc' := rc) (rs' := rs) (rc2 := 0) (rs2 := 0) (As := [_, _]) (st := _) M_X11_isMixed K_L_288 (dT U_Lc13 25 rfl) rfl rfl (by decide) rfl rfl wmx.c70 (Nat.le_of_ble_eq_true rfl) (by decide) rfl (Nat.le_of_ble_eq_true rfl) rfl (by decide) (Nat.le_of_ble_eq_true rfl) rfl rfl ?_
    refine S_X11_isMixed wmx v (xr_s _) (xr_s _) (fun m1 _ _ _ _ _ => absurd c1 m1) (fun m1 m2 h3 r3 s3 ag wx => ?_) (fun m1 m2 _ _ _ _ _ => absurd c2 m2)
    refine xRet_some ?_
    refine x_istore (ls' := [some (.ref _), some (.ref _), some (.ref _), some (.ref _), some (.ref _), some (vi _), some (vi _), some (vi _), none]) (dT U_Lc13 26 rfl) (by decide) rfl ?_
    refine x_aload_n (dT U_Lc13 27 rfl) rfl ?_
    refine x_invokevirtual (rc' := rc) (rs' := rs) (rc2 := 0) (rs2 := 0) (As := []) (st := _) M_X11_thrown K_L_242 (dT U_Lc13 28 rfl) rfl rfl (by decide) rfl rfl wx.c70 (Nat.le_of_ble_eq_true rfl) (by decide) rfl (Nat.le_of_ble_eq_true rfl) rfl (by decide) (Nat.le_of_ble_eq_true rfl) rfl rfl ?_
    refine S_X11_thrown wx ?_
    refine xRet_some ?_
    refine x_iload (dT U_Lc13 29 rfl) rfl ?_
    refine x_icmp_eq (tgt := 1393) (dT U_Lc13 30 rfl) (by decide) (by unfold xr; omega) (by unfold xr; omega) (fun c1388 => ?_) (fun c1388 => (by exfalso; omega))
    refine x_iload (dT U_Lc13 33 rfl) rfl ?_
    refine x_if_nen (tgt := 1417) (dT U_Lc13 34 rfl) (by decide) (by decide) ?_
    refine x_aload_n (dT U_Lc13 35 rfl) rfl ?_
    refine x_iconst (dT U_Lc13 36 rfl) ?_
    refine x_laload 0 (dT U_Lc13 37 rfl) (ag.get (hset_eq ho) (by omega)) (Nat.le_of_ble_eq_true rfl) rfl (Nat.le_of_ble_eq_true rfl) (Nat.le_of_ble_eq_true rfl) ?_
    refine x_iload (dT U_Lc13 38 rfl) rfl ?_
    refine x_if_eqn (tgt := 1410) (dT U_Lc13 39 rfl) (by decide) (by decide) ?_
    refine x_lconst (z := 1) (dT U_Lc13 40 rfl) rfl ?_
    refine x_goto (tgt := 1411) (dT U_Lc13 41 rfl) (by decide) ?_
    refine x_lcmp (dT U_Lc13 43 rfl) (by unfold xrl; decide) (by unfold xrl; decide) ?_
    refine x_if_eqj (tgt := 1417) (dT U_Lc13 44 rfl) (by decide) (xcmp_rf _) ?_
    refine x_goto (tgt := 5554) (dT U_Lc13 47 rfl) (by decide) ?_
    refine x_drop ?_ (M _ _ _ _ _ _ _ _ v ((w.out ((Ag.rf 143 143 h).set (by omega)) (by omega)).out ag (by omega)) wx (ag.get (hset_eq ho) (by omega)) (ag.get (hset_ne (by omega) hod) (by omega)))
    repeat (first | exact trivial | refine ⟨rfl, ?_⟩ | refine ⟨trivial, ?_⟩)
  · refine xRet_some ?_
    have wmx := wm.out (h2 := (h.set 143 (cJ [0]))) (fun a ha => by rw [hset_fr (by omega)])
    refine x_istore (ls' := [some (.ref _), some (.ref _), some (.ref _), some (.ref _), some (.ref _), some (vi _), some (vi _), none, none]) (dT U_Lc13 13 rfl) (by decide) rfl ?_
    refine x_aload_n (dT U_Lc13 14 rfl) rfl ?_
    refine x_aload_n (dT U_Lc13 15 rfl) rfl ?_
    refine x_iload (dT U_Lc13 16 rfl) rfl ?_
    refine x_iconst (dT U_Lc13 17 rfl) ?_
    refine x_iadd (dT U_Lc13 18 rfl) ?_
    refine x_sld (i + 1) hL (dT U_Lc13 19 rfl) (by omega) (by omega) ?_
    refine x_aload_n (dT U_Lc13 20 rfl) rfl ?_
    refine x_iload (dT U_Lc13 21 rfl) rfl ?_
    refine x_iconst (dT U_Lc13 22 rfl) ?_
    refine x_iadd (dT U_Lc13 23 rfl) ?_
    refine x_sld (i + 2) hL (dT U_Lc13 24 rfl) (by omega) (by omega) ?_
    refine x_invokevirtual (rc' := rc) (rs' := rs) (rc2 := 0) (rs2 := 0) (As := [_, _]) (st := _) M_X11_isMixed K_L_288 (dT U_Lc13 25 rfl) rfl rfl (by decide) rfl rfl wmx.c70 (Nat.le_of_ble_eq_true rfl) (by decide) rfl (Nat.le_of_ble_eq_true rfl) rfl (by decide) (Nat.le_of_ble_eq_true rfl) rfl rfl ?_
    refine S_X11_isMixed wmx v (xr_s _) (xr_s _) (fun m1 _ _ _ _ _ => absurd c1 m1) (fun m1 m2 _ _ _ _ _ => absurd m2 c2) (fun m1 m2 h3 r3 s3 ag wx => ?_)
    refine xRet_some ?_
    refine x_istore (ls' := [some (.ref _), some (.ref _), some (.ref _), some (.ref _), some (.ref _), some (vi _), some (vi _), some (vi _), none]) (dT U_Lc13 26 rfl) (by decide) rfl ?_
    refine x_aload_n (dT U_Lc13 27 rfl) rfl ?_
    refine x_invokevirtual (rc' := rc) (rs' := rs) (rc2 := 0) (rs2 := 0) (As := []) (st := _) M_X11_thrown K_L_242 (dT U_Lc13 28 rfl) rfl rfl (by decide) rfl rfl wx.c70 (Nat.le_of_ble_eq_true rfl) (by decide) rfl (Nat.le_of_ble_eq_true rfl) rfl (by decide) (Nat.le_of_ble_eq_true rfl) rfl rfl ?_
    refine S_X11_thrown wx ?_
    refine xRet_some ?_
    refine x_iload (dT U_Lc13 29 rfl) rfl ?_
    refine x_icmp_eq (tgt := 1393) (dT U_Lc13 30 rfl) (by decide) (by unfold xr; omega) (by unfold xr; omega) (fun c1388 => ?_) (fun c1388 => (by exfalso; omega))
    refine x_iload (dT U_Lc13 33 rfl) rfl ?_
    refine x_if_nen (tgt := 1417) (dT U_Lc13 34 rfl) (by decide) (by decide) ?_
    refine x_aload_n (dT U_Lc13 35 rfl) rfl ?_
    refine x_iconst (dT U_Lc13 36 rfl) ?_
    refine x_laload 0 (dT U_Lc13 37 rfl) (ag.get (hset_eq ho) (by omega)) (Nat.le_of_ble_eq_true rfl) rfl (Nat.le_of_ble_eq_true rfl) (Nat.le_of_ble_eq_true rfl) ?_
    refine x_iload (dT U_Lc13 38 rfl) rfl ?_
    refine x_if_eqj (tgt := 1410) (dT U_Lc13 39 rfl) (by decide) (by decide) ?_
    refine x_lconst (z := 0) (dT U_Lc13 42 rfl) rfl ?_
    refine x_lcmp (dT U_Lc13 43 rfl) (by unfold xrl; decide) (by unfold xrl; decide) ?_
    refine x_if_eqj (tgt := 1417) (dT U_Lc13 44 rfl) (by decide) (xcmp_rf _) ?_
    refine x_goto (tgt := 5554) (dT U_Lc13 47 rfl) (by decide) ?_
    refine x_drop ?_ (M _ _ _ _ _ _ _ _ v ((w.out ((Ag.rf 143 143 h).set (by omega)) (by omega)).out ag (by omega)) wx (ag.get (hset_eq ho) (by omega)) (ag.get (hset_ne (by omega) hod) (by omega)))
    repeat (first | exact trivial | refine ⟨rfl, ?_⟩ | refine ⟨trivial, ?_⟩)

def B_Lc14 : ByteArray := .mk #[0x2b, 0x2a, 0x15, 0x05, 0x04, 0x60, 0x2e, 0x2a, 0x15, 0x05, 0x05, 0x60, 0x2e, 0x2d, 0xb8, 0x01, 0x21, 0x36, 0x06, 0x2c, 0x2a, 0x15, 0x05, 0x04, 0x60, 0x2e, 0x2a, 0x15, 0x05, 0x05, 0x60, 0x2e, 0xb6, 0x01, 0x23, 0x36, 0x07, 0x2c, 0xb6, 0x00, 0xf2, 0x15, 0x06, 0x9f, 0x00, 0x05, 0x03, 0xac, 0x15, 0x06, 0x9a, 0x00, 0x0f, 0x2d, 0x03, 0x2f, 0x15, 0x07, 0x85, 0x94, 0x99, 0x00, 0x05, 0x03, 0xac, 0xa7, 0x0f, 0xe5]
theorem W_Lc14 : sameFrom m_L_law.2.1 B_Lc14 1420 := sameFrom_of (by decide +kernel)
def t_Lc14 : List (Nat × Instr × Nat) := [(1420, .aload_n 1, 1), (1421, .aload_n 0, 1), (1422, .iload 5, 2), (1424, .iconst 1, 1), (1425, .iadd, 1), (1426, .iaload, 1), (1427, .aload_n 0, 1), (1428, .iload 5, 2), (1430, .iconst 2, 1), (1431, .iadd, 1), (1432, .iaload, 1), (1433, .aload_n 3, 1), (1434, .invokestatic 289, 3), (1437, .istore 6, 2), (1439, .aload_n 2, 1), (1440, .aload_n 0, 1), (1441, .iload 5, 2), (1443, .iconst 1, 1), (1444, .iadd, 1), (1445, .iaload, 1), (1446, .aload_n 0, 1), (1447, .iload 5, 2), (1449, .iconst 2, 1), (1450, .iadd, 1), (1451, .iaload, 1), (1452, .invokevirtual 291, 3), (1455, .istore 7, 2), (1457, .aload_n 2, 1), (1458, .invokevirtual 242, 3), (1461, .iload 6, 2), (1463, .if_icmp .eq 5, 3), (1466, .iconst 0, 1), (1467, .ireturn, 1), (1468, .iload 6, 2), (1470, .ifCond .ne 15, 3), (1473, .aload_n 3, 1), (1474, .iconst 0, 1), (1475, .laload, 1), (1476, .iload 7, 2), (1478, .i2l, 1), (1479, .lcmp, 1), (1480, .ifCond .eq 5, 3), (1483, .iconst 0, 1), (1484, .ireturn, 1), (1485, .goto 4069, 3)]
set_option maxRecDepth 20000 in
theorem U_Lc14 : okT m_L_law.2.1 t_Lc14 = true := dSt [(0, .aload_n 1, 1), (1, .aload_n 0, 1), (2, .iload 5, 2), (4, .iconst 1, 1), (5, .iadd, 1), (6, .iaload, 1), (7, .aload_n 0, 1), (8, .iload 5, 2), (10, .iconst 2, 1), (11, .iadd, 1), (12, .iaload, 1), (13, .aload_n 3, 1), (14, .invokestatic 289, 3), (17, .istore 6, 2), (19, .aload_n 2, 1), (20, .aload_n 0, 1), (21, .iload 5, 2), (23, .iconst 1, 1), (24, .iadd, 1), (25, .iaload, 1), (26, .aload_n 0, 1), (27, .iload 5, 2), (29, .iconst 2, 1), (30, .iadd, 1), (31, .iaload, 1), (32, .invokevirtual 291, 3), (35, .istore 7, 2), (37, .aload_n 2, 1), (38, .invokevirtual 242, 3), (41, .iload 6, 2), (43, .if_icmp .eq 5, 3), (46, .iconst 0, 1), (47, .ireturn, 1), (48, .iload 6, 2), (50, .ifCond .ne 15, 3), (53, .aload_n 3, 1), (54, .iconst 0, 1), (55, .laload, 1), (56, .iload 7, 2), (58, .i2l, 1), (59, .lcmp, 1), (60, .ifCond .eq 5, 3), (63, .iconst 0, 1), (64, .ireturn, 1), (65, .goto 4069, 3)] W_Lc14 (by decide +kernel) (by decide +kernel)
set_option maxRecDepth 20000 in
set_option maxHeartbeats 1000000 in
theorem LC_14 {G : xG} {d rc rs : Nat} {ex : Bool} {h : xH} {Q : xQ} {σ : St} {c0 : Int} {rr : Nat} {ss : Int} {l0 : Int} {d0 : UInt64} {i : Nat} (hL : G.2.2.2.2.2.1 < 2147483648) (hi : i + 10 ≤ G.2.2.2.2.2.1) (w : CW σ h) (wm : MX σ c0 rr ss h) (v : INV σ) (ho : h[143]? = some (cJ [l0])) (hod : h[144]? = some (cD [d0]))
    (M : ∀ (σ9 : St) (h9 : xH) (e9 : Bool) (c9 : Int) (r9 : Nat) (s9 : Int) (l9 : Int) (d9 : UInt64), INV σ9 → CW σ9 h9 → MX σ9 c9 r9 s9 h9 → h9[143]? = some (cJ [l9]) → h9[144]? = some (cD [d9]) → X G m_L_law (d + 10) rc rs e9 5554 [some (.ref 0), some (.ref 3), some (.ref 70), some (.ref 143), some (.ref 144), some (vi (i : Int)), none, none, none] [] h9 Q) : X G m_L_law (d + 10) (rc + 2) (rs + 12) ex 1420 [some (.ref 0), some (.ref 3), some (.ref 70), some (.ref 143), some (.ref 144), some (vi (i : Int)), none, none, none] [] h Q := by
  refine x_aload_n (dT U_Lc14 0 rfl) rfl ?_
  refine x_aload_n (dT U_Lc14 1 rfl) rfl ?_
  refine x_iload (dT U_Lc14 2 rfl) rfl ?_
  refine x_iconst (dT U_Lc14 3 rfl) ?_
  refine x_iadd (dT U_Lc14 4 rfl) ?_
  refine x_sld (i + 1) hL (dT U_Lc14 5 rfl) (by omega) (by omega) ?_
  refine x_aload_n (dT U_Lc14 6 rfl) rfl ?_
  refine x_iload (dT U_Lc14 7 rfl) rfl ?_
  refine x_iconst (dT U_Lc14 8 rfl) ?_
  refine x_iadd (dT U_Lc14 9 rfl) ?_
  refine x_sld (i + 2) hL (dT U_Lc14 10 rfl) (by omega) (by omega) ?_
  refine x_aload_n (dT U_Lc14 11 rfl) rfl ?_
  refine x_invokestaticT (rc' := rc) (rs' := rs) (rc2 := 0 + 2) (rs2 := 0 + 12) (As := [_, _, _, _]) (st := _) M_L_meets K_L_289 (dT U_Lc14 12 rfl) rfl (by decide) rfl rfl (Nat.le_of_ble_eq_true rfl) rfl (by decide) (Nat.le_of_ble_eq_true rfl) (by omega) (by omega) ?_
  refine S_L_meets w v (xr_s _) (xr_s _) ho (fun c1 => ?_) (fun c1 z9 hz9 ez9 => ?_)
  · refine xRet_some ?_
    refine x_istore (ls' := [some (.ref _), some (.ref _), some (.ref _), some (.ref _), some (.ref _), some (vi _), some (vi _), none, none]) (dT U_Lc14 13 rfl) (by decide) rfl ?_
    refine x_aload_n (dT U_Lc14 14 rfl) rfl ?_
    refine x_aload_n (dT U_Lc14 15 rfl) rfl ?_
    refine x_iload (dT U_Lc14 16 rfl) rfl ?_
    refine x_iconst (dT U_Lc14 17 rfl) ?_
    refine x_iadd (dT U_Lc14 18 rfl) ?_
    refine x_sld (i + 1) hL (dT U_Lc14 19 rfl) (by omega) (by omega) ?_
    refine x_aload_n (dT U_Lc14 20 rfl) rfl ?_
    refine x_iload (dT U_Lc14 21 rfl) rfl ?_
    refine x_iconst (dT U_Lc14 22 rfl) ?_
    refine x_iadd (dT U_Lc14 23 rfl) ?_
    refine x_sld (i + 2) hL (dT U_Lc14 24 rfl) (by omega) (by omega) ?_
    refine x_invokevirtual (rc' := rc) (rs' := rs) (rc2 := 0) (rs2 := 0) (As := [_, _]) (st := _) M_X11_meets K_L_291 (dT U_Lc14 25 rfl) rfl rfl (by decide) rfl rfl wm.c70 (Nat.le_of_ble_eq_true rfl) (by decide) rfl (Nat.le_of_ble_eq_true rfl) rfl (by decide) (Nat.le_of_ble_eq_true rfl) rfl rfl ?_
    refine S_X11_meets wm v (xr_s _) (xr_s _) (fun m1 h3 z ag wx xz => ?_) (fun m1 _ _ _ _ _ => absurd m1 c1)
    refine xRet_some ?_
    refine x_istore (ls' := [some (.ref _), some (.ref _), some (.ref _), some (.ref _), some (.ref _), some (vi _), some (vi _), some (vi _), none]) (dT U_Lc14 26 rfl) (by decide) rfl ?_
    refine x_aload_n (dT U_Lc14 27 rfl) rfl ?_
    refine x_invokevirtual (rc' := rc) (rs' := rs) (rc2 := 0) (rs2 := 0) (As := []) (st := _) M_X11_thrown K_L_242 (dT U_Lc14 28 rfl) rfl rfl (by decide) rfl rfl wx.c70 (Nat.le_of_ble_eq_true rfl) (by decide) rfl (Nat.le_of_ble_eq_true rfl) rfl (by decide) (Nat.le_of_ble_eq_true rfl) rfl rfl ?_
    refine S_X11_thrown wx ?_
    refine xRet_some ?_
    refine x_iload (dT U_Lc14 29 rfl) rfl ?_
    refine x_icmp_eq (tgt := 1468) (dT U_Lc14 30 rfl) (by decide) (by unfold xr; omega) (by unfold xr; omega) (fun c1463 => ?_) (fun c1463 => (by exfalso; omega))
    refine x_iload (dT U_Lc14 33 rfl) rfl ?_
    refine x_if_nej (tgt := 1485) (dT U_Lc14 34 rfl) (by decide) (by decide) ?_
    refine x_goto (tgt := 5554) (dT U_Lc14 44 rfl) (by decide) ?_
    refine x_drop ?_ (M _ _ _ _ _ _ _ _ v (w.out ag (by omega)) wx (ag.get ho (by omega)) (ag.get hod (by omega)))
    repeat (first | exact trivial | refine ⟨rfl, ?_⟩ | refine ⟨trivial, ?_⟩)
  · refine xRet_some ?_
    have wmx := wm.out (h2 := (h.set 143 (cJ [z9]))) (fun a ha => by rw [hset_fr (by omega)])
    refine x_istore (ls' := [some (.ref _), some (.ref _), some (.ref _), some (.ref _), some (.ref _), some (vi _), some (vi _), none, none]) (dT U_Lc14 13 rfl) (by decide) rfl ?_
    refine x_aload_n (dT U_Lc14 14 rfl) rfl ?_
    refine x_aload_n (dT U_Lc14 15 rfl) rfl ?_
    refine x_iload (dT U_Lc14 16 rfl) rfl ?_
    refine x_iconst (dT U_Lc14 17 rfl) ?_
    refine x_iadd (dT U_Lc14 18 rfl) ?_
    refine x_sld (i + 1) hL (dT U_Lc14 19 rfl) (by omega) (by omega) ?_
    refine x_aload_n (dT U_Lc14 20 rfl) rfl ?_
    refine x_iload (dT U_Lc14 21 rfl) rfl ?_
    refine x_iconst (dT U_Lc14 22 rfl) ?_
    refine x_iadd (dT U_Lc14 23 rfl) ?_
    refine x_sld (i + 2) hL (dT U_Lc14 24 rfl) (by omega) (by omega) ?_
    refine x_invokevirtual (rc' := rc) (rs' := rs) (rc2 := 0) (rs2 := 0) (As := [_, _]) (st := _) M_X11_meets K_L_291 (dT U_Lc14 25 rfl) rfl rfl (by decide) rfl rfl wmx.c70 (Nat.le_of_ble_eq_true rfl) (by decide) rfl (Nat.le_of_ble_eq_true rfl) rfl (by decide) (Nat.le_of_ble_eq_true rfl) rfl rfl ?_
    refine S_X11_meets wmx v (xr_s _) (xr_s _) (fun m1 _ _ _ _ _ => absurd c1 m1) (fun m1 h3 r3 s3 ag wx => ?_)
    refine xRet_some ?_
    rw [ez9]
    refine x_istore (ls' := [some (.ref _), some (.ref _), some (.ref _), some (.ref _), some (.ref _), some (vi _), some (vi _), some (vi _), none]) (dT U_Lc14 26 rfl) (by decide) rfl ?_
    refine x_aload_n (dT U_Lc14 27 rfl) rfl ?_
    refine x_invokevirtual (rc' := rc) (rs' := rs) (rc2 := 0) (rs2 := 0) (As := []) (st := _) M_X11_thrown K_L_242 (dT U_Lc14 28 rfl) rfl rfl (by decide) rfl rfl wx.c70 (Nat.le_of_ble_eq_true rfl) (by decide) rfl (Nat.le_of_ble_eq_true rfl) rfl (by decide) (Nat.le_of_ble_eq_true rfl) rfl rfl ?_
    refine S_X11_thrown wx ?_
    refine xRet_some ?_
    refine x_iload (dT U_Lc14 29 rfl) rfl ?_
    refine x_icmp_eq (tgt := 1468) (dT U_Lc14 30 rfl) (by decide) (by unfold xr; omega) (by unfold xr; omega) (fun c1463 => ?_) (fun c1463 => (by exfalso; omega))
    refine x_iload (dT U_Lc14 33 rfl) rfl ?_
    refine x_if_nen (tgt := 1485) (dT U_Lc14 34 rfl) (by decide) (by decide) ?_
    refine x_aload_n (dT U_Lc14 35 rfl) rfl ?_
    refine x_iconst (dT U_Lc14 36 rfl) ?_
    refine x_laload 0 (dT U_Lc14 37 rfl) (ag.get (hset_eq ho) (by omega)) (Nat.le_of_ble_eq_true rfl) rfl (Nat.le_of_ble_eq_true rfl) (Nat.le_of_ble_eq_true rfl) ?_
    refine x_iload (dT U_Lc14 38 rfl) rfl ?_
    refine x_i2l (dT U_Lc14 39 rfl) hz9 ?_
    refine x_lcmp (dT U_Lc14 40 rfl) (xr_l hz9) (xr_l hz9) ?_
    refine x_if_eqj (tgt := 1485) (dT U_Lc14 41 rfl) (by decide) (xcmp_rf _) ?_
    refine x_goto (tgt := 5554) (dT U_Lc14 44 rfl) (by decide) ?_
    refine x_drop ?_ (M _ _ _ _ _ _ _ _ v ((w.out ((Ag.rf 143 143 h).set (by omega)) (by omega)).out ag (by omega)) wx (ag.get (hset_eq ho) (by omega)) (ag.get (hset_ne (by omega) hod) (by omega)))
    repeat (first | exact trivial | refine ⟨rfl, ?_⟩ | refine ⟨trivial, ?_⟩)

def B_Lc15 : ByteArray := .mk #[0x2b, 0x2a, 0x15, 0x05, 0x04, 0x60, 0x2e, 0x2d, 0xb8, 0x01, 0x24, 0x36, 0x06, 0x2c, 0x2a, 0x15, 0x05, 0x04, 0x60, 0x2e, 0xb6, 0x01, 0x26, 0x36, 0x07, 0x2c, 0xb6, 0x00, 0xf2, 0x15, 0x06, 0x9f, 0x00, 0x05, 0x03, 0xac, 0x15, 0x06, 0x9a, 0x00, 0x0f, 0x2d, 0x03, 0x2f, 0x15, 0x07, 0x85, 0x94, 0x99, 0x00, 0x05, 0x03, 0xac, 0xa7, 0x0f, 0xad]
theorem W_Lc15 : sameFrom m_L_law.2.1 B_Lc15 1488 := sameFrom_of (by decide +kernel)
def t_Lc15 : List (Nat × Instr × Nat) := [(1488, .aload_n 1, 1), (1489, .aload_n 0, 1), (1490, .iload 5, 2), (1492, .iconst 1, 1), (1493, .iadd, 1), (1494, .iaload, 1), (1495, .aload_n 3, 1), (1496, .invokestatic 292, 3), (1499, .istore 6, 2), (1501, .aload_n 2, 1), (1502, .aload_n 0, 1), (1503, .iload 5, 2), (1505, .iconst 1, 1), (1506, .iadd, 1), (1507, .iaload, 1), (1508, .invokevirtual 294, 3), (1511, .istore 7, 2), (1513, .aload_n 2, 1), (1514, .invokevirtual 242, 3), (1517, .iload 6, 2), (1519, .if_icmp .eq 5, 3), (1522, .iconst 0, 1), (1523, .ireturn, 1), (1524, .iload 6, 2), (1526, .ifCond .ne 15, 3), (1529, .aload_n 3, 1), (1530, .iconst 0, 1), (1531, .laload, 1), (1532, .iload 7, 2), (1534, .i2l, 1), (1535, .lcmp, 1), (1536, .ifCond .eq 5, 3), (1539, .iconst 0, 1), (1540, .ireturn, 1), (1541, .goto 4013, 3)]
set_option maxRecDepth 20000 in
theorem U_Lc15 : okT m_L_law.2.1 t_Lc15 = true := dSt [(0, .aload_n 1, 1), (1, .aload_n 0, 1), (2, .iload 5, 2), (4, .iconst 1, 1), (5, .iadd, 1), (6, .iaload, 1), (7, .aload_n 3, 1), (8, .invokestatic 292, 3), (11, .istore 6, 2), (13, .aload_n 2, 1), (14, .aload_n 0, 1), (15, .iload 5, 2), (17, .iconst 1, 1), (18, .iadd, 1), (19, .iaload, 1), (20, .invokevirtual 294, 3), (23, .istore 7, 2), (25, .aload_n 2, 1), (26, .invokevirtual 242, 3), (29, .iload 6, 2), (31, .if_icmp .eq 5, 3), (34, .iconst 0, 1), (35, .ireturn, 1), (36, .iload 6, 2), (38, .ifCond .ne 15, 3), (41, .aload_n 3, 1), (42, .iconst 0, 1), (43, .laload, 1), (44, .iload 7, 2), (46, .i2l, 1), (47, .lcmp, 1), (48, .ifCond .eq 5, 3), (51, .iconst 0, 1), (52, .ireturn, 1), (53, .goto 4013, 3)] W_Lc15 (by decide +kernel) (by decide +kernel)
set_option maxRecDepth 20000 in
set_option maxHeartbeats 1000000 in
theorem LC_15 {G : xG} {d rc rs : Nat} {ex : Bool} {h : xH} {Q : xQ} {σ : St} {c0 : Int} {rr : Nat} {ss : Int} {l0 : Int} {d0 : UInt64} {i : Nat} (hL : G.2.2.2.2.2.1 < 2147483648) (hi : i + 10 ≤ G.2.2.2.2.2.1) (w : CW σ h) (wm : MX σ c0 rr ss h) (v : INV σ) (ho : h[143]? = some (cJ [l0])) (hod : h[144]? = some (cD [d0]))
    (M : ∀ (σ9 : St) (h9 : xH) (e9 : Bool) (c9 : Int) (r9 : Nat) (s9 : Int) (l9 : Int) (d9 : UInt64), INV σ9 → CW σ9 h9 → MX σ9 c9 r9 s9 h9 → h9[143]? = some (cJ [l9]) → h9[144]? = some (cD [d9]) → X G m_L_law (d + 10) rc rs e9 5554 [some (.ref 0), some (.ref 3), some (.ref 70), some (.ref 143), some (.ref 144), some (vi (i : Int)), none, none, none] [] h9 Q) : X G m_L_law (d + 10) (rc + 1) (rs + 6) ex 1488 [some (.ref 0), some (.ref 3), some (.ref 70), some (.ref 143), some (.ref 144), some (vi (i : Int)), none, none, none] [] h Q := by
  refine x_aload_n (dT U_Lc15 0 rfl) rfl ?_
  refine x_aload_n (dT U_Lc15 1 rfl) rfl ?_
  refine x_iload (dT U_Lc15 2 rfl) rfl ?_
  refine x_iconst (dT U_Lc15 3 rfl) ?_
  refine x_iadd (dT U_Lc15 4 rfl) ?_
  refine x_sld (i + 1) hL (dT U_Lc15 5 rfl) (by omega) (by omega) ?_
  refine x_aload_n (dT U_Lc15 6 rfl) rfl ?_
  refine x_invokestaticT (rc' := rc) (rs' := rs) (rc2 := 0 + 1) (rs2 := 0 + 6) (As := [_, _, _]) (st := _) M_L_base K_L_292 (dT U_Lc15 7 rfl) rfl (by decide) rfl rfl (Nat.le_of_ble_eq_true rfl) rfl (by decide) (Nat.le_of_ble_eq_true rfl) (by omega) (by omega) ?_
  refine S_L_base w v (xr_s _) ho (fun c1 => ?_) (fun c1 z9 hz9 ez9 => ?_)
  · refine xRet_some ?_
    refine x_istore (ls' := [some (.ref _), some (.ref _), some (.ref _), some (.ref _), some (.ref _), some (vi _), some (vi _), none, none]) (dT U_Lc15 8 rfl) (by decide) rfl ?_
    refine x_aload_n (dT U_Lc15 9 rfl) rfl ?_
    refine x_aload_n (dT U_Lc15 10 rfl) rfl ?_
    refine x_iload (dT U_Lc15 11 rfl) rfl ?_
    refine x_iconst (dT U_Lc15 12 rfl) ?_
    refine x_iadd (dT U_Lc15 13 rfl) ?_
    refine x_sld (i + 1) hL (dT U_Lc15 14 rfl) (by omega) (by omega) ?_
    refine x_invokevirtual (rc' := rc) (rs' := rs) (rc2 := 0) (rs2 := 0) (As := [_]) (st := _) M_X11_base K_L_294 (dT U_Lc15 15 rfl) rfl rfl (by decide) rfl rfl wm.c70 (Nat.le_of_ble_eq_true rfl) (by decide) rfl (Nat.le_of_ble_eq_true rfl) rfl (by decide) (Nat.le_of_ble_eq_true rfl) rfl rfl ?_
    refine S_X11_base wm v (xr_s _) (fun m1 h3 z ag wx xz => ?_) (fun m1 _ _ _ _ _ => absurd m1 c1)
    refine xRet_some ?_
    refine x_istore (ls' := [some (.ref _), some (.ref _), some (.ref _), some (.ref _), some (.ref _), some (vi _), some (vi _), some (vi _), none]) (dT U_Lc15 16 rfl) (by decide) rfl ?_
    refine x_aload_n (dT U_Lc15 17 rfl) rfl ?_
    refine x_invokevirtual (rc' := rc) (rs' := rs) (rc2 := 0) (rs2 := 0) (As := []) (st := _) M_X11_thrown K_L_242 (dT U_Lc15 18 rfl) rfl rfl (by decide) rfl rfl wx.c70 (Nat.le_of_ble_eq_true rfl) (by decide) rfl (Nat.le_of_ble_eq_true rfl) rfl (by decide) (Nat.le_of_ble_eq_true rfl) rfl rfl ?_
    refine S_X11_thrown wx ?_
    refine xRet_some ?_
    refine x_iload (dT U_Lc15 19 rfl) rfl ?_
    refine x_icmp_eq (tgt := 1524) (dT U_Lc15 20 rfl) (by decide) (by unfold xr; omega) (by unfold xr; omega) (fun c1519 => ?_) (fun c1519 => (by exfalso; omega))
    refine x_iload (dT U_Lc15 23 rfl) rfl ?_
    refine x_if_nej (tgt := 1541) (dT U_Lc15 24 rfl) (by decide) (by decide) ?_
    refine x_goto (tgt := 5554) (dT U_Lc15 34 rfl) (by decide) ?_
    refine x_drop ?_ (M _ _ _ _ _ _ _ _ v (w.out ag (by omega)) wx (ag.get ho (by omega)) (ag.get hod (by omega)))
    repeat (first | exact trivial | refine ⟨rfl, ?_⟩ | refine ⟨trivial, ?_⟩)
  · refine xRet_some ?_
    have wmx := wm.out (h2 := (h.set 143 (cJ [z9]))) (fun a ha => by rw [hset_fr (by omega)])
    refine x_istore (ls' := [some (.ref _), some (.ref _), some (.ref _), some (.ref _), some (.ref _), some (vi _), some (vi _), none, none]) (dT U_Lc15 8 rfl) (by decide) rfl ?_
    refine x_aload_n (dT U_Lc15 9 rfl) rfl ?_
    refine x_aload_n (dT U_Lc15 10 rfl) rfl ?_
    refine x_iload (dT U_Lc15 11 rfl) rfl ?_
    refine x_iconst (dT U_Lc15 12 rfl) ?_
    refine x_iadd (dT U_Lc15 13 rfl) ?_
    refine x_sld (i + 1) hL (dT U_Lc15 14 rfl) (by omega) (by omega) ?_
    refine x_invokevirtual (rc' := rc) (rs' := rs) (rc2 := 0) (rs2 := 0) (As := [_]) (st := _) M_X11_base K_L_294 (dT U_Lc15 15 rfl) rfl rfl (by decide) rfl rfl wmx.c70 (Nat.le_of_ble_eq_true rfl) (by decide) rfl (Nat.le_of_ble_eq_true rfl) rfl (by decide) (Nat.le_of_ble_eq_true rfl) rfl rfl ?_
    refine S_X11_base wmx v (xr_s _) (fun m1 _ _ _ _ _ => absurd c1 m1) (fun m1 h3 r3 s3 ag wx => ?_)
    refine xRet_some ?_
    rw [ez9]
    refine x_istore (ls' := [some (.ref _), some (.ref _), some (.ref _), some (.ref _), some (.ref _), some (vi _), some (vi _), some (vi _), none]) (dT U_Lc15 16 rfl) (by decide) rfl ?_
    refine x_aload_n (dT U_Lc15 17 rfl) rfl ?_
    refine x_invokevirtual (rc' := rc) (rs' := rs) (rc2 := 0) (rs2 := 0) (As := []) (st := _) M_X11_thrown K_L_242 (dT U_Lc15 18 rfl) rfl rfl (by decide) rfl rfl wx.c70 (Nat.le_of_ble_eq_true rfl) (by decide) rfl (Nat.le_of_ble_eq_true rfl) rfl (by decide) (Nat.le_of_ble_eq_true rfl) rfl rfl ?_
    refine S_X11_thrown wx ?_
    refine xRet_some ?_
    refine x_iload (dT U_Lc15 19 rfl) rfl ?_
    refine x_icmp_eq (tgt := 1524) (dT U_Lc15 20 rfl) (by decide) (by unfold xr; omega) (by unfold xr; omega) (fun c1519 => ?_) (fun c1519 => (by exfalso; omega))
    refine x_iload (dT U_Lc15 23 rfl) rfl ?_
    refine x_if_nen (tgt := 1541) (dT U_Lc15 24 rfl) (by decide) (by decide) ?_
    refine x_aload_n (dT U_Lc15 25 rfl) rfl ?_
    refine x_iconst (dT U_Lc15 26 rfl) ?_
    refine x_laload 0 (dT U_Lc15 27 rfl) (ag.get (hset_eq ho) (by omega)) (Nat.le_of_ble_eq_true rfl) rfl (Nat.le_of_ble_eq_true rfl) (Nat.le_of_ble_eq_true rfl) ?_
    refine x_iload (dT U_Lc15 28 rfl) rfl ?_
    refine x_i2l (dT U_Lc15 29 rfl) hz9 ?_
    refine x_lcmp (dT U_Lc15 30 rfl) (xr_l hz9) (xr_l hz9) ?_
    refine x_if_eqj (tgt := 1541) (dT U_Lc15 31 rfl) (by decide) (xcmp_rf _) ?_
    refine x_goto (tgt := 5554) (dT U_Lc15 34 rfl) (by decide) ?_
    refine x_drop ?_ (M _ _ _ _ _ _ _ _ v ((w.out ((Ag.rf 143 143 h).set (by omega)) (by omega)).out ag (by omega)) wx (ag.get (hset_eq ho) (by omega)) (ag.get (hset_ne (by omega) hod) (by omega)))
    repeat (first | exact trivial | refine ⟨rfl, ?_⟩ | refine ⟨trivial, ?_⟩)

def B_Lc16 : ByteArray := .mk #[0x2b, 0x2a, 0x15, 0x05, 0x04, 0x60, 0x2e, 0xb6, 0x01, 0x27, 0x2c, 0x2a, 0x15, 0x05, 0x04, 0x60, 0x2e, 0xb6, 0x01, 0x2a, 0x9f, 0x0f, 0x96, 0x03, 0xac]
theorem W_Lc16 : sameFrom m_L_law.2.1 B_Lc16 1544 := sameFrom_of (by decide +kernel)
def t_Lc16 : List (Nat × Instr × Nat) := [(1544, .aload_n 1, 1), (1545, .aload_n 0, 1), (1546, .iload 5, 2), (1548, .iconst 1, 1), (1549, .iadd, 1), (1550, .iaload, 1), (1551, .invokevirtual 295, 3), (1554, .aload_n 2, 1), (1555, .aload_n 0, 1), (1556, .iload 5, 2), (1558, .iconst 1, 1), (1559, .iadd, 1), (1560, .iaload, 1), (1561, .invokevirtual 298, 3), (1564, .if_icmp .eq 3990, 3), (1567, .iconst 0, 1), (1568, .ireturn, 1)]
set_option maxRecDepth 20000 in
theorem U_Lc16 : okT m_L_law.2.1 t_Lc16 = true := dSt [(0, .aload_n 1, 1), (1, .aload_n 0, 1), (2, .iload 5, 2), (4, .iconst 1, 1), (5, .iadd, 1), (6, .iaload, 1), (7, .invokevirtual 295, 3), (10, .aload_n 2, 1), (11, .aload_n 0, 1), (12, .iload 5, 2), (14, .iconst 1, 1), (15, .iadd, 1), (16, .iaload, 1), (17, .invokevirtual 298, 3), (20, .if_icmp .eq 3990, 3), (23, .iconst 0, 1), (24, .ireturn, 1)] W_Lc16 (by decide +kernel) (by decide +kernel)
set_option maxRecDepth 20000 in
set_option maxHeartbeats 1000000 in
theorem LC_16 {G : xG} {d rc rs : Nat} {ex : Bool} {h : xH} {Q : xQ} {σ : St} {c0 : Int} {rr : Nat} {ss : Int} {l0 : Int} {d0 : UInt64} {i : Nat} (hL : G.2.2.2.2.2.1 < 2147483648) (hi : i + 10 ≤ G.2.2.2.2.2.1) (w : CW σ h) (wm : MX σ c0 rr ss h) (v : INV σ) (ho : h[143]? = some (cJ [l0])) (hod : h[144]? = some (cD [d0]))
    (M : ∀ (σ9 : St) (h9 : xH) (e9 : Bool) (c9 : Int) (r9 : Nat) (s9 : Int) (l9 : Int) (d9 : UInt64), INV σ9 → CW σ9 h9 → MX σ9 c9 r9 s9 h9 → h9[143]? = some (cJ [l9]) → h9[144]? = some (cD [d9]) → X G m_L_law (d + 10) rc rs e9 5554 [some (.ref 0), some (.ref 3), some (.ref 70), some (.ref 143), some (.ref 144), some (vi (i : Int)), none, none, none] [] h9 Q) : X G m_L_law (d + 10) (rc + 0) (rs + 0) ex 1544 [some (.ref 0), some (.ref 3), some (.ref 70), some (.ref 143), some (.ref 144), some (vi (i : Int)), none, none, none] [] h Q := by
  refine x_aload_n (dT U_Lc16 0 rfl) rfl ?_
  refine x_aload_n (dT U_Lc16 1 rfl) rfl ?_
  refine x_iload (dT U_Lc16 2 rfl) rfl ?_
  refine x_iconst (dT U_Lc16 3 rfl) ?_
  refine x_iadd (dT U_Lc16 4 rfl) ?_
  refine x_sld (i + 1) hL (dT U_Lc16 5 rfl) (by omega) (by omega) ?_
  refine x_invokevirtual (rc' := rc) (rs' := rs) (rc2 := 0 + 0) (rs2 := 0 + 0) (As := [_]) (st := _) M_X10_isMember K_L_295 (dT U_Lc16 6 rfl) rfl rfl (by decide) rfl rfl w.c3 (Nat.le_of_ble_eq_true rfl) (by decide) rfl (Nat.le_of_ble_eq_true rfl) rfl (by decide) (Nat.le_of_ble_eq_true rfl) (by omega) (by omega) ?_
  refine S_X10_isMember w v (xr_s _) (fun c1 => ?_) (fun c1 => ?_)
  · refine xRet_some ?_
    have wmx := wm
    refine x_aload_n (dT U_Lc16 7 rfl) rfl ?_
    refine x_aload_n (dT U_Lc16 8 rfl) rfl ?_
    refine x_iload (dT U_Lc16 9 rfl) rfl ?_
    refine x_iconst (dT U_Lc16 10 rfl) ?_
    refine x_iadd (dT U_Lc16 11 rfl) ?_
    refine x_sld (i + 1) hL (dT U_Lc16 12 rfl) (by omega) (by omega) ?_
    refine x_invokevirtual (rc' := rc) (rs' := rs) (rc2 := 0) (rs2 := 0) (As := [_]) (st := _) M_X11_isMember K_L_298 (dT U_Lc16 13 rfl) rfl rfl (by decide) rfl rfl wmx.c70 (Nat.le_of_ble_eq_true rfl) (by decide) rfl (Nat.le_of_ble_eq_true rfl) rfl (by decide) (Nat.le_of_ble_eq_true rfl) rfl rfl ?_
    refine S_X11_isMember wmx v (xr_s _) (fun m1 h3 r3 s3 ag wx => ?_) (fun m1 _ _ _ _ _ => absurd c1 m1)
    refine xRet_some ?_
    refine x_icmp_eq (tgt := 5554) (dT U_Lc16 14 rfl) (by decide) (by unfold xr; omega) (by unfold xr; omega) (fun c1564 => ?_) (fun c1564 => (by exfalso; omega))
    refine x_drop ?_ (M _ _ _ _ _ _ _ _ v (w.out ag (by omega)) wx (ag.get ho (by omega)) (ag.get hod (by omega)))
    repeat (first | exact trivial | refine ⟨rfl, ?_⟩ | refine ⟨trivial, ?_⟩)
  · refine xRet_some ?_
    have wmx := wm
    refine x_aload_n (dT U_Lc16 7 rfl) rfl ?_
    refine x_aload_n (dT U_Lc16 8 rfl) rfl ?_
    refine x_iload (dT U_Lc16 9 rfl) rfl ?_
    refine x_iconst (dT U_Lc16 10 rfl) ?_
    refine x_iadd (dT U_Lc16 11 rfl) ?_
    refine x_sld (i + 1) hL (dT U_Lc16 12 rfl) (by omega) (by omega) ?_
    refine x_invokevirtual (rc' := rc) (rs' := rs) (rc2 := 0) (rs2 := 0) (As := [_]) (st := _) M_X11_isMember K_L_298 (dT U_Lc16 13 rfl) rfl rfl (by decide) rfl rfl wmx.c70 (Nat.le_of_ble_eq_true rfl) (by decide) rfl (Nat.le_of_ble_eq_true rfl) rfl (by decide) (Nat.le_of_ble_eq_true rfl) rfl rfl ?_
    refine S_X11_isMember wmx v (xr_s _) (fun m1 _ _ _ _ _ => absurd m1 c1) (fun m1 h3 r3 s3 ag wx => ?_)
    refine xRet_some ?_
    refine x_icmp_eq (tgt := 5554) (dT U_Lc16 14 rfl) (by decide) (by unfold xr; omega) (by unfold xr; omega) (fun c1564 => ?_) (fun c1564 => (by exfalso; omega))
    refine x_drop ?_ (M _ _ _ _ _ _ _ _ v (w.out ag (by omega)) wx (ag.get ho (by omega)) (ag.get hod (by omega)))
    repeat (first | exact trivial | refine ⟨rfl, ?_⟩ | refine ⟨trivial, ?_⟩)

def B_Lc17 : ByteArray := .mk #[0x2b, 0x2a, 0x15, 0x05, 0x04, 0x60, 0x2e, 0x2d, 0xb8, 0x01, 0x2b, 0x36, 0x06, 0x2c, 0x2a, 0x15, 0x05, 0x04, 0x60, 0x2e, 0xb6, 0x01, 0x2d, 0x36, 0x07, 0x2c, 0xb6, 0x00, 0xf2, 0x15, 0x06, 0x9f, 0x00, 0x05, 0x03, 0xac, 0x15, 0x06, 0x9a, 0x00, 0x0f, 0x2d, 0x03, 0x2f, 0x15, 0x07, 0x85, 0x94, 0x99, 0x00, 0x05, 0x03, 0xac, 0xa7, 0x0f, 0x5c]
theorem W_Lc17 : sameFrom m_L_law.2.1 B_Lc17 1569 := sameFrom_of (by decide +kernel)
def t_Lc17 : List (Nat × Instr × Nat) := [(1569, .aload_n 1, 1), (1570, .aload_n 0, 1), (1571, .iload 5, 2), (1573, .iconst 1, 1), (1574, .iadd, 1), (1575, .iaload, 1), (1576, .aload_n 3, 1), (1577, .invokestatic 299, 3), (1580, .istore 6, 2), (1582, .aload_n 2, 1), (1583, .aload_n 0, 1), (1584, .iload 5, 2), (1586, .iconst 1, 1), (1587, .iadd, 1), (1588, .iaload, 1), (1589, .invokevirtual 301, 3), (1592, .istore 7, 2), (1594, .aload_n 2, 1), (1595, .invokevirtual 242, 3), (1598, .iload 6, 2), (1600, .if_icmp .eq 5, 3), (1603, .iconst 0, 1), (1604, .ireturn, 1), (1605, .iload 6, 2), (1607, .ifCond .ne 15, 3), (1610, .aload_n 3, 1), (1611, .iconst 0, 1), (1612, .laload, 1), (1613, .iload 7, 2), (1615, .i2l, 1), (1616, .lcmp, 1), (1617, .ifCond .eq 5, 3), (1620, .iconst 0, 1), (1621, .ireturn, 1), (1622, .goto 3932, 3)]
set_option maxRecDepth 20000 in
theorem U_Lc17 : okT m_L_law.2.1 t_Lc17 = true := dSt [(0, .aload_n 1, 1), (1, .aload_n 0, 1), (2, .iload 5, 2), (4, .iconst 1, 1), (5, .iadd, 1), (6, .iaload, 1), (7, .aload_n 3, 1), (8, .invokestatic 299, 3), (11, .istore 6, 2), (13, .aload_n 2, 1), (14, .aload_n 0, 1), (15, .iload 5, 2), (17, .iconst 1, 1), (18, .iadd, 1), (19, .iaload, 1), (20, .invokevirtual 301, 3), (23, .istore 7, 2), (25, .aload_n 2, 1), (26, .invokevirtual 242, 3), (29, .iload 6, 2), (31, .if_icmp .eq 5, 3), (34, .iconst 0, 1), (35, .ireturn, 1), (36, .iload 6, 2), (38, .ifCond .ne 15, 3), (41, .aload_n 3, 1), (42, .iconst 0, 1), (43, .laload, 1), (44, .iload 7, 2), (46, .i2l, 1), (47, .lcmp, 1), (48, .ifCond .eq 5, 3), (51, .iconst 0, 1), (52, .ireturn, 1), (53, .goto 3932, 3)] W_Lc17 (by decide +kernel) (by decide +kernel)
set_option maxRecDepth 20000 in
set_option maxHeartbeats 1000000 in
theorem LC_17 {G : xG} {d rc rs : Nat} {ex : Bool} {h : xH} {Q : xQ} {σ : St} {c0 : Int} {rr : Nat} {ss : Int} {l0 : Int} {d0 : UInt64} {i : Nat} (hL : G.2.2.2.2.2.1 < 2147483648) (hi : i + 10 ≤ G.2.2.2.2.2.1) (w : CW σ h) (wm : MX σ c0 rr ss h) (v : INV σ) (ho : h[143]? = some (cJ [l0])) (hod : h[144]? = some (cD [d0]))
    (M : ∀ (σ9 : St) (h9 : xH) (e9 : Bool) (c9 : Int) (r9 : Nat) (s9 : Int) (l9 : Int) (d9 : UInt64), INV σ9 → CW σ9 h9 → MX σ9 c9 r9 s9 h9 → h9[143]? = some (cJ [l9]) → h9[144]? = some (cD [d9]) → X G m_L_law (d + 10) rc rs e9 5554 [some (.ref 0), some (.ref 3), some (.ref 70), some (.ref 143), some (.ref 144), some (vi (i : Int)), none, none, none] [] h9 Q) : X G m_L_law (d + 10) (rc + 1) (rs + 6) ex 1569 [some (.ref 0), some (.ref 3), some (.ref 70), some (.ref 143), some (.ref 144), some (vi (i : Int)), none, none, none] [] h Q := by
  refine x_aload_n (dT U_Lc17 0 rfl) rfl ?_
  refine x_aload_n (dT U_Lc17 1 rfl) rfl ?_
  refine x_iload (dT U_Lc17 2 rfl) rfl ?_
  refine x_iconst (dT U_Lc17 3 rfl) ?_
  refine x_iadd (dT U_Lc17 4 rfl) ?_
  refine x_sld (i + 1) hL (dT U_Lc17 5 rfl) (by omega) (by omega) ?_
  refine x_aload_n (dT U_Lc17 6 rfl) rfl ?_
  refine x_invokestaticT (rc' := rc) (rs' := rs) (rc2 := 0 + 1) (rs2 := 0 + 6) (As := [_, _, _]) (st := _) M_L_log K_L_299 (dT U_Lc17 7 rfl) rfl (by decide) rfl rfl (Nat.le_of_ble_eq_true rfl) rfl (by decide) (Nat.le_of_ble_eq_true rfl) (by omega) (by omega) ?_
  refine S_L_log w v (xr_s _) ho (fun c1 => ?_) (fun c1 z9 hz9 ez9 => ?_)
  · refine xRet_some ?_
    refine x_istore (ls' := [some (.ref _), some (.ref _), some (.ref _), some (.ref _), some (.ref _), some (vi _), some (vi _), none, none]) (dT U_Lc17 8 rfl) (by decide) rfl ?_
    refine x_aload_n (dT U_Lc17 9 rfl) rfl ?_
    refine x_aload_n (dT U_Lc17 10 rfl) rfl ?_
    refine x_iload (dT U_Lc17 11 rfl) rfl ?_
    refine x_iconst (dT U_Lc17 12 rfl) ?_
    refine x_iadd (dT U_Lc17 13 rfl) ?_
    refine x_sld (i + 1) hL (dT U_Lc17 14 rfl) (by omega) (by omega) ?_
    refine x_invokevirtual (rc' := rc) (rs' := rs) (rc2 := 0) (rs2 := 0) (As := [_]) (st := _) M_X11_log K_L_301 (dT U_Lc17 15 rfl) rfl rfl (by decide) rfl rfl wm.c70 (Nat.le_of_ble_eq_true rfl) (by decide) rfl (Nat.le_of_ble_eq_true rfl) rfl (by decide) (Nat.le_of_ble_eq_true rfl) rfl rfl ?_
    refine S_X11_log wm v (xr_s _) (fun m1 h3 z ag wx xz => ?_) (fun m1 _ _ _ _ _ => absurd m1 c1)
    refine xRet_some ?_
    refine x_istore (ls' := [some (.ref _), some (.ref _), some (.ref _), some (.ref _), some (.ref _), some (vi _), some (vi _), some (vi _), none]) (dT U_Lc17 16 rfl) (by decide) rfl ?_
    refine x_aload_n (dT U_Lc17 17 rfl) rfl ?_
    refine x_invokevirtual (rc' := rc) (rs' := rs) (rc2 := 0) (rs2 := 0) (As := []) (st := _) M_X11_thrown K_L_242 (dT U_Lc17 18 rfl) rfl rfl (by decide) rfl rfl wx.c70 (Nat.le_of_ble_eq_true rfl) (by decide) rfl (Nat.le_of_ble_eq_true rfl) rfl (by decide) (Nat.le_of_ble_eq_true rfl) rfl rfl ?_
    refine S_X11_thrown wx ?_
    refine xRet_some ?_
    refine x_iload (dT U_Lc17 19 rfl) rfl ?_
    refine x_icmp_eq (tgt := 1605) (dT U_Lc17 20 rfl) (by decide) (by unfold xr; omega) (by unfold xr; omega) (fun c1600 => ?_) (fun c1600 => (by exfalso; omega))
    refine x_iload (dT U_Lc17 23 rfl) rfl ?_
    refine x_if_nej (tgt := 1622) (dT U_Lc17 24 rfl) (by decide) (by decide) ?_
    refine x_goto (tgt := 5554) (dT U_Lc17 34 rfl) (by decide) ?_
    refine x_drop ?_ (M _ _ _ _ _ _ _ _ v (w.out ag (by omega)) wx (ag.get ho (by omega)) (ag.get hod (by omega)))
    repeat (first | exact trivial | refine ⟨rfl, ?_⟩ | refine ⟨trivial, ?_⟩)
  · refine xRet_some ?_
    have wmx := wm.out (h2 := (h.set 143 (cJ [z9]))) (fun a ha => by rw [hset_fr (by omega)])
    refine x_istore (ls' := [some (.ref _), some (.ref _), some (.ref _), some (.ref _), some (.ref _), some (vi _), some (vi _), none, none]) (dT U_Lc17 8 rfl) (by decide) rfl ?_
    refine x_aload_n (dT U_Lc17 9 rfl) rfl ?_
    refine x_aload_n (dT U_Lc17 10 rfl) rfl ?_
    refine x_iload (dT U_Lc17 11 rfl) rfl ?_
    refine x_iconst (dT U_Lc17 12 rfl) ?_
    refine x_iadd (dT U_Lc17 13 rfl) ?_
    refine x_sld (i + 1) hL (dT U_Lc17 14 rfl) (by omega) (by omega) ?_
    refine x_invokevirtual (rc' := rc) (rs' := rs) (rc2 := 0) (rs2 := 0) (As := [_]) (st := _) M_X11_log K_L_301 (dT U_Lc17 15 rfl) rfl rfl (by decide) rfl rfl wmx.c70 (Nat.le_of_ble_eq_true rfl) (by decide) rfl (Nat.le_of_ble_eq_true rfl) rfl (by decide) (Nat.le_of_ble_eq_true rfl) rfl rfl ?_
    refine S_X11_log wmx v (xr_s _) (fun m1 _ _ _ _ _ => absurd c1 m1) (fun m1 h3 r3 s3 ag wx => ?_)
    refine xRet_some ?_
    rw [ez9]
    refine x_istore (ls' := [some (.ref _), some (.ref _), some (.ref _), some (.ref _), some (.ref _), some (vi _), some (vi _), some (vi _), none]) (dT U_Lc17 16 rfl) (by decide) rfl ?_
    refine x_aload_n (dT U_Lc17 17 rfl) rfl ?_
    refine x_invokevirtual (rc' := rc) (rs' := rs) (rc2 := 0) (rs2 := 0) (As := []) (st := _) M_X11_thrown K_L_242 (dT U_Lc17 18 rfl) rfl rfl (by decide) rfl rfl wx.c70 (Nat.le_of_ble_eq_true rfl) (by decide) rfl (Nat.le_of_ble_eq_true rfl) rfl (by decide) (Nat.le_of_ble_eq_true rfl) rfl rfl ?_
    refine S_X11_thrown wx ?_
    refine xRet_some ?_
    refine x_iload (dT U_Lc17 19 rfl) rfl ?_
    refine x_icmp_eq (tgt := 1605) (dT U_Lc17 20 rfl) (by decide) (by unfold xr; omega) (by unfold xr; omega) (fun c1600 => ?_) (fun c1600 => (by exfalso; omega))
    refine x_iload (dT U_Lc17 23 rfl) rfl ?_
    refine x_if_nen (tgt := 1622) (dT U_Lc17 24 rfl) (by decide) (by decide) ?_
    refine x_aload_n (dT U_Lc17 25 rfl) rfl ?_
    refine x_iconst (dT U_Lc17 26 rfl) ?_
    refine x_laload 0 (dT U_Lc17 27 rfl) (ag.get (hset_eq ho) (by omega)) (Nat.le_of_ble_eq_true rfl) rfl (Nat.le_of_ble_eq_true rfl) (Nat.le_of_ble_eq_true rfl) ?_
    refine x_iload (dT U_Lc17 28 rfl) rfl ?_
    refine x_i2l (dT U_Lc17 29 rfl) hz9 ?_
    refine x_lcmp (dT U_Lc17 30 rfl) (xr_l hz9) (xr_l hz9) ?_
    refine x_if_eqj (tgt := 1622) (dT U_Lc17 31 rfl) (by decide) (xcmp_rf _) ?_
    refine x_goto (tgt := 5554) (dT U_Lc17 34 rfl) (by decide) ?_
    refine x_drop ?_ (M _ _ _ _ _ _ _ _ v ((w.out ((Ag.rf 143 143 h).set (by omega)) (by omega)).out ag (by omega)) wx (ag.get (hset_eq ho) (by omega)) (ag.get (hset_ne (by omega) hod) (by omega)))
    repeat (first | exact trivial | refine ⟨rfl, ?_⟩ | refine ⟨trivial, ?_⟩)

def B_Lc18 : ByteArray := .mk #[0x2b, 0x2a, 0x15, 0x05, 0x04, 0x60, 0x2e, 0x2a, 0x15, 0x05, 0x05, 0x60, 0x2e, 0x2d, 0xb8, 0x01, 0x2e, 0x36, 0x06, 0x2c, 0x2a, 0x15, 0x05, 0x04, 0x60, 0x2e, 0x2a, 0x15, 0x05, 0x05, 0x60, 0x2e, 0xb6, 0x01, 0x30, 0x36, 0x07, 0x2c, 0xb6, 0x00, 0xf2, 0x15, 0x06, 0x9f, 0x00, 0x05, 0x03, 0xac, 0x15, 0x06, 0x9a, 0x00, 0x0f, 0x2d, 0x03, 0x2f, 0x15, 0x07, 0x85, 0x94, 0x99, 0x00, 0x05, 0x03, 0xac, 0xa7, 0x0f, 0x18]
theorem W_Lc18 : sameFrom m_L_law.2.1 B_Lc18 1625 := sameFrom_of (by decide +kernel)
def t_Lc18 : List (Nat × Instr × Nat) := [(1625, .aload_n 1, 1), (1626, .aload_n 0, 1), (1627, .iload 5, 2), (1629, .iconst 1, 1), (1630, .iadd, 1), (1631, .iaload, 1), (1632, .aload_n 0, 1), (1633, .iload 5, 2), (1635, .iconst 2, 1), (1636, .iadd, 1), (1637, .iaload, 1), (1638, .aload_n 3, 1), (1639, .invokestatic 302, 3), (1642, .istore 6, 2), (1644, .aload_n 2, 1), (1645, .aload_n 0, 1), (1646, .iload 5, 2), (1648, .iconst 1, 1), (1649, .iadd, 1), (1650, .iaload, 1), (1651, .aload_n 0, 1), (1652, .iload 5, 2), (1654, .iconst 2, 1), (1655, .iadd, 1), (1656, .iaload, 1), (1657, .invokevirtual 304, 3), (1660, .istore 7, 2), (1662, .aload_n 2, 1), (1663, .invokevirtual 242, 3), (1666, .iload 6, 2), (1668, .if_icmp .eq 5, 3), (1671, .iconst 0, 1), (1672, .ireturn, 1), (1673, .iload 6, 2), (1675, .ifCond .ne 15, 3), (1678, .aload_n 3, 1), (1679, .iconst 0, 1), (1680, .laload, 1), (1681, .iload 7, 2), (1683, .i2l, 1), (1684, .lcmp, 1), (1685, .ifCond .eq 5, 3), (1688, .iconst 0, 1), (1689, .ireturn, 1), (1690, .goto 3864, 3)]
set_option maxRecDepth 20000 in
theorem U_Lc18 : okT m_L_law.2.1 t_Lc18 = true := dSt [(0, .aload_n 1, 1), (1, .aload_n 0, 1), (2, .iload 5, 2), (4, .iconst 1, 1), (5, .iadd, 1), (6, .iaload, 1), (7, .aload_n 0, 1), (8, .iload 5, 2), (10, .iconst 2, 1), (11, .iadd, 1), (12, .iaload, 1), (13, .aload_n 3, 1), (14, .invokestatic 302, 3), (17, .istore 6, 2), (19, .aload_n 2, 1), (20, .aload_n 0, 1), (21, .iload 5, 2), (23, .iconst 1, 1), (24, .iadd, 1), (25, .iaload, 1), (26, .aload_n 0, 1), (27, .iload 5, 2), (29, .iconst 2, 1), (30, .iadd, 1), (31, .iaload, 1), (32, .invokevirtual 304, 3), (35, .istore 7, 2), (37, .aload_n 2, 1), (38, .invokevirtual 242, 3), (41, .iload 6, 2), (43, .if_icmp .eq 5, 3), (46, .iconst 0, 1), (47, .ireturn, 1), (48, .iload 6, 2), (50, .ifCond .ne 15, 3), (53, .aload_n 3, 1), (54, .iconst 0, 1), (55, .laload, 1), (56, .iload 7, 2), (58, .i2l, 1), (59, .lcmp, 1), (60, .ifCond .eq 5, 3), (63, .iconst 0, 1), (64, .ireturn, 1), (65, .goto 3864, 3)] W_Lc18 (by decide +kernel) (by decide +kernel)
set_option maxRecDepth 20000 in
set_option maxHeartbeats 1000000 in
theorem LC_18 {G : xG} {d rc rs : Nat} {ex : Bool} {h : xH} {Q : xQ} {σ : St} {c0 : Int} {rr : Nat} {ss : Int} {l0 : Int} {d0 : UInt64} {i : Nat} (hL : G.2.2.2.2.2.1 < 2147483648) (hi : i + 10 ≤ G.2.2.2.2.2.1) (w : CW σ h) (wm : MX σ c0 rr ss h) (v : INV σ) (ho : h[143]? = some (cJ [l0])) (hod : h[144]? = some (cD [d0]))
    (M : ∀ (σ9 : St) (h9 : xH) (e9 : Bool) (c9 : Int) (r9 : Nat) (s9 : Int) (l9 : Int) (d9 : UInt64), INV σ9 → CW σ9 h9 → MX σ9 c9 r9 s9 h9 → h9[143]? = some (cJ [l9]) → h9[144]? = some (cD [d9]) → X G m_L_law (d + 10) rc rs e9 5554 [some (.ref 0), some (.ref 3), some (.ref 70), some (.ref 143), some (.ref 144), some (vi (i : Int)), none, none, none] [] h9 Q) : X G m_L_law (d + 10) (rc + 2) (rs + 12) ex 1625 [some (.ref 0), some (.ref 3), some (.ref 70), some (.ref 143), some (.ref 144), some (vi (i : Int)), none, none, none] [] h Q := by
  refine x_aload_n (dT U_Lc18 0 rfl) rfl ?_
  refine x_aload_n (dT U_Lc18 1 rfl) rfl ?_
  refine x_iload (dT U_Lc18 2 rfl) rfl ?_
  refine x_iconst (dT U_Lc18 3 rfl) ?_
  refine x_iadd (dT U_Lc18 4 rfl) ?_
  refine x_sld (i + 1) hL (dT U_Lc18 5 rfl) (by omega) (by omega) ?_
  refine x_aload_n (dT U_Lc18 6 rfl) rfl ?_
  refine x_iload (dT U_Lc18 7 rfl) rfl ?_
  refine x_iconst (dT U_Lc18 8 rfl) ?_
  refine x_iadd (dT U_Lc18 9 rfl) ?_
  refine x_sld (i + 2) hL (dT U_Lc18 10 rfl) (by omega) (by omega) ?_
  refine x_aload_n (dT U_Lc18 11 rfl) rfl ?_
  refine x_invokestaticT (rc' := rc) (rs' := rs) (rc2 := 0 + 2) (rs2 := 0 + 12) (As := [_, _, _, _]) (st := _) M_L_commit K_L_302 (dT U_Lc18 12 rfl) rfl (by decide) rfl rfl (Nat.le_of_ble_eq_true rfl) rfl (by decide) (Nat.le_of_ble_eq_true rfl) (by omega) (by omega) ?_
  refine S_L_commit w v (xr_s _) (xr_s _) ho (fun c1 => ?_) (fun c1 c2 => ?_) (fun c1 c2 z9 hz9 ez9 => ?_)
  · refine xRet_some ?_
    refine x_istore (ls' := [some (.ref _), some (.ref _), some (.ref _), some (.ref _), some (.ref _), some (vi _), some (vi _), none, none]) (dT U_Lc18 13 rfl) (by decide) rfl ?_
    refine x_aload_n (dT U_Lc18 14 rfl) rfl ?_
    refine x_aload_n (dT U_Lc18 15 rfl) rfl ?_
    refine x_iload (dT U_Lc18 16 rfl) rfl ?_
    refine x_iconst (dT U_Lc18 17 rfl) ?_
    refine x_iadd (dT U_Lc18 18 rfl) ?_
    refine x_sld (i + 1) hL (dT U_Lc18 19 rfl) (by omega) (by omega) ?_
    refine x_aload_n (dT U_Lc18 20 rfl) rfl ?_
    refine x_iload (dT U_Lc18 21 rfl) rfl ?_
    refine x_iconst (dT U_Lc18 22 rfl) ?_
    refine x_iadd (dT U_Lc18 23 rfl) ?_
    refine x_sld (i + 2) hL (dT U_Lc18 24 rfl) (by omega) (by omega) ?_
    refine x_invokevirtual (rc' := rc) (rs' := rs) (rc2 := 0) (rs2 := 0) (As := [_, _]) (st := _) M_X11_commit K_L_304 (dT U_Lc18 25 rfl) rfl rfl (by decide) rfl rfl wm.c70 (Nat.le_of_ble_eq_true rfl) (by decide) rfl (Nat.le_of_ble_eq_true rfl) rfl (by decide) (Nat.le_of_ble_eq_true rfl) rfl rfl ?_
    refine S_X11_commit wm v (xr_s _) (xr_s _) (fun m1 h3 z ag wx xz => ?_) (fun m1 m2 _ _ _ _ _ => absurd m1 c1) (fun m1 m2 _ _ _ _ _ => absurd m1 c1)
    refine xRet_some ?_
    refine x_istore (ls' := [some (.ref _), some (.ref _), some (.ref _), some (.ref _), some (.ref _), some (vi _), some (vi _), some (vi _), none]) (dT U_Lc18 26 rfl) (by decide) rfl ?_
    refine x_aload_n (dT U_Lc18 27 rfl) rfl ?_
    refine x_invokevirtual (rc' := rc) (rs' := rs) (rc2 := 0) (rs2 := 0) (As := []) (st := _) M_X11_thrown K_L_242 (dT U_Lc18 28 rfl) rfl rfl (by decide) rfl rfl wx.c70 (Nat.le_of_ble_eq_true rfl) (by decide) rfl (Nat.le_of_ble_eq_true rfl) rfl (by decide) (Nat.le_of_ble_eq_true rfl) rfl rfl ?_
    refine S_X11_thrown wx ?_
    refine xRet_some ?_
    refine x_iload (dT U_Lc18 29 rfl) rfl ?_
    refine x_icmp_eq (tgt := 1673) (dT U_Lc18 30 rfl) (by decide) (by unfold xr; omega) (by unfold xr; omega) (fun c1668 => ?_) (fun c1668 => (by exfalso; omega))
    refine x_iload (dT U_Lc18 33 rfl) rfl ?_
    refine x_if_nej (tgt := 1690) (dT U_Lc18 34 rfl) (by decide) (by decide) ?_
    refine x_goto (tgt := 5554) (dT U_Lc18 44 rfl) (by decide) ?_
    refine x_drop ?_ (M _ _ _ _ _ _ _ _ v (w.out ag (by omega)) wx (ag.get ho (by omega)) (ag.get hod (by omega)))
    repeat (first | exact trivial | refine ⟨rfl, ?_⟩ | refine ⟨trivial, ?_⟩)
  · refine xRet_some ?_
    refine x_istore (ls' := [some (.ref _), some (.ref _), some (.ref _), some (.ref _), some (.ref _), some (vi _), some (vi _), none, none]) (dT U_Lc18 13 rfl) (by decide) rfl ?_
    refine x_aload_n (dT U_Lc18 14 rfl) rfl ?_
    refine x_aload_n (dT U_Lc18 15 rfl) rfl ?_
    refine x_iload (dT U_Lc18 16 rfl) rfl ?_
    refine x_iconst (dT U_Lc18 17 rfl) ?_
    refine x_iadd (dT U_Lc18 18 rfl) ?_
    refine x_sld (i + 1) hL (dT U_Lc18 19 rfl) (by omega) (by omega) ?_
    refine x_aload_n (dT U_Lc18 20 rfl) rfl ?_
    refine x_iload (dT U_Lc18 21 rfl) rfl ?_
    refine x_iconst (dT U_Lc18 22 rfl) ?_
    refine x_iadd (dT U_Lc18 23 rfl) ?_
    refine x_sld (i + 2) hL (dT U_Lc18 24 rfl) (by omega) (by omega) ?_
    refine x_invokevirtual (rc' := rc) (rs' := rs) (rc2 := 0) (rs2 := 0) (As := [_, _]) (st := _) M_X11_commit K_L_304 (dT U_Lc18 25 rfl) rfl rfl (by decide) rfl rfl wm.c70 (Nat.le_of_ble_eq_true rfl) (by decide) rfl (Nat.le_of_ble_eq_true rfl) rfl (by decide) (Nat.le_of_ble_eq_true rfl) rfl rfl ?_
    refine S_X11_commit wm v (xr_s _) (xr_s _) (fun m1 _ _ _ _ _ => absurd c1 m1) (fun m1 m2 h3 z ag wx xz => ?_) (fun m1 m2 _ _ _ _ _ => absurd m2 c2)
    refine xRet_some ?_
    refine x_istore (ls' := [some (.ref _), some (.ref _), some (.ref _), some (.ref _), some (.ref _), some (vi _), some (vi _), some (vi _), none]) (dT U_Lc18 26 rfl) (by decide) rfl ?_
    refine x_aload_n (dT U_Lc18 27 rfl) rfl ?_
    refine x_invokevirtual (rc' := rc) (rs' := rs) (rc2 := 0) (rs2 := 0) (As := []) (st := _) M_X11_thrown K_L_242 (dT U_Lc18 28 rfl) rfl rfl (by decide) rfl rfl wx.c70 (Nat.le_of_ble_eq_true rfl) (by decide) rfl (Nat.le_of_ble_eq_true rfl) rfl (by decide) (Nat.le_of_ble_eq_true rfl) rfl rfl ?_
    refine S_X11_thrown wx ?_
    refine xRet_some ?_
    refine x_iload (dT U_Lc18 29 rfl) rfl ?_
    refine x_icmp_eq (tgt := 1673) (dT U_Lc18 30 rfl) (by decide) (by unfold xr; omega) (by unfold xr; omega) (fun c1668 => ?_) (fun c1668 => (by exfalso; omega))
    refine x_iload (dT U_Lc18 33 rfl) rfl ?_
    refine x_if_ne (tgt := 1690) (dT U_Lc18 34 rfl) (by decide) (by unfold xr; omega) (fun c1675 => ?_) (fun c1675 => (by exfalso; omega))
    refine x_goto (tgt := 5554) (dT U_Lc18 44 rfl) (by decide) ?_
    refine x_drop ?_ (M _ _ _ _ _ _ _ _ v (w.out ag (by omega)) wx (ag.get ho (by omega)) (ag.get hod (by omega)))
    repeat (first | exact trivial | refine ⟨rfl, ?_⟩ | refine ⟨trivial, ?_⟩)
  · refine xRet_some ?_
    have wmx := wm.out (h2 := (h.set 143 (cJ [z9]))) (fun a ha => by rw [hset_fr (by omega)])
    refine x_istore (ls' := [some (.ref _), some (.ref _), some (.ref _), some (.ref _), some (.ref _), some (vi _), some (vi _), none, none]) (dT U_Lc18 13 rfl) (by decide) rfl ?_
    refine x_aload_n (dT U_Lc18 14 rfl) rfl ?_
    refine x_aload_n (dT U_Lc18 15 rfl) rfl ?_
    refine x_iload (dT U_Lc18 16 rfl) rfl ?_
    refine x_iconst (dT U_Lc18 17 rfl) ?_
    refine x_iadd (dT U_Lc18 18 rfl) ?_
    refine x_sld (i + 1) hL (dT U_Lc18 19 rfl) (by omega) (by omega) ?_
    refine x_aload_n (dT U_Lc18 20 rfl) rfl ?_
    refine x_iload (dT U_Lc18 21 rfl) rfl ?_
    refine x_iconst (dT U_Lc18 22 rfl) ?_
    refine x_iadd (dT U_Lc18 23 rfl) ?_
    refine x_sld (i + 2) hL (dT U_Lc18 24 rfl) (by omega) (by omega) ?_
    refine x_invokevirtual (rc' := rc) (rs' := rs) (rc2 := 0) (rs2 := 0) (As := [_, _]) (st := _) M_X11_commit K_L_304 (dT U_Lc18 25 rfl) rfl rfl (by decide) rfl rfl wmx.c70 (Nat.le_of_ble_eq_true rfl) (by decide) rfl (Nat.le_of_ble_eq_true rfl) rfl (by decide) (Nat.le_of_ble_eq_true rfl) rfl rfl ?_
    refine S_X11_commit wmx v (xr_s _) (xr_s _) (fun m1 _ _ _ _ _ => absurd c1 m1) (fun m1 m2 _ _ _ _ _ => absurd c2 m2) (fun m1 m2 h3 r3 s3 ag wx => ?_)
    refine xRet_some ?_
    rw [ez9]
    refine x_istore (ls' := [some (.ref _), some (.ref _), some (.ref _), some (.ref _), some (.ref _), some (vi _), some (vi _), some (vi _), none]) (dT U_Lc18 26 rfl) (by decide) rfl ?_
    refine x_aload_n (dT U_Lc18 27 rfl) rfl ?_
    refine x_invokevirtual (rc' := rc) (rs' := rs) (rc2 := 0) (rs2 := 0) (As := []) (st := _) M_X11_thrown K_L_242 (dT U_Lc18 28 rfl) rfl rfl (by decide) rfl rfl wx.c70 (Nat.le_of_ble_eq_true rfl) (by decide) rfl (Nat.le_of_ble_eq_true rfl) rfl (by decide) (Nat.le_of_ble_eq_true rfl) rfl rfl ?_
    refine S_X11_thrown wx ?_
    refine xRet_some ?_
    refine x_iload (dT U_Lc18 29 rfl) rfl ?_
    refine x_icmp_eq (tgt := 1673) (dT U_Lc18 30 rfl) (by decide) (by unfold xr; omega) (by unfold xr; omega) (fun c1668 => ?_) (fun c1668 => (by exfalso; omega))
    refine x_iload (dT U_Lc18 33 rfl) rfl ?_
    refine x_if_nen (tgt := 1690) (dT U_Lc18 34 rfl) (by decide) (by decide) ?_
    refine x_aload_n (dT U_Lc18 35 rfl) rfl ?_
    refine x_iconst (dT U_Lc18 36 rfl) ?_
    refine x_laload 0 (dT U_Lc18 37 rfl) (ag.get (hset_eq ho) (by omega)) (Nat.le_of_ble_eq_true rfl) rfl (Nat.le_of_ble_eq_true rfl) (Nat.le_of_ble_eq_true rfl) ?_
    refine x_iload (dT U_Lc18 38 rfl) rfl ?_
    refine x_i2l (dT U_Lc18 39 rfl) hz9 ?_
    refine x_lcmp (dT U_Lc18 40 rfl) (xr_l hz9) (xr_l hz9) ?_
    refine x_if_eqj (tgt := 1690) (dT U_Lc18 41 rfl) (by decide) (xcmp_rf _) ?_
    refine x_goto (tgt := 5554) (dT U_Lc18 44 rfl) (by decide) ?_
    refine x_drop ?_ (M _ _ _ _ _ _ _ _ v ((w.out ((Ag.rf 143 143 h).set (by omega)) (by omega)).out ag (by omega)) wx (ag.get (hset_eq ho) (by omega)) (ag.get (hset_ne (by omega) hod) (by omega)))
    repeat (first | exact trivial | refine ⟨rfl, ?_⟩ | refine ⟨trivial, ?_⟩)
