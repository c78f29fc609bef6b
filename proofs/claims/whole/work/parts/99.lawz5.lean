def B_Lc43 : ByteArray := .mk #[0x2b, 0x2a, 0x15, 0x05, 0x04, 0x60, 0x2e, 0x2a, 0x15, 0x05, 0x05, 0x60, 0x2e, 0x2a, 0x15, 0x05, 0x06, 0x60, 0x2e, 0x2a, 0x15, 0x05, 0x07, 0x60, 0x2e, 0x2d, 0xb8, 0x01, 0x7b, 0x36, 0x06, 0x2c, 0x2a, 0x15, 0x05, 0x04, 0x60, 0x2e, 0x2a, 0x15, 0x05, 0x05, 0x60, 0x2e, 0x2a, 0x15, 0x05, 0x06, 0x60, 0x2e, 0x2a, 0x15, 0x05, 0x07, 0x60, 0x2e, 0xb6, 0x01, 0x7d, 0x36, 0x07, 0x2c, 0xb6, 0x00, 0xf2, 0x15, 0x06, 0x9f, 0x00, 0x05, 0x03, 0xac, 0x15, 0x06, 0x9a, 0x00, 0x0f, 0x2d, 0x03, 0x2f, 0x15, 0x07, 0x85, 0x94, 0x99, 0x00, 0x05, 0x03, 0xac, 0xa7, 0x07, 0x03]
theorem W_Lc43 : sameFrom m_L_law.2.1 B_Lc43 3670 := sameFrom_of (by decide +kernel)
def t_Lc43 : List (Nat × Instr × Nat) := [(3670, .aload_n 1, 1), (3671, .aload_n 0, 1), (3672, .iload 5, 2), (3674, .iconst 1, 1), (3675, .iadd, 1), (3676, .iaload, 1), (3677, .aload_n 0, 1), (3678, .iload 5, 2), (3680, .iconst 2, 1), (3681, .iadd, 1), (3682, .iaload, 1), (3683, .aload_n 0, 1), (3684, .iload 5, 2), (3686, .iconst 3, 1), (3687, .iadd, 1), (3688, .iaload, 1), (3689, .aload_n 0, 1), (3690, .iload 5, 2), (3692, .iconst 4, 1), (3693, .iadd, 1), (3694, .iaload, 1), (3695, .aload_n 3, 1), (3696, .invokestatic 379, 3), (3699, .istore 6, 2), (3701, .aload_n 2, 1), (3702, .aload_n 0, 1), (3703, .iload 5, 2), (3705, .iconst 1, 1), (3706, .iadd, 1), (3707, .iaload, 1), (3708, .aload_n 0, 1), (3709, .iload 5, 2), (3711, .iconst 2, 1), (3712, .iadd, 1), (3713, .iaload, 1), (3714, .aload_n 0, 1), (3715, .iload 5, 2), (3717, .iconst 3, 1), (3718, .iadd, 1), (3719, .iaload, 1), (3720, .aload_n 0, 1), (3721, .iload 5, 2), (3723, .iconst 4, 1), (3724, .iadd, 1), (3725, .iaload, 1), (3726, .invokevirtual 381, 3), (3729, .istore 7, 2), (3731, .aload_n 2, 1), (3732, .invokevirtual 242, 3), (3735, .iload 6, 2), (3737, .if_icmp .eq 5, 3), (3740, .iconst 0, 1), (3741, .ireturn, 1), (3742, .iload 6, 2), (3744, .ifCond .ne 15, 3), (3747, .aload_n 3, 1), (3748, .iconst 0, 1), (3749, .laload, 1), (3750, .iload 7, 2), (3752, .i2l, 1), (3753, .lcmp, 1), (3754, .ifCond .eq 5, 3), (3757, .iconst 0, 1), (3758, .ireturn, 1), (3759, .goto 1795, 3)]
set_option maxRecDepth 20000 in
theorem U_Lc43 : okT m_L_law.2.1 t_Lc43 = true := dSt [(0, .aload_n 1, 1), (1, .aload_n 0, 1), (2, .iload 5, 2), (4, .iconst 1, 1), (5, .iadd, 1), (6, .iaload, 1), (7, .aload_n 0, 1), (8, .iload 5, 2), (10, .iconst 2, 1), (11, .iadd, 1), (12, .iaload, 1), (13, .aload_n 0, 1), (14, .iload 5, 2), (16, .iconst 3, 1), (17, .iadd, 1), (18, .iaload, 1), (19, .aload_n 0, 1), (20, .iload 5, 2), (22, .iconst 4, 1), (23, .iadd, 1), (24, .iaload, 1), (25, .aload_n 3, 1), (26, .invokestatic 379, 3), (29, .istore 6, 2), (31, .aload_n 2, 1), (32, .aload_n 0, 1), (33, .iload 5, 2), (35, .iconst 1, 1), (36, .iadd, 1), (37, .iaload, 1), (38, .aload_n 0, 1), (39, .iload 5, 2), (41, .iconst 2, 1), (42, .iadd, 1), (43, .iaload, 1), (44, .aload_n 0, 1), (45, .iload 5, 2), (47, .iconst 3, 1), (48, .iadd, 1), (49, .iaload, 1), (50, .aload_n 0, 1), (51, .iload 5, 2), (53, .iconst 4, 1), (54, .iadd, 1), (55, .iaload, 1), (56, .invokevirtual 381, 3), (59, .istore 7, 2), (61, .aload_n 2, 1), (62, .invokevirtual 242, 3), (65, .iload 6, 2), (67, .if_icmp .eq 5, 3), (70, .iconst 0, 1), (71, .ireturn, 1), (72, .iload 6, 2), (74, .ifCond .ne 15, 3), (77, .aload_n 3, 1), (78, .iconst 0, 1), (79, .laload, 1), (80, .iload 7, 2), (82, .i2l, 1), (83, .lcmp, 1), (84, .ifCond .eq 5, 3), (87, .iconst 0, 1), (88, .ireturn, 1), (89, .goto 1795, 3)] W_Lc43 (by decide +kernel) (by decide +kernel)
set_option maxRecDepth 20000 in
set_option maxHeartbeats 1000000 in
theorem LC_43 {G : xG} {d rc rs : Nat} {ex : Bool} {h : xH} {Q : xQ} {σ : St} {c0 : Int} {rr : Nat} {ss : Int} {l0 : Int} {d0 : UInt64} {i : Nat} (hL : G.2.2.2.2.2.1 < 2147483648) (hi : i + 10 ≤ G.2.2.2.2.2.1) (w : CW σ h) (wm : MX σ c0 rr ss h) (v : INV σ) (ho : h[143]? = some (cJ [l0])) (hod : h[144]? = some (cD [d0]))
    (M : ∀ (σ9 : St) (h9 : xH) (e9 : Bool) (c9 : Int) (r9 : Nat) (s9 : Int) (l9 : Int) (d9 : UInt64), INV σ9 → CW σ9 h9 → MX σ9 c9 r9 s9 h9 → h9[143]? = some (cJ [l9]) → h9[144]? = some (cD [d9]) → X G m_L_law (d + 10) rc rs e9 5554 [some (.ref 0), some (.ref 3), some (.ref 70), some (.ref 143), some (.ref 144), some (vi (i : Int)), none, none, none] [] h9 Q) : X G m_L_law (d + 10) (rc + 5) (rs + 30) ex 3670 [some (.ref 0), some (.ref 3), some (.ref 70), some (.ref 143), some (.ref 144), some (vi (i : Int)), none, none, none] [] h Q := by
  refine x_aload_n (dT U_Lc43 0 rfl) rfl ?_
  refine x_aload_n (dT U_Lc43 1 rfl) rfl ?_
  refine x_iload (dT U_Lc43 2 rfl) rfl ?_
  refine x_iconst (dT U_Lc43 3 rfl) ?_
  refine x_iadd (dT U_Lc43 4 rfl) ?_
  refine x_sld (i + 1) hL (dT U_Lc43 5 rfl) (by omega) (by omega) ?_
  refine x_aload_n (dT U_Lc43 6 rfl) rfl ?_
  refine x_iload (dT U_Lc43 7 rfl) rfl ?_
  refine x_iconst (dT U_Lc43 8 rfl) ?_
  refine x_iadd (dT U_Lc43 9 rfl) ?_
  refine x_sld (i + 2) hL (dT U_Lc43 10 rfl) (by omega) (by omega) ?_
  refine x_aload_n (dT U_Lc43 11 rfl) rfl ?_
  refine x_iload (dT U_Lc43 12 rfl) rfl ?_
  refine x_iconst (dT U_Lc43 13 rfl) ?_
  refine x_iadd (dT U_Lc43 14 rfl) ?_
  refine x_sld (i + 3) hL (dT U_Lc43 15 rfl) (by omega) (by omega) ?_
  refine x_aload_n (dT U_Lc43 16 rfl) rfl ?_
  refine x_iload (dT U_Lc43 17 rfl) rfl ?_
  refine x_iconst (dT U_Lc43 18 rfl) ?_
  refine x_iadd (dT U_Lc43 19 rfl) ?_
  refine x_sld (i + 4) hL (dT U_Lc43 20 rfl) (by omega) (by omega) ?_
  refine x_aload_n (dT U_Lc43 21 rfl) rfl ?_
  refine x_invokestaticT (rc' := rc) (rs' := rs) (rc2 := 0 + 5) (rs2 := 0 + 30) (As := [_, _, _, _, _, _]) (st := _) M_L_batch K_L_379 (dT U_Lc43 22 rfl) rfl (by decide) rfl rfl (Nat.le_of_ble_eq_true rfl) rfl (by decide) (Nat.le_of_ble_eq_true rfl) (by omega) (by omega) ?_
  refine S_L_batch w v (xr_s _) (xr_s _) (xr_s _) (xr_s _) ho (fun c1 => ?_) (fun c1 c2 => ?_) (fun c1 c2 c3 => ?_) (fun c1 c2 c3 h2 fc w2 z9 hz9 ez9 => ?_)
  · refine xRet_some ?_
    refine x_istore (ls' := [some (.ref _), some (.ref _), some (.ref _), some (.ref _), some (.ref _), some (vi _), some (vi _), none, none]) (dT U_Lc43 23 rfl) (by decide) rfl ?_
    refine x_aload_n (dT U_Lc43 24 rfl) rfl ?_
    refine x_aload_n (dT U_Lc43 25 rfl) rfl ?_
    refine x_iload (dT U_Lc43 26 rfl) rfl ?_
    refine x_iconst (dT U_Lc43 27 rfl) ?_
    refine x_iadd (dT U_Lc43 28 rfl) ?_
    refine x_sld (i + 1) hL (dT U_Lc43 29 rfl) (by omega) (by omega) ?_
    refine x_aload_n (dT U_Lc43 30 rfl) rfl ?_
    refine x_iload (dT U_Lc43 31 rfl) rfl ?_
    refine x_iconst (dT U_Lc43 32 rfl) ?_
    refine x_iadd (dT U_Lc43 33 rfl) ?_
    refine x_sld (i + 2) hL (dT U_Lc43 34 rfl) (by omega) (by omega) ?_
    refine x_aload_n (dT U_Lc43 35 rfl) rfl ?_
    refine x_iload (dT U_Lc43 36 rfl) rfl ?_
    refine x_iconst (dT U_Lc43 37 rfl) ?_
    refine x_iadd (dT U_Lc43 38 rfl) ?_
    refine x_sld (i + 3) hL (dT U_Lc43 39 rfl) (by omega) (by omega) ?_
    refine x_aload_n (dT U_Lc43 40 rfl) rfl ?_
    refine x_iload (dT U_Lc43 41 rfl) rfl ?_
    refine x_iconst (dT U_Lc43 42 rfl) ?_
    refine x_iadd (dT U_Lc43 43 rfl) ?_
    refine x_sld (i + 4) hL (dT U_Lc43 44 rfl) (by omega) (by omega) ?_
    refine x_invokevirtual (rc' := rc) (rs' := rs) (rc2 := 0) (rs2 := 0) (As := [_, _, _, _]) (st := _) M_X11_batch K_L_381 (dT U_Lc43 45 rfl) rfl rfl (by decide) rfl rfl wm.c70 (Nat.le_of_ble_eq_true rfl) (by decide) rfl (Nat.le_of_ble_eq_true rfl) rfl (by decide) (Nat.le_of_ble_eq_true rfl) rfl rfl ?_
    refine S_X11_batch wm v (xr_s _) (xr_s _) (xr_s _) (xr_s _) (fun m1 h3 z ag wx xz => ?_) (fun m1 m2 _ _ _ _ _ => absurd m1 c1) (fun m1 m2 m3 _ _ _ _ _ => absurd m1 c1) (fun m1 m2 m3 _ _ _ _ _ => absurd m1 c1)
    refine xRet_some ?_
    refine x_istore (ls' := [some (.ref _), some (.ref _), some (.ref _), some (.ref _), some (.ref _), some (vi _), some (vi _), some (vi _), none]) (dT U_Lc43 46 rfl) (by decide) rfl ?_
    refine x_aload_n (dT U_Lc43 47 rfl) rfl ?_
    refine x_invokevirtual (rc' := rc) (rs' := rs) (rc2 := 0) (rs2 := 0) (As := []) (st := _) M_X11_thrown K_L_242 (dT U_Lc43 48 rfl) rfl rfl (by decide) rfl rfl wx.c70 (Nat.le_of_ble_eq_true rfl) (by decide) rfl (Nat.le_of_ble_eq_true rfl) rfl (by decide) (Nat.le_of_ble_eq_true rfl) rfl rfl ?_
    refine S_X11_thrown wx ?_
    refine xRet_some ?_
    refine x_iload (dT U_Lc43 49 rfl) rfl ?_
    refine x_icmp_eq (tgt := 3742) (dT U_Lc43 50 rfl) (by decide) (by unfold xr; omega) (by unfold xr; omega) (fun c3737 => ?_) (fun c3737 => (by exfalso; omega))
    refine x_iload (dT U_Lc43 53 rfl) rfl ?_
    refine x_if_nej (tgt := 3759) (dT U_Lc43 54 rfl) (by decide) (by decide) ?_
    refine x_goto (tgt := 5554) (dT U_Lc43 64 rfl) (by decide) ?_
    refine x_drop ?_ (M _ _ _ _ _ _ _ _ v (w.out ag (by omega)) wx (ag.get ho (by omega)) (ag.get hod (by omega)))
    repeat (first | exact trivial | refine ⟨rfl, ?_⟩ | refine ⟨trivial, ?_⟩)
  · refine xRet_some ?_
    refine x_istore (ls' := [some (.ref _), some (.ref _), some (.ref _), some (.ref _), some (.ref _), some (vi _), some (vi _), none, none]) (dT U_Lc43 23 rfl) (by decide) rfl ?_
    refine x_aload_n (dT U_Lc43 24 rfl) rfl ?_
    refine x_aload_n (dT U_Lc43 25 rfl) rfl ?_
    refine x_iload (dT U_Lc43 26 rfl) rfl ?_
    refine x_iconst (dT U_Lc43 27 rfl) ?_
    refine x_iadd (dT U_Lc43 28 rfl) ?_
    refine x_sld (i + 1) hL (dT U_Lc43 29 rfl) (by omega) (by omega) ?_
    refine x_aload_n (dT U_Lc43 30 rfl) rfl ?_
    refine x_iload (dT U_Lc43 31 rfl) rfl ?_
    refine x_iconst (dT U_Lc43 32 rfl) ?_
    refine x_iadd (dT U_Lc43 33 rfl) ?_
    refine x_sld (i + 2) hL (dT U_Lc43 34 rfl) (by omega) (by omega) ?_
    refine x_aload_n (dT U_Lc43 35 rfl) rfl ?_
    refine x_iload (dT U_Lc43 36 rfl) rfl ?_
    refine x_iconst (dT U_Lc43 37 rfl) ?_
    refine x_iadd (dT U_Lc43 38 rfl) ?_
    refine x_sld (i + 3) hL (dT U_Lc43 39 rfl) (by omega) (by omega) ?_
    refine x_aload_n (dT U_Lc43 40 rfl) rfl ?_
    refine x_iload (dT U_Lc43 41 rfl) rfl ?_
    refine x_iconst (dT U_Lc43 42 rfl) ?_
    refine x_iadd (dT U_Lc43 43 rfl) ?_
    refine x_sld (i + 4) hL (dT U_Lc43 44 rfl) (by omega) (by omega) ?_
    refine x_invokevirtual (rc' := rc) (rs' := rs) (rc2 := 0) (rs2 := 0) (As := [_, _, _, _]) (st := _) M_X11_batch K_L_381 (dT U_Lc43 45 rfl) rfl rfl (by decide) rfl rfl wm.c70 (Nat.le_of_ble_eq_true rfl) (by decide) rfl (Nat.le_of_ble_eq_true rfl) rfl (by decide) (Nat.le_of_ble_eq_true rfl) rfl rfl ?_
    refine S_X11_batch wm v (xr_s _) (xr_s _) (xr_s _) (xr_s _) (fun m1 _ _ _ _ _ => absurd c1 m1) (fun m1 m2 h3 z ag wx xz => ?_) (fun m1 m2 m3 _ _ _ _ _ => absurd m2 c2) (fun m1 m2 m3 _ _ _ _ _ => absurd m2 c2)
    refine xRet_some ?_
    refine x_istore (ls' := [some (.ref _), some (.ref _), some (.ref _), some (.ref _), some (.ref _), some (vi _), some (vi _), some (vi _), none]) (dT U_Lc43 46 rfl) (by decide) rfl ?_
    refine x_aload_n (dT U_Lc43 47 rfl) rfl ?_
    refine x_invokevirtual (rc' := rc) (rs' := rs) (rc2 := 0) (rs2 := 0) (As := []) (st := _) M_X11_thrown K_L_242 (dT U_Lc43 48 rfl) rfl rfl (by decide) rfl rfl wx.c70 (Nat.le_of_ble_eq_true rfl) (by decide) rfl (Nat.le_of_ble_eq_true rfl) rfl (by decide) (Nat.le_of_ble_eq_true rfl) rfl rfl ?_
    refine S_X11_thrown wx ?_
    refine xRet_some ?_
    refine x_iload (dT U_Lc43 49 rfl) rfl ?_
    refine x_icmp_eq (tgt := 3742) (dT U_Lc43 50 rfl) (by decide) (by unfold xr; omega) (by unfold xr; omega) (fun c3737 => ?_) (fun c3737 => (by exfalso; omega))
    refine x_iload (dT U_Lc43 53 rfl) rfl ?_
    refine x_if_ne (tgt := 3759) (dT U_Lc43 54 rfl) (by decide) (by unfold xr; omega) (fun c3744 => ?_) (fun c3744 => (by exfalso; omega))
    refine x_goto (tgt := 5554) (dT U_Lc43 64 rfl) (by decide) ?_
    refine x_drop ?_ (M _ _ _ _ _ _ _ _ v (w.out ag (by omega)) wx (ag.get ho (by omega)) (ag.get hod (by omega)))
    repeat (first | exact trivial | refine ⟨rfl, ?_⟩ | refine ⟨trivial, ?_⟩)
  · refine xRet_some ?_
    refine x_istore (ls' := [some (.ref _), some (.ref _), some (.ref _), some (.ref _), some (.ref _), some (vi _), some (vi _), none, none]) (dT U_Lc43 23 rfl) (by decide) rfl ?_
    refine x_aload_n (dT U_Lc43 24 rfl) rfl ?_
    refine x_aload_n (dT U_Lc43 25 rfl) rfl ?_
    refine x_iload (dT U_Lc43 26 rfl) rfl ?_
    refine x_iconst (dT U_Lc43 27 rfl) ?_
    refine x_iadd (dT U_Lc43 28 rfl) ?_
    refine x_sld (i + 1) hL (dT U_Lc43 29 rfl) (by omega) (by omega) ?_
    refine x_aload_n (dT U_Lc43 30 rfl) rfl ?_
    refine x_iload (dT U_Lc43 31 rfl) rfl ?_
    refine x_iconst (dT U_Lc43 32 rfl) ?_
    refine x_iadd (dT U_Lc43 33 rfl) ?_
    refine x_sld (i + 2) hL (dT U_Lc43 34 rfl) (by omega) (by omega) ?_
    refine x_aload_n (dT U_Lc43 35 rfl) rfl ?_
    refine x_iload (dT U_Lc43 36 rfl) rfl ?_
    refine x_iconst (dT U_Lc43 37 rfl) ?_
    refine x_iadd (dT U_Lc43 38 rfl) ?_
    refine x_sld (i + 3) hL (dT U_Lc43 39 rfl) (by omega) (by omega) ?_
    refine x_aload_n (dT U_Lc43 40 rfl) rfl ?_
    refine x_iload (dT U_Lc43 41 rfl) rfl ?_
    refine x_iconst (dT U_Lc43 42 rfl) ?_
    refine x_iadd (dT U_Lc43 43 rfl) ?_
    refine x_sld (i + 4) hL (dT U_Lc43 44 rfl) (by omega) (by omega) ?_
    refine x_invokevirtual (rc' := rc) (rs' := rs) (rc2 := 0) (rs2 := 0) (As := [_, _, _, _]) (st := _) M_X11_batch K_L_381 (dT U_Lc43 45 rfl) rfl rfl (by decide) rfl rfl wm.c70 (Nat.le_of_ble_eq_true rfl) (by decide) rfl (Nat.le_of_ble_eq_true rfl) rfl (by decide) (Nat.le_of_ble_eq_true rfl) rfl rfl ?_
    refine S_X11_batch wm v (xr_s _) (xr_s _) (xr_s _) (xr_s _) (fun m1 _ _ _ _ _ => absurd c1 m1) (fun m1 m2 _ _ _ _ _ => absurd c2 m2) (fun m1 m2 m3 h3 z ag wx xz => ?_) (fun m1 m2 m3 _ _ _ _ _ => absurd m3 c3)
    refine xRet_some ?_
    refine x_istore (ls' := [some (.ref _), some (.ref _), some (.ref _), some (.ref _), some (.ref _), some (vi _), some (vi _), some (vi _), none]) (dT U_Lc43 46 rfl) (by decide) rfl ?_
    refine x_aload_n (dT U_Lc43 47 rfl) rfl ?_
    refine x_invokevirtual (rc' := rc) (rs' := rs) (rc2 := 0) (rs2 := 0) (As := []) (st := _) M_X11_thrown K_L_242 (dT U_Lc43 48 rfl) rfl rfl (by decide) rfl rfl wx.c70 (Nat.le_of_ble_eq_true rfl) (by decide) rfl (Nat.le_of_ble_eq_true rfl) rfl (by decide) (Nat.le_of_ble_eq_true rfl) rfl rfl ?_
    refine S_X11_thrown wx ?_
    refine xRet_some ?_
    refine x_iload (dT U_Lc43 49 rfl) rfl ?_
    refine x_icmp_eq (tgt := 3742) (dT U_Lc43 50 rfl) (by decide) (by unfold xr; omega) (by unfold xr; omega) (fun c3737 => ?_) (fun c3737 => (by exfalso; omega))
    refine x_iload (dT U_Lc43 53 rfl) rfl ?_
    refine x_if_ne (tgt := 3759) (dT U_Lc43 54 rfl) (by decide) (by unfold xr; omega) (fun c3744 => ?_) (fun c3744 => (by exfalso; omega))
    refine x_goto (tgt := 5554) (dT U_Lc43 64 rfl) (by decide) ?_
    refine x_drop ?_ (M _ _ _ _ _ _ _ _ v (w.out ag (by omega)) wx (ag.get ho (by omega)) (ag.get hod (by omega)))
    repeat (first | exact trivial | refine ⟨rfl, ?_⟩ | refine ⟨trivial, ?_⟩)
  · refine xRet_some ?_
    have wmx := wm.out (h2 := (h2.set 143 (cJ [z9]))) (fun a ha => by rw [hset_fr (by omega)]; exact fc.2 a (by omega))
    refine x_istore (ls' := [some (.ref _), some (.ref _), some (.ref _), some (.ref _), some (.ref _), some (vi _), some (vi _), none, none]) (dT U_Lc43 23 rfl) (by decide) rfl ?_
    refine x_aload_n (dT U_Lc43 24 rfl) rfl ?_
    refine x_aload_n (dT U_Lc43 25 rfl) rfl ?_
    refine x_iload (dT U_Lc43 26 rfl) rfl ?_
    refine x_iconst (dT U_Lc43 27 rfl) ?_
    refine x_iadd (dT U_Lc43 28 rfl) ?_
    refine x_sld (i + 1) hL (dT U_Lc43 29 rfl) (by omega) (by omega) ?_
    refine x_aload_n (dT U_Lc43 30 rfl) rfl ?_
    refine x_iload (dT U_Lc43 31 rfl) rfl ?_
    refine x_iconst (dT U_Lc43 32 rfl) ?_
    refine x_iadd (dT U_Lc43 33 rfl) ?_
    refine x_sld (i + 2) hL (dT U_Lc43 34 rfl) (by omega) (by omega) ?_
    refine x_aload_n (dT U_Lc43 35 rfl) rfl ?_
    refine x_iload (dT U_Lc43 36 rfl) rfl ?_
    refine x_iconst (dT U_Lc43 37 rfl) ?_
    refine x_iadd (dT U_Lc43 38 rfl) ?_
    refine x_sld (i + 3) hL (dT U_Lc43 39 rfl) (by omega) (by omega) ?_
    refine x_aload_n (dT U_Lc43 40 rfl) rfl ?_
    refine x_iload (dT U_Lc43 41 rfl) rfl ?_
    refine x_iconst (dT U_Lc43 42 rfl) ?_
    refine x_iadd (dT U_Lc43 43 rfl) ?_
    refine x_sld (i + 4) hL (dT U_Lc43 44 rfl) (by omega) (by omega) ?_
    refine x_invokevirtual (rc' := rc) (rs' := rs) (rc2 := 0) (rs2 := 0) (As := [_, _, _, _]) (st := _) M_X11_batch K_L_381 (dT U_Lc43 45 rfl) rfl rfl (by decide) rfl rfl wmx.c70 (Nat.le_of_ble_eq_true rfl) (by decide) rfl (Nat.le_of_ble_eq_true rfl) rfl (by decide) (Nat.le_of_ble_eq_true rfl) rfl rfl ?_
    refine S_X11_batch wmx v (xr_s _) (xr_s _) (xr_s _) (xr_s _) (fun m1 _ _ _ _ _ => absurd c1 m1) (fun m1 m2 _ _ _ _ _ => absurd c2 m2) (fun m1 m2 m3 _ _ _ _ _ => absurd c3 m3) (fun m1 m2 m3 h3 r3 s3 ag wx => ?_)
    refine xRet_some ?_
    rw [ez9]
    refine x_istore (ls' := [some (.ref _), some (.ref _), some (.ref _), some (.ref _), some (.ref _), some (vi _), some (vi _), some (vi _), none]) (dT U_Lc43 46 rfl) (by decide) rfl ?_
    refine x_aload_n (dT U_Lc43 47 rfl) rfl ?_
    refine x_invokevirtual (rc' := rc) (rs' := rs) (rc2 := 0) (rs2 := 0) (As := []) (st := _) M_X11_thrown K_L_242 (dT U_Lc43 48 rfl) rfl rfl (by decide) rfl rfl wx.c70 (Nat.le_of_ble_eq_true rfl) (by decide) rfl (Nat.le_of_ble_eq_true rfl) rfl (by decide) (Nat.le_of_ble_eq_true rfl) rfl rfl ?_
    refine S_X11_thrown wx ?_
    refine xRet_some ?_
    refine x_iload (dT U_Lc43 49 rfl) rfl ?_
    refine x_icmp_eq (tgt := 3742) (dT U_Lc43 50 rfl) (by decide) (by unfold xr; omega) (by unfold xr; omega) (fun c3737 => ?_) (fun c3737 => (by exfalso; omega))
    refine x_iload (dT U_Lc43 53 rfl) rfl ?_
    refine x_if_nen (tgt := 3759) (dT U_Lc43 54 rfl) (by decide) (by decide) ?_
    refine x_aload_n (dT U_Lc43 55 rfl) rfl ?_
    refine x_iconst (dT U_Lc43 56 rfl) ?_
    refine x_laload 0 (dT U_Lc43 57 rfl) (ag.get (hset_eq (fc.get ho (by omega))) (by omega)) (Nat.le_of_ble_eq_true rfl) rfl (Nat.le_of_ble_eq_true rfl) (Nat.le_of_ble_eq_true rfl) ?_
    refine x_iload (dT U_Lc43 58 rfl) rfl ?_
    refine x_i2l (dT U_Lc43 59 rfl) hz9 ?_
    refine x_lcmp (dT U_Lc43 60 rfl) (xr_l hz9) (xr_l hz9) ?_
    refine x_if_eqj (tgt := 3759) (dT U_Lc43 61 rfl) (by decide) (xcmp_rf _) ?_
    refine x_goto (tgt := 5554) (dT U_Lc43 64 rfl) (by decide) ?_
    refine x_drop ?_ (M _ _ _ _ _ _ _ _ (IV_batch v c1 c2 c3) ((w2.out ((Ag.rf 143 143 h2).set (by omega)) (by omega)).out ag (by omega)) wx (ag.get (hset_eq (fc.get ho (by omega))) (by omega)) (ag.get (hset_ne (by omega) (fc.get hod (by omega))) (by omega)))
    repeat (first | exact trivial | refine ⟨rfl, ?_⟩ | refine ⟨trivial, ?_⟩)

def B_Lc44 : ByteArray := .mk #[0x2b, 0x2a, 0x15, 0x05, 0x04, 0x60, 0x2e, 0x2a, 0x15, 0x05, 0x05, 0x60, 0x2e, 0x2a, 0x15, 0x05, 0x06, 0x60, 0x2e, 0x2a, 0x15, 0x05, 0x07, 0x60, 0x2e, 0x99, 0x00, 0x07, 0x04, 0xa7, 0x00, 0x04, 0x03, 0x2a, 0x15, 0x05, 0x08, 0x60, 0x2e, 0x2d, 0xb8, 0x01, 0x7e, 0x36, 0x06, 0x2c, 0x2a, 0x15, 0x05, 0x04, 0x60, 0x2e, 0x2a, 0x15, 0x05, 0x05, 0x60, 0x2e, 0x2a, 0x15, 0x05, 0x06, 0x60, 0x2e, 0x2a, 0x15, 0x05, 0x07, 0x60, 0x2e, 0x99, 0x00, 0x07, 0x04, 0xa7, 0x00, 0x04, 0x03, 0x2a, 0x15, 0x05, 0x08, 0x60, 0x2e, 0xb6, 0x01, 0x81, 0x36, 0x07, 0x2c, 0xb6, 0x00, 0xf2, 0x15, 0x06, 0x9f, 0x00, 0x05, 0x03, 0xac, 0x15, 0x06, 0x9a, 0x00, 0x0f, 0x2d, 0x03, 0x2f, 0x15, 0x07, 0x85, 0x94, 0x99, 0x00, 0x05, 0x03, 0xac, 0xa7, 0x06, 0x8b]
theorem W_Lc44 : sameFrom m_L_law.2.1 B_Lc44 3762 := sameFrom_of (by decide +kernel)
def t_Lc44 : List (Nat × Instr × Nat) := [(3762, .aload_n 1, 1), (3763, .aload_n 0, 1), (3764, .iload 5, 2), (3766, .iconst 1, 1), (3767, .iadd, 1), (3768, .iaload, 1), (3769, .aload_n 0, 1), (3770, .iload 5, 2), (3772, .iconst 2, 1), (3773, .iadd, 1), (3774, .iaload, 1), (3775, .aload_n 0, 1), (3776, .iload 5, 2), (3778, .iconst 3, 1), (3779, .iadd, 1), (3780, .iaload, 1), (3781, .aload_n 0, 1), (3782, .iload 5, 2), (3784, .iconst 4, 1), (3785, .iadd, 1), (3786, .iaload, 1), (3787, .ifCond .eq 7, 3), (3790, .iconst 1, 1), (3791, .goto 4, 3), (3794, .iconst 0, 1), (3795, .aload_n 0, 1), (3796, .iload 5, 2), (3798, .iconst 5, 1), (3799, .iadd, 1), (3800, .iaload, 1), (3801, .aload_n 3, 1), (3802, .invokestatic 382, 3), (3805, .istore 6, 2), (3807, .aload_n 2, 1), (3808, .aload_n 0, 1), (3809, .iload 5, 2), (3811, .iconst 1, 1), (3812, .iadd, 1), (3813, .iaload, 1), (3814, .aload_n 0, 1), (3815, .iload 5, 2), (3817, .iconst 2, 1), (3818, .iadd, 1), (3819, .iaload, 1), (3820, .aload_n 0, 1), (3821, .iload 5, 2), (3823, .iconst 3, 1), (3824, .iadd, 1), (3825, .iaload, 1), (3826, .aload_n 0, 1), (3827, .iload 5, 2), (3829, .iconst 4, 1), (3830, .iadd, 1), (3831, .iaload, 1), (3832, .ifCond .eq 7, 3), (3835, .iconst 1, 1), (3836, .goto 4, 3), (3839, .iconst 0, 1), (3840, .aload_n 0, 1), (3841, .iload 5, 2), (3843, .iconst 5, 1), (3844, .iadd, 1), (3845, .iaload, 1), (3846, .invokevirtual 385, 3), (3849, .istore 7, 2), (3851, .aload_n 2, 1), (3852, .invokevirtual 242, 3), (3855, .iload 6, 2), (3857, .if_icmp .eq 5, 3), (3860, .iconst 0, 1), (3861, .ireturn, 1), (3862, .iload 6, 2), (3864, .ifCond .ne 15, 3), (3867, .aload_n 3, 1), (3868, .iconst 0, 1), (3869, .laload, 1), (3870, .iload 7, 2), (3872, .i2l, 1), (3873, .lcmp, 1), (3874, .ifCond .eq 5, 3), (3877, .iconst 0, 1), (3878, .ireturn, 1), (3879, .goto 1675, 3)]
set_option maxRecDepth 20000 in
theorem U_Lc44 : okT m_L_law.2.1 t_Lc44 = true := dSt [(0, .aload_n 1, 1), (1, .aload_n 0, 1), (2, .iload 5, 2), (4, .iconst 1, 1), (5, .iadd, 1), (6, .iaload, 1), (7, .aload_n 0, 1), (8, .iload 5, 2), (10, .iconst 2, 1), (11, .iadd, 1), (12, .iaload, 1), (13, .aload_n 0, 1), (14, .iload 5, 2), (16, .iconst 3, 1), (17, .iadd, 1), (18, .iaload, 1), (19, .aload_n 0, 1), (20, .iload 5, 2), (22, .iconst 4, 1), (23, .iadd, 1), (24, .iaload, 1), (25, .ifCond .eq 7, 3), (28, .iconst 1, 1), (29, .goto 4, 3), (32, .iconst 0, 1), (33, .aload_n 0, 1), (34, .iload 5, 2), (36, .iconst 5, 1), (37, .iadd, 1), (38, .iaload, 1), (39, .aload_n 3, 1), (40, .invokestatic 382, 3), (43, .istore 6, 2), (45, .aload_n 2, 1), (46, .aload_n 0, 1), (47, .iload 5, 2), (49, .iconst 1, 1), (50, .iadd, 1), (51, .iaload, 1), (52, .aload_n 0, 1), (53, .iload 5, 2), (55, .iconst 2, 1), (56, .iadd, 1), (57, .iaload, 1), (58, .aload_n 0, 1), (59, .iload 5, 2), (61, .iconst 3, 1), (62, .iadd, 1), (63, .iaload, 1), (64, .aload_n 0, 1), (65, .iload 5, 2), (67, .iconst 4, 1), (68, .iadd, 1), (69, .iaload, 1), (70, .ifCond .eq 7, 3), (73, .iconst 1, 1), (74, .goto 4, 3), (77, .iconst 0, 1), (78, .aload_n 0, 1), (79, .iload 5, 2), (81, .iconst 5, 1), (82, .iadd, 1), (83, .iaload, 1), (84, .invokevirtual 385, 3), (87, .istore 7, 2), (89, .aload_n 2, 1), (90, .invokevirtual 242, 3), (93, .iload 6, 2), (95, .if_icmp .eq 5, 3), (98, .iconst 0, 1), (99, .ireturn, 1), (100, .iload 6, 2), (102, .ifCond .ne 15, 3), (105, .aload_n 3, 1), (106, .iconst 0, 1), (107, .laload, 1), (108, .iload 7, 2), (110, .i2l, 1), (111, .lcmp, 1), (112, .ifCond .eq 5, 3), (115, .iconst 0, 1), (116, .ireturn, 1), (117, .goto 1675, 3)] W_Lc44 (by decide +kernel) (by decide +kernel)
set_option maxRecDepth 20000 in
set_option maxHeartbeats 1000000 in
theorem LC_44 {G : xG} {d rc rs : Nat} {ex : Bool} {h : xH} {Q : xQ} {σ : St} {c0 : Int} {rr : Nat} {ss : Int} {l0 : Int} {d0 : UInt64} {i : Nat} (hL : G.2.2.2.2.2.1 < 2147483648) (hi : i + 10 ≤ G.2.2.2.2.2.1) (w : CW σ h) (wm : MX σ c0 rr ss h) (v : INV σ) (ho : h[143]? = some (cJ [l0])) (hod : h[144]? = some (cD [d0]))
    (M : ∀ (σ9 : St) (h9 : xH) (e9 : Bool) (c9 : Int) (r9 : Nat) (s9 : Int) (l9 : Int) (d9 : UInt64), INV σ9 → CW σ9 h9 → MX σ9 c9 r9 s9 h9 → h9[143]? = some (cJ [l9]) → h9[144]? = some (cD [d9]) → X G m_L_law (d + 10) rc rs e9 5554 [some (.ref 0), some (.ref 3), some (.ref 70), some (.ref 143), some (.ref 144), some (vi (i : Int)), none, none, none] [] h9 Q) : X G m_L_law (d + 10) (rc + 5) (rs + 30) ex 3762 [some (.ref 0), some (.ref 3), some (.ref 70), some (.ref 143), some (.ref 144), some (vi (i : Int)), none, none, none] [] h Q := by
  refine x_aload_n (dT U_Lc44 0 rfl) rfl ?_
  refine x_aload_n (dT U_Lc44 1 rfl) rfl ?_
  refine x_iload (dT U_Lc44 2 rfl) rfl ?_
  refine x_iconst (dT U_Lc44 3 rfl) ?_
  refine x_iadd (dT U_Lc44 4 rfl) ?_
  refine x_sld (i + 1) hL (dT U_Lc44 5 rfl) (by omega) (by omega) ?_
  refine x_aload_n (dT U_Lc44 6 rfl) rfl ?_
  refine x_iload (dT U_Lc44 7 rfl) rfl ?_
  refine x_iconst (dT U_Lc44 8 rfl) ?_
  refine x_iadd (dT U_Lc44 9 rfl) ?_
  refine x_sld (i + 2) hL (dT U_Lc44 10 rfl) (by omega) (by omega) ?_
  refine x_aload_n (dT U_Lc44 11 rfl) rfl ?_
  refine x_iload (dT U_Lc44 12 rfl) rfl ?_
  refine x_iconst (dT U_Lc44 13 rfl) ?_
  refine x_iadd (dT U_Lc44 14 rfl) ?_
  refine x_sld (i + 3) hL (dT U_Lc44 15 rfl) (by omega) (by omega) ?_
  refine x_aload_n (dT U_Lc44 16 rfl) rfl ?_
  refine x_iload (dT U_Lc44 17 rfl) rfl ?_
  refine x_iconst (dT U_Lc44 18 rfl) ?_
  refine x_iadd (dT U_Lc44 19 rfl) ?_
  refine x_sld (i + 4) hL (dT U_Lc44 20 rfl) (by omega) (by omega) ?_
  refine x_if_eq (tgt := 3794) (dT U_Lc44 21 rfl) (by decide) (xr_s _) (fun cA => ?_) (fun cA => ?_)
  · skip
    refine x_iconst (dT U_Lc44 24 rfl) ?_
    refine x_aload_n (dT U_Lc44 25 rfl) rfl ?_
    refine x_iload (dT U_Lc44 26 rfl) rfl ?_
    refine x_iconst (dT U_Lc44 27 rfl) ?_
    refine x_iadd (dT U_Lc44 28 rfl) ?_
    refine x_sld (i + 5) hL (dT U_Lc44 29 rfl) (by omega) (by omega) ?_
    refine x_aload_n (dT U_Lc44 30 rfl) rfl ?_
    refine x_invokestaticT (rc' := rc) (rs' := rs) (rc2 := 0 + 5) (rs2 := 0 + 30) (As := [_, _, _, _, _, _, _]) (st := _) M_L_factors K_L_382 (dT U_Lc44 31 rfl) rfl (by decide) rfl rfl (Nat.le_of_ble_eq_true rfl) rfl (by decide) (Nat.le_of_ble_eq_true rfl) (by omega) (by omega) ?_
    refine S_L_factors w v (xr_s _) (xr_s _) (xr_s _) (xr_s _) (by decide) ho (fun c1 => ?_) (fun c1 c2 => ?_) (fun c1 c2 z9 hz9 ez9 => ?_)
    · refine xRet_some ?_
      refine x_istore (ls' := [some (.ref _), some (.ref _), some (.ref _), some (.ref _), some (.ref _), some (vi _), some (vi _), none, none]) (dT U_Lc44 32 rfl) (by decide) rfl ?_
      refine x_aload_n (dT U_Lc44 33 rfl) rfl ?_
      refine x_aload_n (dT U_Lc44 34 rfl) rfl ?_
      refine x_iload (dT U_Lc44 35 rfl) rfl ?_
      refine x_iconst (dT U_Lc44 36 rfl) ?_
      refine x_iadd (dT U_Lc44 37 rfl) ?_
      refine x_sld (i + 1) hL (dT U_Lc44 38 rfl) (by omega) (by omega) ?_
      refine x_aload_n (dT U_Lc44 39 rfl) rfl ?_
      refine x_iload (dT U_Lc44 40 rfl) rfl ?_
      refine x_iconst (dT U_Lc44 41 rfl) ?_
      refine x_iadd (dT U_Lc44 42 rfl) ?_
      refine x_sld (i + 2) hL (dT U_Lc44 43 rfl) (by omega) (by omega) ?_
      refine x_aload_n (dT U_Lc44 44 rfl) rfl ?_
      refine x_iload (dT U_Lc44 45 rfl) rfl ?_
      refine x_iconst (dT U_Lc44 46 rfl) ?_
      refine x_iadd (dT U_Lc44 47 rfl) ?_
      refine x_sld (i + 3) hL (dT U_Lc44 48 rfl) (by omega) (by omega) ?_
      refine x_aload_n (dT U_Lc44 49 rfl) rfl ?_
      refine x_iload (dT U_Lc44 50 rfl) rfl ?_
      refine x_iconst (dT U_Lc44 51 rfl) ?_
      refine x_iadd (dT U_Lc44 52 rfl) ?_
      refine x_sld (i + 4) hL (dT U_Lc44 53 rfl) (by omega) (by omega) ?_
      refine x_if_eq (tgt := 3839) (dT U_Lc44 54 rfl) (by decide) (xr_s _) (fun _ => ?_) (fun z => absurd cA z)
      refine x_iconst (dT U_Lc44 57 rfl) ?_
      refine x_aload_n (dT U_Lc44 58 rfl) rfl ?_
      refine x_iload (dT U_Lc44 59 rfl) rfl ?_
      refine x_iconst (dT U_Lc44 60 rfl) ?_
      refine x_iadd (dT U_Lc44 61 rfl) ?_
      refine x_sld (i + 5) hL (dT U_Lc44 62 rfl) (by omega) (by omega) ?_
      refine x_invokevirtual (rc' := rc) (rs' := rs) (rc2 := 0) (rs2 := 0) (As := [_, _, _, _, _]) (st := _) M_X11_factors K_L_385 (dT U_Lc44 63 rfl) rfl rfl (by decide) rfl rfl wm.c70 (Nat.le_of_ble_eq_true rfl) (by decide) rfl (Nat.le_of_ble_eq_true rfl) rfl (by decide) (Nat.le_of_ble_eq_true rfl) rfl rfl ?_
      refine S_X11_factors wm v (xr_s _) (xr_s _) (xr_s _) (xr_s _) (by decide) (fun m1 h3 z ag wx xz => ?_) (fun m1 m2 _ _ _ _ _ => absurd m1 c1) (fun m1 m2 _ _ _ _ _ => absurd m1 c1)
      refine xRet_some ?_
      refine x_istore (ls' := [some (.ref _), some (.ref _), some (.ref _), some (.ref _), some (.ref _), some (vi _), some (vi _), some (vi _), none]) (dT U_Lc44 64 rfl) (by decide) rfl ?_
      refine x_aload_n (dT U_Lc44 65 rfl) rfl ?_
      refine x_invokevirtual (rc' := rc) (rs' := rs) (rc2 := 0) (rs2 := 0) (As := []) (st := _) M_X11_thrown K_L_242 (dT U_Lc44 66 rfl) rfl rfl (by decide) rfl rfl wx.c70 (Nat.le_of_ble_eq_true rfl) (by decide) rfl (Nat.le_of_ble_eq_true rfl) rfl (by decide) (Nat.le_of_ble_eq_true rfl) rfl rfl ?_
      refine S_X11_thrown wx ?_
      refine xRet_some ?_
      refine x_iload (dT U_Lc44 67 rfl) rfl ?_
      refine x_icmp_eq (tgt := 3862) (dT U_Lc44 68 rfl) (by decide) (by unfold xr; omega) (by unfold xr; omega) (fun c3857 => ?_) (fun c3857 => (by exfalso; omega))
      refine x_iload (dT U_Lc44 71 rfl) rfl ?_
      refine x_if_nej (tgt := 3879) (dT U_Lc44 72 rfl) (by decide) (by decide) ?_
      refine x_goto (tgt := 5554) (dT U_Lc44 82 rfl) (by decide) ?_
      refine x_drop ?_ (M _ _ _ _ _ _ _ _ v (w.out ag (by omega)) wx (ag.get ho (by omega)) (ag.get hod (by omega)))
      repeat (first | exact trivial | refine ⟨rfl, ?_⟩ | refine ⟨trivial, ?_⟩)
    · refine xRet_some ?_
      refine x_istore (ls' := [some (.ref _), some (.ref _), some (.ref _), some (.ref _), some (.ref _), some (vi _), some (vi _), none, none]) (dT U_Lc44 32 rfl) (by decide) rfl ?_
      refine x_aload_n (dT U_Lc44 33 rfl) rfl ?_
      refine x_aload_n (dT U_Lc44 34 rfl) rfl ?_
      refine x_iload (dT U_Lc44 35 rfl) rfl ?_
      refine x_iconst (dT U_Lc44 36 rfl) ?_
      refine x_iadd (dT U_Lc44 37 rfl) ?_
      refine x_sld (i + 1) hL (dT U_Lc44 38 rfl) (by omega) (by omega) ?_
      refine x_aload_n (dT U_Lc44 39 rfl) rfl ?_
      refine x_iload (dT U_Lc44 40 rfl) rfl ?_
      refine x_iconst (dT U_Lc44 41 rfl) ?_
      refine x_iadd (dT U_Lc44 42 rfl) ?_
      refine x_sld (i + 2) hL (dT U_Lc44 43 rfl) (by omega) (by omega) ?_
      refine x_aload_n (dT U_Lc44 44 rfl) rfl ?_
      refine x_iload (dT U_Lc44 45 rfl) rfl ?_
      refine x_iconst (dT U_Lc44 46 rfl) ?_
      refine x_iadd (dT U_Lc44 47 rfl) ?_
      refine x_sld (i + 3) hL (dT U_Lc44 48 rfl) (by omega) (by omega) ?_
      refine x_aload_n (dT U_Lc44 49 rfl) rfl ?_
      refine x_iload (dT U_Lc44 50 rfl) rfl ?_
      refine x_iconst (dT U_Lc44 51 rfl) ?_
      refine x_iadd (dT U_Lc44 52 rfl) ?_
      refine x_sld (i + 4) hL (dT U_Lc44 53 rfl) (by omega) (by omega) ?_
      refine x_if_eq (tgt := 3839) (dT U_Lc44 54 rfl) (by decide) (xr_s _) (fun _ => ?_) (fun z => absurd cA z)
      refine x_iconst (dT U_Lc44 57 rfl) ?_
      refine x_aload_n (dT U_Lc44 58 rfl) rfl ?_
      refine x_iload (dT U_Lc44 59 rfl) rfl ?_
      refine x_iconst (dT U_Lc44 60 rfl) ?_
      refine x_iadd (dT U_Lc44 61 rfl) ?_
      refine x_sld (i + 5) hL (dT U_Lc44 62 rfl) (by omega) (by omega) ?_
      refine x_invokevirtual (rc' := rc) (rs' := rs) (rc2 := 0) (rs2 := 0) (As := [_, _, _, _, _]) (st := _) M_X11_factors K_L_385 (dT U_Lc44 63 rfl) rfl rfl (by decide) rfl rfl wm.c70 (Nat.le_of_ble_eq_true rfl) (by decide) rfl (Nat.le_of_ble_eq_true rfl) rfl (by decide) (Nat.le_of_ble_eq_true rfl) rfl rfl ?_
      refine S_X11_factors wm v (xr_s _) (xr_s _) (xr_s _) (xr_s _) (by decide) (fun m1 _ _ _ _ _ => absurd c1 m1) (fun m1 m2 h3 z ag wx xz => ?_) (fun m1 m2 _ _ _ _ _ => absurd m2 c2)
      refine xRet_some ?_
      refine x_istore (ls' := [some (.ref _), some (.ref _), some (.ref _), some (.ref _), some (.ref _), some (vi _), some (vi _), some (vi _), none]) (dT U_Lc44 64 rfl) (by decide) rfl ?_
      refine x_aload_n (dT U_Lc44 65 rfl) rfl ?_
      refine x_invokevirtual (rc' := rc) (rs' := rs) (rc2 := 0) (rs2 := 0) (As := []) (st := _) M_X11_thrown K_L_242 (dT U_Lc44 66 rfl) rfl rfl (by decide) rfl rfl wx.c70 (Nat.le_of_ble_eq_true rfl) (by decide) rfl (Nat.le_of_ble_eq_true rfl) rfl (by decide) (Nat.le_of_ble_eq_true rfl) rfl rfl ?_
      refine S_X11_thrown wx ?_
      refine xRet_some ?_
      refine x_iload (dT U_Lc44 67 rfl) rfl ?_
      refine x_icmp_eq (tgt := 3862) (dT U_Lc44 68 rfl) (by decide) (by unfold xr; omega) (by unfold xr; omega) (fun c3857 => ?_) (fun c3857 => (by exfalso; omega))
      refine x_iload (dT U_Lc44 71 rfl) rfl ?_
      refine x_if_ne (tgt := 3879) (dT U_Lc44 72 rfl) (by decide) (by unfold xr; omega) (fun c3864 => ?_) (fun c3864 => (by exfalso; omega))
      refine x_goto (tgt := 5554) (dT U_Lc44 82 rfl) (by decide) ?_
      refine x_drop ?_ (M _ _ _ _ _ _ _ _ v (w.out ag (by omega)) wx (ag.get ho (by omega)) (ag.get hod (by omega)))
      repeat (first | exact trivial | refine ⟨rfl, ?_⟩ | refine ⟨trivial, ?_⟩)
    · refine xRet_some ?_
      have wmx := wm.out (h2 := (h.set 143 (cJ [z9]))) (fun a ha => by rw [hset_fr (by omega)])
      refine x_istore (ls' := [some (.ref _), some (.ref _), some (.ref _), some (.ref _), some (.ref _), some (vi _), some (vi _), none, none]) (dT U_Lc44 32 rfl) (by decide) rfl ?_
      refine x_aload_n (dT U_Lc44 33 rfl) rfl ?_
      refine x_aload_n (dT U_Lc44 34 rfl) rfl ?_
      refine x_iload (dT U_Lc44 35 rfl) rfl ?_
      refine x_iconst (dT U_Lc44 36 rfl) ?_
      refine x_iadd (dT U_Lc44 37 rfl) ?_
      refine x_sld (i + 1) hL (dT U_Lc44 38 rfl) (by omega) (by omega) ?_
      refine x_aload_n (dT U_Lc44 39 rfl) rfl ?_
      refine x_iload (dT U_Lc44 40 rfl) rfl ?_
      refine x_iconst (dT U_Lc44 41 rfl) ?_
      refine x_iadd (dT U_Lc44 42 rfl) ?_
      refine x_sld (i + 2) hL (dT U_Lc44 43 rfl) (by omega) (by omega) ?_
      refine x_aload_n (dT U_Lc44 44 rfl) rfl ?_
      refine x_iload (dT U_Lc44 45 rfl) rfl ?_
      refine x_iconst (dT U_Lc44 46 rfl) ?_
      refine x_iadd (dT U_Lc44 47 rfl) ?_
      refine x_sld (i + 3) hL (dT U_Lc44 48 rfl) (by omega) (by omega) ?_
      refine x_aload_n (dT U_Lc44 49 rfl) rfl ?_
      refine x_iload (dT U_Lc44 50 rfl) rfl ?_
      refine x_iconst (dT U_Lc44 51 rfl) ?_
      refine x_iadd (dT U_Lc44 52 rfl) ?_
      refine x_sld (i + 4) hL (dT U_Lc44 53 rfl) (by omega) (by omega) ?_
      refine x_if_eq (tgt := 3839) (dT U_Lc44 54 rfl) (by decide) (xr_s _) (fun _ => ?_) (fun z => absurd cA z)
      refine x_iconst (dT U_Lc44 57 rfl) ?_
      refine x_aload_n (dT U_Lc44 58 rfl) rfl ?_
      refine x_iload (dT U_Lc44 59 rfl) rfl ?_
      refine x_iconst (dT U_Lc44 60 rfl) ?_
      refine x_iadd (dT U_Lc44 61 rfl) ?_
      refine x_sld (i + 5) hL (dT U_Lc44 62 rfl) (by omega) (by omega) ?_
      refine x_invokevirtual (rc' := rc) (rs' := rs) (rc2 := 0) (rs2 := 0) (As := [_, _, _, _, _]) (st := _) M_X11_factors K_L_385 (dT U_Lc44 63 rfl) rfl rfl (by decide) rfl rfl wmx.c70 (Nat.le_of_ble_eq_true rfl) (by decide) rfl (Nat.le_of_ble_eq_true rfl) rfl (by decide) (Nat.le_of_ble_eq_true rfl) rfl rfl ?_
      refine S_X11_factors wmx v (xr_s _) (xr_s _) (xr_s _) (xr_s _) (by decide) (fun m1 _ _ _ _ _ => absurd c1 m1) (fun m1 m2 _ _ _ _ _ => absurd c2 m2) (fun m1 m2 h3 r3 s3 ag wx => ?_)
      refine xRet_some ?_
      rw [ez9]
      refine x_istore (ls' := [some (.ref _), some (.ref _), some (.ref _), some (.ref _), some (.ref _), some (vi _), some (vi _), some (vi _), none]) (dT U_Lc44 64 rfl) (by decide) rfl ?_
      refine x_aload_n (dT U_Lc44 65 rfl) rfl ?_
      refine x_invokevirtual (rc' := rc) (rs' := rs) (rc2 := 0) (rs2 := 0) (As := []) (st := _) M_X11_thrown K_L_242 (dT U_Lc44 66 rfl) rfl rfl (by decide) rfl rfl wx.c70 (Nat.le_of_ble_eq_true rfl) (by decide) rfl (Nat.le_of_ble_eq_true rfl) rfl (by decide) (Nat.le_of_ble_eq_true rfl) rfl rfl ?_
      refine S_X11_thrown wx ?_
      refine xRet_some ?_
      refine x_iload (dT U_Lc44 67 rfl) rfl ?_
      refine x_icmp_eq (tgt := 3862) (dT U_Lc44 68 rfl) (by decide) (by unfold xr; omega) (by unfold xr; omega) (fun c3857 => ?_) (fun c3857 => (by exfalso; omega))
      refine x_iload (dT U_Lc44 71 rfl) rfl ?_
      refine x_if_nen (tgt := 3879) (dT U_Lc44 72 rfl) (by decide) (by decide) ?_
      refine x_aload_n (dT U_Lc44 73 rfl) rfl ?_
      refine x_iconst (dT U_Lc44 74 rfl) ?_
      refine x_laload 0 (dT U_Lc44 75 rfl) (ag.get (hset_eq ho) (by omega)) (Nat.le_of_ble_eq_true rfl) rfl (Nat.le_of_ble_eq_true rfl) (Nat.le_of_ble_eq_true rfl) ?_
      refine x_iload (dT U_Lc44 76 rfl) rfl ?_
      refine x_i2l (dT U_Lc44 77 rfl) hz9 ?_
      refine x_lcmp (dT U_Lc44 78 rfl) (xr_l hz9) (xr_l hz9) ?_
      refine x_if_eqj (tgt := 3879) (dT U_Lc44 79 rfl) (by decide) (xcmp_rf _) ?_
      refine x_goto (tgt := 5554) (dT U_Lc44 82 rfl) (by decide) ?_
      refine x_drop ?_ (M _ _ _ _ _ _ _ _ v ((w.out ((Ag.rf 143 143 h).set (by omega)) (by omega)).out ag (by omega)) wx (ag.get (hset_eq ho) (by omega)) (ag.get (hset_ne (by omega) hod) (by omega)))
      repeat (first | exact trivial | refine ⟨rfl, ?_⟩ | refine ⟨trivial, ?_⟩)
  · skip
    refine x_iconst (dT U_Lc44 22 rfl) ?_
    refine x_goto (tgt := 3795) (dT U_Lc44 23 rfl) (by decide) ?_
    refine x_aload_n (dT U_Lc44 25 rfl) rfl ?_
    refine x_iload (dT U_Lc44 26 rfl) rfl ?_
    refine x_iconst (dT U_Lc44 27 rfl) ?_
    refine x_iadd (dT U_Lc44 28 rfl) ?_
    refine x_sld (i + 5) hL (dT U_Lc44 29 rfl) (by omega) (by omega) ?_
    refine x_aload_n (dT U_Lc44 30 rfl) rfl ?_
    refine x_invokestaticT (rc' := rc) (rs' := rs) (rc2 := 0 + 5) (rs2 := 0 + 30) (As := [_, _, _, _, _, _, _]) (st := _) M_L_factors K_L_382 (dT U_Lc44 31 rfl) rfl (by decide) rfl rfl (Nat.le_of_ble_eq_true rfl) rfl (by decide) (Nat.le_of_ble_eq_true rfl) (by omega) (by omega) ?_
    refine S_L_factors w v (xr_s _) (xr_s _) (xr_s _) (xr_s _) (by decide) ho (fun c1 => ?_) (fun c1 c2 => ?_) (fun c1 c2 z9 hz9 ez9 => ?_)
    · refine xRet_some ?_
      refine x_istore (ls' := [some (.ref _), some (.ref _), some (.ref _), some (.ref _), some (.ref _), some (vi _), some (vi _), none, none]) (dT U_Lc44 32 rfl) (by decide) rfl ?_
      refine x_aload_n (dT U_Lc44 33 rfl) rfl ?_
      refine x_aload_n (dT U_Lc44 34 rfl) rfl ?_
      refine x_iload (dT U_Lc44 35 rfl) rfl ?_
      refine x_iconst (dT U_Lc44 36 rfl) ?_
      refine x_iadd (dT U_Lc44 37 rfl) ?_
      refine x_sld (i + 1) hL (dT U_Lc44 38 rfl) (by omega) (by omega) ?_
      refine x_aload_n (dT U_Lc44 39 rfl) rfl ?_
      refine x_iload (dT U_Lc44 40 rfl) rfl ?_
      refine x_iconst (dT U_Lc44 41 rfl) ?_
      refine x_iadd (dT U_Lc44 42 rfl) ?_
      refine x_sld (i + 2) hL (dT U_Lc44 43 rfl) (by omega) (by omega) ?_
      refine x_aload_n (dT U_Lc44 44 rfl) rfl ?_
      refine x_iload (dT U_Lc44 45 rfl) rfl ?_
      refine x_iconst (dT U_Lc44 46 rfl) ?_
      refine x_iadd (dT U_Lc44 47 rfl) ?_
      refine x_sld (i + 3) hL (dT U_Lc44 48 rfl) (by omega) (by omega) ?_
      refine x_aload_n (dT U_Lc44 49 rfl) rfl ?_
      refine x_iload (dT U_Lc44 50 rfl) rfl ?_
      refine x_iconst (dT U_Lc44 51 rfl) ?_
      refine x_iadd (dT U_Lc44 52 rfl) ?_
      refine x_sld (i + 4) hL (dT U_Lc44 53 rfl) (by omega) (by omega) ?_
      refine x_if_eq (tgt := 3839) (dT U_Lc44 54 rfl) (by decide) (xr_s _) (fun z => absurd z cA) (fun _ => ?_)
      refine x_iconst (dT U_Lc44 55 rfl) ?_
      refine x_goto (tgt := 3840) (dT U_Lc44 56 rfl) (by decide) ?_
      refine x_aload_n (dT U_Lc44 58 rfl) rfl ?_
      refine x_iload (dT U_Lc44 59 rfl) rfl ?_
      refine x_iconst (dT U_Lc44 60 rfl) ?_
      refine x_iadd (dT U_Lc44 61 rfl) ?_
      refine x_sld (i + 5) hL (dT U_Lc44 62 rfl) (by omega) (by omega) ?_
      refine x_invokevirtual (rc' := rc) (rs' := rs) (rc2 := 0) (rs2 := 0) (As := [_, _, _, _, _]) (st := _) M_X11_factors K_L_385 (dT U_Lc44 63 rfl) rfl rfl (by decide) rfl rfl wm.c70 (Nat.le_of_ble_eq_true rfl) (by decide) rfl (Nat.le_of_ble_eq_true rfl) rfl (by decide) (Nat.le_of_ble_eq_true rfl) rfl rfl ?_
      refine S_X11_factors wm v (xr_s _) (xr_s _) (xr_s _) (xr_s _) (by decide) (fun m1 h3 z ag wx xz => ?_) (fun m1 m2 _ _ _ _ _ => absurd m1 c1) (fun m1 m2 _ _ _ _ _ => absurd m1 c1)
      refine xRet_some ?_
      refine x_istore (ls' := [some (.ref _), some (.ref _), some (.ref _), some (.ref _), some (.ref _), some (vi _), some (vi _), some (vi _), none]) (dT U_Lc44 64 rfl) (by decide) rfl ?_
      refine x_aload_n (dT U_Lc44 65 rfl) rfl ?_
      refine x_invokevirtual (rc' := rc) (rs' := rs) (rc2 := 0) (rs2 := 0) (As := []) (st := _) M_X11_thrown K_L_242 (dT U_Lc44 66 rfl) rfl rfl (by decide) rfl rfl wx.c70 (Nat.le_of_ble_eq_true rfl) (by decide) rfl (Nat.le_of_ble_eq_true rfl) rfl (by decide) (Nat.le_of_ble_eq_true rfl) rfl rfl ?_
      refine S_X11_thrown wx ?_
      refine xRet_some ?_
      refine x_iload (dT U_Lc44 67 rfl) rfl ?_
      refine x_icmp_eq (tgt := 3862) (dT U_Lc44 68 rfl) (by decide) (by unfold xr; omega) (by unfold xr; omega) (fun c3857 => ?_) (fun c3857 => (by exfalso; omega))
      refine x_iload (dT U_Lc44 71 rfl) rfl ?_
      refine x_if_nej (tgt := 3879) (dT U_Lc44 72 rfl) (by decide) (by decide) ?_
      refine x_goto (tgt := 5554) (dT U_Lc44 82 rfl) (by decide) ?_
      refine x_drop ?_ (M _ _ _ _ _ _ _ _ v (w.out ag (by omega)) wx (ag.get ho (by omega)) (ag.get hod (by omega)))
      repeat (first | exact trivial | refine ⟨rfl, ?_⟩ | refine ⟨trivial, ?_⟩)
    · refine xRet_some ?_
      refine x_istore (ls' := [some (.ref _), some (.ref _), some (.ref _), some (.ref _), some (.ref _), some (vi _), some (vi _), none, none]) (dT U_Lc44 32 rfl) (by decide) rfl ?_
      refine x_aload_n (dT U_Lc44 33 rfl) rfl ?_
      refine x_aload_n (dT U_Lc44 34 rfl) rfl ?_
      refine x_iload (dT U_Lc44 35 rfl) rfl ?_
      refine x_iconst (dT U_Lc44 36 rfl) ?_
      refine x_iadd (dT U_Lc44 37 rfl) ?_
      refine x_sld (i + 1) hL (dT U_Lc44 38 rfl) (by omega) (by omega) ?_
      refine x_aload_n (dT U_Lc44 39 rfl) rfl ?_
      refine x_iload (dT U_Lc44 40 rfl) rfl ?_
      refine x_iconst (dT U_Lc44 41 rfl) ?_
      refine x_iadd (dT U_Lc44 42 rfl) ?_
      refine x_sld (i + 2) hL (dT U_Lc44 43 rfl) (by omega) (by omega) ?_
      refine x_aload_n (dT U_Lc44 44 rfl) rfl ?_
      refine x_iload (dT U_Lc44 45 rfl) rfl ?_
      refine x_iconst (dT U_Lc44 46 rfl) ?_
      refine x_iadd (dT U_Lc44 47 rfl) ?_
      refine x_sld (i + 3) hL (dT U_Lc44 48 rfl) (by omega) (by omega) ?_
      refine x_aload_n (dT U_Lc44 49 rfl) rfl ?_
      refine x_iload (dT U_Lc44 50 rfl) rfl ?_
      refine x_iconst (dT U_Lc44 51 rfl) ?_
      refine x_iadd (dT U_Lc44 52 rfl) ?_
      refine x_sld (i + 4) hL (dT U_Lc44 53 rfl) (by omega) (by omega) ?_
      refine x_if_eq (tgt := 3839) (dT U_Lc44 54 rfl) (by decide) (xr_s _) (fun z => absurd z cA) (fun _ => ?_)
      refine x_iconst (dT U_Lc44 55 rfl) ?_
      refine x_goto (tgt := 3840) (dT U_Lc44 56 rfl) (by decide) ?_
      refine x_aload_n (dT U_Lc44 58 rfl) rfl ?_
      refine x_iload (dT U_Lc44 59 rfl) rfl ?_
      refine x_iconst (dT U_Lc44 60 rfl) ?_
      refine x_iadd (dT U_Lc44 61 rfl) ?_
      refine x_sld (i + 5) hL (dT U_Lc44 62 rfl) (by omega) (by omega) ?_
      refine x_invokevirtual (rc' := rc) (rs' := rs) (rc2 := 0) (rs2 := 0) (As := [_, _, _, _, _]) (st := _) M_X11_factors K_L_385 (dT U_Lc44 63 rfl) rfl rfl (by decide) rfl rfl wm.c70 (Nat.le_of_ble_eq_true rfl) (by decide) rfl (Nat.le_of_ble_eq_true rfl) rfl (by decide) (Nat.le_of_ble_eq_true rfl) rfl rfl ?_
      refine S_X11_factors wm v (xr_s _) (xr_s _) (xr_s _) (xr_s _) (by decide) (fun m1 _ _ _ _ _ => absurd c1 m1) (fun m1 m2 h3 z ag wx xz => ?_) (fun m1 m2 _ _ _ _ _ => absurd m2 c2)
      refine xRet_some ?_
      refine x_istore (ls' := [some (.ref _), some (.ref _), some (.ref _), some (.ref _), some (.ref _), some (vi _), some (vi _), some (vi _), none]) (dT U_Lc44 64 rfl) (by decide) rfl ?_
      refine x_aload_n (dT U_Lc44 65 rfl) rfl ?_
      refine x_invokevirtual (rc' := rc) (rs' := rs) (rc2 := 0) (rs2 := 0) (As := []) (st := _) M_X11_thrown K_L_242 (dT U_Lc44 66 rfl) rfl rfl (by decide) rfl rfl wx.c70 (Nat.le_of_ble_eq_true rfl) (by decide) rfl (Nat.le_of_ble_eq_true rfl) rfl (by decide) (Nat.le_of_ble_eq_true rfl) rfl rfl ?_
      refine S_X11_thrown wx ?_
      refine xRet_some ?_
      refine x_iload (dT U_Lc44 67 rfl) rfl ?_
      refine x_icmp_eq (tgt := 3862) (dT U_Lc44 68 rfl) (by decide) (by unfold xr; omega) (by unfold xr; omega) (fun c3857 => ?_) (fun c3857 => (by exfalso; omega))
      refine x_iload (dT U_Lc44 71 rfl) rfl ?_
      refine x_if_ne (tgt := 3879) (dT U_Lc44 72 rfl) (by decide) (by unfold xr; omega) (fun c3864 => ?_) (fun c3864 => (by exfalso; omega))
      refine x_goto (tgt := 5554) (dT U_Lc44 82 rfl) (by decide) ?_
      refine x_drop ?_ (M _ _ _ _ _ _ _ _ v (w.out ag (by omega)) wx (ag.get ho (by omega)) (ag.get hod (by omega)))
      repeat (first | exact trivial | refine ⟨rfl, ?_⟩ | refine ⟨trivial, ?_⟩)
    · refine xRet_some ?_
      have wmx := wm.out (h2 := (h.set 143 (cJ [z9]))) (fun a ha => by rw [hset_fr (by omega)])
      refine x_istore (ls' := [some (.ref _), some (.ref _), some (.ref _), some (.ref _), some (.ref _), some (vi _), some (vi _), none, none]) (dT U_Lc44 32 rfl) (by decide) rfl ?_
      refine x_aload_n (dT U_Lc44 33 rfl) rfl ?_
      refine x_aload_n (dT U_Lc44 34 rfl) rfl ?_
      refine x_iload (dT U_Lc44 35 rfl) rfl ?_
      refine x_iconst (dT U_Lc44 36 rfl) ?_
      refine x_iadd (dT U_Lc44 37 rfl) ?_
      refine x_sld (i + 1) hL (dT U_Lc44 38 rfl) (by omega) (by omega) ?_
      refine x_aload_n (dT U_Lc44 39 rfl) rfl ?_
      refine x_iload (dT U_Lc44 40 rfl) rfl ?_
      refine x_iconst (dT U_Lc44 41 rfl) ?_
      refine x_iadd (dT U_Lc44 42 rfl) ?_
      refine x_sld (i + 2) hL (dT U_Lc44 43 rfl) (by omega) (by omega) ?_
      refine x_aload_n (dT U_Lc44 44 rfl) rfl ?_
      refine x_iload (dT U_Lc44 45 rfl) rfl ?_
      refine x_iconst (dT U_Lc44 46 rfl) ?_
      refine x_iadd (dT U_Lc44 47 rfl) ?_
      refine x_sld (i + 3) hL (dT U_Lc44 48 rfl) (by omega) (by omega) ?_
      refine x_aload_n (dT U_Lc44 49 rfl) rfl ?_
      refine x_iload (dT U_Lc44 50 rfl) rfl ?_
      refine x_iconst (dT U_Lc44 51 rfl) ?_
      refine x_iadd (dT U_Lc44 52 rfl) ?_
      refine x_sld (i + 4) hL (dT U_Lc44 53 rfl) (by omega) (by omega) ?_
      refine x_if_eq (tgt := 3839) (dT U_Lc44 54 rfl) (by decide) (xr_s _) (fun z => absurd z cA) (fun _ => ?_)
      refine x_iconst (dT U_Lc44 55 rfl) ?_
      refine x_goto (tgt := 3840) (dT U_Lc44 56 rfl) (by decide) ?_
      refine x_aload_n (dT U_Lc44 58 rfl) rfl ?_
      refine x_iload (dT U_Lc44 59 rfl) rfl ?_
      refine x_iconst (dT U_Lc44 60 rfl) ?_
      refine x_iadd (dT U_Lc44 61 rfl) ?_
      refine x_sld (i + 5) hL (dT U_Lc44 62 rfl) (by omega) (by omega) ?_
      refine x_invokevirtual (rc' := rc) (rs' := rs) (rc2 := 0) (rs2 := 0) (As := [_, _, _, _, _]) (st := _) M_X11_factors K_L_385 (dT U_Lc44 63 rfl) rfl rfl (by decide) rfl rfl wmx.c70 (Nat.le_of_ble_eq_true rfl) (by decide) rfl (Nat.le_of_ble_eq_true rfl) rfl (by decide) (Nat.le_of_ble_eq_true rfl) rfl rfl ?_
      refine S_X11_factors wmx v (xr_s _) (xr_s _) (xr_s _) (xr_s _) (by decide) (fun m1 _ _ _ _ _ => absurd c1 m1) (fun m1 m2 _ _ _ _ _ => absurd c2 m2) (fun m1 m2 h3 r3 s3 ag wx => ?_)
      refine xRet_some ?_
      rw [ez9]
      refine x_istore (ls' := [some (.ref _), some (.ref _), some (.ref _), some (.ref _), some (.ref _), some (vi _), some (vi _), some (vi _), none]) (dT U_Lc44 64 rfl) (by decide) rfl ?_
      refine x_aload_n (dT U_Lc44 65 rfl) rfl ?_
      refine x_invokevirtual (rc' := rc) (rs' := rs) (rc2 := 0) (rs2 := 0) (As := []) (st := _) M_X11_thrown K_L_242 (dT U_Lc44 66 rfl) rfl rfl (by decide) rfl rfl wx.c70 (Nat.le_of_ble_eq_true rfl) (by decide) rfl (Nat.le_of_ble_eq_true rfl) rfl (by decide) (Nat.le_of_ble_eq_true rfl) rfl rfl ?_
      refine S_X11_thrown wx ?_
      refine xRet_some ?_
      refine x_iload (dT U_Lc44 67 rfl) rfl ?_
      refine x_icmp_eq (tgt := 3862) (dT U_Lc44 68 rfl) (by decide) (by unfold xr; omega) (by unfold xr; omega) (fun c3857 => ?_) (fun c3857 => (by exfalso; omega))
      refine x_iload (dT U_Lc44 71 rfl) rfl ?_
      refine x_if_nen (tgt := 3879) (dT U_Lc44 72 rfl) (by decide) (by decide) ?_
      refine x_aload_n (dT U_Lc44 73 rfl) rfl ?_
      refine x_iconst (dT U_Lc44 74 rfl) ?_
      refine x_laload 0 (dT U_Lc44 75 rfl) (ag.get (hset_eq ho) (by omega)) (Nat.le_of_ble_eq_true rfl) rfl (Nat.le_of_ble_eq_true rfl) (Nat.le_of_ble_eq_true rfl) ?_
      refine x_iload (dT U_Lc44 76 rfl) rfl ?_
      refine x_i2l (dT U_Lc44 77 rfl) hz9 ?_
      refine x_lcmp (dT U_Lc44 78 rfl) (xr_l hz9) (xr_l hz9) ?_
      refine x_if_eqj (tgt := 3879) (dT U_Lc44 79 rfl) (by decide) (xcmp_rf _) ?_
      refine x_goto (tgt := 5554) (dT U_Lc44 82 rfl) (by decide) ?_
      refine x_drop ?_ (M _ _ _ _ _ _ _ _ v ((w.out ((Ag.rf 143 143 h).set (by omega)) (by omega)).out ag (by omega)) wx (ag.get (hset_eq ho) (by omega)) (ag.get (hset_ne (by omega) hod) (by omega)))
      repeat (first | exact trivial | refine ⟨rfl, ?_⟩ | refine ⟨trivial, ?_⟩)

def B_Lc45 : ByteArray := .mk #[0x2b, 0x2a, 0x15, 0x05, 0x04, 0x60, 0x2e, 0x2a, 0x15, 0x05, 0x05, 0x60, 0x2e, 0x2a, 0x15, 0x05, 0x06, 0x60, 0x2e, 0x2d, 0xb8, 0x01, 0x82, 0x36, 0x06, 0x2c, 0x2a, 0x15, 0x05, 0x04, 0x60, 0x2e, 0x2a, 0x15, 0x05, 0x05, 0x60, 0x2e, 0x2a, 0x15, 0x05, 0x06, 0x60, 0x2e, 0xb6, 0x01, 0x84, 0x36, 0x07, 0x2c, 0xb6, 0x00, 0xf2, 0x15, 0x06, 0x9f, 0x00, 0x05, 0x03, 0xac, 0x15, 0x06, 0x9a, 0x00, 0x0f, 0x2d, 0x03, 0x2f, 0x15, 0x07, 0x85, 0x94, 0x99, 0x00, 0x05, 0x03, 0xac, 0xa7, 0x06, 0x3b]
theorem W_Lc45 : sameFrom m_L_law.2.1 B_Lc45 3882 := sameFrom_of (by decide +kernel)
def t_Lc45 : List (Nat × Instr × Nat) := [(3882, .aload_n 1, 1), (3883, .aload_n 0, 1), (3884, .iload 5, 2), (3886, .iconst 1, 1), (3887, .iadd, 1), (3888, .iaload, 1), (3889, .aload_n 0, 1), (3890, .iload 5, 2), (3892, .iconst 2, 1), (3893, .iadd, 1), (3894, .iaload, 1), (3895, .aload_n 0, 1), (3896, .iload 5, 2), (3898, .iconst 3, 1), (3899, .iadd, 1), (3900, .iaload, 1), (3901, .aload_n 3, 1), (3902, .invokestatic 386, 3), (3905, .istore 6, 2), (3907, .aload_n 2, 1), (3908, .aload_n 0, 1), (3909, .iload 5, 2), (3911, .iconst 1, 1), (3912, .iadd, 1), (3913, .iaload, 1), (3914, .aload_n 0, 1), (3915, .iload 5, 2), (3917, .iconst 2, 1), (3918, .iadd, 1), (3919, .iaload, 1), (3920, .aload_n 0, 1), (3921, .iload 5, 2), (3923, .iconst 3, 1), (3924, .iadd, 1), (3925, .iaload, 1), (3926, .invokevirtual 388, 3), (3929, .istore 7, 2), (3931, .aload_n 2, 1), (3932, .invokevirtual 242, 3), (3935, .iload 6, 2), (3937, .if_icmp .eq 5, 3), (3940, .iconst 0, 1), (3941, .ireturn, 1), (3942, .iload 6, 2), (3944, .ifCond .ne 15, 3), (3947, .aload_n 3, 1), (3948, .iconst 0, 1), (3949, .laload, 1), (3950, .iload 7, 2), (3952, .i2l, 1), (3953, .lcmp, 1), (3954, .ifCond .eq 5, 3), (3957, .iconst 0, 1), (3958, .ireturn, 1), (3959, .goto 1595, 3)]
set_option maxRecDepth 20000 in
theorem U_Lc45 : okT m_L_law.2.1 t_Lc45 = true := dSt [(0, .aload_n 1, 1), (1, .aload_n 0, 1), (2, .iload 5, 2), (4, .iconst 1, 1), (5, .iadd, 1), (6, .iaload, 1), (7, .aload_n 0, 1), (8, .iload 5, 2), (10, .iconst 2, 1), (11, .iadd, 1), (12, .iaload, 1), (13, .aload_n 0, 1), (14, .iload 5, 2), (16, .iconst 3, 1), (17, .iadd, 1), (18, .iaload, 1), (19, .aload_n 3, 1), (20, .invokestatic 386, 3), (23, .istore 6, 2), (25, .aload_n 2, 1), (26, .aload_n 0, 1), (27, .iload 5, 2), (29, .iconst 1, 1), (30, .iadd, 1), (31, .iaload, 1), (32, .aload_n 0, 1), (33, .iload 5, 2), (35, .iconst 2, 1), (36, .iadd, 1), (37, .iaload, 1), (38, .aload_n 0, 1), (39, .iload 5, 2), (41, .iconst 3, 1), (42, .iadd, 1), (43, .iaload, 1), (44, .invokevirtual 388, 3), (47, .istore 7, 2), (49, .aload_n 2, 1), (50, .invokevirtual 242, 3), (53, .iload 6, 2), (55, .if_icmp .eq 5, 3), (58, .iconst 0, 1), (59, .ireturn, 1), (60, .iload 6, 2), (62, .ifCond .ne 15, 3), (65, .aload_n 3, 1), (66, .iconst 0, 1), (67, .laload, 1), (68, .iload 7, 2), (70, .i2l, 1), (71, .lcmp, 1), (72, .ifCond .eq 5, 3), (75, .iconst 0, 1), (76, .ireturn, 1), (77, .goto 1595, 3)] W_Lc45 (by decide +kernel) (by decide +kernel)
set_option maxRecDepth 20000 in
set_option maxHeartbeats 1000000 in
theorem LC_45 {G : xG} {d rc rs : Nat} {ex : Bool} {h : xH} {Q : xQ} {σ : St} {c0 : Int} {rr : Nat} {ss : Int} {l0 : Int} {d0 : UInt64} {i : Nat} (hL : G.2.2.2.2.2.1 < 2147483648) (hi : i + 10 ≤ G.2.2.2.2.2.1) (w : CW σ h) (wm : MX σ c0 rr ss h) (v : INV σ) (ho : h[143]? = some (cJ [l0])) (hod : h[144]? = some (cD [d0]))
    (M : ∀ (σ9 : St) (h9 : xH) (e9 : Bool) (c9 : Int) (r9 : Nat) (s9 : Int) (l9 : Int) (d9 : UInt64), INV σ9 → CW σ9 h9 → MX σ9 c9 r9 s9 h9 → h9[143]? = some (cJ [l9]) → h9[144]? = some (cD [d9]) → X G m_L_law (d + 10) rc rs e9 5554 [some (.ref 0), some (.ref 3), some (.ref 70), some (.ref 143), some (.ref 144), some (vi (i : Int)), none, none, none] [] h9 Q) : X G m_L_law (d + 10) (rc + 3) (rs + 18) ex 3882 [some (.ref 0), some (.ref 3), some (.ref 70), some (.ref 143), some (.ref 144), some (vi (i : Int)), none, none, none] [] h Q := by
  refine x_aload_n (dT U_Lc45 0 rfl) rfl ?_
  refine x_aload_n (dT U_Lc45 1 rfl) rfl ?_
  refine x_iload (dT U_Lc45 2 rfl) rfl ?_
  refine x_iconst (dT U_Lc45 3 rfl) ?_
  refine x_iadd (dT U_Lc45 4 rfl) ?_
  refine x_sld (i + 1) hL (dT U_Lc45 5 rfl) (by omega) (by omega) ?_
  refine x_aload_n (dT U_Lc45 6 rfl) rfl ?_
  refine x_iload (dT U_Lc45 7 rfl) rfl ?_
  refine x_iconst (dT U_Lc45 8 rfl) ?_
  refine x_iadd (dT U_Lc45 9 rfl) ?_
  refine x_sld (i + 2) hL (dT U_Lc45 10 rfl) (by omega) (by omega) ?_
  refine x_aload_n (dT U_Lc45 11 rfl) rfl ?_
  refine x_iload (dT U_Lc45 12 rfl) rfl ?_
  refine x_iconst (dT U_Lc45 13 rfl) ?_
  refine x_iadd (dT U_Lc45 14 rfl) ?_
  refine x_sld (i + 3) hL (dT U_Lc45 15 rfl) (by omega) (by omega) ?_
  refine x_aload_n (dT U_Lc45 16 rfl) rfl ?_
  refine x_invokestaticT (rc' := rc) (rs' := rs) (rc2 := 0 + 3) (rs2 := 0 + 18) (As := [_, _, _, _, _]) (st := _) M_L_chooseBit K_L_386 (dT U_Lc45 17 rfl) rfl (by decide) rfl rfl (Nat.le_of_ble_eq_true rfl) rfl (by decide) (Nat.le_of_ble_eq_true rfl) (by omega) (by omega) ?_
  refine S_L_chooseBit w v (xr_s _) (xr_s _) (xr_s _) ho (fun c1 => ?_) (fun c1 c2 => ?_) (fun c1 c2 h2 fc w2 z9 hz9 ez9 => ?_)
  · refine xRet_some ?_
    refine x_istore (ls' := [some (.ref _), some (.ref _), some (.ref _), some (.ref _), some (.ref _), some (vi _), some (vi _), none, none]) (dT U_Lc45 18 rfl) (by decide) rfl ?_
    refine x_aload_n (dT U_Lc45 19 rfl) rfl ?_
    refine x_aload_n (dT U_Lc45 20 rfl) rfl ?_
    refine x_iload (dT U_Lc45 21 rfl) rfl ?_
    refine x_iconst (dT U_Lc45 22 rfl) ?_
    refine x_iadd (dT U_Lc45 23 rfl) ?_
    refine x_sld (i + 1) hL (dT U_Lc45 24 rfl) (by omega) (by omega) ?_
    refine x_aload_n (dT U_Lc45 25 rfl) rfl ?_
    refine x_iload (dT U_Lc45 26 rfl) rfl ?_
    refine x_iconst (dT U_Lc45 27 rfl) ?_
    refine x_iadd (dT U_Lc45 28 rfl) ?_
    refine x_sld (i + 2) hL (dT U_Lc45 29 rfl) (by omega) (by omega) ?_
    refine x_aload_n (dT U_Lc45 30 rfl) rfl ?_
    refine x_iload (dT U_Lc45 31 rfl) rfl ?_
    refine x_iconst (dT U_Lc45 32 rfl) ?_
    refine x_iadd (dT U_Lc45 33 rfl) ?_
    refine x_sld (i + 3) hL (dT U_Lc45 34 rfl) (by omega) (by omega) ?_
    refine x_invokevirtual (rc' := rc) (rs' := rs) (rc2 := 0) (rs2 := 0) (As := [_, _, _]) (st := _) M_X11_chooseBit K_L_388 (dT U_Lc45 35 rfl) rfl rfl (by decide) rfl rfl wm.c70 (Nat.le_of_ble_eq_true rfl) (by decide) rfl (Nat.le_of_ble_eq_true rfl) rfl (by decide) (Nat.le_of_ble_eq_true rfl) rfl rfl ?_
    refine S_X11_chooseBit wm v (xr_s _) (xr_s _) (xr_s _) (fun m1 h3 z ag wx xz => ?_) (fun m1 m2 _ _ _ _ _ => absurd m1 c1) (fun m1 m2 _ _ _ _ _ => absurd m1 c1)
    refine xRet_some ?_
    refine x_istore (ls' := [some (.ref _), some (.ref _), some (.ref _), some (.ref _), some (.ref _), some (vi _), some (vi _), some (vi _), none]) (dT U_Lc45 36 rfl) (by decide) rfl ?_
    refine x_aload_n (dT U_Lc45 37 rfl) rfl ?_
    refine x_invokevirtual (rc' := rc) (rs' := rs) (rc2 := 0) (rs2 := 0) (As := []) (st := _) M_X11_thrown K_L_242 (dT U_Lc45 38 rfl) rfl rfl (by decide) rfl rfl wx.c70 (Nat.le_of_ble_eq_true rfl) (by decide) rfl (Nat.le_of_ble_eq_true rfl) rfl (by decide) (Nat.le_of_ble_eq_true rfl) rfl rfl ?_
    refine S_X11_thrown wx ?_
    refine xRet_some ?_
    refine x_iload (dT U_Lc45 39 rfl) rfl ?_
    refine x_icmp_eq (tgt := 3942) (dT U_Lc45 40 rfl) (by decide) (by unfold xr; omega) (by unfold xr; omega) (fun c3937 => ?_) (fun c3937 => (by exfalso; omega))
    refine x_iload (dT U_Lc45 43 rfl) rfl ?_
    refine x_if_nej (tgt := 3959) (dT U_Lc45 44 rfl) (by decide) (by decide) ?_
    refine x_goto (tgt := 5554) (dT U_Lc45 54 rfl) (by decide) ?_
    refine x_drop ?_ (M _ _ _ _ _ _ _ _ v (w.out ag (by omega)) wx (ag.get ho (by omega)) (ag.get hod (by omega)))
    repeat (first | exact trivial | refine ⟨rfl, ?_⟩ | refine ⟨trivial, ?_⟩)
  · refine xRet_some ?_
    refine x_istore (ls' := [some (.ref _), some (.ref _), some (.ref _), some (.ref _), some (.ref _), some (vi _), some (vi _), none, none]) (dT U_Lc45 18 rfl) (by decide) rfl ?_
    refine x_aload_n (dT U_Lc45 19 rfl) rfl ?_
    refine x_aload_n (dT U_Lc45 20 rfl) rfl ?_
    refine x_iload (dT U_Lc45 21 rfl) rfl ?_
    refine x_iconst (dT U_Lc45 22 rfl) ?_
    refine x_iadd (dT U_Lc45 23 rfl) ?_
    refine x_sld (i + 1) hL (dT U_Lc45 24 rfl) (by omega) (by omega) ?_
    refine x_aload_n (dT U_Lc45 25 rfl) rfl ?_
    refine x_iload (dT U_Lc45 26 rfl) rfl ?_
    refine x_iconst (dT U_Lc45 27 rfl) ?_
    refine x_iadd (dT U_Lc45 28 rfl) ?_
    refine x_sld (i + 2) hL (dT U_Lc45 29 rfl) (by omega) (by omega) ?_
    refine x_aload_n (dT U_Lc45 30 rfl) rfl ?_
    refine x_iload (dT U_Lc45 31 rfl) rfl ?_
    refine x_iconst (dT U_Lc45 32 rfl) ?_
    refine x_iadd (dT U_Lc45 33 rfl) ?_
    refine x_sld (i + 3) hL (dT U_Lc45 34 rfl) (by omega) (by omega) ?_
    refine x_invokevirtual (rc' := rc) (rs' := rs) (rc2 := 0) (rs2 := 0) (As := [_, _, _]) (st := _) M_X11_chooseBit K_L_388 (dT U_Lc45 35 rfl) rfl rfl (by decide) rfl rfl wm.c70 (Nat.le_of_ble_eq_true rfl) (by decide) rfl (Nat.le_of_ble_eq_true rfl) rfl (by decide) (Nat.le_of_ble_eq_true rfl) rfl rfl ?_
    refine S_X11_chooseBit wm v (xr_s _) (xr_s _) (xr_s _) (fun m1 _ _ _ _ _ => absurd c1 m1) (fun m1 m2 h3 z ag wx xz => ?_) (fun m1 m2 _ _ _ _ _ => absurd m2 c2)
    refine xRet_some ?_
    refine x_istore (ls' := [some (.ref _), some (.ref _), some (.ref _), some (.ref _), some (.ref _), some (vi _), some (vi _), some (vi _), none]) (dT U_Lc45 36 rfl) (by decide) rfl ?_
    refine x_aload_n (dT U_Lc45 37 rfl) rfl ?_
    refine x_invokevirtual (rc' := rc) (rs' := rs) (rc2 := 0) (rs2 := 0) (As := []) (st := _) M_X11_thrown K_L_242 (dT U_Lc45 38 rfl) rfl rfl (by decide) rfl rfl wx.c70 (Nat.le_of_ble_eq_true rfl) (by decide) rfl (Nat.le_of_ble_eq_true rfl) rfl (by decide) (Nat.le_of_ble_eq_true rfl) rfl rfl ?_
    refine S_X11_thrown wx ?_
    refine xRet_some ?_
    refine x_iload (dT U_Lc45 39 rfl) rfl ?_
    refine x_icmp_eq (tgt := 3942) (dT U_Lc45 40 rfl) (by decide) (by unfold xr; omega) (by unfold xr; omega) (fun c3937 => ?_) (fun c3937 => (by exfalso; omega))
    refine x_iload (dT U_Lc45 43 rfl) rfl ?_
    refine x_if_ne (tgt := 3959) (dT U_Lc45 44 rfl) (by decide) (by unfold xr; omega) (fun c3944 => ?_) (fun c3944 => (by exfalso; omega))
    refine x_goto (tgt := 5554) (dT U_Lc45 54 rfl) (by decide) ?_
    refine x_drop ?_ (M _ _ _ _ _ _ _ _ v (w.out ag (by omega)) wx (ag.get ho (by omega)) (ag.get hod (by omega)))
    repeat (first | exact trivial | refine ⟨rfl, ?_⟩ | refine ⟨trivial, ?_⟩)
  · refine xRet_some ?_
    have wmx := wm.out (h2 := (h2.set 143 (cJ [z9]))) (fun a ha => by rw [hset_fr (by omega)]; exact fc.2 a (by omega))
    refine x_istore (ls' := [some (.ref _), some (.ref _), some (.ref _), some (.ref _), some (.ref _), some (vi _), some (vi _), none, none]) (dT U_Lc45 18 rfl) (by decide) rfl ?_
    refine x_aload_n (dT U_Lc45 19 rfl) rfl ?_
    refine x_aload_n (dT U_Lc45 20 rfl) rfl ?_
    refine x_iload (dT U_Lc45 21 rfl) rfl ?_
    refine x_iconst (dT U_Lc45 22 rfl) ?_
    refine x_iadd (dT U_Lc45 23 rfl) ?_
    refine x_sld (i + 1) hL (dT U_Lc45 24 rfl) (by omega) (by omega) ?_
    refine x_aload_n (dT U_Lc45 25 rfl) rfl ?_
    refine x_iload (dT U_Lc45 26 rfl) rfl ?_
    refine x_iconst (dT U_Lc45 27 rfl) ?_
    refine x_iadd (dT U_Lc45 28 rfl) ?_
    refine x_sld (i + 2) hL (dT U_Lc45 29 rfl) (by omega) (by omega) ?_
    refine x_aload_n (dT U_Lc45 30 rfl) rfl ?_
    refine x_iload (dT U_Lc45 31 rfl) rfl ?_
    refine x_iconst (dT U_Lc45 32 rfl) ?_
    refine x_iadd (dT U_Lc45 33 rfl) ?_
    refine x_sld (i + 3) hL (dT U_Lc45 34 rfl) (by omega) (by omega) ?_
    refine x_invokevirtual (rc' := rc) (rs' := rs) (rc2 := 0) (rs2 := 0) (As := [_, _, _]) (st := _) M_X11_chooseBit K_L_388 (dT U_Lc45 35 rfl) rfl rfl (by decide) rfl rfl wmx.c70 (Nat.le_of_ble_eq_true rfl) (by decide) rfl (Nat.le_of_ble_eq_true rfl) rfl (by decide) (Nat.le_of_ble_eq_true rfl) rfl rfl ?_
    refine S_X11_chooseBit wmx v (xr_s _) (xr_s _) (xr_s _) (fun m1 _ _ _ _ _ => absurd c1 m1) (fun m1 m2 _ _ _ _ _ => absurd c2 m2) (fun m1 m2 h3 r3 s3 ag wx => ?_)
    refine xRet_some ?_
    rw [ez9]
    refine x_istore (ls' := [some (.ref _), some (.ref _), some (.ref _), some (.ref _), some (.ref _), some (vi _), some (vi _), some (vi _), none]) (dT U_Lc45 36 rfl) (by decide) rfl ?_
    refine x_aload_n (dT U_Lc45 37 rfl) rfl ?_
    refine x_invokevirtual (rc' := rc) (rs' := rs) (rc2 := 0) (rs2 := 0) (As := []) (st := _) M_X11_thrown K_L_242 (dT U_Lc45 38 rfl) rfl rfl (by decide) rfl rfl wx.c70 (Nat.le_of_ble_eq_true rfl) (by decide) rfl (Nat.le_of_ble_eq_true rfl) rfl (by decide) (Nat.le_of_ble_eq_true rfl) rfl rfl ?_
    refine S_X11_thrown wx ?_
    refine xRet_some ?_
    refine x_iload (dT U_Lc45 39 rfl) rfl ?_
    refine x_icmp_eq (tgt := 3942) (dT U_Lc45 40 rfl) (by decide) (by unfold xr; omega) (by unfold xr; omega) (fun c3937 => ?_) (fun c3937 => (by exfalso; omega))
    refine x_iload (dT U_Lc45 43 rfl) rfl ?_
    refine x_if_nen (tgt := 3959) (dT U_Lc45 44 rfl) (by decide) (by decide) ?_
    refine x_aload_n (dT U_Lc45 45 rfl) rfl ?_
    refine x_iconst (dT U_Lc45 46 rfl) ?_
    refine x_laload 0 (dT U_Lc45 47 rfl) (ag.get (hset_eq (fc.get ho (by omega))) (by omega)) (Nat.le_of_ble_eq_true rfl) rfl (Nat.le_of_ble_eq_true rfl) (Nat.le_of_ble_eq_true rfl) ?_
    refine x_iload (dT U_Lc45 48 rfl) rfl ?_
    refine x_i2l (dT U_Lc45 49 rfl) hz9 ?_
    refine x_lcmp (dT U_Lc45 50 rfl) (xr_l hz9) (xr_l hz9) ?_
    refine x_if_eqj (tgt := 3959) (dT U_Lc45 51 rfl) (by decide) (xcmp_rf _) ?_
    refine x_goto (tgt := 5554) (dT U_Lc45 54 rfl) (by decide) ?_
    refine x_drop ?_ (M _ _ _ _ _ _ _ _ (IV_chooseBit v c1 c2) ((w2.out ((Ag.rf 143 143 h2).set (by omega)) (by omega)).out ag (by omega)) wx (ag.get (hset_eq (fc.get ho (by omega))) (by omega)) (ag.get (hset_ne (by omega) (fc.get hod (by omega))) (by omega)))
    repeat (first | exact trivial | refine ⟨rfl, ?_⟩ | refine ⟨trivial, ?_⟩)

def B_Lc46 : ByteArray := .mk #[0x2b, 0x2a, 0x15, 0x05, 0x04, 0x60, 0x2e, 0x2a, 0x15, 0x05, 0x05, 0x60, 0x2e, 0x2a, 0x15, 0x05, 0x06, 0x60, 0x2e, 0x2a, 0x15, 0x05, 0x07, 0x60, 0x2e, 0x2d, 0xb8, 0x01, 0x85, 0x36, 0x06, 0x2c, 0x2a, 0x15, 0x05, 0x04, 0x60, 0x2e, 0x2a, 0x15, 0x05, 0x05, 0x60, 0x2e, 0x2a, 0x15, 0x05, 0x06, 0x60, 0x2e, 0x2a, 0x15, 0x05, 0x07, 0x60, 0x2e, 0xb6, 0x01, 0x87, 0x36, 0x07, 0x2c, 0xb6, 0x00, 0xf2, 0x15, 0x06, 0x9f, 0x00, 0x05, 0x03, 0xac, 0x15, 0x06, 0x9a, 0x00, 0x0f, 0x2d, 0x03, 0x2f, 0x15, 0x07, 0x85, 0x94, 0x99, 0x00, 0x05, 0x03, 0xac, 0xa7, 0x05, 0xdf]
theorem W_Lc46 : sameFrom m_L_law.2.1 B_Lc46 3962 := sameFrom_of (by decide +kernel)
def t_Lc46 : List (Nat × Instr × Nat) := [(3962, .aload_n 1, 1), (3963, .aload_n 0, 1), (3964, .iload 5, 2), (3966, .iconst 1, 1), (3967, .iadd, 1), (3968, .iaload, 1), (3969, .aload_n 0, 1), (3970, .iload 5, 2), (3972, .iconst 2, 1), (3973, .iadd, 1), (3974, .iaload, 1), (3975, .aload_n 0, 1), (3976, .iload 5, 2), (3978, .iconst 3, 1), (3979, .iadd, 1), (3980, .iaload, 1), (3981, .aload_n 0, 1), (3982, .iload 5, 2), (3984, .iconst 4, 1), (3985, .iadd, 1), (3986, .iaload, 1), (3987, .aload_n 3, 1), (3988, .invokestatic 389, 3), (3991, .istore 6, 2), (3993, .aload_n 2, 1), (3994, .aload_n 0, 1), (3995, .iload 5, 2), (3997, .iconst 1, 1), (3998, .iadd, 1), (3999, .iaload, 1), (4000, .aload_n 0, 1), (4001, .iload 5, 2), (4003, .iconst 2, 1), (4004, .iadd, 1), (4005, .iaload, 1), (4006, .aload_n 0, 1), (4007, .iload 5, 2), (4009, .iconst 3, 1), (4010, .iadd, 1), (4011, .iaload, 1), (4012, .aload_n 0, 1), (4013, .iload 5, 2), (4015, .iconst 4, 1), (4016, .iadd, 1), (4017, .iaload, 1), (4018, .invokevirtual 391, 3), (4021, .istore 7, 2), (4023, .aload_n 2, 1), (4024, .invokevirtual 242, 3), (4027, .iload 6, 2), (4029, .if_icmp .eq 5, 3), (4032, .iconst 0, 1), (4033, .ireturn, 1), (4034, .iload 6, 2), (4036, .ifCond .ne 15, 3), (4039, .aload_n 3, 1), (4040, .iconst 0, 1), (4041, .laload, 1), (4042, .iload 7, 2), (4044, .i2l, 1), (4045, .lcmp, 1), (4046, .ifCond .eq 5, 3), (4049, .iconst 0, 1), (4050, .ireturn, 1), (4051, .goto 1503, 3)]
set_option maxRecDepth 20000 in
theorem U_Lc46 : okT m_L_law.2.1 t_Lc46 = true := dSt [(0, .aload_n 1, 1), (1, .aload_n 0, 1), (2, .iload 5, 2), (4, .iconst 1, 1), (5, .iadd, 1), (6, .iaload, 1), (7, .aload_n 0, 1), (8, .iload 5, 2), (10, .iconst 2, 1), (11, .iadd, 1), (12, .iaload, 1), (13, .aload_n 0, 1), (14, .iload 5, 2), (16, .iconst 3, 1), (17, .iadd, 1), (18, .iaload, 1), (19, .aload_n 0, 1), (20, .iload 5, 2), (22, .iconst 4, 1), (23, .iadd, 1), (24, .iaload, 1), (25, .aload_n 3, 1), (26, .invokestatic 389, 3), (29, .istore 6, 2), (31, .aload_n 2, 1), (32, .aload_n 0, 1), (33, .iload 5, 2), (35, .iconst 1, 1), (36, .iadd, 1), (37, .iaload, 1), (38, .aload_n 0, 1), (39, .iload 5, 2), (41, .iconst 2, 1), (42, .iadd, 1), (43, .iaload, 1), (44, .aload_n 0, 1), (45, .iload 5, 2), (47, .iconst 3, 1), (48, .iadd, 1), (49, .iaload, 1), (50, .aload_n 0, 1), (51, .iload 5, 2), (53, .iconst 4, 1), (54, .iadd, 1), (55, .iaload, 1), (56, .invokevirtual 391, 3), (59, .istore 7, 2), (61, .aload_n 2, 1), (62, .invokevirtual 242, 3), (65, .iload 6, 2), (67, .if_icmp .eq 5, 3), (70, .iconst 0, 1), (71, .ireturn, 1), (72, .iload 6, 2), (74, .ifCond .ne 15, 3), (77, .aload_n 3, 1), (78, .iconst 0, 1), (79, .laload, 1), (80, .iload 7, 2), (82, .i2l, 1), (83, .lcmp, 1), (84, .ifCond .eq 5, 3), (87, .iconst 0, 1), (88, .ireturn, 1), (89, .goto 1503, 3)] W_Lc46 (by decide +kernel) (by decide +kernel)
set_option maxRecDepth 20000 in
set_option maxHeartbeats 1000000 in
theorem LC_46 {G : xG} {d rc rs : Nat} {ex : Bool} {h : xH} {Q : xQ} {σ : St} {c0 : Int} {rr : Nat} {ss : Int} {l0 : Int} {d0 : UInt64} {i : Nat} (hL : G.2.2.2.2.2.1 < 2147483648) (hi : i + 10 ≤ G.2.2.2.2.2.1) (w : CW σ h) (wm : MX σ c0 rr ss h) (v : INV σ) (ho : h[143]? = some (cJ [l0])) (hod : h[144]? = some (cD [d0]))
    (M : ∀ (σ9 : St) (h9 : xH) (e9 : Bool) (c9 : Int) (r9 : Nat) (s9 : Int) (l9 : Int) (d9 : UInt64), INV σ9 → CW σ9 h9 → MX σ9 c9 r9 s9 h9 → h9[143]? = some (cJ [l9]) → h9[144]? = some (cD [d9]) → X G m_L_law (d + 10) rc rs e9 5554 [some (.ref 0), some (.ref 3), some (.ref 70), some (.ref 143), some (.ref 144), some (vi (i : Int)), none, none, none] [] h9 Q) : X G m_L_law (d + 10) (rc + 5) (rs + 30) ex 3962 [some (.ref 0), some (.ref 3), some (.ref 70), some (.ref 143), some (.ref 144), some (vi (i : Int)), none, none, none] [] h Q := by
  refine x_aload_n (dT U_Lc46 0 rfl) rfl ?_
  refine x_aload_n (dT U_Lc46 1 rfl) rfl ?_
  refine x_iload (dT U_Lc46 2 rfl) rfl ?_
  refine x_iconst (dT U_Lc46 3 rfl) ?_
  refine x_iadd (dT U_Lc46 4 rfl) ?_
  refine x_sld (i + 1) hL (dT U_Lc46 5 rfl) (by omega) (by omega) ?_
  refine x_aload_n (dT U_Lc46 6 rfl) rfl ?_
  refine x_iload (dT U_Lc46 7 rfl) rfl ?_
  refine x_iconst (dT U_Lc46 8 rfl) ?_
  refine x_iadd (dT U_Lc46 9 rfl) ?_
  refine x_sld (i + 2) hL (dT U_Lc46 10 rfl) (by omega) (by omega) ?_
  refine x_aload_n (dT U_Lc46 11 rfl) rfl ?_
  refine x_iload (dT U_Lc46 12 rfl) rfl ?_
  refine x_iconst (dT U_Lc46 13 rfl) ?_
  refine x_iadd (dT U_Lc46 14 rfl) ?_
  refine x_sld (i + 3) hL (dT U_Lc46 15 rfl) (by omega) (by omega) ?_
  refine x_aload_n (dT U_Lc46 16 rfl) rfl ?_
  refine x_iload (dT U_Lc46 17 rfl) rfl ?_
  refine x_iconst (dT U_Lc46 18 rfl) ?_
  refine x_iadd (dT U_Lc46 19 rfl) ?_
  refine x_sld (i + 4) hL (dT U_Lc46 20 rfl) (by omega) (by omega) ?_
  refine x_aload_n (dT U_Lc46 21 rfl) rfl ?_
  refine x_invokestaticT (rc' := rc) (rs' := rs) (rc2 := 0 + 5) (rs2 := 0 + 30) (As := [_, _, _, _, _, _]) (st := _) M_L_hideBit K_L_389 (dT U_Lc46 22 rfl) rfl (by decide) rfl rfl (Nat.le_of_ble_eq_true rfl) rfl (by decide) (Nat.le_of_ble_eq_true rfl) (by omega) (by omega) ?_
  refine S_L_hideBit w v (xr_s _) (xr_s _) (xr_s _) (xr_s _) ho (fun c1 => ?_) (fun c1 c2 => ?_) (fun c1 c2 c3 => ?_) (fun c1 c2 c3 h2 fc w2 z9 hz9 ez9 => ?_)
  · refine xRet_some ?_
    refine x_istore (ls' := [some (.ref _), some (.ref _), some (.ref _), some (.ref _), some (.ref _), some (vi _), some (vi _), none, none]) (dT U_Lc46 23 rfl) (by decide) rfl ?_
    refine x_aload_n (dT U_Lc46 24 rfl) rfl ?_
    refine x_aload_n (dT U_Lc46 25 rfl) rfl ?_
    refine x_iload (dT U_Lc46 26 rfl) rfl ?_
    refine x_iconst (dT U_Lc46 27 rfl) ?_
    refine x_iadd (dT U_Lc46 28 rfl) ?_
    refine x_sld (i + 1) hL (dT U_Lc46 29 rfl) (by omega) (by omega) ?_
    refine x_aload_n (dT U_Lc46 30 rfl) rfl ?_
    refine x_iload (dT U_Lc46 31 rfl) rfl ?_
    refine x_iconst (dT U_Lc46 32 rfl) ?_
    refine x_iadd (dT U_Lc46 33 rfl) ?_
    refine x_sld (i + 2) hL (dT U_Lc46 34 rfl) (by omega) (by omega) ?_
    refine x_aload_n (dT U_Lc46 35 rfl) rfl ?_
    refine x_iload (dT U_Lc46 36 rfl) rfl ?_
    refine x_iconst (dT U_Lc46 37 rfl) ?_
    refine x_iadd (dT U_Lc46 38 rfl) ?_
    refine x_sld (i + 3) hL (dT U_Lc46 39 rfl) (by omega) (by omega) ?_
    refine x_aload_n (dT U_Lc46 40 rfl) rfl ?_
    refine x_iload (dT U_Lc46 41 rfl) rfl ?_
    refine x_iconst (dT U_Lc46 42 rfl) ?_
    refine x_iadd (dT U_Lc46 43 rfl) ?_
    refine x_sld (i + 4) hL (dT U_Lc46 44 rfl) (by omega) (by omega) ?_
    refine x_invokevirtual (rc' := rc) (rs' := rs) (rc2 := 0) (rs2 := 0) (As := [_, _, _, _]) (st := _) M_X11_hideBit K_L_391 (dT U_Lc46 45 rfl) rfl rfl (by decide) rfl rfl wm.c70 (Nat.le_of_ble_eq_true rfl) (by decide) rfl (Nat.le_of_ble_eq_true rfl) rfl (by decide) (Nat.le_of_ble_eq_true rfl) rfl rfl ?_
    refine S_X11_hideBit wm v (xr_s _) (xr_s _) (xr_s _) (xr_s _) (fun m1 h3 z ag wx xz => ?_) (fun m1 m2 _ _ _ _ _ => absurd m1 c1) (fun m1 m2 m3 _ _ _ _ _ => absurd m1 c1) (fun m1 m2 m3 _ _ _ _ _ => absurd m1 c1)
    refine xRet_some ?_
    refine x_istore (ls' := [some (.ref _), some (.ref _), some (.ref _), some (.ref _), some (.ref _), some (vi _), some (vi _), some (vi _), none]) (dT U_Lc46 46 rfl) (by decide) rfl ?_
    refine x_aload_n (dT U_Lc46 47 rfl) rfl ?_
    refine x_invokevirtual (rc' := rc) (rs' := rs) (rc2 := 0) (rs2 := 0) (As := []) (st := _) M_X11_thrown K_L_242 (dT U_Lc46 48 rfl) rfl rfl (by decide) rfl rfl wx.c70 (Nat.le_of_ble_eq_true rfl) (by decide) rfl (Nat.le_of_ble_eq_true rfl) rfl (by decide) (Nat.le_of_ble_eq_true rfl) rfl rfl ?_
    refine S_X11_thrown wx ?_
    refine xRet_some ?_
    refine x_iload (dT U_Lc46 49 rfl) rfl ?_
    refine x_icmp_eq (tgt := 4034) (dT U_Lc46 50 rfl) (by decide) (by unfold xr; omega) (by unfold xr; omega) (fun c4029 => ?_) (fun c4029 => (by exfalso; omega))
    refine x_iload (dT U_Lc46 53 rfl) rfl ?_
    refine x_if_nej (tgt := 4051) (dT U_Lc46 54 rfl) (by decide) (by decide) ?_
    refine x_goto (tgt := 5554) (dT U_Lc46 64 rfl) (by decide) ?_
    refine x_drop ?_ (M _ _ _ _ _ _ _ _ v (w.out ag (by omega)) wx (ag.get ho (by omega)) (ag.get hod (by omega)))
    repeat (first | exact trivial | refine ⟨rfl, ?_⟩ | refine ⟨trivial, ?_⟩)
  · refine xRet_some ?_
    refine x_istore (ls' := [some (.ref _), some (.ref _), some (.ref _), some (.ref _), some (.ref _), some (vi _), some (vi _), none, none]) (dT U_Lc46 23 rfl) (by decide) rfl ?_
    refine x_aload_n (dT U_Lc46 24 rfl) rfl ?_
    refine x_aload_n (dT U_Lc46 25 rfl) rfl ?_
    refine x_iload (dT U_Lc46 26 rfl) rfl ?_
    refine x_iconst (dT U_Lc46 27 rfl) ?_
    refine x_iadd (dT U_Lc46 28 rfl) ?_
    refine x_sld (i + 1) hL (dT U_Lc46 29 rfl) (by omega) (by omega) ?_
    refine x_aload_n (dT U_Lc46 30 rfl) rfl ?_
    refine x_iload (dT U_Lc46 31 rfl) rfl ?_
    refine x_iconst (dT U_Lc46 32 rfl) ?_
    refine x_iadd (dT U_Lc46 33 rfl) ?_
    refine x_sld (i + 2) hL (dT U_Lc46 34 rfl) (by omega) (by omega) ?_
    refine x_aload_n (dT U_Lc46 35 rfl) rfl ?_
    refine x_iload (dT U_Lc46 36 rfl) rfl ?_
    refine x_iconst (dT U_Lc46 37 rfl) ?_
    refine x_iadd (dT U_Lc46 38 rfl) ?_
    refine x_sld (i + 3) hL (dT U_Lc46 39 rfl) (by omega) (by omega) ?_
    refine x_aload_n (dT U_Lc46 40 rfl) rfl ?_
    refine x_iload (dT U_Lc46 41 rfl) rfl ?_
    refine x_iconst (dT U_Lc46 42 rfl) ?_
    refine x_iadd (dT U_Lc46 43 rfl) ?_
    refine x_sld (i + 4) hL (dT U_Lc46 44 rfl) (by omega) (by omega) ?_
    refine x_invokevirtual (rc' := rc) (rs' := rs) (rc2 := 0) (rs2 := 0) (As := [_, _, _, _]) (st := _) M_X11_hideBit K_L_391 (dT U_Lc46 45 rfl) rfl rfl (by decide) rfl rfl wm.c70 (Nat.le_of_ble_eq_true rfl) (by decide) rfl (Nat.le_of_ble_eq_true rfl) rfl (by decide) (Nat.le_of_ble_eq_true rfl) rfl rfl ?_
    refine S_X11_hideBit wm v (xr_s _) (xr_s _) (xr_s _) (xr_s _) (fun m1 _ _ _ _ _ => absurd c1 m1) (fun m1 m2 h3 z ag wx xz => ?_) (fun m1 m2 m3 _ _ _ _ _ => absurd m2 c2) (fun m1 m2 m3 _ _ _ _ _ => absurd m2 c2)
    refine xRet_some ?_
    refine x_istore (ls' := [some (.ref _), some (.ref _), some (.ref _), some (.ref _), some (.ref _), some (vi _), some (vi _), some (vi _), none]) (dT U_Lc46 46 rfl) (by decide) rfl ?_
    refine x_aload_n (dT U_Lc46 47 rfl) rfl ?_
    refine x_invokevirtual (rc' := rc) (rs' := rs) (rc2 := 0) (rs2 := 0) (As := []) (st := _) M_X11_thrown K_L_242 (dT U_Lc46 48 rfl) rfl rfl (by decide) rfl rfl wx.c70 (Nat.le_of_ble_eq_true rfl) (by decide) rfl (Nat.le_of_ble_eq_true rfl) rfl (by decide) (Nat.le_of_ble_eq_true rfl) rfl rfl ?_
    refine S_X11_thrown wx ?_
    refine xRet_some ?_
    refine x_iload (dT U_Lc46 49 rfl) rfl ?_
    refine x_icmp_eq (tgt := 4034) (dT U_Lc46 50 rfl) (by decide) (by unfold xr; omega) (by unfold xr; omega) (fun c4029 => ?_) (fun c4029 => (by exfalso; omega))
    refine x_iload (dT U_Lc46 53 rfl) rfl ?_
    refine x_if_ne (tgt := 4051) (dT U_Lc46 54 rfl) (by decide) (by unfold xr; omega) (fun c4036 => ?_) (fun c4036 => (by exfalso; omega))
    refine x_goto (tgt := 5554) (dT U_Lc46 64 rfl) (by decide) ?_
    refine x_drop ?_ (M _ _ _ _ _ _ _ _ v (w.out ag (by omega)) wx (ag.get ho (by omega)) (ag.get hod (by omega)))
    repeat (first | exact trivial | refine ⟨rfl, ?_⟩ | refine ⟨trivial, ?_⟩)
  · refine xRet_some ?_
    refine x_istore (ls' := [some (.ref _), some (.ref _), some (.ref _), some (.ref _), some (.ref _), some (vi _), some (vi _), none, none]) (dT U_Lc46 23 rfl) (by decide) rfl ?_
    refine x_aload_n (dT U_Lc46 24 rfl) rfl ?_
    refine x_aload_n (dT U_Lc46 25 rfl) rfl ?_
    refine x_iload (dT U_Lc46 26 rfl) rfl ?_
    refine x_iconst (dT U_Lc46 27 rfl) ?_
    refine x_iadd (dT U_Lc46 28 rfl) ?_
    refine x_sld (i + 1) hL (dT U_Lc46 29 rfl) (by omega) (by omega) ?_
    refine x_aload_n (dT U_Lc46 30 rfl) rfl ?_
    refine x_iload (dT U_Lc46 31 rfl) rfl ?_
    refine x_iconst (dT U_Lc46 32 rfl) ?_
    refine x_iadd (dT U_Lc46 33 rfl) ?_
    refine x_sld (i + 2) hL (dT U_Lc46 34 rfl) (by omega) (by omega) ?_
    refine x_aload_n (dT U_Lc46 35 rfl) rfl ?_
    refine x_iload (dT U_Lc46 36 rfl) rfl ?_
    refine x_iconst (dT U_Lc46 37 rfl) ?_
    refine x_iadd (dT U_Lc46 38 rfl) ?_
    refine x_sld (i + 3) hL (dT U_Lc46 39 rfl) (by omega) (by omega) ?_
    refine x_aload_n (dT U_Lc46 40 rfl) rfl ?_
    refine x_iload (dT U_Lc46 41 rfl) rfl ?_
    refine x_iconst (dT U_Lc46 42 rfl) ?_
    refine x_iadd (dT U_Lc46 43 rfl) ?_
    refine x_sld (i + 4) hL (dT U_Lc46 44 rfl) (by omega) (by omega) ?_
    refine x_invokevirtual (rc' := rc) (rs' := rs) (rc2 := 0) (rs2 := 0) (As := [_, _, _, _]) (st := _) M_X11_hideBit K_L_391 (dT U_Lc46 45 rfl) rfl rfl (by decide) rfl rfl wm.c70 (Nat.le_of_ble_eq_true rfl) (by decide) rfl (Nat.le_of_ble_eq_true rfl) rfl (by decide) (Nat.le_of_ble_eq_true rfl) rfl rfl ?_
    refine S_X11_hideBit wm v (xr_s _) (xr_s _) (xr_s _) (xr_s _) (fun m1 _ _ _ _ _ => absurd c1 m1) (fun m1 m2 _ _ _ _ _ => absurd c2 m2) (fun m1 m2 m3 h3 z ag wx xz => ?_) (fun m1 m2 m3 _ _ _ _ _ => absurd m3 c3)
    refine xRet_some ?_
    refine x_istore (ls' := [some (.ref _), some (.ref _), some (.ref _), some (.ref _), some (.ref _), some (vi _), some (vi _), some (vi _), none]) (dT U_Lc46 46 rfl) (by decide) rfl ?_
    refine x_aload_n (dT U_Lc46 47 rfl) rfl ?_
    refine x_invokevirtual (rc' := rc) (rs' := rs) (rc2 := 0) (rs2 := 0) (As := []) (st := _) M_X11_thrown K_L_242 (dT U_Lc46 48 rfl) rfl rfl (by decide) rfl rfl wx.c70 (Nat.le_of_ble_eq_true rfl) (by decide) rfl (Nat.le_of_ble_eq_true rfl) rfl (by decide) (Nat.le_of_ble_eq_true rfl) rfl rfl ?_
    refine S_X11_thrown wx ?_
    refine xRet_some ?_
    refine x_iload (dT U_Lc46 49 rfl) rfl ?_
    refine x_icmp_eq (tgt := 4034) (dT U_Lc46 50 rfl) (by decide) (by unfold xr; omega) (by unfold xr; omega) (fun c4029 => ?_) (fun c4029 => (by exfalso; omega))
    refine x_iload (dT U_Lc46 53 rfl) rfl ?_
    refine x_if_ne (tgt := 4051) (dT U_Lc46 54 rfl) (by decide) (by unfold xr; omega) (fun c4036 => ?_) (fun c4036 => (by exfalso; omega))
    refine x_goto (tgt := 5554) (dT U_Lc46 64 rfl) (by decide) ?_
    refine x_drop ?_ (M _ _ _ _ _ _ _ _ v (w.out ag (by omega)) wx (ag.get ho (by omega)) (ag.get hod (by omega)))
    repeat (first | exact trivial | refine ⟨rfl, ?_⟩ | refine ⟨trivial, ?_⟩)
  · refine xRet_some ?_
    have wmx := wm.out (h2 := (h2.set 143 (cJ [z9]))) (fun a ha => by rw [hset_fr (by omega)]; exact fc.2 a (by omega))
    refine x_istore (ls' := [some (.ref _), some (.ref _), some (.ref _), some (.ref _), some (.ref _), some (vi _), some (vi _), none, none]) (dT U_Lc46 23 rfl) (by decide) rfl ?_
    refine x_aload_n (dT U_Lc46 24 rfl) rfl ?_
    refine x_aload_n (dT U_Lc46 25 rfl) rfl ?_
    refine x_iload (dT U_Lc46 26 rfl) rfl ?_
    refine x_iconst (dT U_Lc46 27 rfl) ?_
    refine x_iadd (dT U_Lc46 28 rfl) ?_
    refine x_sld (i + 1) hL (dT U_Lc46 29 rfl) (by omega) (by omega) ?_
    refine x_aload_n (dT U_Lc46 30 rfl) rfl ?_
    refine x_iload (dT U_Lc46 31 rfl) rfl ?_
    refine x_iconst (dT U_Lc46 32 rfl) ?_
    refine x_iadd (dT U_Lc46 33 rfl) ?_
    refine x_sld (i + 2) hL (dT U_Lc46 34 rfl) (by omega) (by omega) ?_
    refine x_aload_n (dT U_Lc46 35 rfl) rfl ?_
    refine x_iload (dT U_Lc46 36 rfl) rfl ?_
    refine x_iconst (dT U_Lc46 37 rfl) ?_
    refine x_iadd (dT U_Lc46 38 rfl) ?_
    refine x_sld (i + 3) hL (dT U_Lc46 39 rfl) (by omega) (by omega) ?_
    refine x_aload_n (dT U_Lc46 40 rfl) rfl ?_
    refine x_iload (dT U_Lc46 41 rfl) rfl ?_
    refine x_iconst (dT U_Lc46 42 rfl) ?_
    refine x_iadd (dT U_Lc46 43 rfl) ?_
    refine x_sld (i + 4) hL (dT U_Lc46 44 rfl) (by omega) (by omega) ?_
    refine x_invokevirtual (rc' := rc) (rs' := rs) (rc2 := 0) (rs2 := 0) (As := [_, _, _, _]) (st := _) M_X11_hideBit K_L_391 (dT U_Lc46 45 rfl) rfl rfl (by decide) rfl rfl wmx.c70 (Nat.le_of_ble_eq_true rfl) (by decide) rfl (Nat.le_of_ble_eq_true rfl) rfl (by decide) (Nat.le_of_ble_eq_true rfl) rfl rfl ?_
    refine S_X11_hideBit wmx v (xr_s _) (xr_s _) (xr_s _) (xr_s _) (fun m1 _ _ _ _ _ => absurd c1 m1) (fun m1 m2 _ _ _ _ _ => absurd c2 m2) (fun m1 m2 m3 _ _ _ _ _ => absurd c3 m3) (fun m1 m2 m3 h3 r3 s3 ag wx => ?_)
    refine xRet_some ?_
    rw [ez9]
    refine x_istore (ls' := [some (.ref _), some (.ref _), some (.ref _), some (.ref _), some (.ref _), some (vi _), some (vi _), some (vi _), none]) (dT U_Lc46 46 rfl) (by decide) rfl ?_
    refine x_aload_n (dT U_Lc46 47 rfl) rfl ?_
    refine x_invokevirtual (rc' := rc) (rs' := rs) (rc2 := 0) (rs2 := 0) (As := []) (st := _) M_X11_thrown K_L_242 (dT U_Lc46 48 rfl) rfl rfl (by decide) rfl rfl wx.c70 (Nat.le_of_ble_eq_true rfl) (by decide) rfl (Nat.le_of_ble_eq_true rfl) rfl (by decide) (Nat.le_of_ble_eq_true rfl) rfl rfl ?_
    refine S_X11_thrown wx ?_
    refine xRet_some ?_
    refine x_iload (dT U_Lc46 49 rfl) rfl ?_
    refine x_icmp_eq (tgt := 4034) (dT U_Lc46 50 rfl) (by decide) (by unfold xr; omega) (by unfold xr; omega) (fun c4029 => ?_) (fun c4029 => (by exfalso; omega))
    refine x_iload (dT U_Lc46 53 rfl) rfl ?_
    refine x_if_nen (tgt := 4051) (dT U_Lc46 54 rfl) (by decide) (by decide) ?_
    refine x_aload_n (dT U_Lc46 55 rfl) rfl ?_
    refine x_iconst (dT U_Lc46 56 rfl) ?_
    refine x_laload 0 (dT U_Lc46 57 rfl) (ag.get (hset_eq (fc.get ho (by omega))) (by omega)) (Nat.le_of_ble_eq_true rfl) rfl (Nat.le_of_ble_eq_true rfl) (Nat.le_of_ble_eq_true rfl) ?_
    refine x_iload (dT U_Lc46 58 rfl) rfl ?_
    refine x_i2l (dT U_Lc46 59 rfl) hz9 ?_
    refine x_lcmp (dT U_Lc46 60 rfl) (xr_l hz9) (xr_l hz9) ?_
    refine x_if_eqj (tgt := 4051) (dT U_Lc46 61 rfl) (by decide) (xcmp_rf _) ?_
    refine x_goto (tgt := 5554) (dT U_Lc46 64 rfl) (by decide) ?_
    refine x_drop ?_ (M _ _ _ _ _ _ _ _ (IV_hideBit v c1 c2 c3) ((w2.out ((Ag.rf 143 143 h2).set (by omega)) (by omega)).out ag (by omega)) wx (ag.get (hset_eq (fc.get ho (by omega))) (by omega)) (ag.get (hset_ne (by omega) (fc.get hod (by omega))) (by omega)))
    repeat (first | exact trivial | refine ⟨rfl, ?_⟩ | refine ⟨trivial, ?_⟩)

def B_Lc47 : ByteArray := .mk #[0x2b, 0x2a, 0x15, 0x05, 0x04, 0x60, 0x2e, 0x2a, 0x15, 0x05, 0x05, 0x60, 0x2e, 0x2d, 0xb8, 0x01, 0x88, 0x36, 0x06, 0x2c, 0x2a, 0x15, 0x05, 0x04, 0x60, 0x2e, 0x2a, 0x15, 0x05, 0x05, 0x60, 0x2e, 0xb6, 0x01, 0x8a, 0x36, 0x07, 0x2c, 0xb6, 0x00, 0xf2, 0x15, 0x06, 0x9f, 0x00, 0x05, 0x03, 0xac, 0x15, 0x06, 0x9a, 0x00, 0x0f, 0x2d, 0x03, 0x2f, 0x15, 0x07, 0x85, 0x94, 0x99, 0x00, 0x05, 0x03, 0xac, 0xa7, 0x05, 0x9b]
theorem W_Lc47 : sameFrom m_L_law.2.1 B_Lc47 4054 := sameFrom_of (by decide +kernel)
def t_Lc47 : List (Nat × Instr × Nat) := [(4054, .aload_n 1, 1), (4055, .aload_n 0, 1), (4056, .iload 5, 2), (4058, .iconst 1, 1), (4059, .iadd, 1), (4060, .iaload, 1), (4061, .aload_n 0, 1), (4062, .iload 5, 2), (4064, .iconst 2, 1), (4065, .iadd, 1), (4066, .iaload, 1), (4067, .aload_n 3, 1), (4068, .invokestatic 392, 3), (4071, .istore 6, 2), (4073, .aload_n 2, 1), (4074, .aload_n 0, 1), (4075, .iload 5, 2), (4077, .iconst 1, 1), (4078, .iadd, 1), (4079, .iaload, 1), (4080, .aload_n 0, 1), (4081, .iload 5, 2), (4083, .iconst 2, 1), (4084, .iadd, 1), (4085, .iaload, 1), (4086, .invokevirtual 394, 3), (4089, .istore 7, 2), (4091, .aload_n 2, 1), (4092, .invokevirtual 242, 3), (4095, .iload 6, 2), (4097, .if_icmp .eq 5, 3), (4100, .iconst 0, 1), (4101, .ireturn, 1), (4102, .iload 6, 2), (4104, .ifCond .ne 15, 3), (4107, .aload_n 3, 1), (4108, .iconst 0, 1), (4109, .laload, 1), (4110, .iload 7, 2), (4112, .i2l, 1), (4113, .lcmp, 1), (4114, .ifCond .eq 5, 3), (4117, .iconst 0, 1), (4118, .ireturn, 1), (4119, .goto 1435, 3)]
set_option maxRecDepth 20000 in
theorem U_Lc47 : okT m_L_law.2.1 t_Lc47 = true := dSt [(0, .aload_n 1, 1), (1, .aload_n 0, 1), (2, .iload 5, 2), (4, .iconst 1, 1), (5, .iadd, 1), (6, .iaload, 1), (7, .aload_n 0, 1), (8, .iload 5, 2), (10, .iconst 2, 1), (11, .iadd, 1), (12, .iaload, 1), (13, .aload_n 3, 1), (14, .invokestatic 392, 3), (17, .istore 6, 2), (19, .aload_n 2, 1), (20, .aload_n 0, 1), (21, .iload 5, 2), (23, .iconst 1, 1), (24, .iadd, 1), (25, .iaload, 1), (26, .aload_n 0, 1), (27, .iload 5, 2), (29, .iconst 2, 1), (30, .iadd, 1), (31, .iaload, 1), (32, .invokevirtual 394, 3), (35, .istore 7, 2), (37, .aload_n 2, 1), (38, .invokevirtual 242, 3), (41, .iload 6, 2), (43, .if_icmp .eq 5, 3), (46, .iconst 0, 1), (47, .ireturn, 1), (48, .iload 6, 2), (50, .ifCond .ne 15, 3), (53, .aload_n 3, 1), (54, .iconst 0, 1), (55, .laload, 1), (56, .iload 7, 2), (58, .i2l, 1), (59, .lcmp, 1), (60, .ifCond .eq 5, 3), (63, .iconst 0, 1), (64, .ireturn, 1), (65, .goto 1435, 3)] W_Lc47 (by decide +kernel) (by decide +kernel)
set_option maxRecDepth 20000 in
set_option maxHeartbeats 1000000 in
theorem LC_47 {G : xG} {d rc rs : Nat} {ex : Bool} {h : xH} {Q : xQ} {σ : St} {c0 : Int} {rr : Nat} {ss : Int} {l0 : Int} {d0 : UInt64} {i : Nat} (hL : G.2.2.2.2.2.1 < 2147483648) (hi : i + 10 ≤ G.2.2.2.2.2.1) (w : CW σ h) (wm : MX σ c0 rr ss h) (v : INV σ) (ho : h[143]? = some (cJ [l0])) (hod : h[144]? = some (cD [d0]))
    (M : ∀ (σ9 : St) (h9 : xH) (e9 : Bool) (c9 : Int) (r9 : Nat) (s9 : Int) (l9 : Int) (d9 : UInt64), INV σ9 → CW σ9 h9 → MX σ9 c9 r9 s9 h9 → h9[143]? = some (cJ [l9]) → h9[144]? = some (cD [d9]) → X G m_L_law (d + 10) rc rs e9 5554 [some (.ref 0), some (.ref 3), some (.ref 70), some (.ref 143), some (.ref 144), some (vi (i : Int)), none, none, none] [] h9 Q) : X G m_L_law (d + 10) (rc + 3) (rs + 18) ex 4054 [some (.ref 0), some (.ref 3), some (.ref 70), some (.ref 143), some (.ref 144), some (vi (i : Int)), none, none, none] [] h Q := by
  refine x_aload_n (dT U_Lc47 0 rfl) rfl ?_
  refine x_aload_n (dT U_Lc47 1 rfl) rfl ?_
  refine x_iload (dT U_Lc47 2 rfl) rfl ?_
  refine x_iconst (dT U_Lc47 3 rfl) ?_
  refine x_iadd (dT U_Lc47 4 rfl) ?_
  refine x_sld (i + 1) hL (dT U_Lc47 5 rfl) (by omega) (by omega) ?_
  refine x_aload_n (dT U_Lc47 6 rfl) rfl ?_
  refine x_iload (dT U_Lc47 7 rfl) rfl ?_
  refine x_iconst (dT U_Lc47 8 rfl) ?_
  refine x_iadd (dT U_Lc47 9 rfl) ?_
  refine x_sld (i + 2) hL (dT U_Lc47 10 rfl) (by omega) (by omega) ?_
  refine x_aload_n (dT U_Lc47 11 rfl) rfl ?_
  refine x_invokestaticT (rc' := rc) (rs' := rs) (rc2 := 0 + 3) (rs2 := 0 + 18) (As := [_, _, _, _]) (st := _) M_L_dareBit K_L_392 (dT U_Lc47 12 rfl) rfl (by decide) rfl rfl (Nat.le_of_ble_eq_true rfl) rfl (by decide) (Nat.le_of_ble_eq_true rfl) (by omega) (by omega) ?_
  refine S_L_dareBit w v (xr_s _) (xr_s _) ho (fun c1 => ?_) (fun c1 c2 => ?_) (fun c1 c2 c3 => ?_) (fun c1 c2 c3 h2 fc w2 z9 hz9 ez9 => ?_)
  · refine xRet_some ?_
    refine x_istore (ls' := [some (.ref _), some (.ref _), some (.ref _), some (.ref _), some (.ref _), some (vi _), some (vi _), none, none]) (dT U_Lc47 13 rfl) (by decide) rfl ?_
    refine x_aload_n (dT U_Lc47 14 rfl) rfl ?_
    refine x_aload_n (dT U_Lc47 15 rfl) rfl ?_
    refine x_iload (dT U_Lc47 16 rfl) rfl ?_
    refine x_iconst (dT U_Lc47 17 rfl) ?_
    refine x_iadd (dT U_Lc47 18 rfl) ?_
    refine x_sld (i + 1) hL (dT U_Lc47 19 rfl) (by omega) (by omega) ?_
    refine x_aload_n (dT U_Lc47 20 rfl) rfl ?_
    refine x_iload (dT U_Lc47 21 rfl) rfl ?_
    refine x_iconst (dT U_Lc47 22 rfl) ?_
    refine x_iadd (dT U_Lc47 23 rfl) ?_
    refine x_sld (i + 2) hL (dT U_Lc47 24 rfl) (by omega) (by omega) ?_
    refine x_invokevirtual (rc' := rc) (rs' := rs) (rc2 := 0) (rs2 := 0) (As := [_, _]) (st := _) M_X11_dareBit K_L_394 (dT U_Lc47 25 rfl) rfl rfl (by decide) rfl rfl wm.c70 (Nat.le_of_ble_eq_true rfl) (by decide) rfl (Nat.le_of_ble_eq_true rfl) rfl (by decide) (Nat.le_of_ble_eq_true rfl) rfl rfl ?_
    refine S_X11_dareBit wm v (xr_s _) (xr_s _) (fun m1 h3 z ag wx xz => ?_) (fun m1 m2 _ _ _ _ _ => absurd m1 c1) (fun m1 m2 m3 _ _ _ _ _ => absurd m1 c1) (fun m1 m2 m3 _ _ _ _ _ => absurd m1 c1)
    refine xRet_some ?_
    refine x_istore (ls' := [some (.ref _), some (.ref _), some (.ref _), some (.ref _), some (.ref _), some (vi _), some (vi _), some (vi _), none]) (dT U_Lc47 26 rfl) (by decide) rfl ?_
    refine x_aload_n (dT U_Lc47 27 rfl) rfl ?_
    refine x_invokevirtual (rc' := rc) (rs' := rs) (rc2 := 0) (rs2 := 0) (As := []) (st := _) M_X11_thrown K_L_242 (dT U_Lc47 28 rfl) rfl rfl (by decide) rfl rfl wx.c70 (Nat.le_of_ble_eq_true rfl) (by decide) rfl (Nat.le_of_ble_eq_true rfl) rfl (by decide) (Nat.le_of_ble_eq_true rfl) rfl rfl ?_
    refine S_X11_thrown wx ?_
    refine xRet_some ?_
    refine x_iload (dT U_Lc47 29 rfl) rfl ?_
    refine x_icmp_eq (tgt := 4102) (dT U_Lc47 30 rfl) (by decide) (by unfold xr; omega) (by unfold xr; omega) (fun c4097 => ?_) (fun c4097 => (by exfalso; omega))
    refine x_iload (dT U_Lc47 33 rfl) rfl ?_
    refine x_if_nej (tgt := 4119) (dT U_Lc47 34 rfl) (by decide) (by decide) ?_
    refine x_goto (tgt := 5554) (dT U_Lc47 44 rfl) (by decide) ?_
    refine x_drop ?_ (M _ _ _ _ _ _ _ _ v (w.out ag (by omega)) wx (ag.get ho (by omega)) (ag.get hod (by omega)))
    repeat (first | exact trivial | refine ⟨rfl, ?_⟩ | refine ⟨trivial, ?_⟩)
  · refine xRet_some ?_
    refine x_istore (ls' := [some (.ref _), some (.ref _), some (.ref _), some (.ref _), some (.ref _), some (vi _), some (vi _), none, none]) (dT U_Lc47 13 rfl) (by decide) rfl ?_
    refine x_aload_n (dT U_Lc47 14 rfl) rfl ?_
    refine x_aload_n (dT U_Lc47 15 rfl) rfl ?_
    refine x_iload (dT U_Lc47 16 rfl) rfl ?_
    refine x_iconst (dT U_Lc47 17 rfl) ?_
    refine x_iadd (dT U_Lc47 18 rfl) ?_
    refine x_sld (i + 1) hL (dT U_Lc47 19 rfl) (by omega) (by omega) ?_
    refine x_aload_n (dT U_Lc47 20 rfl) rfl ?_
    refine x_iload (dT U_Lc47 21 rfl) rfl ?_
    refine x_iconst (dT U_Lc47 22 rfl) ?_
    refine x_iadd (dT U_Lc47 23 rfl) ?_
    refine x_sld (i + 2) hL (dT U_Lc47 24 rfl) (by omega) (by omega) ?_
    refine x_invokevirtual (rc' := rc) (rs' := rs) (rc2 := 0) (rs2 := 0) (As := [_, _]) (st := _) M_X11_dareBit K_L_394 (dT U_Lc47 25 rfl) rfl rfl (by decide) rfl rfl wm.c70 (Nat.le_of_ble_eq_true rfl) (by decide) rfl (Nat.le_of_ble_eq_true rfl) rfl (by decide) (Nat.le_of_ble_eq_true rfl) rfl rfl ?_
    refine S_X11_dareBit wm v (xr_s _) (xr_s _) (fun m1 _ _ _ _ _ => absurd c1 m1) (fun m1 m2 h3 z ag wx xz => ?_) (fun m1 m2 m3 _ _ _ _ _ => absurd m2 c2) (fun m1 m2 m3 _ _ _ _ _ => absurd m2 c2)
    refine xRet_some ?_
    refine x_istore (ls' := [some (.ref _), some (.ref _), some (.ref _), some (.ref _), some (.ref _), some (vi _), some (vi _), some (vi _), none]) (dT U_Lc47 26 rfl) (by decide) rfl ?_
    refine x_aload_n (dT U_Lc47 27 rfl) rfl ?_
    refine x_invokevirtual (rc' := rc) (rs' := rs) (rc2 := 0) (rs2 := 0) (As := []) (st := _) M_X11_thrown K_L_242 (dT U_Lc47 28 rfl) rfl rfl (by decide) rfl rfl wx.c70 (Nat.le_of_ble_eq_true rfl) (by decide) rfl (Nat.le_of_ble_eq_true rfl) rfl (by decide) (Nat.le_of_ble_eq_true rfl) rfl rfl ?_
    refine S_X11_thrown wx ?_
    refine xRet_some ?_
    refine x_iload (dT U_Lc47 29 rfl) rfl ?_
    refine x_icmp_eq (tgt := 4102) (dT U_Lc47 30 rfl) (by decide) (by unfold xr; omega) (by unfold xr; omega) (fun c4097 => ?_) (fun c4097 => (by exfalso; omega))
    refine x_iload (dT U_Lc47 33 rfl) rfl ?_
    refine x_if_ne (tgt := 4119) (dT U_Lc47 34 rfl) (by decide) (by unfold xr; omega) (fun c4104 => ?_) (fun c4104 => (by exfalso; omega))
    refine x_goto (tgt := 5554) (dT U_Lc47 44 rfl) (by decide) ?_
    refine x_drop ?_ (M _ _ _ _ _ _ _ _ v (w.out ag (by omega)) wx (ag.get ho (by omega)) (ag.get hod (by omega)))
    repeat (first | exact trivial | refine ⟨rfl, ?_⟩ | refine ⟨trivial, ?_⟩)
  · refine xRet_some ?_
    refine x_istore (ls' := [some (.ref _), some (.ref _), some (.ref _), some (.ref _), some (.ref _), some (vi _), some (vi _), none, none]) (dT U_Lc47 13 rfl) (by decide) rfl ?_
    refine x_aload_n (dT U_Lc47 14 rfl) rfl ?_
    refine x_aload_n (dT U_Lc47 15 rfl) rfl ?_
    refine x_iload (dT U_Lc47 16 rfl) rfl ?_
    refine x_iconst (dT U_Lc47 17 rfl) ?_
    refine x_iadd (dT U_Lc47 18 rfl) ?_
    refine x_sld (i + 1) hL (dT U_Lc47 19 rfl) (by omega) (by omega) ?_
    refine x_aload_n (dT U_Lc47 20 rfl) rfl ?_
    refine x_iload (dT U_Lc47 21 rfl) rfl ?_
    refine x_iconst (dT U_Lc47 22 rfl) ?_
    refine x_iadd (dT U_Lc47 23 rfl) ?_
    refine x_sld (i + 2) hL (dT U_Lc47 24 rfl) (by omega) (by omega) ?_
    refine x_invokevirtual (rc' := rc) (rs' := rs) (rc2 := 0) (rs2 := 0) (As := [_, _]) (st := _) M_X11_dareBit K_L_394 (dT U_Lc47 25 rfl) rfl rfl (by decide) rfl rfl wm.c70 (Nat.le_of_ble_eq_true rfl) (by decide) rfl (Nat.le_of_ble_eq_true rfl) rfl (by decide) (Nat.le_of_ble_eq_true rfl) rfl rfl ?_
    refine S_X11_dareBit wm v (xr_s _) (xr_s _) (fun m1 _ _ _ _ _ => absurd c1 m1) (fun m1 m2 _ _ _ _ _ => absurd c2 m2) (fun m1 m2 m3 h3 z ag wx xz => ?_) (fun m1 m2 m3 _ _ _ _ _ => absurd m3 c3)
    refine xRet_some ?_
    refine x_istore (ls' := [some (.ref _), some (.ref _), some (.ref _), some (.ref _), some (.ref _), some (vi _), some (vi _), some (vi _), none]) (dT U_Lc47 26 rfl) (by decide) rfl ?_
    refine x_aload_n (dT U_Lc47 27 rfl) rfl ?_
    refine x_invokevirtual (rc' := rc) (rs' := rs) (rc2 := 0) (rs2 := 0) (As := []) (st := _) M_X11_thrown K_L_242 (dT U_Lc47 28 rfl) rfl rfl (by decide) rfl rfl wx.c70 (Nat.le_of_ble_eq_true rfl) (by decide) rfl (Nat.le_of_ble_eq_true rfl) rfl (by decide) (Nat.le_of_ble_eq_true rfl) rfl rfl ?_
    refine S_X11_thrown wx ?_
    refine xRet_some ?_
    refine x_iload (dT U_Lc47 29 rfl) rfl ?_
    refine x_icmp_eq (tgt := 4102) (dT U_Lc47 30 rfl) (by decide) (by unfold xr; omega) (by unfold xr; omega) (fun c4097 => ?_) (fun c4097 => (by exfalso; omega))
    refine x_iload (dT U_Lc47 33 rfl) rfl ?_
    refine x_if_ne (tgt := 4119) (dT U_Lc47 34 rfl) (by decide) (by unfold xr; omega) (fun c4104 => ?_) (fun c4104 => (by exfalso; omega))
    refine x_goto (tgt := 5554) (dT U_Lc47 44 rfl) (by decide) ?_
    refine x_drop ?_ (M _ _ _ _ _ _ _ _ v (w.out ag (by omega)) wx (ag.get ho (by omega)) (ag.get hod (by omega)))
    repeat (first | exact trivial | refine ⟨rfl, ?_⟩ | refine ⟨trivial, ?_⟩)
  · refine xRet_some ?_
    have wmx := wm.out (h2 := (h2.set 143 (cJ [z9]))) (fun a ha => by rw [hset_fr (by omega)]; exact fc.2 a (by omega))
    refine x_istore (ls' := [some (.ref _), some (.ref _), some (.ref _), some (.ref _), some (.ref _), some (vi _), some (vi _), none, none]) (dT U_Lc47 13 rfl) (by decide) rfl ?_
    refine x_aload_n (dT U_Lc47 14 rfl) rfl ?_
    refine x_aload_n (dT U_Lc47 15 rfl) rfl ?_
    refine x_iload (dT U_Lc47 16 rfl) rfl ?_
    refine x_iconst (dT U_Lc47 17 rfl) ?_
    refine x_iadd (dT U_Lc47 18 rfl) ?_
    refine x_sld (i + 1) hL (dT U_Lc47 19 rfl) (by omega) (by omega) ?_
    refine x_aload_n (dT U_Lc47 20 rfl) rfl ?_
    refine x_iload (dT U_Lc47 21 rfl) rfl ?_
    refine x_iconst (dT U_Lc47 22 rfl) ?_
    refine x_iadd (dT U_Lc47 23 rfl) ?_
    refine x_sld (i + 2) hL (dT U_Lc47 24 rfl) (by omega) (by omega) ?_
    refine x_invokevirtual (rc' := rc) (rs' := rs) (rc2 := 0) (rs2 := 0) (As := [_, _]) (st := _) M_X11_dareBit K_L_394 (dT U_Lc47 25 rfl) rfl rfl (by decide) rfl rfl wmx.c70 (Nat.le_of_ble_eq_true rfl) (by decide) rfl (Nat.le_of_ble_eq_true rfl) rfl (by decide) (Nat.le_of_ble_eq_true rfl) rfl rfl ?_
    refine S_X11_dareBit wmx v (xr_s _) (xr_s _) (fun m1 _ _ _ _ _ => absurd c1 m1) (fun m1 m2 _ _ _ _ _ => absurd c2 m2) (fun m1 m2 m3 _ _ _ _ _ => absurd c3 m3) (fun m1 m2 m3 h3 r3 s3 ag wx => ?_)
    refine xRet_some ?_
    rw [ez9]
    refine x_istore (ls' := [some (.ref _), some (.ref _), some (.ref _), some (.ref _), some (.ref _), some (vi _), some (vi _), some (vi _), none]) (dT U_Lc47 26 rfl) (by decide) rfl ?_
    refine x_aload_n (dT U_Lc47 27 rfl) rfl ?_
    refine x_invokevirtual (rc' := rc) (rs' := rs) (rc2 := 0) (rs2 := 0) (As := []) (st := _) M_X11_thrown K_L_242 (dT U_Lc47 28 rfl) rfl rfl (by decide) rfl rfl wx.c70 (Nat.le_of_ble_eq_true rfl) (by decide) rfl (Nat.le_of_ble_eq_true rfl) rfl (by decide) (Nat.le_of_ble_eq_true rfl) rfl rfl ?_
    refine S_X11_thrown wx ?_
    refine xRet_some ?_
    refine x_iload (dT U_Lc47 29 rfl) rfl ?_
    refine x_icmp_eq (tgt := 4102) (dT U_Lc47 30 rfl) (by decide) (by unfold xr; omega) (by unfold xr; omega) (fun c4097 => ?_) (fun c4097 => (by exfalso; omega))
    refine x_iload (dT U_Lc47 33 rfl) rfl ?_
    refine x_if_nen (tgt := 4119) (dT U_Lc47 34 rfl) (by decide) (by decide) ?_
    refine x_aload_n (dT U_Lc47 35 rfl) rfl ?_
    refine x_iconst (dT U_Lc47 36 rfl) ?_
    refine x_laload 0 (dT U_Lc47 37 rfl) (ag.get (hset_eq (fc.get ho (by omega))) (by omega)) (Nat.le_of_ble_eq_true rfl) rfl (Nat.le_of_ble_eq_true rfl) (Nat.le_of_ble_eq_true rfl) ?_
    refine x_iload (dT U_Lc47 38 rfl) rfl ?_
    refine x_i2l (dT U_Lc47 39 rfl) hz9 ?_
    refine x_lcmp (dT U_Lc47 40 rfl) (xr_l hz9) (xr_l hz9) ?_
    refine x_if_eqj (tgt := 4119) (dT U_Lc47 41 rfl) (by decide) (xcmp_rf _) ?_
    refine x_goto (tgt := 5554) (dT U_Lc47 44 rfl) (by decide) ?_
    refine x_drop ?_ (M _ _ _ _ _ _ _ _ (IV_dareBit v c1 c2 c3) ((w2.out ((Ag.rf 143 143 h2).set (by omega)) (by omega)).out ag (by omega)) wx (ag.get (hset_eq (fc.get ho (by omega))) (by omega)) (ag.get (hset_ne (by omega) (fc.get hod (by omega))) (by omega)))
    repeat (first | exact trivial | refine ⟨rfl, ?_⟩ | refine ⟨trivial, ?_⟩)

def B_Lc48 : ByteArray := .mk #[0x2b, 0x2a, 0x15, 0x05, 0x04, 0x60, 0x2e, 0x2d, 0xb8, 0x01, 0x8b, 0x36, 0x06, 0x2c, 0x2a, 0x15, 0x05, 0x04, 0x60, 0x2e, 0xb6, 0x01, 0x8d, 0x36, 0x07, 0x2c, 0xb6, 0x00, 0xf2, 0x15, 0x06, 0x9f, 0x00, 0x05, 0x03, 0xac, 0x15, 0x06, 0x9a, 0x00, 0x16, 0x2d, 0x03, 0x2f, 0x15, 0x07, 0x99, 0x00, 0x07, 0x0a, 0xa7, 0x00, 0x04, 0x09, 0x94, 0x99, 0x00, 0x05, 0x03, 0xac, 0xa7, 0x05, 0x5c]
theorem W_Lc48 : sameFrom m_L_law.2.1 B_Lc48 4122 := sameFrom_of (by decide +kernel)
def t_Lc48 : List (Nat × Instr × Nat) := [(4122, .aload_n 1, 1), (4123, .aload_n 0, 1), (4124, .iload 5, 2), (4126, .iconst 1, 1), (4127, .iadd, 1), (4128, .iaload, 1), (4129, .aload_n 3, 1), (4130, .invokestatic 395, 3), (4133, .istore 6, 2), (4135, .aload_n 2, 1), (4136, .aload_n 0, 1), (4137, .iload 5, 2), (4139, .iconst 1, 1), (4140, .iadd, 1), (4141, .iaload, 1), (4142, .invokevirtual 397, 3), (4145, .istore 7, 2), (4147, .aload_n 2, 1), (4148, .invokevirtual 242, 3), (4151, .iload 6, 2), (4153, .if_icmp .eq 5, 3), (4156, .iconst 0, 1), (4157, .ireturn, 1), (4158, .iload 6, 2), (4160, .ifCond .ne 22, 3), (4163, .aload_n 3, 1), (4164, .iconst 0, 1), (4165, .laload, 1), (4166, .iload 7, 2), (4168, .ifCond .eq 7, 3), (4171, .lconst 1, 1), (4172, .goto 4, 3), (4175, .lconst 0, 1), (4176, .lcmp, 1), (4177, .ifCond .eq 5, 3), (4180, .iconst 0, 1), (4181, .ireturn, 1), (4182, .goto 1372, 3)]
set_option maxRecDepth 20000 in
theorem U_Lc48 : okT m_L_law.2.1 t_Lc48 = true := dSt [(0, .aload_n 1, 1), (1, .aload_n 0, 1), (2, .iload 5, 2), (4, .iconst 1, 1), (5, .iadd, 1), (6, .iaload, 1), (7, .aload_n 3, 1), (8, .invokestatic 395, 3), (11, .istore 6, 2), (13, .aload_n 2, 1), (14, .aload_n 0, 1), (15, .iload 5, 2), (17, .iconst 1, 1), (18, .iadd, 1), (19, .iaload, 1), (20, .invokevirtual 397, 3), (23, .istore 7, 2), (25, .aload_n 2, 1), (26, .invokevirtual 242, 3), (29, .iload 6, 2), (31, .if_icmp .eq 5, 3), (34, .iconst 0, 1), (35, .ireturn, 1), (36, .iload 6, 2), (38, .ifCond .ne 22, 3), (41, .aload_n 3, 1), (42, .iconst 0, 1), (43, .laload, 1), (44, .iload 7, 2), (46, .ifCond .eq 7, 3), (49, .lconst 1, 1), (50, .goto 4, 3), (53, .lconst 0, 1), (54, .lcmp, 1), (55, .ifCond .eq 5, 3), (58, .iconst 0, 1), (59, .ireturn, 1), (60, .goto 1372, 3)] W_Lc48 (by decide +kernel) (by decide +kernel)
set_option maxRecDepth 20000 in
set_option maxHeartbeats 1000000 in
theorem LC_48 {G : xG} {d rc rs : Nat} {ex : Bool} {h : xH} {Q : xQ} {σ : St} {c0 : Int} {rr : Nat} {ss : Int} {l0 : Int} {d0 : UInt64} {i : Nat} (hL : G.2.2.2.2.2.1 < 2147483648) (hi : i + 10 ≤ G.2.2.2.2.2.1) (w : CW σ h) (wm : MX σ c0 rr ss h) (v : INV σ) (ho : h[143]? = some (cJ [l0])) (hod : h[144]? = some (cD [d0]))
    (M : ∀ (σ9 : St) (h9 : xH) (e9 : Bool) (c9 : Int) (r9 : Nat) (s9 : Int) (l9 : Int) (d9 : UInt64), INV σ9 → CW σ9 h9 → MX σ9 c9 r9 s9 h9 → h9[143]? = some (cJ [l9]) → h9[144]? = some (cD [d9]) → X G m_L_law (d + 10) rc rs e9 5554 [some (.ref 0), some (.ref 3), some (.ref 70), some (.ref 143), some (.ref 144), some (vi (i : Int)), none, none, none] [] h9 Q) : X G m_L_law (d + 10) (rc + 1) (rs + 6) ex 4122 [some (.ref 0), some (.ref 3), some (.ref 70), some (.ref 143), some (.ref 144), some (vi (i : Int)), none, none, none] [] h Q := by
  refine x_aload_n (dT U_Lc48 0 rfl) rfl ?_
  refine x_aload_n (dT U_Lc48 1 rfl) rfl ?_
  refine x_iload (dT U_Lc48 2 rfl) rfl ?_
  refine x_iconst (dT U_Lc48 3 rfl) ?_
  refine x_iadd (dT U_Lc48 4 rfl) ?_
  refine x_sld (i + 1) hL (dT U_Lc48 5 rfl) (by omega) (by omega) ?_
  refine x_aload_n (dT U_Lc48 6 rfl) rfl ?_
  refine x_invokestaticT (rc' := rc) (rs' := rs) (rc2 := 0 + 1) (rs2 := 0 + 6) (As := [_, _, _]) (st := _) M_L_isBitAccepted K_L_395 (dT U_Lc48 7 rfl) rfl (by decide) rfl rfl (Nat.le_of_ble_eq_true rfl) rfl (by decide) (Nat.le_of_ble_eq_true rfl) (by omega) (by omega) ?_
  refine S_L_isBitAccepted w v (xr_s _) ho (fun c1 => ?_) (fun c1 c2 => ?_) (fun c1 c2 => ?_)
  · refine xRet_some ?_
    refine x_istore (ls' := [some (.ref _), some (.ref _), some (.ref _), some (.ref _), some (.ref _), some (vi _), some (vi _), none, none]) (dT U_Lc48 8 rfl) (by decide) rfl ?_
    refine x_aload_n (dT U_Lc48 9 rfl) rfl ?_
    refine x_aload_n (dT U_Lc48 10 rfl) rfl ?_
    refine x_iload (dT U_Lc48 11 rfl) rfl ?_
    refine x_iconst (dT U_Lc48 12 rfl) ?_
    refine x_iadd (dT U_Lc48 13 rfl) ?_
    refine x_sld (i + 1) hL (dT U_Lc48 14 rfl) (by omega) (by omega) ?_
    refine x_invokevirtual (rc' := rc) (rs' := rs) (rc2 := 0) (rs2 := 0) (As := [_]) (st := _) M_X11_isBitAccepted K_L_397 (dT U_Lc48 15 rfl) rfl rfl (by decide) rfl rfl wm.c70 (Nat.le_of_ble_eq_true rfl) (by decide) rfl (Nat.le_of_ble_eq_true rfl) rfl (by decide) (Nat.le_of_ble_eq_true rfl) rfl rfl ?_
    refine S_X11_isBitAccepted wm v (xr_s _) (fun m1 h3 z ag wx xz => ?_) (fun m1 m2 _ _ _ _ _ => absurd m1 c1) (fun m1 m2 _ _ _ _ _ => absurd m1 c1)
    refine xRet_some ?_
    refine x_istore (ls' := [some (.ref _), some (.ref _), some (.ref _), some (.ref _), some (.ref _), some (vi _), some (vi _), some (vi _), none]) (dT U_Lc48 16 rfl) (by decide) rfl ?_
    refine x_aload_n (dT U_Lc48 17 rfl) rfl ?_
    refine x_invokevirtual (rc' := rc) (rs' := rs) (rc2 := 0) (rs2 := 0) (As := []) (st := _) M_X11_thrown K_L_242 (dT U_Lc48 18 rfl) rfl rfl (by decide) rfl rfl wx.c70 (Nat.le_of_ble_eq_true rfl) (by decide) rfl (Nat.le_of_ble_eq_true rfl) rfl (by decide) (Nat.le_of_ble_eq_true rfl) rfl rfl ?_
    refine S_X11_thrown wx ?_
    refine xRet_some ?_
    refine x_iload (dT U_Lc48 19 rfl) rfl ?_
    refine x_icmp_eq (tgt := 4158) (dT U_Lc48 20 rfl) (by decide) (by unfold xr; omega) (by unfold xr; omega) (fun c4153 => ?_) (fun c4153 => (by exfalso; omega))
    refine x_iload (dT U_Lc48 23 rfl) rfl ?_
    refine x_if_nej (tgt := 4182) (dT U_Lc48 24 rfl) (by decide) (by decide) ?_
    refine x_goto (tgt := 5554) (dT U_Lc48 37 rfl) (by decide) ?_
    refine x_drop ?_ (M _ _ _ _ _ _ _ _ v (w.out ag (by omega)) wx (ag.get ho (by omega)) (ag.get hod (by omega)))
    repeat (first | exact trivial | refine ⟨rfl, ?_⟩ | refine ⟨trivial, ?_⟩)
  · refine xRet_some ?_
    have wmx := wm.out (h2 := (h.set 143 (cJ [1]))) (fun a ha => by rw [hset_fr (by omega)])
    refine x_istore (ls' := [some (.ref _), some (.ref _), some (.ref _), some (.ref _), some (.ref _), some (vi _), some (vi _), none, none]) (dT U_Lc48 8 rfl) (by decide) rfl ?_
    refine x_aload_n (dT U_Lc48 9 rfl) rfl ?_
    refine x_aload_n (dT U_Lc48 10 rfl) rfl ?_
    refine x_iload (dT U_Lc48 11 rfl) rfl ?_
    refine x_iconst (dT U_Lc48 12 rfl) ?_
    refine x_iadd (dT U_Lc48 13 rfl) ?_
    refine x_sld (i + 1) hL (dT U_Lc48 14 rfl) (by omega) (by omega) ?_
    refine x_invokevirtual (rc' := rc) (rs' := rs) (rc2 := 0) (rs2 := 0) (As := [_]) (st := _) M_X11_isBitAccepted K_L_397 (dT U_Lc48 15 rfl) rfl rfl (by decide) rfl rfl wmx.c70 (Nat.le_of_ble_eq_true rfl) (by decide) rfl (Nat.le_of_ble_eq_true rfl) rfl (by decide) (Nat.le_of_ble_eq_true rfl) rfl rfl ?_
    refine S_X11_isBitAccepted wmx v (xr_s _) (fun m1 _ _ _ _ _ => absurd c1 m1) (fun m1 m2 h3 r3 s3 ag wx => ?_) (fun m1 m2 _ _ _ _ _ => absurd c2 m2)
    refine xRet_some ?_
    refine x_istore (ls' := [some (.ref _), some (.ref _), some (.ref _), some (.ref _), some (.ref _), some (vi _), some (vi _), some (vi _), none]) (dT U_Lc48 16 rfl) (by decide) rfl ?_
    refine x_aload_n (dT U_Lc48 17 rfl) rfl ?_
    refine x_invokevirtual (rc' := rc) (rs' := rs) (rc2 := 0) (rs2 := 0) (As := []) (st := _) M_X11_thrown K_L_242 (dT U_Lc48 18 rfl) rfl rfl (by decide) rfl rfl wx.c70 (Nat.le_of_ble_eq_true rfl) (by decide) rfl (Nat.le_of_ble_eq_true rfl) rfl (by decide) (Nat.le_of_ble_eq_true rfl) rfl rfl ?_
    refine S_X11_thrown wx ?_
    refine xRet_some ?_
    refine x_iload (dT U_Lc48 19 rfl) rfl ?_
    refine x_icmp_eq (tgt := 4158) (dT U_Lc48 20 rfl) (by decide) (by unfold xr; omega) (by unfold xr; omega) (fun c4153 => ?_) (fun c4153 => (by exfalso; omega))
    refine x_iload (dT U_Lc48 23 rfl) rfl ?_
    refine x_if_nen (tgt := 4182) (dT U_Lc48 24 rfl) (by decide) (by decide) ?_
    refine x_aload_n (dT U_Lc48 25 rfl) rfl ?_
    refine x_iconst (dT U_Lc48 26 rfl) ?_
    refine x_laload 0 (dT U_Lc48 27 rfl) (ag.get (hset_eq ho) (by omega)) (Nat.le_of_ble_eq_true rfl) rfl (Nat.le_of_ble_eq_true rfl) (Nat.le_of_ble_eq_true rfl) ?_
    refine x_iload (dT U_Lc48 28 rfl) rfl ?_
    refine x_if_eqn (tgt := 4175) (dT U_Lc48 29 rfl) (by decide) (by decide) ?_
    refine x_lconst (z := 1) (dT U_Lc48 30 rfl) rfl ?_
    refine x_goto (tgt := 4176) (dT U_Lc48 31 rfl) (by decide) ?_
    refine x_lcmp (dT U_Lc48 33 rfl) (by unfold xrl; decide) (by unfold xrl; decide) ?_
    refine x_if_eqj (tgt := 4182) (dT U_Lc48 34 rfl) (by decide) (xcmp_rf _) ?_
    refine x_goto (tgt := 5554) (dT U_Lc48 37 rfl) (by decide) ?_
    refine x_drop ?_ (M _ _ _ _ _ _ _ _ v ((w.out ((Ag.rf 143 143 h).set (by omega)) (by omega)).out ag (by omega)) wx (ag.get (hset_eq ho) (by omega)) (ag.get (hset_ne (by omega) hod) (by omega)))
    repeat (first | exact trivial | refine ⟨rfl, ?_⟩ | refine ⟨trivial, ?_⟩)
  · refine xRet_some ?_
    have wmx := wm.out (h2 := (h.set 143 (cJ [0]))) (fun a ha => by rw [hset_fr (by omega)])
    refine x_istore (ls' := [some (.ref _), some (.ref _), some (.ref _), some (.ref _), some (.ref _), some (vi _), some (vi _), none, none]) (dT U_Lc48 8 rfl) (by decide) rfl ?_
    refine x_aload_n (dT U_Lc48 9 rfl) rfl ?_
    refine x_aload_n (dT U_Lc48 10 rfl) rfl ?_
    refine x_iload (dT U_Lc48 11 rfl) rfl ?_
    refine x_iconst (dT U_Lc48 12 rfl) ?_
    refine x_iadd (dT U_Lc48 13 rfl) ?_
    refine x_sld (i + 1) hL (dT U_Lc48 14 rfl) (by omega) (by omega) ?_
    refine x_invokevirtual (rc' := rc) (rs' := rs) (rc2 := 0) (rs2 := 0) (As := [_]) (st := _) M_X11_isBitAccepted K_L_397 (dT U_Lc48 15 rfl) rfl rfl (by decide) rfl rfl wmx.c70 (Nat.le_of_ble_eq_true rfl) (by decide) rfl (Nat.le_of_ble_eq_true rfl) rfl (by decide) (Nat.le_of_ble_eq_true rfl) rfl rfl ?_
    refine S_X11_isBitAccepted wmx v (xr_s _) (fun m1 _ _ _ _ _ => absurd c1 m1) (fun m1 m2 _ _ _ _ _ => absurd m2 c2) (fun m1 m2 h3 r3 s3 ag wx => ?_)
    refine xRet_some ?_
    refine x_istore (ls' := [some (.ref _), some (.ref _), some (.ref _), some (.ref _), some (.ref _), some (vi _), some (vi _), some (vi _), none]) (dT U_Lc48 16 rfl) (by decide) rfl ?_
    refine x_aload_n (dT U_Lc48 17 rfl) rfl ?_
    refine x_invokevirtual (rc' := rc) (rs' := rs) (rc2 := 0) (rs2 := 0) (As := []) (st := _) M_X11_thrown K_L_242 (dT U_Lc48 18 rfl) rfl rfl (by decide) rfl rfl wx.c70 (Nat.le_of_ble_eq_true rfl) (by decide) rfl (Nat.le_of_ble_eq_true rfl) rfl (by decide) (Nat.le_of_ble_eq_true rfl) rfl rfl ?_
    refine S_X11_thrown wx ?_
    refine xRet_some ?_
    refine x_iload (dT U_Lc48 19 rfl) rfl ?_
    refine x_icmp_eq (tgt := 4158) (dT U_Lc48 20 rfl) (by decide) (by unfold xr; omega) (by unfold xr; omega) (fun c4153 => ?_) (fun c4153 => (by exfalso; omega))
    refine x_iload (dT U_Lc48 23 rfl) rfl ?_
    refine x_if_nen (tgt := 4182) (dT U_Lc48 24 rfl) (by decide) (by decide) ?_
    refine x_aload_n (dT U_Lc48 25 rfl) rfl ?_
    refine x_iconst (dT U_Lc48 26 rfl) ?_
    refine x_laload 0 (dT U_Lc48 27 rfl) (ag.get (hset_eq ho) (by omega)) (Nat.le_of_ble_eq_true rfl) rfl (Nat.le_of_ble_eq_true rfl) (Nat.le_of_ble_eq_true rfl) ?_
    refine x_iload (dT U_Lc48 28 rfl) rfl ?_
    refine x_if_eqj (tgt := 4175) (dT U_Lc48 29 rfl) (by decide) (by decide) ?_
    refine x_lconst (z := 0) (dT U_Lc48 32 rfl) rfl ?_
    refine x_lcmp (dT U_Lc48 33 rfl) (by unfold xrl; decide) (by unfold xrl; decide) ?_
    refine x_if_eqj (tgt := 4182) (dT U_Lc48 34 rfl) (by decide) (xcmp_rf _) ?_
    refine x_goto (tgt := 5554) (dT U_Lc48 37 rfl) (by decide) ?_
    refine x_drop ?_ (M _ _ _ _ _ _ _ _ v ((w.out ((Ag.rf 143 143 h).set (by omega)) (by omega)).out ag (by omega)) wx (ag.get (hset_eq ho) (by omega)) (ag.get (hset_ne (by omega) hod) (by omega)))
    repeat (first | exact trivial | refine ⟨rfl, ?_⟩ | refine ⟨trivial, ?_⟩)

def B_Lc49 : ByteArray := .mk #[0x2b, 0x2a, 0x15, 0x05, 0x04, 0x60, 0x2e, 0x2a, 0x15, 0x05, 0x05, 0x60, 0x2e, 0x2a, 0x15, 0x05, 0x06, 0x60, 0x2e, 0x2d, 0xb8, 0x01, 0x8e, 0x36, 0x06, 0x2c, 0x2a, 0x15, 0x05, 0x04, 0x60, 0x2e, 0x2a, 0x15, 0x05, 0x05, 0x60, 0x2e, 0x2a, 0x15, 0x05, 0x06, 0x60, 0x2e, 0xb6, 0x01, 0x90, 0x36, 0x07, 0x2c, 0xb6, 0x00, 0xf2, 0x15, 0x06, 0x9f, 0x00, 0x05, 0x03, 0xac, 0x15, 0x06, 0x9a, 0x00, 0x0f, 0x2d, 0x03, 0x2f, 0x15, 0x07, 0x85, 0x94, 0x99, 0x00, 0x05, 0x03, 0xac, 0xa7, 0x05, 0x0c]
theorem W_Lc49 : sameFrom m_L_law.2.1 B_Lc49 4185 := sameFrom_of (by decide +kernel)
def t_Lc49 : List (Nat × Instr × Nat) := [(4185, .aload_n 1, 1), (4186, .aload_n 0, 1), (4187, .iload 5, 2), (4189, .iconst 1, 1), (4190, .iadd, 1), (4191, .iaload, 1), (4192, .aload_n 0, 1), (4193, .iload 5, 2), (4195, .iconst 2, 1), (4196, .iadd, 1), (4197, .iaload, 1), (4198, .aload_n 0, 1), (4199, .iload 5, 2), (4201, .iconst 3, 1), (4202, .iadd, 1), (4203, .iaload, 1), (4204, .aload_n 3, 1), (4205, .invokestatic 398, 3), (4208, .istore 6, 2), (4210, .aload_n 2, 1), (4211, .aload_n 0, 1), (4212, .iload 5, 2), (4214, .iconst 1, 1), (4215, .iadd, 1), (4216, .iaload, 1), (4217, .aload_n 0, 1), (4218, .iload 5, 2), (4220, .iconst 2, 1), (4221, .iadd, 1), (4222, .iaload, 1), (4223, .aload_n 0, 1), (4224, .iload 5, 2), (4226, .iconst 3, 1), (4227, .iadd, 1), (4228, .iaload, 1), (4229, .invokevirtual 400, 3), (4232, .istore 7, 2), (4234, .aload_n 2, 1), (4235, .invokevirtual 242, 3), (4238, .iload 6, 2), (4240, .if_icmp .eq 5, 3), (4243, .iconst 0, 1), (4244, .ireturn, 1), (4245, .iload 6, 2), (4247, .ifCond .ne 15, 3), (4250, .aload_n 3, 1), (4251, .iconst 0, 1), (4252, .laload, 1), (4253, .iload 7, 2), (4255, .i2l, 1), (4256, .lcmp, 1), (4257, .ifCond .eq 5, 3), (4260, .iconst 0, 1), (4261, .ireturn, 1), (4262, .goto 1292, 3)]
set_option maxRecDepth 20000 in
theorem U_Lc49 : okT m_L_law.2.1 t_Lc49 = true := dSt [(0, .aload_n 1, 1), (1, .aload_n 0, 1), (2, .iload 5, 2), (4, .iconst 1, 1), (5, .iadd, 1), (6, .iaload, 1), (7, .aload_n 0, 1), (8, .iload 5, 2), (10, .iconst 2, 1), (11, .iadd, 1), (12, .iaload, 1), (13, .aload_n 0, 1), (14, .iload 5, 2), (16, .iconst 3, 1), (17, .iadd, 1), (18, .iaload, 1), (19, .aload_n 3, 1), (20, .invokestatic 398, 3), (23, .istore 6, 2), (25, .aload_n 2, 1), (26, .aload_n 0, 1), (27, .iload 5, 2), (29, .iconst 1, 1), (30, .iadd, 1), (31, .iaload, 1), (32, .aload_n 0, 1), (33, .iload 5, 2), (35, .iconst 2, 1), (36, .iadd, 1), (37, .iaload, 1), (38, .aload_n 0, 1), (39, .iload 5, 2), (41, .iconst 3, 1), (42, .iadd, 1), (43, .iaload, 1), (44, .invokevirtual 400, 3), (47, .istore 7, 2), (49, .aload_n 2, 1), (50, .invokevirtual 242, 3), (53, .iload 6, 2), (55, .if_icmp .eq 5, 3), (58, .iconst 0, 1), (59, .ireturn, 1), (60, .iload 6, 2), (62, .ifCond .ne 15, 3), (65, .aload_n 3, 1), (66, .iconst 0, 1), (67, .laload, 1), (68, .iload 7, 2), (70, .i2l, 1), (71, .lcmp, 1), (72, .ifCond .eq 5, 3), (75, .iconst 0, 1), (76, .ireturn, 1), (77, .goto 1292, 3)] W_Lc49 (by decide +kernel) (by decide +kernel)
set_option maxRecDepth 20000 in
set_option maxHeartbeats 1000000 in
theorem LC_49 {G : xG} {d rc rs : Nat} {ex : Bool} {h : xH} {Q : xQ} {σ : St} {c0 : Int} {rr : Nat} {ss : Int} {l0 : Int} {d0 : UInt64} {i : Nat} (hL : G.2.2.2.2.2.1 < 2147483648) (hi : i + 10 ≤ G.2.2.2.2.2.1) (w : CW σ h) (wm : MX σ c0 rr ss h) (v : INV σ) (ho : h[143]? = some (cJ [l0])) (hod : h[144]? = some (cD [d0]))
    (M : ∀ (σ9 : St) (h9 : xH) (e9 : Bool) (c9 : Int) (r9 : Nat) (s9 : Int) (l9 : Int) (d9 : UInt64), INV σ9 → CW σ9 h9 → MX σ9 c9 r9 s9 h9 → h9[143]? = some (cJ [l9]) → h9[144]? = some (cD [d9]) → X G m_L_law (d + 10) rc rs e9 5554 [some (.ref 0), some (.ref 3), some (.ref 70), some (.ref 143), some (.ref 144), some (vi (i : Int)), none, none, none] [] h9 Q) : X G m_L_law (d + 10) (rc + 4) (rs + 24) ex 4185 [some (.ref 0), some (.ref 3), some (.ref 70), some (.ref 143), some (.ref 144), some (vi (i : Int)), none, none, none] [] h Q := by
  refine x_aload_n (dT U_Lc49 0 rfl) rfl ?_
  refine x_aload_n (dT U_Lc49 1 rfl) rfl ?_
  refine x_iload (dT U_Lc49 2 rfl) rfl ?_
  refine x_iconst (dT U_Lc49 3 rfl) ?_
  refine x_iadd (dT U_Lc49 4 rfl) ?_
  refine x_sld (i + 1) hL (dT U_Lc49 5 rfl) (by omega) (by omega) ?_
  refine x_aload_n (dT U_Lc49 6 rfl) rfl ?_
  refine x_iload (dT U_Lc49 7 rfl) rfl ?_
  refine x_iconst (dT U_Lc49 8 rfl) ?_
  refine x_iadd (dT U_Lc49 9 rfl) ?_
  refine x_sld (i + 2) hL (dT U_Lc49 10 rfl) (by omega) (by omega) ?_
  refine x_aload_n (dT U_Lc49 11 rfl) rfl ?_
  refine x_iload (dT U_Lc49 12 rfl) rfl ?_
  refine x_iconst (dT U_Lc49 13 rfl) ?_
  refine x_iadd (dT U_Lc49 14 rfl) ?_
  refine x_sld (i + 3) hL (dT U_Lc49 15 rfl) (by omega) (by omega) ?_
  refine x_aload_n (dT U_Lc49 16 rfl) rfl ?_
  refine x_invokestaticT (rc' := rc) (rs' := rs) (rc2 := 0 + 4) (rs2 := 0 + 24) (As := [_, _, _, _, _]) (st := _) M_L_bitTold K_L_398 (dT U_Lc49 17 rfl) rfl (by decide) rfl rfl (Nat.le_of_ble_eq_true rfl) rfl (by decide) (Nat.le_of_ble_eq_true rfl) (by omega) (by omega) ?_
  refine S_L_bitTold w v (xr_s _) (xr_s _) (xr_s _) ho (fun c1 => ?_) (fun c1 c2 => ?_) (fun c1 c2 c3 => ?_) (fun c1 c2 c3 z9 hz9 ez9 => ?_)
  · refine xRet_some ?_
    refine x_istore (ls' := [some (.ref _), some (.ref _), some (.ref _), some (.ref _), some (.ref _), some (vi _), some (vi _), none, none]) (dT U_Lc49 18 rfl) (by decide) rfl ?_
    refine x_aload_n (dT U_Lc49 19 rfl) rfl ?_
    refine x_aload_n (dT U_Lc49 20 rfl) rfl ?_
    refine x_iload (dT U_Lc49 21 rfl) rfl ?_
    refine x_iconst (dT U_Lc49 22 rfl) ?_
    refine x_iadd (dT U_Lc49 23 rfl) ?_
    refine x_sld (i + 1) hL (dT U_Lc49 24 rfl) (by omega) (by omega) ?_
    refine x_aload_n (dT U_Lc49 25 rfl) rfl ?_
    refine x_iload (dT U_Lc49 26 rfl) rfl ?_
    refine x_iconst (dT U_Lc49 27 rfl) ?_
    refine x_iadd (dT U_Lc49 28 rfl) ?_
    refine x_sld (i + 2) hL (dT U_Lc49 29 rfl) (by omega) (by omega) ?_
    refine x_aload_n (dT U_Lc49 30 rfl) rfl ?_
    refine x_iload (dT U_Lc49 31 rfl) rfl ?_
    refine x_iconst (dT U_Lc49 32 rfl) ?_
    refine x_iadd (dT U_Lc49 33 rfl) ?_
    refine x_sld (i + 3) hL (dT U_Lc49 34 rfl) (by omega) (by omega) ?_
    refine x_invokevirtual (rc' := rc) (rs' := rs) (rc2 := 0) (rs2 := 0) (As := [_, _, _]) (st := _) M_X11_bitTold K_L_400 (dT U_Lc49 35 rfl) rfl rfl (by decide) rfl rfl wm.c70 (Nat.le_of_ble_eq_true rfl) (by decide) rfl (Nat.le_of_ble_eq_true rfl) rfl (by decide) (Nat.le_of_ble_eq_true rfl) rfl rfl ?_
    refine S_X11_bitTold wm v (xr_s _) (xr_s _) (xr_s _) (fun m1 h3 z ag wx xz => ?_) (fun m1 m2 _ _ _ _ _ => absurd m1 c1) (fun m1 m2 m3 _ _ _ _ _ => absurd m1 c1) (fun m1 m2 m3 _ _ _ _ _ => absurd m1 c1)
    refine xRet_some ?_
    refine x_istore (ls' := [some (.ref _), some (.ref _), some (.ref _), some (.ref _), some (.ref _), some (vi _), some (vi _), some (vi _), none]) (dT U_Lc49 36 rfl) (by decide) rfl ?_
    refine x_aload_n (dT U_Lc49 37 rfl) rfl ?_
    refine x_invokevirtual (rc' := rc) (rs' := rs) (rc2 := 0) (rs2 := 0) (As := []) (st := _) M_X11_thrown K_L_242 (dT U_Lc49 38 rfl) rfl rfl (by decide) rfl rfl wx.c70 (Nat.le_of_ble_eq_true rfl) (by decide) rfl (Nat.le_of_ble_eq_true rfl) rfl (by decide) (Nat.le_of_ble_eq_true rfl) rfl rfl ?_
    refine S_X11_thrown wx ?_
    refine xRet_some ?_
    refine x_iload (dT U_Lc49 39 rfl) rfl ?_
    refine x_icmp_eq (tgt := 4245) (dT U_Lc49 40 rfl) (by decide) (by unfold xr; omega) (by unfold xr; omega) (fun c4240 => ?_) (fun c4240 => (by exfalso; omega))
    refine x_iload (dT U_Lc49 43 rfl) rfl ?_
    refine x_if_nej (tgt := 4262) (dT U_Lc49 44 rfl) (by decide) (by decide) ?_
    refine x_goto (tgt := 5554) (dT U_Lc49 54 rfl) (by decide) ?_
    refine x_drop ?_ (M _ _ _ _ _ _ _ _ v (w.out ag (by omega)) wx (ag.get ho (by omega)) (ag.get hod (by omega)))
    repeat (first | exact trivial | refine ⟨rfl, ?_⟩ | refine ⟨trivial, ?_⟩)
  · refine xRet_some ?_
    refine x_istore (ls' := [some (.ref _), some (.ref _), some (.ref _), some (.ref _), some (.ref _), some (vi _), some (vi _), none, none]) (dT U_Lc49 18 rfl) (by decide) rfl ?_
    refine x_aload_n (dT U_Lc49 19 rfl) rfl ?_
    refine x_aload_n (dT U_Lc49 20 rfl) rfl ?_
    refine x_iload (dT U_Lc49 21 rfl) rfl ?_
    refine x_iconst (dT U_Lc49 22 rfl) ?_
    refine x_iadd (dT U_Lc49 23 rfl) ?_
    refine x_sld (i + 1) hL (dT U_Lc49 24 rfl) (by omega) (by omega) ?_
    refine x_aload_n (dT U_Lc49 25 rfl) rfl ?_
    refine x_iload (dT U_Lc49 26 rfl) rfl ?_
    refine x_iconst (dT U_Lc49 27 rfl) ?_
    refine x_iadd (dT U_Lc49 28 rfl) ?_
    refine x_sld (i + 2) hL (dT U_Lc49 29 rfl) (by omega) (by omega) ?_
    refine x_aload_n (dT U_Lc49 30 rfl) rfl ?_
    refine x_iload (dT U_Lc49 31 rfl) rfl ?_
    refine x_iconst (dT U_Lc49 32 rfl) ?_
    refine x_iadd (dT U_Lc49 33 rfl) ?_
    refine x_sld (i + 3) hL (dT U_Lc49 34 rfl) (by omega) (by omega) ?_
    refine x_invokevirtual (rc' := rc) (rs' := rs) (rc2 := 0) (rs2 := 0) (As := [_, _, _]) (st := _) M_X11_bitTold K_L_400 (dT U_Lc49 35 rfl) rfl rfl (by decide) rfl rfl wm.c70 (Nat.le_of_ble_eq_true rfl) (by decide) rfl (Nat.le_of_ble_eq_true rfl) rfl (by decide) (Nat.le_of_ble_eq_true rfl) rfl rfl ?_
    refine S_X11_bitTold wm v (xr_s _) (xr_s _) (xr_s _) (fun m1 _ _ _ _ _ => absurd c1 m1) (fun m1 m2 h3 z ag wx xz => ?_) (fun m1 m2 m3 _ _ _ _ _ => absurd m2 c2) (fun m1 m2 m3 _ _ _ _ _ => absurd m2 c2)
    refine xRet_some ?_
    refine x_istore (ls' := [some (.ref _), some (.ref _), some (.ref _), some (.ref _), some (.ref _), some (vi _), some (vi _), some (vi _), none]) (dT U_Lc49 36 rfl) (by decide) rfl ?_
    refine x_aload_n (dT U_Lc49 37 rfl) rfl ?_
    refine x_invokevirtual (rc' := rc) (rs' := rs) (rc2 := 0) (rs2 := 0) (As := []) (st := _) M_X11_thrown K_L_242 (dT U_Lc49 38 rfl) rfl rfl (by decide) rfl rfl wx.c70 (Nat.le_of_ble_eq_true rfl) (by decide) rfl (Nat.le_of_ble_eq_true rfl) rfl (by decide) (Nat.le_of_ble_eq_true rfl) rfl rfl ?_
    refine S_X11_thrown wx ?_
    refine xRet_some ?_
    refine x_iload (dT U_Lc49 39 rfl) rfl ?_
    refine x_icmp_eq (tgt := 4245) (dT U_Lc49 40 rfl) (by decide) (by unfold xr; omega) (by unfold xr; omega) (fun c4240 => ?_) (fun c4240 => (by exfalso; omega))
    refine x_iload (dT U_Lc49 43 rfl) rfl ?_
    refine x_if_ne (tgt := 4262) (dT U_Lc49 44 rfl) (by decide) (by unfold xr; omega) (fun c4247 => ?_) (fun c4247 => (by exfalso; omega))
    refine x_goto (tgt := 5554) (dT U_Lc49 54 rfl) (by decide) ?_
    refine x_drop ?_ (M _ _ _ _ _ _ _ _ v (w.out ag (by omega)) wx (ag.get ho (by omega)) (ag.get hod (by omega)))
    repeat (first | exact trivial | refine ⟨rfl, ?_⟩ | refine ⟨trivial, ?_⟩)
  · refine xRet_some ?_
    refine x_istore (ls' := [some (.ref _), some (.ref _), some (.ref _), some (.ref _), some (.ref _), some (vi _), some (vi _), none, none]) (dT U_Lc49 18 rfl) (by decide) rfl ?_
    refine x_aload_n (dT U_Lc49 19 rfl) rfl ?_
    refine x_aload_n (dT U_Lc49 20 rfl) rfl ?_
    refine x_iload (dT U_Lc49 21 rfl) rfl ?_
    refine x_iconst (dT U_Lc49 22 rfl) ?_
    refine x_iadd (dT U_Lc49 23 rfl) ?_
    refine x_sld (i + 1) hL (dT U_Lc49 24 rfl) (by omega) (by omega) ?_
    refine x_aload_n (dT U_Lc49 25 rfl) rfl ?_
    refine x_iload (dT U_Lc49 26 rfl) rfl ?_
    refine x_iconst (dT U_Lc49 27 rfl) ?_
    refine x_iadd (dT U_Lc49 28 rfl) ?_
    refine x_sld (i + 2) hL (dT U_Lc49 29 rfl) (by omega) (by omega) ?_
    refine x_aload_n (dT U_Lc49 30 rfl) rfl ?_
    refine x_iload (dT U_Lc49 31 rfl) rfl ?_
    refine x_iconst (dT U_Lc49 32 rfl) ?_
    refine x_iadd (dT U_Lc49 33 rfl) ?_
    refine x_sld (i + 3) hL (dT U_Lc49 34 rfl) (by omega) (by omega) ?_
    refine x_invokevirtual (rc' := rc) (rs' := rs) (rc2 := 0) (rs2 := 0) (As := [_, _, _]) (st := _) M_X11_bitTold K_L_400 (dT U_Lc49 35 rfl) rfl rfl (by decide) rfl rfl wm.c70 (Nat.le_of_ble_eq_true rfl) (by decide) rfl (Nat.le_of_ble_eq_true rfl) rfl (by decide) (Nat.le_of_ble_eq_true rfl) rfl rfl ?_
    refine S_X11_bitTold wm v (xr_s _) (xr_s _) (xr_s _) (fun m1 _ _ _ _ _ => absurd c1 m1) (fun m1 m2 _ _ _ _ _ => absurd c2 m2) (fun m1 m2 m3 h3 z ag wx xz => ?_) (fun m1 m2 m3 _ _ _ _ _ => absurd m3 c3)
    refine xRet_some ?_
    refine x_istore (ls' := [some (.ref _), some (.ref _), some (.ref _), some (.ref _), some (.ref _), some (vi _), some (vi _), some (vi _), none]) (dT U_Lc49 36 rfl) (by decide) rfl ?_
    refine x_aload_n (dT U_Lc49 37 rfl) rfl ?_
    refine x_invokevirtual (rc' := rc) (rs' := rs) (rc2 := 0) (rs2 := 0) (As := []) (st := _) M_X11_thrown K_L_242 (dT U_Lc49 38 rfl) rfl rfl (by decide) rfl rfl wx.c70 (Nat.le_of_ble_eq_true rfl) (by decide) rfl (Nat.le_of_ble_eq_true rfl) rfl (by decide) (Nat.le_of_ble_eq_true rfl) rfl rfl ?_
    refine S_X11_thrown wx ?_
    refine xRet_some ?_
    refine x_iload (dT U_Lc49 39 rfl) rfl ?_
    refine x_icmp_eq (tgt := 4245) (dT U_Lc49 40 rfl) (by decide) (by unfold xr; omega) (by unfold xr; omega) (fun c4240 => ?_) (fun c4240 => (by exfalso; omega))
    refine x_iload (dT U_Lc49 43 rfl) rfl ?_
    refine x_if_ne (tgt := 4262) (dT U_Lc49 44 rfl) (by decide) (by unfold xr; omega) (fun c4247 => ?_) (fun c4247 => (by exfalso; omega))
    refine x_goto (tgt := 5554) (dT U_Lc49 54 rfl) (by decide) ?_
    refine x_drop ?_ (M _ _ _ _ _ _ _ _ v (w.out ag (by omega)) wx (ag.get ho (by omega)) (ag.get hod (by omega)))
    repeat (first | exact trivial | refine ⟨rfl, ?_⟩ | refine ⟨trivial, ?_⟩)
  · refine xRet_some ?_
    have wmx := wm.out (h2 := (h.set 143 (cJ [z9]))) (fun a ha => by rw [hset_fr (by omega)])
    refine x_istore (ls' := [some (.ref _), some (.ref _), some (.ref _), some (.ref _), some (.ref _), some (vi _), some (vi _), none, none]) (dT U_Lc49 18 rfl) (by decide) rfl ?_
    refine x_aload_n (dT U_Lc49 19 rfl) rfl ?_
    refine x_aload_n (dT U_Lc49 20 rfl) rfl ?_
    refine x_iload (dT U_Lc49 21 rfl) rfl ?_
    refine x_iconst (dT U_Lc49 22 rfl) ?_
    refine x_iadd (dT U_Lc49 23 rfl) ?_
    refine x_sld (i + 1) hL (dT U_Lc49 24 rfl) (by omega) (by omega) ?_
    refine x_aload_n (dT U_Lc49 25 rfl) rfl ?_
    refine x_iload (dT U_Lc49 26 rfl) rfl ?_
    refine x_iconst (dT U_Lc49 27 rfl) ?_
    refine x_iadd (dT U_Lc49 28 rfl) ?_
    refine x_sld (i + 2) hL (dT U_Lc49 29 rfl) (by omega) (by omega) ?_
    refine x_aload_n (dT U_Lc49 30 rfl) rfl ?_
    refine x_iload (dT U_Lc49 31 rfl) rfl ?_
    refine x_iconst (dT U_Lc49 32 rfl) ?_
    refine x_iadd (dT U_Lc49 33 rfl) ?_
    refine x_sld (i + 3) hL (dT U_Lc49 34 rfl) (by omega) (by omega) ?_
    refine x_invokevirtual (rc' := rc) (rs' := rs) (rc2 := 0) (rs2 := 0) (As := [_, _, _]) (st := _) M_X11_bitTold K_L_400 (dT U_Lc49 35 rfl) rfl rfl (by decide) rfl rfl wmx.c70 (Nat.le_of_ble_eq_true rfl) (by decide) rfl (Nat.le_of_ble_eq_true rfl) rfl (by decide) (Nat.le_of_ble_eq_true rfl) rfl rfl ?_
    refine S_X11_bitTold wmx v (xr_s _) (xr_s _) (xr_s _) (fun m1 _ _ _ _ _ => absurd c1 m1) (fun m1 m2 _ _ _ _ _ => absurd c2 m2) (fun m1 m2 m3 _ _ _ _ _ => absurd c3 m3) (fun m1 m2 m3 h3 r3 s3 ag wx => ?_)
    refine xRet_some ?_
    rw [ez9]
    refine x_istore (ls' := [some (.ref _), some (.ref _), some (.ref _), some (.ref _), some (.ref _), some (vi _), some (vi _), some (vi _), none]) (dT U_Lc49 36 rfl) (by decide) rfl ?_
    refine x_aload_n (dT U_Lc49 37 rfl) rfl ?_
    refine x_invokevirtual (rc' := rc) (rs' := rs) (rc2 := 0) (rs2 := 0) (As := []) (st := _) M_X11_thrown K_L_242 (dT U_Lc49 38 rfl) rfl rfl (by decide) rfl rfl wx.c70 (Nat.le_of_ble_eq_true rfl) (by decide) rfl (Nat.le_of_ble_eq_true rfl) rfl (by decide) (Nat.le_of_ble_eq_true rfl) rfl rfl ?_
    refine S_X11_thrown wx ?_
    refine xRet_some ?_
    refine x_iload (dT U_Lc49 39 rfl) rfl ?_
    refine x_icmp_eq (tgt := 4245) (dT U_Lc49 40 rfl) (by decide) (by unfold xr; omega) (by unfold xr; omega) (fun c4240 => ?_) (fun c4240 => (by exfalso; omega))
    refine x_iload (dT U_Lc49 43 rfl) rfl ?_
    refine x_if_nen (tgt := 4262) (dT U_Lc49 44 rfl) (by decide) (by decide) ?_
    refine x_aload_n (dT U_Lc49 45 rfl) rfl ?_
    refine x_iconst (dT U_Lc49 46 rfl) ?_
    refine x_laload 0 (dT U_Lc49 47 rfl) (ag.get (hset_eq ho) (by omega)) (Nat.le_of_ble_eq_true rfl) rfl (Nat.le_of_ble_eq_true rfl) (Nat.le_of_ble_eq_true rfl) ?_
    refine x_iload (dT U_Lc49 48 rfl) rfl ?_
    refine x_i2l (dT U_Lc49 49 rfl) hz9 ?_
    refine x_lcmp (dT U_Lc49 50 rfl) (xr_l hz9) (xr_l hz9) ?_
    refine x_if_eqj (tgt := 4262) (dT U_Lc49 51 rfl) (by decide) (xcmp_rf _) ?_
    refine x_goto (tgt := 5554) (dT U_Lc49 54 rfl) (by decide) ?_
    refine x_drop ?_ (M _ _ _ _ _ _ _ _ v ((w.out ((Ag.rf 143 143 h).set (by omega)) (by omega)).out ag (by omega)) wx (ag.get (hset_eq ho) (by omega)) (ag.get (hset_ne (by omega) hod) (by omega)))
    repeat (first | exact trivial | refine ⟨rfl, ?_⟩ | refine ⟨trivial, ?_⟩)
