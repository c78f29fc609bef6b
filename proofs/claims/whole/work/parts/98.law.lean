def B_Lc28 : ByteArray := .mk #[0x2b, 0x2a, 0x15, 0x05, 0x04, 0x60, 0x2e, 0x2a, 0x15, 0x05, 0x05, 0x60, 0x2e, 0x2a, 0x15, 0x05, 0x06, 0x60, 0x2e, 0x2d, 0xb8, 0x01, 0x4d, 0x36, 0x06, 0x2c, 0x2a, 0x15, 0x05, 0x04, 0x60, 0x2e, 0x2a, 0x15, 0x05, 0x05, 0x60, 0x2e, 0x2a, 0x15, 0x05, 0x06, 0x60, 0x2e, 0xb6, 0x01, 0x4f, 0x36, 0x07, 0x2c, 0xb6, 0x00, 0xf2, 0x15, 0x06, 0x9f, 0x00, 0x05, 0x03, 0xac, 0x15, 0x06, 0x9a, 0x00, 0x0f, 0x2d, 0x03, 0x2f, 0x15, 0x07, 0x85, 0x94, 0x99, 0x00, 0x05, 0x03, 0xac, 0xa7, 0x0b, 0xa1]
theorem W_Lc28 : sameFrom m_L_law.2.1 B_Lc28 2500 := sameFrom_of (by decide +kernel)
def t_Lc28 : List (Nat × Instr × Nat) := [(2500, .aload_n 1, 1), (2501, .aload_n 0, 1), (2502, .iload 5, 2), (2504, .iconst 1, 1), (2505, .iadd, 1), (2506, .iaload, 1), (2507, .aload_n 0, 1), (2508, .iload 5, 2), (2510, .iconst 2, 1), (2511, .iadd, 1), (2512, .iaload, 1), (2513, .aload_n 0, 1), (2514, .iload 5, 2), (2516, .iconst 3, 1), (2517, .iadd, 1), (2518, .iaload, 1), (2519, .aload_n 3, 1), (2520, .invokestatic 333, 3), (2523, .istore 6, 2), (2525, .aload_n 2, 1), (2526, .aload_n 0, 1), (2527, .iload 5, 2), (2529, .iconst 1, 1), (2530, .iadd, 1), (2531, .iaload, 1), (2532, .aload_n 0, 1), (2533, .iload 5, 2), (2535, .iconst 2, 1), (2536, .iadd, 1), (2537, .iaload, 1), (2538, .aload_n 0, 1), (2539, .iload 5, 2), (2541, .iconst 3, 1), (2542, .iadd, 1), (2543, .iaload, 1), (2544, .invokevirtual 335, 3), (2547, .istore 7, 2), (2549, .aload_n 2, 1), (2550, .invokevirtual 242, 3), (2553, .iload 6, 2), (2555, .if_icmp .eq 5, 3), (2558, .iconst 0, 1), (2559, .ireturn, 1), (2560, .iload 6, 2), (2562, .ifCond .ne 15, 3), (2565, .aload_n 3, 1), (2566, .iconst 0, 1), (2567, .laload, 1), (2568, .iload 7, 2), (2570, .i2l, 1), (2571, .lcmp, 1), (2572, .ifCond .eq 5, 3), (2575, .iconst 0, 1), (2576, .ireturn, 1), (2577, .goto 2977, 3)]
set_option maxRecDepth 20000 in
theorem U_Lc28 : okT m_L_law.2.1 t_Lc28 = true := dSt [(0, .aload_n 1, 1), (1, .aload_n 0, 1), (2, .iload 5, 2), (4, .iconst 1, 1), (5, .iadd, 1), (6, .iaload, 1), (7, .aload_n 0, 1), (8, .iload 5, 2), (10, .iconst 2, 1), (11, .iadd, 1), (12, .iaload, 1), (13, .aload_n 0, 1), (14, .iload 5, 2), (16, .iconst 3, 1), (17, .iadd, 1), (18, .iaload, 1), (19, .aload_n 3, 1), (20, .invokestatic 333, 3), (23, .istore 6, 2), (25, .aload_n 2, 1), (26, .aload_n 0, 1), (27, .iload 5, 2), (29, .iconst 1, 1), (30, .iadd, 1), (31, .iaload, 1), (32, .aload_n 0, 1), (33, .iload 5, 2), (35, .iconst 2, 1), (36, .iadd, 1), (37, .iaload, 1), (38, .aload_n 0, 1), (39, .iload 5, 2), (41, .iconst 3, 1), (42, .iadd, 1), (43, .iaload, 1), (44, .invokevirtual 335, 3), (47, .istore 7, 2), (49, .aload_n 2, 1), (50, .invokevirtual 242, 3), (53, .iload 6, 2), (55, .if_icmp .eq 5, 3), (58, .iconst 0, 1), (59, .ireturn, 1), (60, .iload 6, 2), (62, .ifCond .ne 15, 3), (65, .aload_n 3, 1), (66, .iconst 0, 1), (67, .laload, 1), (68, .iload 7, 2), (70, .i2l, 1), (71, .lcmp, 1), (72, .ifCond .eq 5, 3), (75, .iconst 0, 1), (76, .ireturn, 1), (77, .goto 2977, 3)] W_Lc28 (by decide +kernel) (by decide +kernel)
set_option maxRecDepth 20000 in
set_option maxHeartbeats 1000000 in
theorem LC_28 {G : xG} {d rc rs : Nat} {ex : Bool} {h : xH} {Q : xQ} {σ : St} {c0 : Int} {rr : Nat} {ss : Int} {l0 : Int} {d0 : UInt64} {i : Nat} (hL : G.2.2.2.2.2.1 < 2147483648) (hi : i + 10 ≤ G.2.2.2.2.2.1) (w : CW σ h) (wm : MX σ c0 rr ss h) (v : INV σ) (ho : h[143]? = some (cJ [l0])) (hod : h[144]? = some (cD [d0]))
    (M : ∀ (σ9 : St) (h9 : xH) (e9 : Bool) (c9 : Int) (r9 : Nat) (s9 : Int) (l9 : Int) (d9 : UInt64), INV σ9 → CW σ9 h9 → MX σ9 c9 r9 s9 h9 → h9[143]? = some (cJ [l9]) → h9[144]? = some (cD [d9]) → X G m_L_law (d + 10) rc rs e9 5554 [some (.ref 0), some (.ref 3), some (.ref 70), some (.ref 143), some (.ref 144), some (vi (i : Int)), none, none, none] [] h9 Q) : X G m_L_law (d + 10) (rc + 4) (rs + 24) ex 2500 [some (.ref 0), some (.ref 3), some (.ref 70), some (.ref 143), some (.ref 144), some (vi (i : Int)), none, none, none] [] h Q := by
  refine x_aload_n (dT U_Lc28 0 rfl) rfl ?_
  refine x_aload_n (dT U_Lc28 1 rfl) rfl ?_
  refine x_iload (dT U_Lc28 2 rfl) rfl ?_
  refine x_iconst (dT U_Lc28 3 rfl) ?_
  refine x_iadd (dT U_Lc28 4 rfl) ?_
  refine x_sld (i + 1) hL (dT U_Lc28 5 rfl) (by omega) (by omega) ?_
  refine x_aload_n (dT U_Lc28 6 rfl) rfl ?_
  refine x_iload (dT U_Lc28 7 rfl) rfl ?_
  refine x_iconst (dT U_Lc28 8 rfl) ?_
  refine x_iadd (dT U_Lc28 9 rfl) ?_
  refine x_sld (i + 2) hL (dT U_Lc28 10 rfl) (by omega) (by omega) ?_
  refine x_aload_n (dT U_Lc28 11 rfl) rfl ?_
  refine x_iload (dT U_Lc28 12 rfl) rfl ?_
  refine x_iconst (dT U_Lc28 13 rfl) ?_
  refine x_iadd (dT U_Lc28 14 rfl) ?_
  refine x_sld (i + 3) hL (dT U_Lc28 15 rfl) (by omega) (by omega) ?_
  refine x_aload_n (dT U_Lc28 16 rfl) rfl ?_
  refine x_invokestaticT (rc' := rc) (rs' := rs) (rc2 := 0 + 4) (rs2 := 0 + 24) (As := [_, _, _, _, _]) (st := _) M_L_open K_L_333 (dT U_Lc28 17 rfl) rfl (by decide) rfl rfl (Nat.le_of_ble_eq_true rfl) rfl (by decide) (Nat.le_of_ble_eq_true rfl) (by omega) (by omega) ?_
  refine S_L_open w v (xr_s _) (xr_s _) (xr_s _) ho (fun c1 => ?_) (fun c1 c2 => ?_) (fun c1 c2 c3 => ?_) (fun c1 c2 c3 h2 fc w2 z9 hz9 ez9 => ?_)
  · refine xRet_some ?_
    refine x_istore (ls' := [some (.ref _), some (.ref _), some (.ref _), some (.ref _), some (.ref _), some (vi _), some (vi _), none, none]) (dT U_Lc28 18 rfl) (by decide) rfl ?_
    refine x_aload_n (dT U_Lc28 19 rfl) rfl ?_
    refine x_aload_n (dT U_Lc28 20 rfl) rfl ?_
    refine x_iload (dT U_Lc28 21 rfl) rfl ?_
    refine x_iconst (dT U_Lc28 22 rfl) ?_
    refine x_iadd (dT U_Lc28 23 rfl) ?_
    refine x_sld (i + 1) hL (dT U_Lc28 24 rfl) (by omega) (by omega) ?_
    refine x_aload_n (dT U_Lc28 25 rfl) rfl ?_
    refine x_iload (dT U_Lc28 26 rfl) rfl ?_
    refine x_iconst (dT U_Lc28 27 rfl) ?_
    refine x_iadd (dT U_Lc28 28 rfl) ?_
    refine x_sld (i + 2) hL (dT U_Lc28 29 rfl) (by omega) (by omega) ?_
    refine x_aload_n (dT U_Lc28 30 rfl) rfl ?_
    refine x_iload (dT U_Lc28 31 rfl) rfl ?_
    refine x_iconst (dT U_Lc28 32 rfl) ?_
    refine x_iadd (dT U_Lc28 33 rfl) ?_
    refine x_sld (i + 3) hL (dT U_Lc28 34 rfl) (by omega) (by omega) ?_
    refine x_invokevirtual (rc' := rc) (rs' := rs) (rc2 := 0) (rs2 := 0) (As := [_, _, _]) (st := _) M_X11_open K_L_335 (dT U_Lc28 35 rfl) rfl rfl (by decide) rfl rfl wm.c70 (Nat.le_of_ble_eq_true rfl) (by decide) rfl (Nat.le_of_ble_eq_true rfl) rfl (by decide) (Nat.le_of_ble_eq_true rfl) rfl rfl ?_
    refine S_X11_open wm v (xr_s _) (xr_s _) (xr_s _) (fun m1 h3 z ag wx xz => ?_) (fun m1 m2 _ _ _ _ _ => absurd m1 c1) (fun m1 m2 m3 _ _ _ _ _ => absurd m1 c1) (fun m1 m2 m3 _ _ _ _ _ => absurd m1 c1)
    refine xRet_some ?_
    refine x_istore (ls' := [some (.ref _), some (.ref _), some (.ref _), some (.ref _), some (.ref _), some (vi _), some (vi _), some (vi _), none]) (dT U_Lc28 36 rfl) (by decide) rfl ?_
    refine x_aload_n (dT U_Lc28 37 rfl) rfl ?_
    refine x_invokevirtual (rc' := rc) (rs' := rs) (rc2 := 0) (rs2 := 0) (As := []) (st := _) M_X11_thrown K_L_242 (dT U_Lc28 38 rfl) rfl rfl (by decide) rfl rfl wx.c70 (Nat.le_of_ble_eq_true rfl) (by decide) rfl (Nat.le_of_ble_eq_true rfl) rfl (by decide) (Nat.le_of_ble_eq_true rfl) rfl rfl ?_
    refine S_X11_thrown wx ?_
    refine xRet_some ?_
    refine x_iload (dT U_Lc28 39 rfl) rfl ?_
    refine x_icmp_eq (tgt := 2560) (dT U_Lc28 40 rfl) (by decide) (by unfold xr; omega) (by unfold xr; omega) (fun c2555 => ?_) (fun c2555 => (by exfalso; omega))
    refine x_iload (dT U_Lc28 43 rfl) rfl ?_
    refine x_if_nej (tgt := 2577) (dT U_Lc28 44 rfl) (by decide) (by decide) ?_
    refine x_goto (tgt := 5554) (dT U_Lc28 54 rfl) (by decide) ?_
    refine x_drop ?_ (M _ _ _ _ _ _ _ _ v (w.out ag (by omega)) wx (ag.get ho (by omega)) (ag.get hod (by omega)))
    repeat (first | exact trivial | refine ⟨rfl, ?_⟩ | refine ⟨trivial, ?_⟩)
  · refine xRet_some ?_
    refine x_istore (ls' := [some (.ref _), some (.ref _), some (.ref _), some (.ref _), some (.ref _), some (vi _), some (vi _), none, none]) (dT U_Lc28 18 rfl) (by decide) rfl ?_
    refine x_aload_n (dT U_Lc28 19 rfl) rfl ?_
    refine x_aload_n (dT U_Lc28 20 rfl) rfl ?_
    refine x_iload (dT U_Lc28 21 rfl) rfl ?_
    refine x_iconst (dT U_Lc28 22 rfl) ?_
    refine x_iadd (dT U_Lc28 23 rfl) ?_
    refine x_sld (i + 1) hL (dT U_Lc28 24 rfl) (by omega) (by omega) ?_
    refine x_aload_n (dT U_Lc28 25 rfl) rfl ?_
    refine x_iload (dT U_Lc28 26 rfl) rfl ?_
    refine x_iconst (dT U_Lc28 27 rfl) ?_
    refine x_iadd (dT U_Lc28 28 rfl) ?_
    refine x_sld (i + 2) hL (dT U_Lc28 29 rfl) (by omega) (by omega) ?_
    refine x_aload_n (dT U_Lc28 30 rfl) rfl ?_
    refine x_iload (dT U_Lc28 31 rfl) rfl ?_
    refine x_iconst (dT U_Lc28 32 rfl) ?_
    refine x_iadd (dT U_Lc28 33 rfl) ?_
    refine x_sld (i + 3) hL (dT U_Lc28 34 rfl) (by omega) (by omega) ?_
    refine x_invokevirtual (rc' := rc) (rs' := rs) (rc2 := 0) (rs2 := 0) (As := [_, _, _]) (st := _) M_X11_open K_L_335 (dT U_Lc28 35 rfl) rfl rfl (by decide) rfl rfl wm.c70 (Nat.le_of_ble_eq_true rfl) (by decide) rfl (Nat.le_of_ble_eq_true rfl) rfl (by decide) (Nat.le_of_ble_eq_true rfl) rfl rfl ?_
    refine S_X11_open wm v (xr_s _) (xr_s _) (xr_s _) (fun m1 _ _ _ _ _ => absurd c1 m1) (fun m1 m2 h3 z ag wx xz => ?_) (fun m1 m2 m3 _ _ _ _ _ => absurd m2 c2) (fun m1 m2 m3 _ _ _ _ _ => absurd m2 c2)
    refine xRet_some ?_
    refine x_istore (ls' := [some (.ref _), some (.ref _), some (.ref _), some (.ref _), some (.ref _), some (vi _), some (vi _), some (vi _), none]) (dT U_Lc28 36 rfl) (by decide) rfl ?_
    refine x_aload_n (dT U_Lc28 37 rfl) rfl ?_
    refine x_invokevirtual (rc' := rc) (rs' := rs) (rc2 := 0) (rs2 := 0) (As := []) (st := _) M_X11_thrown K_L_242 (dT U_Lc28 38 rfl) rfl rfl (by decide) rfl rfl wx.c70 (Nat.le_of_ble_eq_true rfl) (by decide) rfl (Nat.le_of_ble_eq_true rfl) rfl (by decide) (Nat.le_of_ble_eq_true rfl) rfl rfl ?_
    refine S_X11_thrown wx ?_
    refine xRet_some ?_
    refine x_iload (dT U_Lc28 39 rfl) rfl ?_
    refine x_icmp_eq (tgt := 2560) (dT U_Lc28 40 rfl) (by decide) (by unfold xr; omega) (by unfold xr; omega) (fun c2555 => ?_) (fun c2555 => (by exfalso; omega))
    refine x_iload (dT U_Lc28 43 rfl) rfl ?_
    refine x_if_ne (tgt := 2577) (dT U_Lc28 44 rfl) (by decide) (by unfold xr; omega) (fun c2562 => ?_) (fun c2562 => (by exfalso; omega))
    refine x_goto (tgt := 5554) (dT U_Lc28 54 rfl) (by decide) ?_
    refine x_drop ?_ (M _ _ _ _ _ _ _ _ v (w.out ag (by omega)) wx (ag.get ho (by omega)) (ag.get hod (by omega)))
    repeat (first | exact trivial | refine ⟨rfl, ?_⟩ | refine ⟨trivial, ?_⟩)
  · refine xRet_some ?_
    refine x_istore (ls' := [some (.ref _), some (.ref _), some (.ref _), some (.ref _), some (.ref _), some (vi _), some (vi _), none, none]) (dT U_Lc28 18 rfl) (by decide) rfl ?_
    refine x_aload_n (dT U_Lc28 19 rfl) rfl ?_
    refine x_aload_n (dT U_Lc28 20 rfl) rfl ?_
    refine x_iload (dT U_Lc28 21 rfl) rfl ?_
    refine x_iconst (dT U_Lc28 22 rfl) ?_
    refine x_iadd (dT U_Lc28 23 rfl) ?_
    refine x_sld (i + 1) hL (dT U_Lc28 24 rfl) (by omega) (by omega) ?_
    refine x_aload_n (dT U_Lc28 25 rfl) rfl ?_
    refine x_iload (dT U_Lc28 26 rfl) rfl ?_
    refine x_iconst (dT U_Lc28 27 rfl) ?_
    refine x_iadd (dT U_Lc28 28 rfl) ?_
    refine x_sld (i + 2) hL (dT U_Lc28 29 rfl) (by omega) (by omega) ?_
    refine x_aload_n (dT U_Lc28 30 rfl) rfl ?_
    refine x_iload (dT U_Lc28 31 rfl) rfl ?_
    refine x_iconst (dT U_Lc28 32 rfl) ?_
    refine x_iadd (dT U_Lc28 33 rfl) ?_
    refine x_sld (i + 3) hL (dT U_Lc28 34 rfl) (by omega) (by omega) ?_
    refine x_invokevirtual (rc' := rc) (rs' := rs) (rc2 := 0) (rs2 := 0) (As := [_, _, _]) (st := _) M_X11_open K_L_335 (dT U_Lc28 35 rfl) rfl rfl (by decide) rfl rfl wm.c70 (Nat.le_of_ble_eq_true rfl) (by decide) rfl (Nat.le_of_ble_eq_true rfl) rfl (by decide) (Nat.le_of_ble_eq_true rfl) rfl rfl ?_
    refine S_X11_open wm v (xr_s _) (xr_s _) (xr_s _) (fun m1 _ _ _ _ _ => absurd c1 m1) (fun m1 m2 _ _ _ _ _ => absurd c2 m2) (fun m1 m2 m3 h3 z ag wx xz => ?_) (fun m1 m2 m3 _ _ _ _ _ => absurd m3 c3)
    refine xRet_some ?_
    refine x_istore (ls' := [some (.ref _), some (.ref _), some (.ref _), some (.ref _), some (.ref _), some (vi _), some (vi _), some (vi _), none]) (dT U_Lc28 36 rfl) (by decide) rfl ?_
    refine x_aload_n (dT U_Lc28 37 rfl) rfl ?_
    refine x_invokevirtual (rc' := rc) (rs' := rs) (rc2 := 0) (rs2 := 0) (As := []) (st := _) M_X11_thrown K_L_242 (dT U_Lc28 38 rfl) rfl rfl (by decide) rfl rfl wx.c70 (Nat.le_of_ble_eq_true rfl) (by decide) rfl (Nat.le_of_ble_eq_true rfl) rfl (by decide) (Nat.le_of_ble_eq_true rfl) rfl rfl ?_
    refine S_X11_thrown wx ?_
    refine xRet_some ?_
    refine x_iload (dT U_Lc28 39 rfl) rfl ?_
    refine x_icmp_eq (tgt := 2560) (dT U_Lc28 40 rfl) (by decide) (by unfold xr; omega) (by unfold xr; omega) (fun c2555 => ?_) (fun c2555 => (by exfalso; omega))
    refine x_iload (dT U_Lc28 43 rfl) rfl ?_
    refine x_if_ne (tgt := 2577) (dT U_Lc28 44 rfl) (by decide) (by unfold xr; omega) (fun c2562 => ?_) (fun c2562 => (by exfalso; omega))
    refine x_goto (tgt := 5554) (dT U_Lc28 54 rfl) (by decide) ?_
    refine x_drop ?_ (M _ _ _ _ _ _ _ _ v (w.out ag (by omega)) wx (ag.get ho (by omega)) (ag.get hod (by omega)))
    repeat (first | exact trivial | refine ⟨rfl, ?_⟩ | refine ⟨trivial, ?_⟩)
  · refine xRet_some ?_
    have wmx := wm.out (h2 := (h2.set 143 (cJ [z9]))) (fun a ha => by rw [hset_fr (by omega)]; exact fc.2 a (by omega))
    refine x_istore (ls' := [some (.ref _), some (.ref _), some (.ref _), some (.ref _), some (.ref _), some (vi _), some (vi _), none, none]) (dT U_Lc28 18 rfl) (by decide) rfl ?_
    refine x_aload_n (dT U_Lc28 19 rfl) rfl ?_
    refine x_aload_n (dT U_Lc28 20 rfl) rfl ?_
    refine x_iload (dT U_Lc28 21 rfl) rfl ?_
    refine x_iconst (dT U_Lc28 22 rfl) ?_
    refine x_iadd (dT U_Lc28 23 rfl) ?_
    refine x_sld (i + 1) hL (dT U_Lc28 24 rfl) (by omega) (by omega) ?_
    refine x_aload_n (dT U_Lc28 25 rfl) rfl ?_
    refine x_iload (dT U_Lc28 26 rfl) rfl ?_
    refine x_iconst (dT U_Lc28 27 rfl) ?_
    refine x_iadd (dT U_Lc28 28 rfl) ?_
    refine x_sld (i + 2) hL (dT U_Lc28 29 rfl) (by omega) (by omega) ?_
    refine x_aload_n (dT U_Lc28 30 rfl) rfl ?_
    refine x_iload (dT U_Lc28 31 rfl) rfl ?_
    refine x_iconst (dT U_Lc28 32 rfl) ?_
    refine x_iadd (dT U_Lc28 33 rfl) ?_
    refine x_sld (i + 3) hL (dT U_Lc28 34 rfl) (by omega) (by omega) ?_
    refine x_invokevirtual (rc' := rc) (rs' := rs) (rc2 := 0) (rs2 := 0) (As := [_, _, _]) (st := _) M_X11_open K_L_335 (dT U_Lc28 35 rfl) rfl rfl (by decide) rfl rfl wmx.c70 (Nat.le_of_ble_eq_true rfl) (by decide) rfl (Nat.le_of_ble_eq_true rfl) rfl (by decide) (Nat.le_of_ble_eq_true rfl) rfl rfl ?_
    refine S_X11_open wmx v (xr_s _) (xr_s _) (xr_s _) (fun m1 _ _ _ _ _ => absurd c1 m1) (fun m1 m2 _ _ _ _ _ => absurd c2 m2) (fun m1 m2 m3 _ _ _ _ _ => absurd c3 m3) (fun m1 m2 m3 h3 r3 s3 ag wx => ?_)
    refine xRet_some ?_
    rw [ez9]
    refine x_istore (ls' := [some (.ref _), some (.ref _), some (.ref _), some (.ref _), some (.ref _), some (vi _), some (vi _), some (vi _), none]) (dT U_Lc28 36 rfl) (by decide) rfl ?_
    refine x_aload_n (dT U_Lc28 37 rfl) rfl ?_
    refine x_invokevirtual (rc' := rc) (rs' := rs) (rc2 := 0) (rs2 := 0) (As := []) (st := _) M_X11_thrown K_L_242 (dT U_Lc28 38 rfl) rfl rfl (by decide) rfl rfl wx.c70 (Nat.le_of_ble_eq_true rfl) (by decide) rfl (Nat.le_of_ble_eq_true rfl) rfl (by decide) (Nat.le_of_ble_eq_true rfl) rfl rfl ?_
    refine S_X11_thrown wx ?_
    refine xRet_some ?_
    refine x_iload (dT U_Lc28 39 rfl) rfl ?_
    refine x_icmp_eq (tgt := 2560) (dT U_Lc28 40 rfl) (by decide) (by unfold xr; omega) (by unfold xr; omega) (fun c2555 => ?_) (fun c2555 => (by exfalso; omega))
    refine x_iload (dT U_Lc28 43 rfl) rfl ?_
    refine x_if_nen (tgt := 2577) (dT U_Lc28 44 rfl) (by decide) (by decide) ?_
    refine x_aload_n (dT U_Lc28 45 rfl) rfl ?_
    refine x_iconst (dT U_Lc28 46 rfl) ?_
    refine x_laload 0 (dT U_Lc28 47 rfl) (ag.get (hset_eq (fc.get ho (by omega))) (by omega)) (Nat.le_of_ble_eq_true rfl) rfl (Nat.le_of_ble_eq_true rfl) (Nat.le_of_ble_eq_true rfl) ?_
    refine x_iload (dT U_Lc28 48 rfl) rfl ?_
    refine x_i2l (dT U_Lc28 49 rfl) hz9 ?_
    refine x_lcmp (dT U_Lc28 50 rfl) (xr_l hz9) (xr_l hz9) ?_
    refine x_if_eqj (tgt := 2577) (dT U_Lc28 51 rfl) (by decide) (xcmp_rf _) ?_
    refine x_goto (tgt := 5554) (dT U_Lc28 54 rfl) (by decide) ?_
    refine x_drop ?_ (M _ _ _ _ _ _ _ _ (IV_open v c1 c2 c3) ((w2.out ((Ag.rf 143 143 h2).set (by omega)) (by omega)).out ag (by omega)) wx (ag.get (hset_eq (fc.get ho (by omega))) (by omega)) (ag.get (hset_ne (by omega) (fc.get hod (by omega))) (by omega)))
    repeat (first | exact trivial | refine ⟨rfl, ?_⟩ | refine ⟨trivial, ?_⟩)

def B_Lc29 : ByteArray := .mk #[0x2b, 0x2a, 0x15, 0x05, 0x04, 0x60, 0x2e, 0x2a, 0x15, 0x05, 0x05, 0x60, 0x2e, 0x2a, 0x15, 0x05, 0x06, 0x60, 0x2e, 0x2d, 0xb8, 0x01, 0x50, 0x36, 0x06, 0x2c, 0x2a, 0x15, 0x05, 0x04, 0x60, 0x2e, 0x2a, 0x15, 0x05, 0x05, 0x60, 0x2e, 0x2a, 0x15, 0x05, 0x06, 0x60, 0x2e, 0xb6, 0x01, 0x52, 0x36, 0x07, 0x2c, 0xb6, 0x00, 0xf2, 0x15, 0x06, 0x9f, 0x00, 0x05, 0x03, 0xac, 0x15, 0x06, 0x9a, 0x00, 0x0f, 0x2d, 0x03, 0x2f, 0x15, 0x07, 0x85, 0x94, 0x99, 0x00, 0x05, 0x03, 0xac, 0xa7, 0x0b, 0x51]
theorem W_Lc29 : sameFrom m_L_law.2.1 B_Lc29 2580 := sameFrom_of (by decide +kernel)
def t_Lc29 : List (Nat × Instr × Nat) := [(2580, .aload_n 1, 1), (2581, .aload_n 0, 1), (2582, .iload 5, 2), (2584, .iconst 1, 1), (2585, .iadd, 1), (2586, .iaload, 1), (2587, .aload_n 0, 1), (2588, .iload 5, 2), (2590, .iconst 2, 1), (2591, .iadd, 1), (2592, .iaload, 1), (2593, .aload_n 0, 1), (2594, .iload 5, 2), (2596, .iconst 3, 1), (2597, .iadd, 1), (2598, .iaload, 1), (2599, .aload_n 3, 1), (2600, .invokestatic 336, 3), (2603, .istore 6, 2), (2605, .aload_n 2, 1), (2606, .aload_n 0, 1), (2607, .iload 5, 2), (2609, .iconst 1, 1), (2610, .iadd, 1), (2611, .iaload, 1), (2612, .aload_n 0, 1), (2613, .iload 5, 2), (2615, .iconst 2, 1), (2616, .iadd, 1), (2617, .iaload, 1), (2618, .aload_n 0, 1), (2619, .iload 5, 2), (2621, .iconst 3, 1), (2622, .iadd, 1), (2623, .iaload, 1), (2624, .invokevirtual 338, 3), (2627, .istore 7, 2), (2629, .aload_n 2, 1), (2630, .invokevirtual 242, 3), (2633, .iload 6, 2), (2635, .if_icmp .eq 5, 3), (2638, .iconst 0, 1), (2639, .ireturn, 1), (2640, .iload 6, 2), (2642, .ifCond .ne 15, 3), (2645, .aload_n 3, 1), (2646, .iconst 0, 1), (2647, .laload, 1), (2648, .iload 7, 2), (2650, .i2l, 1), (2651, .lcmp, 1), (2652, .ifCond .eq 5, 3), (2655, .iconst 0, 1), (2656, .ireturn, 1), (2657, .goto 2897, 3)]
set_option maxRecDepth 20000 in
theorem U_Lc29 : okT m_L_law.2.1 t_Lc29 = true := dSt [(0, .aload_n 1, 1), (1, .aload_n 0, 1), (2, .iload 5, 2), (4, .iconst 1, 1), (5, .iadd, 1), (6, .iaload, 1), (7, .aload_n 0, 1), (8, .iload 5, 2), (10, .iconst 2, 1), (11, .iadd, 1), (12, .iaload, 1), (13, .aload_n 0, 1), (14, .iload 5, 2), (16, .iconst 3, 1), (17, .iadd, 1), (18, .iaload, 1), (19, .aload_n 3, 1), (20, .invokestatic 336, 3), (23, .istore 6, 2), (25, .aload_n 2, 1), (26, .aload_n 0, 1), (27, .iload 5, 2), (29, .iconst 1, 1), (30, .iadd, 1), (31, .iaload, 1), (32, .aload_n 0, 1), (33, .iload 5, 2), (35, .iconst 2, 1), (36, .iadd, 1), (37, .iaload, 1), (38, .aload_n 0, 1), (39, .iload 5, 2), (41, .iconst 3, 1), (42, .iadd, 1), (43, .iaload, 1), (44, .invokevirtual 338, 3), (47, .istore 7, 2), (49, .aload_n 2, 1), (50, .invokevirtual 242, 3), (53, .iload 6, 2), (55, .if_icmp .eq 5, 3), (58, .iconst 0, 1), (59, .ireturn, 1), (60, .iload 6, 2), (62, .ifCond .ne 15, 3), (65, .aload_n 3, 1), (66, .iconst 0, 1), (67, .laload, 1), (68, .iload 7, 2), (70, .i2l, 1), (71, .lcmp, 1), (72, .ifCond .eq 5, 3), (75, .iconst 0, 1), (76, .ireturn, 1), (77, .goto 2897, 3)] W_Lc29 (by decide +kernel) (by decide +kernel)
set_option maxRecDepth 20000 in
set_option maxHeartbeats 1000000 in
theorem LC_29 {G : xG} {d rc rs : Nat} {ex : Bool} {h : xH} {Q : xQ} {σ : St} {c0 : Int} {rr : Nat} {ss : Int} {l0 : Int} {d0 : UInt64} {i : Nat} (hL : G.2.2.2.2.2.1 < 2147483648) (hi : i + 10 ≤ G.2.2.2.2.2.1) (w : CW σ h) (wm : MX σ c0 rr ss h) (v : INV σ) (ho : h[143]? = some (cJ [l0])) (hod : h[144]? = some (cD [d0]))
    (M : ∀ (σ9 : St) (h9 : xH) (e9 : Bool) (c9 : Int) (r9 : Nat) (s9 : Int) (l9 : Int) (d9 : UInt64), INV σ9 → CW σ9 h9 → MX σ9 c9 r9 s9 h9 → h9[143]? = some (cJ [l9]) → h9[144]? = some (cD [d9]) → X G m_L_law (d + 10) rc rs e9 5554 [some (.ref 0), some (.ref 3), some (.ref 70), some (.ref 143), some (.ref 144), some (vi (i : Int)), none, none, none] [] h9 Q) : X G m_L_law (d + 10) (rc + 4) (rs + 24) ex 2580 [some (.ref 0), some (.ref 3), some (.ref 70), some (.ref 143), some (.ref 144), some (vi (i : Int)), none, none, none] [] h Q := by
  refine x_aload_n (dT U_Lc29 0 rfl) rfl ?_
  refine x_aload_n (dT U_Lc29 1 rfl) rfl ?_
  refine x_iload (dT U_Lc29 2 rfl) rfl ?_
  refine x_iconst (dT U_Lc29 3 rfl) ?_
  refine x_iadd (dT U_Lc29 4 rfl) ?_
  refine x_sld (i + 1) hL (dT U_Lc29 5 rfl) (by omega) (by omega) ?_
  refine x_aload_n (dT U_Lc29 6 rfl) rfl ?_
  refine x_iload (dT U_Lc29 7 rfl) rfl ?_
  refine x_iconst (dT U_Lc29 8 rfl) ?_
  refine x_iadd (dT U_Lc29 9 rfl) ?_
  refine x_sld (i + 2) hL (dT U_Lc29 10 rfl) (by omega) (by omega) ?_
  refine x_aload_n (dT U_Lc29 11 rfl) rfl ?_
  refine x_iload (dT U_Lc29 12 rfl) rfl ?_
  refine x_iconst (dT U_Lc29 13 rfl) ?_
  refine x_iadd (dT U_Lc29 14 rfl) ?_
  refine x_sld (i + 3) hL (dT U_Lc29 15 rfl) (by omega) (by omega) ?_
  refine x_aload_n (dT U_Lc29 16 rfl) rfl ?_
  refine x_invokestaticT (rc' := rc) (rs' := rs) (rc2 := 0 + 4) (rs2 := 0 + 24) (As := [_, _, _, _, _]) (st := _) M_L_say K_L_336 (dT U_Lc29 17 rfl) rfl (by decide) rfl rfl (Nat.le_of_ble_eq_true rfl) rfl (by decide) (Nat.le_of_ble_eq_true rfl) (by omega) (by omega) ?_
  refine S_L_say w v (xr_s _) (xr_s _) (xr_s _) ho (fun c1 => ?_) (fun c1 c2 => ?_) (fun c1 c2 c3 => ?_) (fun c1 c2 c3 h2 fc w2 z9 hz9 ez9 => ?_)
  · refine xRet_some ?_
    refine x_istore (ls' := [some (.ref _), some (.ref _), some (.ref _), some (.ref _), some (.ref _), some (vi _), some (vi _), none, none]) (dT U_Lc29 18 rfl) (by decide) rfl ?_
    refine x_aload_n (dT U_Lc29 19 rfl) rfl ?_
    refine x_aload_n (dT U_Lc29 20 rfl) rfl ?_
    refine x_iload (dT U_Lc29 21 rfl) rfl ?_
    refine x_iconst (dT U_Lc29 22 rfl) ?_
    refine x_iadd (dT U_Lc29 23 rfl) ?_
    refine x_sld (i + 1) hL (dT U_Lc29 24 rfl) (by omega) (by omega) ?_
    refine x_aload_n (dT U_Lc29 25 rfl) rfl ?_
    refine x_iload (dT U_Lc29 26 rfl) rfl ?_
    refine x_iconst (dT U_Lc29 27 rfl) ?_
    refine x_iadd (dT U_Lc29 28 rfl) ?_
    refine x_sld (i + 2) hL (dT U_Lc29 29 rfl) (by omega) (by omega) ?_
    refine x_aload_n (dT U_Lc29 30 rfl) rfl ?_
    refine x_iload (dT U_Lc29 31 rfl) rfl ?_
    refine x_iconst (dT U_Lc29 32 rfl) ?_
    refine x_iadd (dT U_Lc29 33 rfl) ?_
    refine x_sld (i + 3) hL (dT U_Lc29 34 rfl) (by omega) (by omega) ?_
    refine x_invokevirtual (rc' := rc) (rs' := rs) (rc2 := 0) (rs2 := 0) (As := [_, _, _]) (st := _) M_X11_say K_L_338 (dT U_Lc29 35 rfl) rfl rfl (by decide) rfl rfl wm.c70 (Nat.le_of_ble_eq_true rfl) (by decide) rfl (Nat.le_of_ble_eq_true rfl) rfl (by decide) (Nat.le_of_ble_eq_true rfl) rfl rfl ?_
    refine S_X11_say wm v (xr_s _) (xr_s _) (xr_s _) (fun m1 h3 z ag wx xz => ?_) (fun m1 m2 _ _ _ _ _ => absurd m1 c1) (fun m1 m2 m3 _ _ _ _ _ => absurd m1 c1) (fun m1 m2 m3 _ _ _ _ _ => absurd m1 c1)
    refine xRet_some ?_
    refine x_istore (ls' := [some (.ref _), some (.ref _), some (.ref _), some (.ref _), some (.ref _), some (vi _), some (vi _), some (vi _), none]) (dT U_Lc29 36 rfl) (by decide) rfl ?_
    refine x_aload_n (dT U_Lc29 37 rfl) rfl ?_
    refine x_invokevirtual (rc' := rc) (rs' := rs) (rc2 := 0) (rs2 := 0) (As := []) (st := _) M_X11_thrown K_L_242 (dT U_Lc29 38 rfl) rfl rfl (by decide) rfl rfl wx.c70 (Nat.le_of_ble_eq_true rfl) (by decide) rfl (Nat.le_of_ble_eq_true rfl) rfl (by decide) (Nat.le_of_ble_eq_true rfl) rfl rfl ?_
    refine S_X11_thrown wx ?_
    refine xRet_some ?_
    refine x_iload (dT U_Lc29 39 rfl) rfl ?_
    refine x_icmp_eq (tgt := 2640) (dT U_Lc29 40 rfl) (by decide) (by unfold xr; omega) (by unfold xr; omega) (fun c2635 => ?_) (fun c2635 => (by exfalso; omega))
    refine x_iload (dT U_Lc29 43 rfl) rfl ?_
    refine x_if_nej (tgt := 2657) (dT U_Lc29 44 rfl) (by decide) (by decide) ?_
    refine x_goto (tgt := 5554) (dT U_Lc29 54 rfl) (by decide) ?_
    refine x_drop ?_ (M _ _ _ _ _ _ _ _ v (w.out ag (by omega)) wx (ag.get ho (by omega)) (ag.get hod (by omega)))
    repeat (first | exact trivial | refine ⟨rfl, ?_⟩ | refine ⟨trivial, ?_⟩)
  · refine xRet_some ?_
    refine x_istore (ls' := [some (.ref _), some (.ref _), some (.ref _), some (.ref _), some (.ref _), some (vi _), some (vi _), none, none]) (dT U_Lc29 18 rfl) (by decide) rfl ?_
    refine x_aload_n (dT U_Lc29 19 rfl) rfl ?_
    refine x_aload_n (dT U_Lc29 20 rfl) rfl ?_
    refine x_iload (dT U_Lc29 21 rfl) rfl ?_
    refine x_iconst (dT U_Lc29 22 rfl) ?_
    refine x_iadd (dT U_Lc29 23 rfl) ?_
    refine x_sld (i + 1) hL (dT U_Lc29 24 rfl) (by omega) (by omega) ?_
    refine x_aload_n (dT U_Lc29 25 rfl) rfl ?_
    refine x_iload (dT U_Lc29 26 rfl) rfl ?_
    refine x_iconst (dT U_Lc29 27 rfl) ?_
    refine x_iadd (dT U_Lc29 28 rfl) ?_
    refine x_sld (i + 2) hL (dT U_Lc29 29 rfl) (by omega) (by omega) ?_
    refine x_aload_n (dT U_Lc29 30 rfl) rfl ?_
    refine x_iload (dT U_Lc29 31 rfl) rfl ?_
    refine x_iconst (dT U_Lc29 32 rfl) ?_
    refine x_iadd (dT U_Lc29 33 rfl) ?_
    refine x_sld (i + 3) hL (dT U_Lc29 34 rfl) (by omega) (by omega) ?_
    refine x_invokevirtual (rc' := rc) (rs' := rs) (rc2 := 0) (rs2 := 0) (As := [_, _, _]) (st := _) M_X11_say K_L_338 (dT U_Lc29 35 rfl) rfl rfl (by decide) rfl rfl wm.c70 (Nat.le_of_ble_eq_true rfl) (by decide) rfl (Nat.le_of_ble_eq_true rfl) rfl (by decide) (Nat.le_of_ble_eq_true rfl) rfl rfl ?_
    refine S_X11_say wm v (xr_s _) (xr_s _) (xr_s _) (fun m1 _ _ _ _ _ => absurd c1 m1) (fun m1 m2 h3 z ag wx xz => ?_) (fun m1 m2 m3 _ _ _ _ _ => absurd m2 c2) (fun m1 m2 m3 _ _ _ _ _ => absurd m2 c2)
    refine xRet_some ?_
    refine x_istore (ls' := [some (.ref _), some (.ref _), some (.ref _), some (.ref _), some (.ref _), some (vi _), some (vi _), some (vi _), none]) (dT U_Lc29 36 rfl) (by decide) rfl ?_
    refine x_aload_n (dT U_Lc29 37 rfl) rfl ?_
    refine x_invokevirtual (rc' := rc) (rs' := rs) (rc2 := 0) (rs2 := 0) (As := []) (st := _) M_X11_thrown K_L_242 (dT U_Lc29 38 rfl) rfl rfl (by decide) rfl rfl wx.c70 (Nat.le_of_ble_eq_true rfl) (by decide) rfl (Nat.le_of_ble_eq_true rfl) rfl (by decide) (Nat.le_of_ble_eq_true rfl) rfl rfl ?_
    refine S_X11_thrown wx ?_
    refine xRet_some ?_
    refine x_iload (dT U_Lc29 39 rfl) rfl ?_
    refine x_icmp_eq (tgt := 2640) (dT U_Lc29 40 rfl) (by decide) (by unfold xr; omega) (by unfold xr; omega) (fun c2635 => ?_) (fun c2635 => (by exfalso; omega))
    refine x_iload (dT U_Lc29 43 rfl) rfl ?_
    refine x_if_ne (tgt := 2657) (dT U_Lc29 44 rfl) (by decide) (by unfold xr; omega) (fun c2642 => ?_) (fun c2642 => (by exfalso; omega))
    refine x_goto (tgt := 5554) (dT U_Lc29 54 rfl) (by decide) ?_
    refine x_drop ?_ (M _ _ _ _ _ _ _ _ v (w.out ag (by omega)) wx (ag.get ho (by omega)) (ag.get hod (by omega)))
    repeat (first | exact trivial | refine ⟨rfl, ?_⟩ | refine ⟨trivial, ?_⟩)
  · refine xRet_some ?_
    refine x_istore (ls' := [some (.ref _), some (.ref _), some (.ref _), some (.ref _), some (.ref _), some (vi _), some (vi _), none, none]) (dT U_Lc29 18 rfl) (by decide) rfl ?_
    refine x_aload_n (dT U_Lc29 19 rfl) rfl ?_
    refine x_aload_n (dT U_Lc29 20 rfl) rfl ?_
    refine x_iload (dT U_Lc29 21 rfl) rfl ?_
    refine x_iconst (dT U_Lc29 22 rfl) ?_
    refine x_iadd (dT U_Lc29 23 rfl) ?_
    refine x_sld (i + 1) hL (dT U_Lc29 24 rfl) (by omega) (by omega) ?_
    refine x_aload_n (dT U_Lc29 25 rfl) rfl ?_
    refine x_iload (dT U_Lc29 26 rfl) rfl ?_
    refine x_iconst (dT U_Lc29 27 rfl) ?_
    refine x_iadd (dT U_Lc29 28 rfl) ?_
    refine x_sld (i + 2) hL (dT U_Lc29 29 rfl) (by omega) (by omega) ?_
    refine x_aload_n (dT U_Lc29 30 rfl) rfl ?_
    refine x_iload (dT U_Lc29 31 rfl) rfl ?_
    refine x_iconst (dT U_Lc29 32 rfl) ?_
    refine x_iadd (dT U_Lc29 33 rfl) ?_
    refine x_sld (i + 3) hL (dT U_Lc29 34 rfl) (by omega) (by omega) ?_
    refine x_invokevirtual (rc' := rc) (rs' := rs) (rc2 := 0) (rs2 := 0) (As := [_, _, _]) (st := _) M_X11_say K_L_338 (dT U_Lc29 35 rfl) rfl rfl (by decide) rfl rfl wm.c70 (Nat.le_of_ble_eq_true rfl) (by decide) rfl (Nat.le_of_ble_eq_true rfl) rfl (by decide) (Nat.le_of_ble_eq_true rfl) rfl rfl ?_
    refine S_X11_say wm v (xr_s _) (xr_s _) (xr_s _) (fun m1 _ _ _ _ _ => absurd c1 m1) (fun m1 m2 _ _ _ _ _ => absurd c2 m2) (fun m1 m2 m3 h3 z ag wx xz => ?_) (fun m1 m2 m3 _ _ _ _ _ => absurd m3 c3)
    refine xRet_some ?_
    refine x_istore (ls' := [some (.ref _), some (.ref _), some (.ref _), some (.ref _), some (.ref _), some (vi _), some (vi _), some (vi _), none]) (dT U_Lc29 36 rfl) (by decide) rfl ?_
    refine x_aload_n (dT U_Lc29 37 rfl) rfl ?_
    refine x_invokevirtual (rc' := rc) (rs' := rs) (rc2 := 0) (rs2 := 0) (As := []) (st := _) M_X11_thrown K_L_242 (dT U_Lc29 38 rfl) rfl rfl (by decide) rfl rfl wx.c70 (Nat.le_of_ble_eq_true rfl) (by decide) rfl (Nat.le_of_ble_eq_true rfl) rfl (by decide) (Nat.le_of_ble_eq_true rfl) rfl rfl ?_
    refine S_X11_thrown wx ?_
    refine xRet_some ?_
    refine x_iload (dT U_Lc29 39 rfl) rfl ?_
    refine x_icmp_eq (tgt := 2640) (dT U_Lc29 40 rfl) (by decide) (by unfold xr; omega) (by unfold xr; omega) (fun c2635 => ?_) (fun c2635 => (by exfalso; omega))
    refine x_iload (dT U_Lc29 43 rfl) rfl ?_
    refine x_if_ne (tgt := 2657) (dT U_Lc29 44 rfl) (by decide) (by unfold xr; omega) (fun c2642 => ?_) (fun c2642 => (by exfalso; omega))
    refine x_goto (tgt := 5554) (dT U_Lc29 54 rfl) (by decide) ?_
    refine x_drop ?_ (M _ _ _ _ _ _ _ _ v (w.out ag (by omega)) wx (ag.get ho (by omega)) (ag.get hod (by omega)))
    repeat (first | exact trivial | refine ⟨rfl, ?_⟩ | refine ⟨trivial, ?_⟩)
  · refine xRet_some ?_
    have wmx := wm.out (h2 := (h2.set 143 (cJ [z9]))) (fun a ha => by rw [hset_fr (by omega)]; exact fc.2 a (by omega))
    refine x_istore (ls' := [some (.ref _), some (.ref _), some (.ref _), some (.ref _), some (.ref _), some (vi _), some (vi _), none, none]) (dT U_Lc29 18 rfl) (by decide) rfl ?_
    refine x_aload_n (dT U_Lc29 19 rfl) rfl ?_
    refine x_aload_n (dT U_Lc29 20 rfl) rfl ?_
    refine x_iload (dT U_Lc29 21 rfl) rfl ?_
    refine x_iconst (dT U_Lc29 22 rfl) ?_
    refine x_iadd (dT U_Lc29 23 rfl) ?_
    refine x_sld (i + 1) hL (dT U_Lc29 24 rfl) (by omega) (by omega) ?_
    refine x_aload_n (dT U_Lc29 25 rfl) rfl ?_
    refine x_iload (dT U_Lc29 26 rfl) rfl ?_
    refine x_iconst (dT U_Lc29 27 rfl) ?_
    refine x_iadd (dT U_Lc29 28 rfl) ?_
    refine x_sld (i + 2) hL (dT U_Lc29 29 rfl) (by omega) (by omega) ?_
    refine x_aload_n (dT U_Lc29 30 rfl) rfl ?_
    refine x_iload (dT U_Lc29 31 rfl) rfl ?_
    refine x_iconst (dT U_Lc29 32 rfl) ?_
    refine x_iadd (dT U_Lc29 33 rfl) ?_
    refine x_sld (i + 3) hL (dT U_Lc29 34 rfl) (by omega) (by omega) ?_
    refine x_invokevirtual (rc' := rc) (rs' := rs) (rc2 := 0) (rs2 := 0) (As := [_, _, _]) (st := _) M_X11_say K_L_338 (dT U_Lc29 35 rfl) rfl rfl (by decide) rfl rfl wmx.c70 (Nat.le_of_ble_eq_true rfl) (by decide) rfl (Nat.le_of_ble_eq_true rfl) rfl (by decide) (Nat.le_of_ble_eq_true rfl) rfl rfl ?_
    refine S_X11_say wmx v (xr_s _) (xr_s _) (xr_s _) (fun m1 _ _ _ _ _ => absurd c1 m1) (fun m1 m2 _ _ _ _ _ => absurd c2 m2) (fun m1 m2 m3 _ _ _ _ _ => absurd c3 m3) (fun m1 m2 m3 h3 r3 s3 ag wx => ?_)
    refine xRet_some ?_
    rw [ez9]
    refine x_istore (ls' := [some (.ref _), some (.ref _), some (.ref _), some (.ref _), some (.ref _), some (vi _), some (vi _), some (vi _), none]) (dT U_Lc29 36 rfl) (by decide) rfl ?_
    refine x_aload_n (dT U_Lc29 37 rfl) rfl ?_
    refine x_invokevirtual (rc' := rc) (rs' := rs) (rc2 := 0) (rs2 := 0) (As := []) (st := _) M_X11_thrown K_L_242 (dT U_Lc29 38 rfl) rfl rfl (by decide) rfl rfl wx.c70 (Nat.le_of_ble_eq_true rfl) (by decide) rfl (Nat.le_of_ble_eq_true rfl) rfl (by decide) (Nat.le_of_ble_eq_true rfl) rfl rfl ?_
    refine S_X11_thrown wx ?_
    refine xRet_some ?_
    refine x_iload (dT U_Lc29 39 rfl) rfl ?_
    refine x_icmp_eq (tgt := 2640) (dT U_Lc29 40 rfl) (by decide) (by unfold xr; omega) (by unfold xr; omega) (fun c2635 => ?_) (fun c2635 => (by exfalso; omega))
    refine x_iload (dT U_Lc29 43 rfl) rfl ?_
    refine x_if_nen (tgt := 2657) (dT U_Lc29 44 rfl) (by decide) (by decide) ?_
    refine x_aload_n (dT U_Lc29 45 rfl) rfl ?_
    refine x_iconst (dT U_Lc29 46 rfl) ?_
    refine x_laload 0 (dT U_Lc29 47 rfl) (ag.get (hset_eq (fc.get ho (by omega))) (by omega)) (Nat.le_of_ble_eq_true rfl) rfl (Nat.le_of_ble_eq_true rfl) (Nat.le_of_ble_eq_true rfl) ?_
    refine x_iload (dT U_Lc29 48 rfl) rfl ?_
    refine x_i2l (dT U_Lc29 49 rfl) hz9 ?_
    refine x_lcmp (dT U_Lc29 50 rfl) (xr_l hz9) (xr_l hz9) ?_
    refine x_if_eqj (tgt := 2657) (dT U_Lc29 51 rfl) (by decide) (xcmp_rf _) ?_
    refine x_goto (tgt := 5554) (dT U_Lc29 54 rfl) (by decide) ?_
    refine x_drop ?_ (M _ _ _ _ _ _ _ _ (IV_say v c1 c2 c3) ((w2.out ((Ag.rf 143 143 h2).set (by omega)) (by omega)).out ag (by omega)) wx (ag.get (hset_eq (fc.get ho (by omega))) (by omega)) (ag.get (hset_ne (by omega) (fc.get hod (by omega))) (by omega)))
    repeat (first | exact trivial | refine ⟨rfl, ?_⟩ | refine ⟨trivial, ?_⟩)

def B_Lc30 : ByteArray := .mk #[0x2b, 0x2a, 0x15, 0x05, 0x04, 0x60, 0x2e, 0x2a, 0x15, 0x05, 0x05, 0x60, 0x2e, 0x2d, 0xb8, 0x01, 0x53, 0x36, 0x06, 0x2c, 0x2a, 0x15, 0x05, 0x04, 0x60, 0x2e, 0x2a, 0x15, 0x05, 0x05, 0x60, 0x2e, 0xb6, 0x01, 0x55, 0x36, 0x07, 0x2c, 0xb6, 0x00, 0xf2, 0x15, 0x06, 0x9f, 0x00, 0x05, 0x03, 0xac, 0x15, 0x06, 0x9a, 0x00, 0x0f, 0x2d, 0x03, 0x2f, 0x15, 0x07, 0x85, 0x94, 0x99, 0x00, 0x05, 0x03, 0xac, 0xa7, 0x0b, 0x0d]
theorem W_Lc30 : sameFrom m_L_law.2.1 B_Lc30 2660 := sameFrom_of (by decide +kernel)
def t_Lc30 : List (Nat × Instr × Nat) := [(2660, .aload_n 1, 1), (2661, .aload_n 0, 1), (2662, .iload 5, 2), (2664, .iconst 1, 1), (2665, .iadd, 1), (2666, .iaload, 1), (2667, .aload_n 0, 1), (2668, .iload 5, 2), (2670, .iconst 2, 1), (2671, .iadd, 1), (2672, .iaload, 1), (2673, .aload_n 3, 1), (2674, .invokestatic 339, 3), (2677, .istore 6, 2), (2679, .aload_n 2, 1), (2680, .aload_n 0, 1), (2681, .iload 5, 2), (2683, .iconst 1, 1), (2684, .iadd, 1), (2685, .iaload, 1), (2686, .aload_n 0, 1), (2687, .iload 5, 2), (2689, .iconst 2, 1), (2690, .iadd, 1), (2691, .iaload, 1), (2692, .invokevirtual 341, 3), (2695, .istore 7, 2), (2697, .aload_n 2, 1), (2698, .invokevirtual 242, 3), (2701, .iload 6, 2), (2703, .if_icmp .eq 5, 3), (2706, .iconst 0, 1), (2707, .ireturn, 1), (2708, .iload 6, 2), (2710, .ifCond .ne 15, 3), (2713, .aload_n 3, 1), (2714, .iconst 0, 1), (2715, .laload, 1), (2716, .iload 7, 2), (2718, .i2l, 1), (2719, .lcmp, 1), (2720, .ifCond .eq 5, 3), (2723, .iconst 0, 1), (2724, .ireturn, 1), (2725, .goto 2829, 3)]
set_option maxRecDepth 20000 in
theorem U_Lc30 : okT m_L_law.2.1 t_Lc30 = true := dSt [(0, .aload_n 1, 1), (1, .aload_n 0, 1), (2, .iload 5, 2), (4, .iconst 1, 1), (5, .iadd, 1), (6, .iaload, 1), (7, .aload_n 0, 1), (8, .iload 5, 2), (10, .iconst 2, 1), (11, .iadd, 1), (12, .iaload, 1), (13, .aload_n 3, 1), (14, .invokestatic 339, 3), (17, .istore 6, 2), (19, .aload_n 2, 1), (20, .aload_n 0, 1), (21, .iload 5, 2), (23, .iconst 1, 1), (24, .iadd, 1), (25, .iaload, 1), (26, .aload_n 0, 1), (27, .iload 5, 2), (29, .iconst 2, 1), (30, .iadd, 1), (31, .iaload, 1), (32, .invokevirtual 341, 3), (35, .istore 7, 2), (37, .aload_n 2, 1), (38, .invokevirtual 242, 3), (41, .iload 6, 2), (43, .if_icmp .eq 5, 3), (46, .iconst 0, 1), (47, .ireturn, 1), (48, .iload 6, 2), (50, .ifCond .ne 15, 3), (53, .aload_n 3, 1), (54, .iconst 0, 1), (55, .laload, 1), (56, .iload 7, 2), (58, .i2l, 1), (59, .lcmp, 1), (60, .ifCond .eq 5, 3), (63, .iconst 0, 1), (64, .ireturn, 1), (65, .goto 2829, 3)] W_Lc30 (by decide +kernel) (by decide +kernel)
set_option maxRecDepth 20000 in
set_option maxHeartbeats 1000000 in
theorem LC_30 {G : xG} {d rc rs : Nat} {ex : Bool} {h : xH} {Q : xQ} {σ : St} {c0 : Int} {rr : Nat} {ss : Int} {l0 : Int} {d0 : UInt64} {i : Nat} (hL : G.2.2.2.2.2.1 < 2147483648) (hi : i + 10 ≤ G.2.2.2.2.2.1) (w : CW σ h) (wm : MX σ c0 rr ss h) (v : INV σ) (ho : h[143]? = some (cJ [l0])) (hod : h[144]? = some (cD [d0]))
    (M : ∀ (σ9 : St) (h9 : xH) (e9 : Bool) (c9 : Int) (r9 : Nat) (s9 : Int) (l9 : Int) (d9 : UInt64), INV σ9 → CW σ9 h9 → MX σ9 c9 r9 s9 h9 → h9[143]? = some (cJ [l9]) → h9[144]? = some (cD [d9]) → X G m_L_law (d + 10) rc rs e9 5554 [some (.ref 0), some (.ref 3), some (.ref 70), some (.ref 143), some (.ref 144), some (vi (i : Int)), none, none, none] [] h9 Q) : X G m_L_law (d + 10) (rc + 3) (rs + 18) ex 2660 [some (.ref 0), some (.ref 3), some (.ref 70), some (.ref 143), some (.ref 144), some (vi (i : Int)), none, none, none] [] h Q := by
  refine x_aload_n (dT U_Lc30 0 rfl) rfl ?_
  refine x_aload_n (dT U_Lc30 1 rfl) rfl ?_
  refine x_iload (dT U_Lc30 2 rfl) rfl ?_
  refine x_iconst (dT U_Lc30 3 rfl) ?_
  refine x_iadd (dT U_Lc30 4 rfl) ?_
  refine x_sld (i + 1) hL (dT U_Lc30 5 rfl) (by omega) (by omega) ?_
  refine x_aload_n (dT U_Lc30 6 rfl) rfl ?_
  refine x_iload (dT U_Lc30 7 rfl) rfl ?_
  refine x_iconst (dT U_Lc30 8 rfl) ?_
  refine x_iadd (dT U_Lc30 9 rfl) ?_
  refine x_sld (i + 2) hL (dT U_Lc30 10 rfl) (by omega) (by omega) ?_
  refine x_aload_n (dT U_Lc30 11 rfl) rfl ?_
  refine x_invokestaticT (rc' := rc) (rs' := rs) (rc2 := 0 + 3) (rs2 := 0 + 18) (As := [_, _, _, _]) (st := _) M_L_dare K_L_339 (dT U_Lc30 12 rfl) rfl (by decide) rfl rfl (Nat.le_of_ble_eq_true rfl) rfl (by decide) (Nat.le_of_ble_eq_true rfl) (by omega) (by omega) ?_
  refine S_L_dare w v (xr_s _) (xr_s _) ho (fun c1 => ?_) (fun c1 c2 => ?_) (fun c1 c2 c3 => ?_) (fun c1 c2 c3 h2 fc w2 z9 hz9 ez9 => ?_)
  · refine xRet_some ?_
    refine x_istore (ls' := [some (.ref _), some (.ref _), some (.ref _), some (.ref _), some (.ref _), some (vi _), some (vi _), none, none]) (dT U_Lc30 13 rfl) (by decide) rfl ?_
    refine x_aload_n (dT U_Lc30 14 rfl) rfl ?_
    refine x_aload_n (dT U_Lc30 15 rfl) rfl ?_
    refine x_iload (dT U_Lc30 16 rfl) rfl ?_
    refine x_iconst (dT U_Lc30 17 rfl) ?_
    refine x_iadd (dT U_Lc30 18 rfl) ?_
    refine x_sld (i + 1) hL (dT U_Lc30 19 rfl) (by omega) (by omega) ?_
    refine x_aload_n (dT U_Lc30 20 rfl) rfl ?_
    refine x_iload (dT U_Lc30 21 rfl) rfl ?_
    refine x_iconst (dT U_Lc30 22 rfl) ?_
    refine x_iadd (dT U_Lc30 23 rfl) ?_
    refine x_sld (i + 2) hL (dT U_Lc30 24 rfl) (by omega) (by omega) ?_
    refine x_invokevirtual (rc' := rc) (rs' := rs) (rc2 := 0) (rs2 := 0) (As := [_, _]) (st := _) M_X11_dare K_L_341 (dT U_Lc30 25 rfl) rfl rfl (by decide) rfl rfl wm.c70 (Nat.le_of_ble_eq_true rfl) (by decide) rfl (Nat.le_of_ble_eq_true rfl) rfl (by decide) (Nat.le_of_ble_eq_true rfl) rfl rfl ?_
    refine S_X11_dare wm v (xr_s _) (xr_s _) (fun m1 h3 z ag wx xz => ?_) (fun m1 m2 _ _ _ _ _ => absurd m1 c1) (fun m1 m2 m3 _ _ _ _ _ => absurd m1 c1) (fun m1 m2 m3 _ _ _ _ _ => absurd m1 c1)
    refine xRet_some ?_
    refine x_istore (ls' := [some (.ref _), some (.ref _), some (.ref _), some (.ref _), some (.ref _), some (vi _), some (vi _), some (vi _), none]) (dT U_Lc30 26 rfl) (by decide) rfl ?_
    refine x_aload_n (dT U_Lc30 27 rfl) rfl ?_
    refine x_invokevirtual (rc' := rc) (rs' := rs) (rc2 := 0) (rs2 := 0) (As := []) (st := _) M_X11_thrown K_L_242 (dT U_Lc30 28 rfl) rfl rfl (by decide) rfl rfl wx.c70 (Nat.le_of_ble_eq_true rfl) (by decide) rfl (Nat.le_of_ble_eq_true rfl) rfl (by decide) (Nat.le_of_ble_eq_true rfl) rfl rfl ?_
    refine S_X11_thrown wx ?_
    refine xRet_some ?_
    refine x_iload (dT U_Lc30 29 rfl) rfl ?_
    refine x_icmp_eq (tgt := 2708) (dT U_Lc30 30 rfl) (by decide) (by unfold xr; omega) (by unfold xr; omega) (fun c2703 => ?_) (fun c2703 => (by exfalso; omega))
    refine x_iload (dT U_Lc30 33 rfl) rfl ?_
    refine x_if_nej (tgt := 2725) (dT U_Lc30 34 rfl) (by decide) (by decide) ?_
    refine x_goto (tgt := 5554) (dT U_Lc30 44 rfl) (by decide) ?_
    refine x_drop ?_ (M _ _ _ _ _ _ _ _ v (w.out ag (by omega)) wx (ag.get ho (by omega)) (ag.get hod (by omega)))
    repeat (first | exact trivial | refine ⟨rfl, ?_⟩ | refine ⟨trivial, ?_⟩)
  · refine xRet_some ?_
    refine x_istore (ls' := [some (.ref _), some (.ref _), some (.ref _), some (.ref _), some (.ref _), some (vi _), some (vi _), none, none]) (dT U_Lc30 13 rfl) (by decide) rfl ?_
    refine x_aload_n (dT U_Lc30 14 rfl) rfl ?_
    refine x_aload_n (dT U_Lc30 15 rfl) rfl ?_
    refine x_iload (dT U_Lc30 16 rfl) rfl ?_
    refine x_iconst (dT U_Lc30 17 rfl) ?_
    refine x_iadd (dT U_Lc30 18 rfl) ?_
    refine x_sld (i + 1) hL (dT U_Lc30 19 rfl) (by omega) (by omega) ?_
    refine x_aload_n (dT U_Lc30 20 rfl) rfl ?_
    refine x_iload (dT U_Lc30 21 rfl) rfl ?_
    refine x_iconst (dT U_Lc30 22 rfl) ?_
    refine x_iadd (dT U_Lc30 23 rfl) ?_
    refine x_sld (i + 2) hL (dT U_Lc30 24 rfl) (by omega) (by omega) ?_
    refine x_invokevirtual (rc' := rc) (rs' := rs) (rc2 := 0) (rs2 := 0) (As := [_, _]) (st := _) M_X11_dare K_L_341 (dT U_Lc30 25 rfl) rfl rfl (by decide) rfl rfl wm.c70 (Nat.le_of_ble_eq_true rfl) (by decide) rfl (Nat.le_of_ble_eq_true rfl) rfl (by decide) (Nat.le_of_ble_eq_true rfl) rfl rfl ?_
    refine S_X11_dare wm v (xr_s _) (xr_s _) (fun m1 _ _ _ _ _ => absurd c1 m1) (fun m1 m2 h3 z ag wx xz => ?_) (fun m1 m2 m3 _ _ _ _ _ => absurd m2 c2) (fun m1 m2 m3 _ _ _ _ _ => absurd m2 c2)
    refine xRet_some ?_
    refine x_istore (ls' := [some (.ref _), some (.ref _), some (.ref _), some (.ref _), some (.ref _), some (vi _), some (vi _), some (vi _), none]) (dT U_Lc30 26 rfl) (by decide) rfl ?_
    refine x_aload_n (dT U_Lc30 27 rfl) rfl ?_
    refine x_invokevirtual (rc' := rc) (rs' := rs) (rc2 := 0) (rs2 := 0) (As := []) (st := _) M_X11_thrown K_L_242 (dT U_Lc30 28 rfl) rfl rfl (by decide) rfl rfl wx.c70 (Nat.le_of_ble_eq_true rfl) (by decide) rfl (Nat.le_of_ble_eq_true rfl) rfl (by decide) (Nat.le_of_ble_eq_true rfl) rfl rfl ?_
    refine S_X11_thrown wx ?_
    refine xRet_some ?_
    refine x_iload (dT U_Lc30 29 rfl) rfl ?_
    refine x_icmp_eq (tgt := 2708) (dT U_Lc30 30 rfl) (by decide) (by unfold xr; omega) (by unfold xr; omega) (fun c2703 => ?_) (fun c2703 => (by exfalso; omega))
    refine x_iload (dT U_Lc30 33 rfl) rfl ?_
    refine x_if_ne (tgt := 2725) (dT U_Lc30 34 rfl) (by decide) (by unfold xr; omega) (fun c2710 => ?_) (fun c2710 => (by exfalso; omega))
    refine x_goto (tgt := 5554) (dT U_Lc30 44 rfl) (by decide) ?_
    refine x_drop ?_ (M _ _ _ _ _ _ _ _ v (w.out ag (by omega)) wx (ag.get ho (by omega)) (ag.get hod (by omega)))
    repeat (first | exact trivial | refine ⟨rfl, ?_⟩ | refine ⟨trivial, ?_⟩)
  · refine xRet_some ?_
    refine x_istore (ls' := [some (.ref _), some (.ref _), some (.ref _), some (.ref _), some (.ref _), some (vi _), some (vi _), none, none]) (dT U_Lc30 13 rfl) (by decide) rfl ?_
    refine x_aload_n (dT U_Lc30 14 rfl) rfl ?_
    refine x_aload_n (dT U_Lc30 15 rfl) rfl ?_
    refine x_iload (dT U_Lc30 16 rfl) rfl ?_
    refine x_iconst (dT U_Lc30 17 rfl) ?_
    refine x_iadd (dT U_Lc30 18 rfl) ?_
    refine x_sld (i + 1) hL (dT U_Lc30 19 rfl) (by omega) (by omega) ?_
    refine x_aload_n (dT U_Lc30 20 rfl) rfl ?_
    refine x_iload (dT U_Lc30 21 rfl) rfl ?_
    refine x_iconst (dT U_Lc30 22 rfl) ?_
    refine x_iadd (dT U_Lc30 23 rfl) ?_
    refine x_sld (i + 2) hL (dT U_Lc30 24 rfl) (by omega) (by omega) ?_
    refine x_invokevirtual (rc' := rc) (rs' := rs) (rc2 := 0) (rs2 := 0) (As := [_, _]) (st := _) M_X11_dare K_L_341 (dT U_Lc30 25 rfl) rfl rfl (by decide) rfl rfl wm.c70 (Nat.le_of_ble_eq_true rfl) (by decide) rfl (Nat.le_of_ble_eq_true rfl) rfl (by decide) (Nat.le_of_ble_eq_true rfl) rfl rfl ?_
    refine S_X11_dare wm v (xr_s _) (xr_s _) (fun m1 _ _ _ _ _ => absurd c1 m1) (fun m1 m2 _ _ _ _ _ => absurd c2 m2) (fun m1 m2 m3 h3 z ag wx xz => ?_) (fun m1 m2 m3 _ _ _ _ _ => absurd m3 c3)
    refine xRet_some ?_
    refine x_istore (ls' := [some (.ref _), some (.ref _), some (.ref _), some (.ref _), some (.ref _), some (vi _), some (vi _), some (vi _), none]) (dT U_Lc30 26 rfl) (by decide) rfl ?_
    refine x_aload_n (dT U_Lc30 27 rfl) rfl ?_
    refine x_invokevirtual (rc' := rc) (rs' := rs) (rc2 := 0) (rs2 := 0) (As := []) (st := _) M_X11_thrown K_L_242 (dT U_Lc30 28 rfl) rfl rfl (by decide) rfl rfl wx.c70 (Nat.le_of_ble_eq_true rfl) (by decide) rfl (Nat.le_of_ble_eq_true rfl) rfl (by decide) (Nat.le_of_ble_eq_true rfl) rfl rfl ?_
    refine S_X11_thrown wx ?_
    refine xRet_some ?_
    refine x_iload (dT U_Lc30 29 rfl) rfl ?_
    refine x_icmp_eq (tgt := 2708) (dT U_Lc30 30 rfl) (by decide) (by unfold xr; omega) (by unfold xr; omega) (fun c2703 => ?_) (fun c2703 => (by exfalso; omega))
    refine x_iload (dT U_Lc30 33 rfl) rfl ?_
    refine x_if_ne (tgt := 2725) (dT U_Lc30 34 rfl) (by decide) (by unfold xr; omega) (fun c2710 => ?_) (fun c2710 => (by exfalso; omega))
    refine x_goto (tgt := 5554) (dT U_Lc30 44 rfl) (by decide) ?_
    refine x_drop ?_ (M _ _ _ _ _ _ _ _ v (w.out ag (by omega)) wx (ag.get ho (by omega)) (ag.get hod (by omega)))
    repeat (first | exact trivial | refine ⟨rfl, ?_⟩ | refine ⟨trivial, ?_⟩)
  · refine xRet_some ?_
    have wmx := wm.out (h2 := (h2.set 143 (cJ [z9]))) (fun a ha => by rw [hset_fr (by omega)]; exact fc.2 a (by omega))
    refine x_istore (ls' := [some (.ref _), some (.ref _), some (.ref _), some (.ref _), some (.ref _), some (vi _), some (vi _), none, none]) (dT U_Lc30 13 rfl) (by decide) rfl ?_
    refine x_aload_n (dT U_Lc30 14 rfl) rfl ?_
    refine x_aload_n (dT U_Lc30 15 rfl) rfl ?_
    refine x_iload (dT U_Lc30 16 rfl) rfl ?_
    refine x_iconst (dT U_Lc30 17 rfl) ?_
    refine x_iadd (dT U_Lc30 18 rfl) ?_
    refine x_sld (i + 1) hL (dT U_Lc30 19 rfl) (by omega) (by omega) ?_
    refine x_aload_n (dT U_Lc30 20 rfl) rfl ?_
    refine x_iload (dT U_Lc30 21 rfl) rfl ?_
    refine x_iconst (dT U_Lc30 22 rfl) ?_
    refine x_iadd (dT U_Lc30 23 rfl) ?_
    refine x_sld (i + 2) hL (dT U_Lc30 24 rfl) (by omega) (by omega) ?_
    refine x_invokevirtual (rc' := rc) (rs' := rs) (rc2 := 0) (rs2 := 0) (As := [_, _]) (st := _) M_X11_dare K_L_341 (dT U_Lc30 25 rfl) rfl rfl (by decide) rfl rfl wmx.c70 (Nat.le_of_ble_eq_true rfl) (by decide) rfl (Nat.le_of_ble_eq_true rfl) rfl (by decide) (Nat.le_of_ble_eq_true rfl) rfl rfl ?_
    refine S_X11_dare wmx v (xr_s _) (xr_s _) (fun m1 _ _ _ _ _ => absurd c1 m1) (fun m1 m2 _ _ _ _ _ => absurd c2 m2) (fun m1 m2 m3 _ _ _ _ _ => absurd c3 m3) (fun m1 m2 m3 h3 r3 s3 ag wx => ?_)
    refine xRet_some ?_
    rw [ez9]
    refine x_istore (ls' := [some (.ref _), some (.ref _), some (.ref _), some (.ref _), some (.ref _), some (vi _), some (vi _), some (vi _), none]) (dT U_Lc30 26 rfl) (by decide) rfl ?_
    refine x_aload_n (dT U_Lc30 27 rfl) rfl ?_
    refine x_invokevirtual (rc' := rc) (rs' := rs) (rc2 := 0) (rs2 := 0) (As := []) (st := _) M_X11_thrown K_L_242 (dT U_Lc30 28 rfl) rfl rfl (by decide) rfl rfl wx.c70 (Nat.le_of_ble_eq_true rfl) (by decide) rfl (Nat.le_of_ble_eq_true rfl) rfl (by decide) (Nat.le_of_ble_eq_true rfl) rfl rfl ?_
    refine S_X11_thrown wx ?_
    refine xRet_some ?_
    refine x_iload (dT U_Lc30 29 rfl) rfl ?_
    refine x_icmp_eq (tgt := 2708) (dT U_Lc30 30 rfl) (by decide) (by unfold xr; omega) (by unfold xr; omega) (fun c2703 => ?_) (fun c2703 => (by exfalso; omega))
    refine x_iload (dT U_Lc30 33 rfl) rfl ?_
    refine x_if_nen (tgt := 2725) (dT U_Lc30 34 rfl) (by decide) (by decide) ?_
    refine x_aload_n (dT U_Lc30 35 rfl) rfl ?_
    refine x_iconst (dT U_Lc30 36 rfl) ?_
    refine x_laload 0 (dT U_Lc30 37 rfl) (ag.get (hset_eq (fc.get ho (by omega))) (by omega)) (Nat.le_of_ble_eq_true rfl) rfl (Nat.le_of_ble_eq_true rfl) (Nat.le_of_ble_eq_true rfl) ?_
    refine x_iload (dT U_Lc30 38 rfl) rfl ?_
    refine x_i2l (dT U_Lc30 39 rfl) hz9 ?_
    refine x_lcmp (dT U_Lc30 40 rfl) (xr_l hz9) (xr_l hz9) ?_
    refine x_if_eqj (tgt := 2725) (dT U_Lc30 41 rfl) (by decide) (xcmp_rf _) ?_
    refine x_goto (tgt := 5554) (dT U_Lc30 44 rfl) (by decide) ?_
    refine x_drop ?_ (M _ _ _ _ _ _ _ _ (IV_dare v c1 c2 c3) ((w2.out ((Ag.rf 143 143 h2).set (by omega)) (by omega)).out ag (by omega)) wx (ag.get (hset_eq (fc.get ho (by omega))) (by omega)) (ag.get (hset_ne (by omega) (fc.get hod (by omega))) (by omega)))
    repeat (first | exact trivial | refine ⟨rfl, ?_⟩ | refine ⟨trivial, ?_⟩)

def B_Lc31 : ByteArray := .mk #[0x2b, 0x2a, 0x15, 0x05, 0x04, 0x60, 0x2e, 0x2d, 0xb8, 0x01, 0x56, 0x36, 0x06, 0x2c, 0x2a, 0x15, 0x05, 0x04, 0x60, 0x2e, 0xb6, 0x01, 0x58, 0x36, 0x07, 0x2c, 0xb6, 0x00, 0xf2, 0x15, 0x06, 0x9f, 0x00, 0x05, 0x03, 0xac, 0x15, 0x06, 0x9a, 0x00, 0x0f, 0x2d, 0x03, 0x2f, 0x15, 0x07, 0x85, 0x94, 0x99, 0x00, 0x05, 0x03, 0xac, 0xa7, 0x0a, 0xd5]
theorem W_Lc31 : sameFrom m_L_law.2.1 B_Lc31 2728 := sameFrom_of (by decide +kernel)
def t_Lc31 : List (Nat × Instr × Nat) := [(2728, .aload_n 1, 1), (2729, .aload_n 0, 1), (2730, .iload 5, 2), (2732, .iconst 1, 1), (2733, .iadd, 1), (2734, .iaload, 1), (2735, .aload_n 3, 1), (2736, .invokestatic 342, 3), (2739, .istore 6, 2), (2741, .aload_n 2, 1), (2742, .aload_n 0, 1), (2743, .iload 5, 2), (2745, .iconst 1, 1), (2746, .iadd, 1), (2747, .iaload, 1), (2748, .invokevirtual 344, 3), (2751, .istore 7, 2), (2753, .aload_n 2, 1), (2754, .invokevirtual 242, 3), (2757, .iload 6, 2), (2759, .if_icmp .eq 5, 3), (2762, .iconst 0, 1), (2763, .ireturn, 1), (2764, .iload 6, 2), (2766, .ifCond .ne 15, 3), (2769, .aload_n 3, 1), (2770, .iconst 0, 1), (2771, .laload, 1), (2772, .iload 7, 2), (2774, .i2l, 1), (2775, .lcmp, 1), (2776, .ifCond .eq 5, 3), (2779, .iconst 0, 1), (2780, .ireturn, 1), (2781, .goto 2773, 3)]
set_option maxRecDepth 20000 in
theorem U_Lc31 : okT m_L_law.2.1 t_Lc31 = true := dSt [(0, .aload_n 1, 1), (1, .aload_n 0, 1), (2, .iload 5, 2), (4, .iconst 1, 1), (5, .iadd, 1), (6, .iaload, 1), (7, .aload_n 3, 1), (8, .invokestatic 342, 3), (11, .istore 6, 2), (13, .aload_n 2, 1), (14, .aload_n 0, 1), (15, .iload 5, 2), (17, .iconst 1, 1), (18, .iadd, 1), (19, .iaload, 1), (20, .invokevirtual 344, 3), (23, .istore 7, 2), (25, .aload_n 2, 1), (26, .invokevirtual 242, 3), (29, .iload 6, 2), (31, .if_icmp .eq 5, 3), (34, .iconst 0, 1), (35, .ireturn, 1), (36, .iload 6, 2), (38, .ifCond .ne 15, 3), (41, .aload_n 3, 1), (42, .iconst 0, 1), (43, .laload, 1), (44, .iload 7, 2), (46, .i2l, 1), (47, .lcmp, 1), (48, .ifCond .eq 5, 3), (51, .iconst 0, 1), (52, .ireturn, 1), (53, .goto 2773, 3)] W_Lc31 (by decide +kernel) (by decide +kernel)
set_option maxRecDepth 20000 in
set_option maxHeartbeats 1000000 in
theorem LC_31 {G : xG} {d rc rs : Nat} {ex : Bool} {h : xH} {Q : xQ} {σ : St} {c0 : Int} {rr : Nat} {ss : Int} {l0 : Int} {d0 : UInt64} {i : Nat} (hL : G.2.2.2.2.2.1 < 2147483648) (hi : i + 10 ≤ G.2.2.2.2.2.1) (w : CW σ h) (wm : MX σ c0 rr ss h) (v : INV σ) (ho : h[143]? = some (cJ [l0])) (hod : h[144]? = some (cD [d0]))
    (M : ∀ (σ9 : St) (h9 : xH) (e9 : Bool) (c9 : Int) (r9 : Nat) (s9 : Int) (l9 : Int) (d9 : UInt64), INV σ9 → CW σ9 h9 → MX σ9 c9 r9 s9 h9 → h9[143]? = some (cJ [l9]) → h9[144]? = some (cD [d9]) → X G m_L_law (d + 10) rc rs e9 5554 [some (.ref 0), some (.ref 3), some (.ref 70), some (.ref 143), some (.ref 144), some (vi (i : Int)), none, none, none] [] h9 Q) : X G m_L_law (d + 10) (rc + 2) (rs + 12) ex 2728 [some (.ref 0), some (.ref 3), some (.ref 70), some (.ref 143), some (.ref 144), some (vi (i : Int)), none, none, none] [] h Q := by
  refine x_aload_n (dT U_Lc31 0 rfl) rfl ?_
  refine x_aload_n (dT U_Lc31 1 rfl) rfl ?_
  refine x_iload (dT U_Lc31 2 rfl) rfl ?_
  refine x_iconst (dT U_Lc31 3 rfl) ?_
  refine x_iadd (dT U_Lc31 4 rfl) ?_
  refine x_sld (i + 1) hL (dT U_Lc31 5 rfl) (by omega) (by omega) ?_
  refine x_aload_n (dT U_Lc31 6 rfl) rfl ?_
  refine x_invokestaticT (rc' := rc) (rs' := rs) (rc2 := 0 + 2) (rs2 := 0 + 12) (As := [_, _, _]) (st := _) M_L_ask K_L_342 (dT U_Lc31 7 rfl) rfl (by decide) rfl rfl (Nat.le_of_ble_eq_true rfl) rfl (by decide) (Nat.le_of_ble_eq_true rfl) (by omega) (by omega) ?_
  refine S_L_ask w v (xr_s _) ho (fun c1 => ?_) (fun c1 c2 => ?_) (fun c1 c2 h2 fc w2 z9 hz9 ez9 => ?_)
  · refine xRet_some ?_
    refine x_istore (ls' := [some (.ref _), some (.ref _), some (.ref _), some (.ref _), some (.ref _), some (vi _), some (vi _), none, none]) (dT U_Lc31 8 rfl) (by decide) rfl ?_
    refine x_aload_n (dT U_Lc31 9 rfl) rfl ?_
    refine x_aload_n (dT U_Lc31 10 rfl) rfl ?_
    refine x_iload (dT U_Lc31 11 rfl) rfl ?_
    refine x_iconst (dT U_Lc31 12 rfl) ?_
    refine x_iadd (dT U_Lc31 13 rfl) ?_
    refine x_sld (i + 1) hL (dT U_Lc31 14 rfl) (by omega) (by omega) ?_
    refine x_invokevirtual (rc' := rc) (rs' := rs) (rc2 := 0) (rs2 := 0) (As := [_]) (st := _) M_X11_ask K_L_344 (dT U_Lc31 15 rfl) rfl rfl (by decide) rfl rfl wm.c70 (Nat.le_of_ble_eq_true rfl) (by decide) rfl (Nat.le_of_ble_eq_true rfl) rfl (by decide) (Nat.le_of_ble_eq_true rfl) rfl rfl ?_
    refine S_X11_ask wm v (xr_s _) (fun m1 h3 z ag wx xz => ?_) (fun m1 m2 _ _ _ _ _ => absurd m1 c1) (fun m1 m2 _ _ _ _ _ => absurd m1 c1)
    refine xRet_some ?_
    refine x_istore (ls' := [some (.ref _), some (.ref _), some (.ref _), some (.ref _), some (.ref _), some (vi _), some (vi _), some (vi _), none]) (dT U_Lc31 16 rfl) (by decide) rfl ?_
    refine x_aload_n (dT U_Lc31 17 rfl) rfl ?_
    refine x_invokevirtual (rc' := rc) (rs' := rs) (rc2 := 0) (rs2 := 0) (As := []) (st := _) M_X11_thrown K_L_242 (dT U_Lc31 18 rfl) rfl rfl (by decide) rfl rfl wx.c70 (Nat.le_of_ble_eq_true rfl) (by decide) rfl (Nat.le_of_ble_eq_true rfl) rfl (by decide) (Nat.le_of_ble_eq_true rfl) rfl rfl ?_
    refine S_X11_thrown wx ?_
    refine xRet_some ?_
    refine x_iload (dT U_Lc31 19 rfl) rfl ?_
    refine x_icmp_eq (tgt := 2764) (dT U_Lc31 20 rfl) (by decide) (by unfold xr; omega) (by unfold xr; omega) (fun c2759 => ?_) (fun c2759 => (by exfalso; omega))
    refine x_iload (dT U_Lc31 23 rfl) rfl ?_
    refine x_if_nej (tgt := 2781) (dT U_Lc31 24 rfl) (by decide) (by decide) ?_
    refine x_goto (tgt := 5554) (dT U_Lc31 34 rfl) (by decide) ?_
    refine x_drop ?_ (M _ _ _ _ _ _ _ _ v (w.out ag (by omega)) wx (ag.get ho (by omega)) (ag.get hod (by omega)))
    repeat (first | exact trivial | refine ⟨rfl, ?_⟩ | refine ⟨trivial, ?_⟩)
  · refine xRet_some ?_
    refine x_istore (ls' := [some (.ref _), some (.ref _), some (.ref _), some (.ref _), some (.ref _), some (vi _), some (vi _), none, none]) (dT U_Lc31 8 rfl) (by decide) rfl ?_
    refine x_aload_n (dT U_Lc31 9 rfl) rfl ?_
    refine x_aload_n (dT U_Lc31 10 rfl) rfl ?_
    refine x_iload (dT U_Lc31 11 rfl) rfl ?_
    refine x_iconst (dT U_Lc31 12 rfl) ?_
    refine x_iadd (dT U_Lc31 13 rfl) ?_
    refine x_sld (i + 1) hL (dT U_Lc31 14 rfl) (by omega) (by omega) ?_
    refine x_invokevirtual (rc' := rc) (rs' := rs) (rc2 := 0) (rs2 := 0) (As := [_]) (st := _) M_X11_ask K_L_344 (dT U_Lc31 15 rfl) rfl rfl (by decide) rfl rfl wm.c70 (Nat.le_of_ble_eq_true rfl) (by decide) rfl (Nat.le_of_ble_eq_true rfl) rfl (by decide) (Nat.le_of_ble_eq_true rfl) rfl rfl ?_
    refine S_X11_ask wm v (xr_s _) (fun m1 _ _ _ _ _ => absurd c1 m1) (fun m1 m2 h3 z ag wx xz => ?_) (fun m1 m2 _ _ _ _ _ => absurd m2 c2)
    refine xRet_some ?_
    refine x_istore (ls' := [some (.ref _), some (.ref _), some (.ref _), some (.ref _), some (.ref _), some (vi _), some (vi _), some (vi _), none]) (dT U_Lc31 16 rfl) (by decide) rfl ?_
    refine x_aload_n (dT U_Lc31 17 rfl) rfl ?_
    refine x_invokevirtual (rc' := rc) (rs' := rs) (rc2 := 0) (rs2 := 0) (As := []) (st := _) M_X11_thrown K_L_242 (dT U_Lc31 18 rfl) rfl rfl (by decide) rfl rfl wx.c70 (Nat.le_of_ble_eq_true rfl) (by decide) rfl (Nat.le_of_ble_eq_true rfl) rfl (by decide) (Nat.le_of_ble_eq_true rfl) rfl rfl ?_
    refine S_X11_thrown wx ?_
    refine xRet_some ?_
    refine x_iload (dT U_Lc31 19 rfl) rfl ?_
    refine x_icmp_eq (tgt := 2764) (dT U_Lc31 20 rfl) (by decide) (by unfold xr; omega) (by unfold xr; omega) (fun c2759 => ?_) (fun c2759 => (by exfalso; omega))
    refine x_iload (dT U_Lc31 23 rfl) rfl ?_
    refine x_if_ne (tgt := 2781) (dT U_Lc31 24 rfl) (by decide) (by unfold xr; omega) (fun c2766 => ?_) (fun c2766 => (by exfalso; omega))
    refine x_goto (tgt := 5554) (dT U_Lc31 34 rfl) (by decide) ?_
    refine x_drop ?_ (M _ _ _ _ _ _ _ _ v (w.out ag (by omega)) wx (ag.get ho (by omega)) (ag.get hod (by omega)))
    repeat (first | exact trivial | refine ⟨rfl, ?_⟩ | refine ⟨trivial, ?_⟩)
  · refine xRet_some ?_
    have wmx := wm.out (h2 := (h2.set 143 (cJ [z9]))) (fun a ha => by rw [hset_fr (by omega)]; exact fc.2 a (by omega))
    refine x_istore (ls' := [some (.ref _), some (.ref _), some (.ref _), some (.ref _), some (.ref _), some (vi _), some (vi _), none, none]) (dT U_Lc31 8 rfl) (by decide) rfl ?_
    refine x_aload_n (dT U_Lc31 9 rfl) rfl ?_
    refine x_aload_n (dT U_Lc31 10 rfl) rfl ?_
    refine x_iload (dT U_Lc31 11 rfl) rfl ?_
    refine x_iconst (dT U_Lc31 12 rfl) ?_
    refine x_iadd (dT U_Lc31 13 rfl) ?_
    refine x_sld (i + 1) hL (dT U_Lc31 14 rfl) (by omega) (by omega) ?_
    refine x_invokevirtual (rc' := rc) (rs' := rs) (rc2 := 0) (rs2 := 0) (As := [_]) (st := _) M_X11_ask K_L_344 (dT U_Lc31 15 rfl) rfl rfl (by decide) rfl rfl wmx.c70 (Nat.le_of_ble_eq_true rfl) (by decide) rfl (Nat.le_of_ble_eq_true rfl) rfl (by decide) (Nat.le_of_ble_eq_true rfl) rfl rfl ?_
    refine S_X11_ask wmx v (xr_s _) (fun m1 _ _ _ _ _ => absurd c1 m1) (fun m1 m2 _ _ _ _ _ => absurd c2 m2) (fun m1 m2 h3 r3 s3 ag wx => ?_)
    refine xRet_some ?_
    rw [ez9]
    refine x_istore (ls' := [some (.ref _), some (.ref _), some (.ref _), some (.ref _), some (.ref _), some (vi _), some (vi _), some (vi _), none]) (dT U_Lc31 16 rfl) (by decide) rfl ?_
    refine x_aload_n (dT U_Lc31 17 rfl) rfl ?_
    refine x_invokevirtual (rc' := rc) (rs' := rs) (rc2 := 0) (rs2 := 0) (As := []) (st := _) M_X11_thrown K_L_242 (dT U_Lc31 18 rfl) rfl rfl (by decide) rfl rfl wx.c70 (Nat.le_of_ble_eq_true rfl) (by decide) rfl (Nat.le_of_ble_eq_true rfl) rfl (by decide) (Nat.le_of_ble_eq_true rfl) rfl rfl ?_
    refine S_X11_thrown wx ?_
    refine xRet_some ?_
    refine x_iload (dT U_Lc31 19 rfl) rfl ?_
    refine x_icmp_eq (tgt := 2764) (dT U_Lc31 20 rfl) (by decide) (by unfold xr; omega) (by unfold xr; omega) (fun c2759 => ?_) (fun c2759 => (by exfalso; omega))
    refine x_iload (dT U_Lc31 23 rfl) rfl ?_
    refine x_if_nen (tgt := 2781) (dT U_Lc31 24 rfl) (by decide) (by decide) ?_
    refine x_aload_n (dT U_Lc31 25 rfl) rfl ?_
    refine x_iconst (dT U_Lc31 26 rfl) ?_
    refine x_laload 0 (dT U_Lc31 27 rfl) (ag.get (hset_eq (fc.get ho (by omega))) (by omega)) (Nat.le_of_ble_eq_true rfl) rfl (Nat.le_of_ble_eq_true rfl) (Nat.le_of_ble_eq_true rfl) ?_
    refine x_iload (dT U_Lc31 28 rfl) rfl ?_
    refine x_i2l (dT U_Lc31 29 rfl) hz9 ?_
    refine x_lcmp (dT U_Lc31 30 rfl) (xr_l hz9) (xr_l hz9) ?_
    refine x_if_eqj (tgt := 2781) (dT U_Lc31 31 rfl) (by decide) (xcmp_rf _) ?_
    refine x_goto (tgt := 5554) (dT U_Lc31 34 rfl) (by decide) ?_
    refine x_drop ?_ (M _ _ _ _ _ _ _ _ (IV_ask v c1 c2) ((w2.out ((Ag.rf 143 143 h2).set (by omega)) (by omega)).out ag (by omega)) wx (ag.get (hset_eq (fc.get ho (by omega))) (by omega)) (ag.get (hset_ne (by omega) (fc.get hod (by omega))) (by omega)))
    repeat (first | exact trivial | refine ⟨rfl, ?_⟩ | refine ⟨trivial, ?_⟩)

def B_Lc32 : ByteArray := .mk #[0x2b, 0x2a, 0x15, 0x05, 0x04, 0x60, 0x2e, 0x2a, 0x15, 0x05, 0x05, 0x60, 0x2e, 0x2a, 0x15, 0x05, 0x06, 0x60, 0x2e, 0x2d, 0xb8, 0x01, 0x59, 0x36, 0x06, 0x2c, 0x2a, 0x15, 0x05, 0x04, 0x60, 0x2e, 0x2a, 0x15, 0x05, 0x05, 0x60, 0x2e, 0x2a, 0x15, 0x05, 0x06, 0x60, 0x2e, 0xb6, 0x01, 0x5b, 0x36, 0x07, 0x2c, 0xb6, 0x00, 0xf2, 0x15, 0x06, 0x9f, 0x00, 0x05, 0x03, 0xac, 0x15, 0x06, 0x9a, 0x00, 0x0f, 0x2d, 0x03, 0x2f, 0x15, 0x07, 0x85, 0x94, 0x99, 0x00, 0x05, 0x03, 0xac, 0xa7, 0x0a, 0x85]
theorem W_Lc32 : sameFrom m_L_law.2.1 B_Lc32 2784 := sameFrom_of (by decide +kernel)
def t_Lc32 : List (Nat × Instr × Nat) := [(2784, .aload_n 1, 1), (2785, .aload_n 0, 1), (2786, .iload 5, 2), (2788, .iconst 1, 1), (2789, .iadd, 1), (2790, .iaload, 1), (2791, .aload_n 0, 1), (2792, .iload 5, 2), (2794, .iconst 2, 1), (2795, .iadd, 1), (2796, .iaload, 1), (2797, .aload_n 0, 1), (2798, .iload 5, 2), (2800, .iconst 3, 1), (2801, .iadd, 1), (2802, .iaload, 1), (2803, .aload_n 3, 1), (2804, .invokestatic 345, 3), (2807, .istore 6, 2), (2809, .aload_n 2, 1), (2810, .aload_n 0, 1), (2811, .iload 5, 2), (2813, .iconst 1, 1), (2814, .iadd, 1), (2815, .iaload, 1), (2816, .aload_n 0, 1), (2817, .iload 5, 2), (2819, .iconst 2, 1), (2820, .iadd, 1), (2821, .iaload, 1), (2822, .aload_n 0, 1), (2823, .iload 5, 2), (2825, .iconst 3, 1), (2826, .iadd, 1), (2827, .iaload, 1), (2828, .invokevirtual 347, 3), (2831, .istore 7, 2), (2833, .aload_n 2, 1), (2834, .invokevirtual 242, 3), (2837, .iload 6, 2), (2839, .if_icmp .eq 5, 3), (2842, .iconst 0, 1), (2843, .ireturn, 1), (2844, .iload 6, 2), (2846, .ifCond .ne 15, 3), (2849, .aload_n 3, 1), (2850, .iconst 0, 1), (2851, .laload, 1), (2852, .iload 7, 2), (2854, .i2l, 1), (2855, .lcmp, 1), (2856, .ifCond .eq 5, 3), (2859, .iconst 0, 1), (2860, .ireturn, 1), (2861, .goto 2693, 3)]
set_option maxRecDepth 20000 in
theorem U_Lc32 : okT m_L_law.2.1 t_Lc32 = true := dSt [(0, .aload_n 1, 1), (1, .aload_n 0, 1), (2, .iload 5, 2), (4, .iconst 1, 1), (5, .iadd, 1), (6, .iaload, 1), (7, .aload_n 0, 1), (8, .iload 5, 2), (10, .iconst 2, 1), (11, .iadd, 1), (12, .iaload, 1), (13, .aload_n 0, 1), (14, .iload 5, 2), (16, .iconst 3, 1), (17, .iadd, 1), (18, .iaload, 1), (19, .aload_n 3, 1), (20, .invokestatic 345, 3), (23, .istore 6, 2), (25, .aload_n 2, 1), (26, .aload_n 0, 1), (27, .iload 5, 2), (29, .iconst 1, 1), (30, .iadd, 1), (31, .iaload, 1), (32, .aload_n 0, 1), (33, .iload 5, 2), (35, .iconst 2, 1), (36, .iadd, 1), (37, .iaload, 1), (38, .aload_n 0, 1), (39, .iload 5, 2), (41, .iconst 3, 1), (42, .iadd, 1), (43, .iaload, 1), (44, .invokevirtual 347, 3), (47, .istore 7, 2), (49, .aload_n 2, 1), (50, .invokevirtual 242, 3), (53, .iload 6, 2), (55, .if_icmp .eq 5, 3), (58, .iconst 0, 1), (59, .ireturn, 1), (60, .iload 6, 2), (62, .ifCond .ne 15, 3), (65, .aload_n 3, 1), (66, .iconst 0, 1), (67, .laload, 1), (68, .iload 7, 2), (70, .i2l, 1), (71, .lcmp, 1), (72, .ifCond .eq 5, 3), (75, .iconst 0, 1), (76, .ireturn, 1), (77, .goto 2693, 3)] W_Lc32 (by decide +kernel) (by decide +kernel)
set_option maxRecDepth 20000 in
set_option maxHeartbeats 1000000 in
theorem LC_32 {G : xG} {d rc rs : Nat} {ex : Bool} {h : xH} {Q : xQ} {σ : St} {c0 : Int} {rr : Nat} {ss : Int} {l0 : Int} {d0 : UInt64} {i : Nat} (hL : G.2.2.2.2.2.1 < 2147483648) (hi : i + 10 ≤ G.2.2.2.2.2.1) (w : CW σ h) (wm : MX σ c0 rr ss h) (v : INV σ) (ho : h[143]? = some (cJ [l0])) (hod : h[144]? = some (cD [d0]))
    (M : ∀ (σ9 : St) (h9 : xH) (e9 : Bool) (c9 : Int) (r9 : Nat) (s9 : Int) (l9 : Int) (d9 : UInt64), INV σ9 → CW σ9 h9 → MX σ9 c9 r9 s9 h9 → h9[143]? = some (cJ [l9]) → h9[144]? = some (cD [d9]) → X G m_L_law (d + 10) rc rs e9 5554 [some (.ref 0), some (.ref 3), some (.ref 70), some (.ref 143), some (.ref 144), some (vi (i : Int)), none, none, none] [] h9 Q) : X G m_L_law (d + 10) (rc + 5) (rs + 30) ex 2784 [some (.ref 0), some (.ref 3), some (.ref 70), some (.ref 143), some (.ref 144), some (vi (i : Int)), none, none, none] [] h Q := by
  refine x_aload_n (dT U_Lc32 0 rfl) rfl ?_
  refine x_aload_n (dT U_Lc32 1 rfl) rfl ?_
  refine x_iload (dT U_Lc32 2 rfl) rfl ?_
  refine x_iconst (dT U_Lc32 3 rfl) ?_
  refine x_iadd (dT U_Lc32 4 rfl) ?_
  refine x_sld (i + 1) hL (dT U_Lc32 5 rfl) (by omega) (by omega) ?_
  refine x_aload_n (dT U_Lc32 6 rfl) rfl ?_
  refine x_iload (dT U_Lc32 7 rfl) rfl ?_
  refine x_iconst (dT U_Lc32 8 rfl) ?_
  refine x_iadd (dT U_Lc32 9 rfl) ?_
  refine x_sld (i + 2) hL (dT U_Lc32 10 rfl) (by omega) (by omega) ?_
  refine x_aload_n (dT U_Lc32 11 rfl) rfl ?_
  refine x_iload (dT U_Lc32 12 rfl) rfl ?_
  refine x_iconst (dT U_Lc32 13 rfl) ?_
  refine x_iadd (dT U_Lc32 14 rfl) ?_
  refine x_sld (i + 3) hL (dT U_Lc32 15 rfl) (by omega) (by omega) ?_
  refine x_aload_n (dT U_Lc32 16 rfl) rfl ?_
  refine x_invokestaticT (rc' := rc) (rs' := rs) (rc2 := 0 + 5) (rs2 := 0 + 30) (As := [_, _, _, _, _]) (st := _) M_L_reply K_L_345 (dT U_Lc32 17 rfl) rfl (by decide) rfl rfl (Nat.le_of_ble_eq_true rfl) rfl (by decide) (Nat.le_of_ble_eq_true rfl) (by omega) (by omega) ?_
  refine S_L_reply w v (xr_s _) (xr_s _) (xr_s _) ho (fun c1 => ?_) (fun c1 c2 => ?_) (fun c1 c2 c3 => ?_) (fun c1 c2 c3 h2 fc w2 z9 hz9 ez9 => ?_)
  · refine xRet_some ?_
    refine x_istore (ls' := [some (.ref _), some (.ref _), some (.ref _), some (.ref _), some (.ref _), some (vi _), some (vi _), none, none]) (dT U_Lc32 18 rfl) (by decide) rfl ?_
    refine x_aload_n (dT U_Lc32 19 rfl) rfl ?_
    refine x_aload_n (dT U_Lc32 20 rfl) rfl ?_
    refine x_iload (dT U_Lc32 21 rfl) rfl ?_
    refine x_iconst (dT U_Lc32 22 rfl) ?_
    refine x_iadd (dT U_Lc32 23 rfl) ?_
    refine x_sld (i + 1) hL (dT U_Lc32 24 rfl) (by omega) (by omega) ?_
    refine x_aload_n (dT U_Lc32 25 rfl) rfl ?_
    refine x_iload (dT U_Lc32 26 rfl) rfl ?_
    refine x_iconst (dT U_Lc32 27 rfl) ?_
    refine x_iadd (dT U_Lc32 28 rfl) ?_
    refine x_sld (i + 2) hL (dT U_Lc32 29 rfl) (by omega) (by omega) ?_
    refine x_aload_n (dT U_Lc32 30 rfl) rfl ?_
    refine x_iload (dT U_Lc32 31 rfl) rfl ?_
    refine x_iconst (dT U_Lc32 32 rfl) ?_
    refine x_iadd (dT U_Lc32 33 rfl) ?_
    refine x_sld (i + 3) hL (dT U_Lc32 34 rfl) (by omega) (by omega) ?_
    refine x_invokevirtual (rc' := rc) (rs' := rs) (rc2 := 0) (rs2 := 0) (As := [_, _, _]) (st := _) M_X11_reply K_L_347 (dT U_Lc32 35 rfl) rfl rfl (by decide) rfl rfl wm.c70 (Nat.le_of_ble_eq_true rfl) (by decide) rfl (Nat.le_of_ble_eq_true rfl) rfl (by decide) (Nat.le_of_ble_eq_true rfl) rfl rfl ?_
    refine S_X11_reply wm v (xr_s _) (xr_s _) (xr_s _) (fun m1 h3 z ag wx xz => ?_) (fun m1 m2 _ _ _ _ _ => absurd m1 c1) (fun m1 m2 m3 _ _ _ _ _ => absurd m1 c1) (fun m1 m2 m3 _ _ _ _ _ => absurd m1 c1)
    refine xRet_some ?_
    refine x_istore (ls' := [some (.ref _), some (.ref _), some (.ref _), some (.ref _), some (.ref _), some (vi _), some (vi _), some (vi _), none]) (dT U_Lc32 36 rfl) (by decide) rfl ?_
    refine x_aload_n (dT U_Lc32 37 rfl) rfl ?_
    refine x_invokevirtual (rc' := rc) (rs' := rs) (rc2 := 0) (rs2 := 0) (As := []) (st := _) M_X11_thrown K_L_242 (dT U_Lc32 38 rfl) rfl rfl (by decide) rfl rfl wx.c70 (Nat.le_of_ble_eq_true rfl) (by decide) rfl (Nat.le_of_ble_eq_true rfl) rfl (by decide) (Nat.le_of_ble_eq_true rfl) rfl rfl ?_
    refine S_X11_thrown wx ?_
    refine xRet_some ?_
    refine x_iload (dT U_Lc32 39 rfl) rfl ?_
    refine x_icmp_eq (tgt := 2844) (dT U_Lc32 40 rfl) (by decide) (by unfold xr; omega) (by unfold xr; omega) (fun c2839 => ?_) (fun c2839 => (by exfalso; omega))
    refine x_iload (dT U_Lc32 43 rfl) rfl ?_
    refine x_if_nej (tgt := 2861) (dT U_Lc32 44 rfl) (by decide) (by decide) ?_
    refine x_goto (tgt := 5554) (dT U_Lc32 54 rfl) (by decide) ?_
    refine x_drop ?_ (M _ _ _ _ _ _ _ _ v (w.out ag (by omega)) wx (ag.get ho (by omega)) (ag.get hod (by omega)))
    repeat (first | exact trivial | refine ⟨rfl, ?_⟩ | refine ⟨trivial, ?_⟩)
  · refine xRet_some ?_
    refine x_istore (ls' := [some (.ref _), some (.ref _), some (.ref _), some (.ref _), some (.ref _), some (vi _), some (vi _), none, none]) (dT U_Lc32 18 rfl) (by decide) rfl ?_
    refine x_aload_n (dT U_Lc32 19 rfl) rfl ?_
    refine x_aload_n (dT U_Lc32 20 rfl) rfl ?_
    refine x_iload (dT U_Lc32 21 rfl) rfl ?_
    refine x_iconst (dT U_Lc32 22 rfl) ?_
    refine x_iadd (dT U_Lc32 23 rfl) ?_
    refine x_sld (i + 1) hL (dT U_Lc32 24 rfl) (by omega) (by omega) ?_
    refine x_aload_n (dT U_Lc32 25 rfl) rfl ?_
    refine x_iload (dT U_Lc32 26 rfl) rfl ?_
    refine x_iconst (dT U_Lc32 27 rfl) ?_
    refine x_iadd (dT U_Lc32 28 rfl) ?_
    refine x_sld (i + 2) hL (dT U_Lc32 29 rfl) (by omega) (by omega) ?_
    refine x_aload_n (dT U_Lc32 30 rfl) rfl ?_
    refine x_iload (dT U_Lc32 31 rfl) rfl ?_
    refine x_iconst (dT U_Lc32 32 rfl) ?_
    refine x_iadd (dT U_Lc32 33 rfl) ?_
    refine x_sld (i + 3) hL (dT U_Lc32 34 rfl) (by omega) (by omega) ?_
    refine x_invokevirtual (rc' := rc) (rs' := rs) (rc2 := 0) (rs2 := 0) (As := [_, _, _]) (st := _) M_X11_reply K_L_347 (dT U_Lc32 35 rfl) rfl rfl (by decide) rfl rfl wm.c70 (Nat.le_of_ble_eq_true rfl) (by decide) rfl (Nat.le_of_ble_eq_true rfl) rfl (by decide) (Nat.le_of_ble_eq_true rfl) rfl rfl ?_
    refine S_X11_reply wm v (xr_s _) (xr_s _) (xr_s _) (fun m1 _ _ _ _ _ => absurd c1 m1) (fun m1 m2 h3 z ag wx xz => ?_) (fun m1 m2 m3 _ _ _ _ _ => absurd m2 c2) (fun m1 m2 m3 _ _ _ _ _ => absurd m2 c2)
    refine xRet_some ?_
    refine x_istore (ls' := [some (.ref _), some (.ref _), some (.ref _), some (.ref _), some (.ref _), some (vi _), some (vi _), some (vi _), none]) (dT U_Lc32 36 rfl) (by decide) rfl ?_
    refine x_aload_n (dT U_Lc32 37 rfl) rfl ?_
    refine x_invokevirtual (rc' := rc) (rs' := rs) (rc2 := 0) (rs2 := 0) (As := []) (st := _) M_X11_thrown K_L_242 (dT U_Lc32 38 rfl) rfl rfl (by decide) rfl rfl wx.c70 (Nat.le_of_ble_eq_true rfl) (by decide) rfl (Nat.le_of_ble_eq_true rfl) rfl (by decide) (Nat.le_of_ble_eq_true rfl) rfl rfl ?_
    refine S_X11_thrown wx ?_
    refine xRet_some ?_
    refine x_iload (dT U_Lc32 39 rfl) rfl ?_
    refine x_icmp_eq (tgt := 2844) (dT U_Lc32 40 rfl) (by decide) (by unfold xr; omega) (by unfold xr; omega) (fun c2839 => ?_) (fun c2839 => (by exfalso; omega))
    refine x_iload (dT U_Lc32 43 rfl) rfl ?_
    refine x_if_ne (tgt := 2861) (dT U_Lc32 44 rfl) (by decide) (by unfold xr; omega) (fun c2846 => ?_) (fun c2846 => (by exfalso; omega))
    refine x_goto (tgt := 5554) (dT U_Lc32 54 rfl) (by decide) ?_
    refine x_drop ?_ (M _ _ _ _ _ _ _ _ v (w.out ag (by omega)) wx (ag.get ho (by omega)) (ag.get hod (by omega)))
    repeat (first | exact trivial | refine ⟨rfl, ?_⟩ | refine ⟨trivial, ?_⟩)
  · refine xRet_some ?_
    refine x_istore (ls' := [some (.ref _), some (.ref _), some (.ref _), some (.ref _), some (.ref _), some (vi _), some (vi _), none, none]) (dT U_Lc32 18 rfl) (by decide) rfl ?_
    refine x_aload_n (dT U_Lc32 19 rfl) rfl ?_
    refine x_aload_n (dT U_Lc32 20 rfl) rfl ?_
    refine x_iload (dT U_Lc32 21 rfl) rfl ?_
    refine x_iconst (dT U_Lc32 22 rfl) ?_
    refine x_iadd (dT U_Lc32 23 rfl) ?_
    refine x_sld (i + 1) hL (dT U_Lc32 24 rfl) (by omega) (by omega) ?_
    refine x_aload_n (dT U_Lc32 25 rfl) rfl ?_
    refine x_iload (dT U_Lc32 26 rfl) rfl ?_
    refine x_iconst (dT U_Lc32 27 rfl) ?_
    refine x_iadd (dT U_Lc32 28 rfl) ?_
    refine x_sld (i + 2) hL (dT U_Lc32 29 rfl) (by omega) (by omega) ?_
    refine x_aload_n (dT U_Lc32 30 rfl) rfl ?_
    refine x_iload (dT U_Lc32 31 rfl) rfl ?_
    refine x_iconst (dT U_Lc32 32 rfl) ?_
    refine x_iadd (dT U_Lc32 33 rfl) ?_
    refine x_sld (i + 3) hL (dT U_Lc32 34 rfl) (by omega) (by omega) ?_
    refine x_invokevirtual (rc' := rc) (rs' := rs) (rc2 := 0) (rs2 := 0) (As := [_, _, _]) (st := _) M_X11_reply K_L_347 (dT U_Lc32 35 rfl) rfl rfl (by decide) rfl rfl wm.c70 (Nat.le_of_ble_eq_true rfl) (by decide) rfl (Nat.le_of_ble_eq_true rfl) rfl (by decide) (Nat.le_of_ble_eq_true rfl) rfl rfl ?_
    refine S_X11_reply wm v (xr_s _) (xr_s _) (xr_s _) (fun m1 _ _ _ _ _ => absurd c1 m1) (fun m1 m2 _ _ _ _ _ => absurd c2 m2) (fun m1 m2 m3 h3 z ag wx xz => ?_) (fun m1 m2 m3 _ _ _ _ _ => absurd m3 c3)
    refine xRet_some ?_
    refine x_istore (ls' := [some (.ref _), some (.ref _), some (.ref _), some (.ref _), some (.ref _), some (vi _), some (vi _), some (vi _), none]) (dT U_Lc32 36 rfl) (by decide) rfl ?_
    refine x_aload_n (dT U_Lc32 37 rfl) rfl ?_
    refine x_invokevirtual (rc' := rc) (rs' := rs) (rc2 := 0) (rs2 := 0) (As := []) (st := _) M_X11_thrown K_L_242 (dT U_Lc32 38 rfl) rfl rfl (by decide) rfl rfl wx.c70 (Nat.le_of_ble_eq_true rfl) (by decide) rfl (Nat.le_of_ble_eq_true rfl) rfl (by decide) (Nat.le_of_ble_eq_true rfl) rfl rfl ?_
    refine S_X11_thrown wx ?_
    refine xRet_some ?_
    refine x_iload (dT U_Lc32 39 rfl) rfl ?_
    refine x_icmp_eq (tgt := 2844) (dT U_Lc32 40 rfl) (by decide) (by unfold xr; omega) (by unfold xr; omega) (fun c2839 => ?_) (fun c2839 => (by exfalso; omega))
    refine x_iload (dT U_Lc32 43 rfl) rfl ?_
    refine x_if_ne (tgt := 2861) (dT U_Lc32 44 rfl) (by decide) (by unfold xr; omega) (fun c2846 => ?_) (fun c2846 => (by exfalso; omega))
    refine x_goto (tgt := 5554) (dT U_Lc32 54 rfl) (by decide) ?_
    refine x_drop ?_ (M _ _ _ _ _ _ _ _ v (w.out ag (by omega)) wx (ag.get ho (by omega)) (ag.get hod (by omega)))
    repeat (first | exact trivial | refine ⟨rfl, ?_⟩ | refine ⟨trivial, ?_⟩)
  · refine xRet_some ?_
    have wmx := wm.out (h2 := (h2.set 143 (cJ [z9]))) (fun a ha => by rw [hset_fr (by omega)]; exact fc.2 a (by omega))
    refine x_istore (ls' := [some (.ref _), some (.ref _), some (.ref _), some (.ref _), some (.ref _), some (vi _), some (vi _), none, none]) (dT U_Lc32 18 rfl) (by decide) rfl ?_
    refine x_aload_n (dT U_Lc32 19 rfl) rfl ?_
    refine x_aload_n (dT U_Lc32 20 rfl) rfl ?_
    refine x_iload (dT U_Lc32 21 rfl) rfl ?_
    refine x_iconst (dT U_Lc32 22 rfl) ?_
    refine x_iadd (dT U_Lc32 23 rfl) ?_
    refine x_sld (i + 1) hL (dT U_Lc32 24 rfl) (by omega) (by omega) ?_
    refine x_aload_n (dT U_Lc32 25 rfl) rfl ?_
    refine x_iload (dT U_Lc32 26 rfl) rfl ?_
    refine x_iconst (dT U_Lc32 27 rfl) ?_
    refine x_iadd (dT U_Lc32 28 rfl) ?_
    refine x_sld (i + 2) hL (dT U_Lc32 29 rfl) (by omega) (by omega) ?_
    refine x_aload_n (dT U_Lc32 30 rfl) rfl ?_
    refine x_iload (dT U_Lc32 31 rfl) rfl ?_
    refine x_iconst (dT U_Lc32 32 rfl) ?_
    refine x_iadd (dT U_Lc32 33 rfl) ?_
    refine x_sld (i + 3) hL (dT U_Lc32 34 rfl) (by omega) (by omega) ?_
    refine x_invokevirtual (rc' := rc) (rs' := rs) (rc2 := 0) (rs2 := 0) (As := [_, _, _]) (st := _) M_X11_reply K_L_347 (dT U_Lc32 35 rfl) rfl rfl (by decide) rfl rfl wmx.c70 (Nat.le_of_ble_eq_true rfl) (by decide) rfl (Nat.le_of_ble_eq_true rfl) rfl (by decide) (Nat.le_of_ble_eq_true rfl) rfl rfl ?_
    refine S_X11_reply wmx v (xr_s _) (xr_s _) (xr_s _) (fun m1 _ _ _ _ _ => absurd c1 m1) (fun m1 m2 _ _ _ _ _ => absurd c2 m2) (fun m1 m2 m3 _ _ _ _ _ => absurd c3 m3) (fun m1 m2 m3 h3 r3 s3 ag wx => ?_)
    refine xRet_some ?_
    rw [ez9]
    refine x_istore (ls' := [some (.ref _), some (.ref _), some (.ref _), some (.ref _), some (.ref _), some (vi _), some (vi _), some (vi _), none]) (dT U_Lc32 36 rfl) (by decide) rfl ?_
    refine x_aload_n (dT U_Lc32 37 rfl) rfl ?_
    refine x_invokevirtual (rc' := rc) (rs' := rs) (rc2 := 0) (rs2 := 0) (As := []) (st := _) M_X11_thrown K_L_242 (dT U_Lc32 38 rfl) rfl rfl (by decide) rfl rfl wx.c70 (Nat.le_of_ble_eq_true rfl) (by decide) rfl (Nat.le_of_ble_eq_true rfl) rfl (by decide) (Nat.le_of_ble_eq_true rfl) rfl rfl ?_
    refine S_X11_thrown wx ?_
    refine xRet_some ?_
    refine x_iload (dT U_Lc32 39 rfl) rfl ?_
    refine x_icmp_eq (tgt := 2844) (dT U_Lc32 40 rfl) (by decide) (by unfold xr; omega) (by unfold xr; omega) (fun c2839 => ?_) (fun c2839 => (by exfalso; omega))
    refine x_iload (dT U_Lc32 43 rfl) rfl ?_
    refine x_if_nen (tgt := 2861) (dT U_Lc32 44 rfl) (by decide) (by decide) ?_
    refine x_aload_n (dT U_Lc32 45 rfl) rfl ?_
    refine x_iconst (dT U_Lc32 46 rfl) ?_
    refine x_laload 0 (dT U_Lc32 47 rfl) (ag.get (hset_eq (fc.get ho (by omega))) (by omega)) (Nat.le_of_ble_eq_true rfl) rfl (Nat.le_of_ble_eq_true rfl) (Nat.le_of_ble_eq_true rfl) ?_
    refine x_iload (dT U_Lc32 48 rfl) rfl ?_
    refine x_i2l (dT U_Lc32 49 rfl) hz9 ?_
    refine x_lcmp (dT U_Lc32 50 rfl) (xr_l hz9) (xr_l hz9) ?_
    refine x_if_eqj (tgt := 2861) (dT U_Lc32 51 rfl) (by decide) (xcmp_rf _) ?_
    refine x_goto (tgt := 5554) (dT U_Lc32 54 rfl) (by decide) ?_
    refine x_drop ?_ (M _ _ _ _ _ _ _ _ (IV_reply v c1 c2 c3) ((w2.out ((Ag.rf 143 143 h2).set (by omega)) (by omega)).out ag (by omega)) wx (ag.get (hset_eq (fc.get ho (by omega))) (by omega)) (ag.get (hset_ne (by omega) (fc.get hod (by omega))) (by omega)))
    repeat (first | exact trivial | refine ⟨rfl, ?_⟩ | refine ⟨trivial, ?_⟩)

def B_Lc33 : ByteArray := .mk #[0x2b, 0x2a, 0x15, 0x05, 0x04, 0x60, 0x2e, 0x2a, 0x15, 0x05, 0x05, 0x60, 0x2e, 0x2a, 0x15, 0x05, 0x06, 0x60, 0x2e, 0x2d, 0xb8, 0x01, 0x5c, 0x36, 0x06, 0x2c, 0x2a, 0x15, 0x05, 0x04, 0x60, 0x2e, 0x2a, 0x15, 0x05, 0x05, 0x60, 0x2e, 0x2a, 0x15, 0x05, 0x06, 0x60, 0x2e, 0xb6, 0x01, 0x5e, 0x36, 0x07, 0x2c, 0xb6, 0x00, 0xf2, 0x15, 0x06, 0x9f, 0x00, 0x05, 0x03, 0xac, 0x15, 0x06, 0x9a, 0x00, 0x0f, 0x2d, 0x03, 0x2f, 0x15, 0x07, 0x85, 0x94, 0x99, 0x00, 0x05, 0x03, 0xac, 0xa7, 0x0a, 0x35]
theorem W_Lc33 : sameFrom m_L_law.2.1 B_Lc33 2864 := sameFrom_of (by decide +kernel)
def t_Lc33 : List (Nat × Instr × Nat) := [(2864, .aload_n 1, 1), (2865, .aload_n 0, 1), (2866, .iload 5, 2), (2868, .iconst 1, 1), (2869, .iadd, 1), (2870, .iaload, 1), (2871, .aload_n 0, 1), (2872, .iload 5, 2), (2874, .iconst 2, 1), (2875, .iadd, 1), (2876, .iaload, 1), (2877, .aload_n 0, 1), (2878, .iload 5, 2), (2880, .iconst 3, 1), (2881, .iadd, 1), (2882, .iaload, 1), (2883, .aload_n 3, 1), (2884, .invokestatic 348, 3), (2887, .istore 6, 2), (2889, .aload_n 2, 1), (2890, .aload_n 0, 1), (2891, .iload 5, 2), (2893, .iconst 1, 1), (2894, .iadd, 1), (2895, .iaload, 1), (2896, .aload_n 0, 1), (2897, .iload 5, 2), (2899, .iconst 2, 1), (2900, .iadd, 1), (2901, .iaload, 1), (2902, .aload_n 0, 1), (2903, .iload 5, 2), (2905, .iconst 3, 1), (2906, .iadd, 1), (2907, .iaload, 1), (2908, .invokevirtual 350, 3), (2911, .istore 7, 2), (2913, .aload_n 2, 1), (2914, .invokevirtual 242, 3), (2917, .iload 6, 2), (2919, .if_icmp .eq 5, 3), (2922, .iconst 0, 1), (2923, .ireturn, 1), (2924, .iload 6, 2), (2926, .ifCond .ne 15, 3), (2929, .aload_n 3, 1), (2930, .iconst 0, 1), (2931, .laload, 1), (2932, .iload 7, 2), (2934, .i2l, 1), (2935, .lcmp, 1), (2936, .ifCond .eq 5, 3), (2939, .iconst 0, 1), (2940, .ireturn, 1), (2941, .goto 2613, 3)]
set_option maxRecDepth 20000 in
theorem U_Lc33 : okT m_L_law.2.1 t_Lc33 = true := dSt [(0, .aload_n 1, 1), (1, .aload_n 0, 1), (2, .iload 5, 2), (4, .iconst 1, 1), (5, .iadd, 1), (6, .iaload, 1), (7, .aload_n 0, 1), (8, .iload 5, 2), (10, .iconst 2, 1), (11, .iadd, 1), (12, .iaload, 1), (13, .aload_n 0, 1), (14, .iload 5, 2), (16, .iconst 3, 1), (17, .iadd, 1), (18, .iaload, 1), (19, .aload_n 3, 1), (20, .invokestatic 348, 3), (23, .istore 6, 2), (25, .aload_n 2, 1), (26, .aload_n 0, 1), (27, .iload 5, 2), (29, .iconst 1, 1), (30, .iadd, 1), (31, .iaload, 1), (32, .aload_n 0, 1), (33, .iload 5, 2), (35, .iconst 2, 1), (36, .iadd, 1), (37, .iaload, 1), (38, .aload_n 0, 1), (39, .iload 5, 2), (41, .iconst 3, 1), (42, .iadd, 1), (43, .iaload, 1), (44, .invokevirtual 350, 3), (47, .istore 7, 2), (49, .aload_n 2, 1), (50, .invokevirtual 242, 3), (53, .iload 6, 2), (55, .if_icmp .eq 5, 3), (58, .iconst 0, 1), (59, .ireturn, 1), (60, .iload 6, 2), (62, .ifCond .ne 15, 3), (65, .aload_n 3, 1), (66, .iconst 0, 1), (67, .laload, 1), (68, .iload 7, 2), (70, .i2l, 1), (71, .lcmp, 1), (72, .ifCond .eq 5, 3), (75, .iconst 0, 1), (76, .ireturn, 1), (77, .goto 2613, 3)] W_Lc33 (by decide +kernel) (by decide +kernel)
set_option maxRecDepth 20000 in
set_option maxHeartbeats 1000000 in
theorem LC_33 {G : xG} {d rc rs : Nat} {ex : Bool} {h : xH} {Q : xQ} {σ : St} {c0 : Int} {rr : Nat} {ss : Int} {l0 : Int} {d0 : UInt64} {i : Nat} (hL : G.2.2.2.2.2.1 < 2147483648) (hi : i + 10 ≤ G.2.2.2.2.2.1) (w : CW σ h) (wm : MX σ c0 rr ss h) (v : INV σ) (ho : h[143]? = some (cJ [l0])) (hod : h[144]? = some (cD [d0]))
    (M : ∀ (σ9 : St) (h9 : xH) (e9 : Bool) (c9 : Int) (r9 : Nat) (s9 : Int) (l9 : Int) (d9 : UInt64), INV σ9 → CW σ9 h9 → MX σ9 c9 r9 s9 h9 → h9[143]? = some (cJ [l9]) → h9[144]? = some (cD [d9]) → X G m_L_law (d + 10) rc rs e9 5554 [some (.ref 0), some (.ref 3), some (.ref 70), some (.ref 143), some (.ref 144), some (vi (i : Int)), none, none, none] [] h9 Q) : X G m_L_law (d + 10) (rc + 4) (rs + 24) ex 2864 [some (.ref 0), some (.ref 3), some (.ref 70), some (.ref 143), some (.ref 144), some (vi (i : Int)), none, none, none] [] h Q := by
  refine x_aload_n (dT U_Lc33 0 rfl) rfl ?_
  refine x_aload_n (dT U_Lc33 1 rfl) rfl ?_
  refine x_iload (dT U_Lc33 2 rfl) rfl ?_
  refine x_iconst (dT U_Lc33 3 rfl) ?_
  refine x_iadd (dT U_Lc33 4 rfl) ?_
  refine x_sld (i + 1) hL (dT U_Lc33 5 rfl) (by omega) (by omega) ?_
  refine x_aload_n (dT U_Lc33 6 rfl) rfl ?_
  refine x_iload (dT U_Lc33 7 rfl) rfl ?_
  refine x_iconst (dT U_Lc33 8 rfl) ?_
  refine x_iadd (dT U_Lc33 9 rfl) ?_
  refine x_sld (i + 2) hL (dT U_Lc33 10 rfl) (by omega) (by omega) ?_
  refine x_aload_n (dT U_Lc33 11 rfl) rfl ?_
  refine x_iload (dT U_Lc33 12 rfl) rfl ?_
  refine x_iconst (dT U_Lc33 13 rfl) ?_
  refine x_iadd (dT U_Lc33 14 rfl) ?_
  refine x_sld (i + 3) hL (dT U_Lc33 15 rfl) (by omega) (by omega) ?_
  refine x_aload_n (dT U_Lc33 16 rfl) rfl ?_
  refine x_invokestaticT (rc' := rc) (rs' := rs) (rc2 := 0 + 4) (rs2 := 0 + 24) (As := [_, _, _, _, _]) (st := _) M_L_tell K_L_348 (dT U_Lc33 17 rfl) rfl (by decide) rfl rfl (Nat.le_of_ble_eq_true rfl) rfl (by decide) (Nat.le_of_ble_eq_true rfl) (by omega) (by omega) ?_
  refine S_L_tell w v (xr_s _) (xr_s _) (xr_s _) ho (fun c1 => ?_) (fun c1 c2 => ?_) (fun c1 c2 c3 => ?_) (fun c1 c2 c3 h2 fc w2 z9 hz9 ez9 => ?_)
  · refine xRet_some ?_
    refine x_istore (ls' := [some (.ref _), some (.ref _), some (.ref _), some (.ref _), some (.ref _), some (vi _), some (vi _), none, none]) (dT U_Lc33 18 rfl) (by decide) rfl ?_
    refine x_aload_n (dT U_Lc33 19 rfl) rfl ?_
    refine x_aload_n (dT U_Lc33 20 rfl) rfl ?_
    refine x_iload (dT U_Lc33 21 rfl) rfl ?_
    refine x_iconst (dT U_Lc33 22 rfl) ?_
    refine x_iadd (dT U_Lc33 23 rfl) ?_
    refine x_sld (i + 1) hL (dT U_Lc33 24 rfl) (by omega) (by omega) ?_
    refine x_aload_n (dT U_Lc33 25 rfl) rfl ?_
    refine x_iload (dT U_Lc33 26 rfl) rfl ?_
    refine x_iconst (dT U_Lc33 27 rfl) ?_
    refine x_iadd (dT U_Lc33 28 rfl) ?_
    refine x_sld (i + 2) hL (dT U_Lc33 29 rfl) (by omega) (by omega) ?_
    refine x_aload_n (dT U_Lc33 30 rfl) rfl ?_
    refine x_iload (dT U_Lc33 31 rfl) rfl ?_
    refine x_iconst (dT U_Lc33 32 rfl) ?_
    refine x_iadd (dT U_Lc33 33 rfl) ?_
    refine x_sld (i + 3) hL (dT U_Lc33 34 rfl) (by omega) (by omega) ?_
    refine x_invokevirtual (rc' := rc) (rs' := rs) (rc2 := 0) (rs2 := 0) (As := [_, _, _]) (st := _) M_X11_tell K_L_350 (dT U_Lc33 35 rfl) rfl rfl (by decide) rfl rfl wm.c70 (Nat.le_of_ble_eq_true rfl) (by decide) rfl (Nat.le_of_ble_eq_true rfl) rfl (by decide) (Nat.le_of_ble_eq_true rfl) rfl rfl ?_
    refine S_X11_tell wm v (xr_s _) (xr_s _) (xr_s _) (fun m1 h3 z ag wx xz => ?_) (fun m1 m2 _ _ _ _ _ => absurd m1 c1) (fun m1 m2 m3 _ _ _ _ _ => absurd m1 c1) (fun m1 m2 m3 _ _ _ _ _ => absurd m1 c1)
    refine xRet_some ?_
    refine x_istore (ls' := [some (.ref _), some (.ref _), some (.ref _), some (.ref _), some (.ref _), some (vi _), some (vi _), some (vi _), none]) (dT U_Lc33 36 rfl) (by decide) rfl ?_
    refine x_aload_n (dT U_Lc33 37 rfl) rfl ?_
    refine x_invokevirtual (rc' := rc) (rs' := rs) (rc2 := 0) (rs2 := 0) (As := []) (st := _) M_X11_thrown K_L_242 (dT U_Lc33 38 rfl) rfl rfl (by decide) rfl rfl wx.c70 (Nat.le_of_ble_eq_true rfl) (by decide) rfl (Nat.le_of_ble_eq_true rfl) rfl (by decide) (Nat.le_of_ble_eq_true rfl) rfl rfl ?_
    refine S_X11_thrown wx ?_
    refine xRet_some ?_
    refine x_iload (dT U_Lc33 39 rfl) rfl ?_
    refine x_icmp_eq (tgt := 2924) (dT U_Lc33 40 rfl) (by decide) (by unfold xr; omega) (by unfold xr; omega) (fun c2919 => ?_) (fun c2919 => (by exfalso; omega))
    refine x_iload (dT U_Lc33 43 rfl) rfl ?_
    refine x_if_nej (tgt := 2941) (dT U_Lc33 44 rfl) (by decide) (by decide) ?_
    refine x_goto (tgt := 5554) (dT U_Lc33 54 rfl) (by decide) ?_
    refine x_drop ?_ (M _ _ _ _ _ _ _ _ v (w.out ag (by omega)) wx (ag.get ho (by omega)) (ag.get hod (by omega)))
    repeat (first | exact trivial | refine ⟨rfl, ?_⟩ | refine ⟨trivial, ?_⟩)
  · refine xRet_some ?_
    refine x_istore (ls' := [some (.ref _), some (.ref _), some (.ref _), some (.ref _), some (.ref _), some (vi _), some (vi _), none, none]) (dT U_Lc33 18 rfl) (by decide) rfl ?_
    refine x_aload_n (dT U_Lc33 19 rfl) rfl ?_
    refine x_aload_n (dT U_Lc33 20 rfl) rfl ?_
    refine x_iload (dT U_Lc33 21 rfl) rfl ?_
    refine x_iconst (dT U_Lc33 22 rfl) ?_
    refine x_iadd (dT U_Lc33 23 rfl) ?_
    refine x_sld (i + 1) hL (dT U_Lc33 24 rfl) (by omega) (by omega) ?_
    refine x_aload_n (dT U_Lc33 25 rfl) rfl ?_
    refine x_iload (dT U_Lc33 26 rfl) rfl ?_
    refine x_iconst (dT U_Lc33 27 rfl) ?_
    refine x_iadd (dT U_Lc33 28 rfl) ?_
    refine x_sld (i + 2) hL (dT U_Lc33 29 rfl) (by omega) (by omega) ?_
    refine x_aload_n (dT U_Lc33 30 rfl) rfl ?_
    refine x_iload (dT U_Lc33 31 rfl) rfl ?_
    refine x_iconst (dT U_Lc33 32 rfl) ?_
    refine x_iadd (dT U_Lc33 33 rfl) ?_
    refine x_sld (i + 3) hL (dT U_Lc33 34 rfl) (by omega) (by omega) ?_
    refine x_invokevirtual (rc' := rc) (rs' := rs) (rc2 := 0) (rs2 := 0) (As := [_, _, _]) (st := _) M_X11_tell K_L_350 (dT U_Lc33 35 rfl) rfl rfl (by decide) rfl rfl wm.c70 (Nat.le_of_ble_eq_true rfl) (by decide) rfl (Nat.le_of_ble_eq_true rfl) rfl (by decide) (Nat.le_of_ble_eq_true rfl) rfl rfl ?_
    refine S_X11_tell wm v (xr_s _) (xr_s _) (xr_s _) (fun m1 _ _ _ _ _ => absurd c1 m1) (fun m1 m2 h3 z ag wx xz => ?_) (fun m1 m2 m3 _ _ _ _ _ => absurd m2 c2) (fun m1 m2 m3 _ _ _ _ _ => absurd m2 c2)
    refine xRet_some ?_
    refine x_istore (ls' := [some (.ref _), some (.ref _), some (.ref _), some (.ref _), some (.ref _), some (vi _), some (vi _), some (vi _), none]) (dT U_Lc33 36 rfl) (by decide) rfl ?_
    refine x_aload_n (dT U_Lc33 37 rfl) rfl ?_
    refine x_invokevirtual (rc' := rc) (rs' := rs) (rc2 := 0) (rs2 := 0) (As := []) (st := _) M_X11_thrown K_L_242 (dT U_Lc33 38 rfl) rfl rfl (by decide) rfl rfl wx.c70 (Nat.le_of_ble_eq_true rfl) (by decide) rfl (Nat.le_of_ble_eq_true rfl) rfl (by decide) (Nat.le_of_ble_eq_true rfl) rfl rfl ?_
    refine S_X11_thrown wx ?_
    refine xRet_some ?_
    refine x_iload (dT U_Lc33 39 rfl) rfl ?_
    refine x_icmp_eq (tgt := 2924) (dT U_Lc33 40 rfl) (by decide) (by unfold xr; omega) (by unfold xr; omega) (fun c2919 => ?_) (fun c2919 => (by exfalso; omega))
    refine x_iload (dT U_Lc33 43 rfl) rfl ?_
    refine x_if_ne (tgt := 2941) (dT U_Lc33 44 rfl) (by decide) (by unfold xr; omega) (fun c2926 => ?_) (fun c2926 => (by exfalso; omega))
    refine x_goto (tgt := 5554) (dT U_Lc33 54 rfl) (by decide) ?_
    refine x_drop ?_ (M _ _ _ _ _ _ _ _ v (w.out ag (by omega)) wx (ag.get ho (by omega)) (ag.get hod (by omega)))
    repeat (first | exact trivial | refine ⟨rfl, ?_⟩ | refine ⟨trivial, ?_⟩)
  · refine xRet_some ?_
    refine x_istore (ls' := [some (.ref _), some (.ref _), some (.ref _), some (.ref _), some (.ref _), some (vi _), some (vi _), none, none]) (dT U_Lc33 18 rfl) (by decide) rfl ?_
    refine x_aload_n (dT U_Lc33 19 rfl) rfl ?_
    refine x_aload_n (dT U_Lc33 20 rfl) rfl ?_
    refine x_iload (dT U_Lc33 21 rfl) rfl ?_
    refine x_iconst (dT U_Lc33 22 rfl) ?_
    refine x_iadd (dT U_Lc33 23 rfl) ?_
    refine x_sld (i + 1) hL (dT U_Lc33 24 rfl) (by omega) (by omega) ?_
    refine x_aload_n (dT U_Lc33 25 rfl) rfl ?_
    refine x_iload (dT U_Lc33 26 rfl) rfl ?_
    refine x_iconst (dT U_Lc33 27 rfl) ?_
    refine x_iadd (dT U_Lc33 28 rfl) ?_
    refine x_sld (i + 2) hL (dT U_Lc33 29 rfl) (by omega) (by omega) ?_
    refine x_aload_n (dT U_Lc33 30 rfl) rfl ?_
    refine x_iload (dT U_Lc33 31 rfl) rfl ?_
    refine x_iconst (dT U_Lc33 32 rfl) ?_
    refine x_iadd (dT U_Lc33 33 rfl) ?_
    refine x_sld (i + 3) hL (dT U_Lc33 34 rfl) (by omega) (by omega) ?_
    refine x_invokevirtual (rc' := rc) (rs' := rs) (rc2 := 0) (rs2 := 0) (As := [_, _, _]) (st := _) M_X11_tell K_L_350 (dT U_Lc33 35 rfl) rfl rfl (by decide) rfl rfl wm.c70 (Nat.le_of_ble_eq_true rfl) (by decide) rfl (Nat.le_of_ble_eq_true rfl) rfl (by decide) (Nat.le_of_ble_eq_true rfl) rfl rfl ?_
    refine S_X11_tell wm v (xr_s _) (xr_s _) (xr_s _) (fun m1 _ _ _ _ _ => absurd c1 m1) (fun m1 m2 _ _ _ _ _ => absurd c2 m2) (fun m1 m2 m3 h3 z ag wx xz => ?_) (fun m1 m2 m3 _ _ _ _ _ => absurd m3 c3)
    refine xRet_some ?_
    refine x_istore (ls' := [some (.ref _), some (.ref _), some (.ref _), some (.ref _), some (.ref _), some (vi _), some (vi _), some (vi _), none]) (dT U_Lc33 36 rfl) (by decide) rfl ?_
    refine x_aload_n (dT U_Lc33 37 rfl) rfl ?_
    refine x_invokevirtual (rc' := rc) (rs' := rs) (rc2 := 0) (rs2 := 0) (As := []) (st := _) M_X11_thrown K_L_242 (dT U_Lc33 38 rfl) rfl rfl (by decide) rfl rfl wx.c70 (Nat.le_of_ble_eq_true rfl) (by decide) rfl (Nat.le_of_ble_eq_true rfl) rfl (by decide) (Nat.le_of_ble_eq_true rfl) rfl rfl ?_
    refine S_X11_thrown wx ?_
    refine xRet_some ?_
    refine x_iload (dT U_Lc33 39 rfl) rfl ?_
    refine x_icmp_eq (tgt := 2924) (dT U_Lc33 40 rfl) (by decide) (by unfold xr; omega) (by unfold xr; omega) (fun c2919 => ?_) (fun c2919 => (by exfalso; omega))
    refine x_iload (dT U_Lc33 43 rfl) rfl ?_
    refine x_if_ne (tgt := 2941) (dT U_Lc33 44 rfl) (by decide) (by unfold xr; omega) (fun c2926 => ?_) (fun c2926 => (by exfalso; omega))
    refine x_goto (tgt := 5554) (dT U_Lc33 54 rfl) (by decide) ?_
    refine x_drop ?_ (M _ _ _ _ _ _ _ _ v (w.out ag (by omega)) wx (ag.get ho (by omega)) (ag.get hod (by omega)))
    repeat (first | exact trivial | refine ⟨rfl, ?_⟩ | refine ⟨trivial, ?_⟩)
  · refine xRet_some ?_
    have wmx := wm.out (h2 := (h2.set 143 (cJ [z9]))) (fun a ha => by rw [hset_fr (by omega)]; exact fc.2 a (by omega))
    refine x_istore (ls' := [some (.ref _), some (.ref _), some (.ref _), some (.ref _), some (.ref _), some (vi _), some (vi _), none, none]) (dT U_Lc33 18 rfl) (by decide) rfl ?_
    refine x_aload_n (dT U_Lc33 19 rfl) rfl ?_
    refine x_aload_n (dT U_Lc33 20 rfl) rfl ?_
    refine x_iload (dT U_Lc33 21 rfl) rfl ?_
    refine x_iconst (dT U_Lc33 22 rfl) ?_
    refine x_iadd (dT U_Lc33 23 rfl) ?_
    refine x_sld (i + 1) hL (dT U_Lc33 24 rfl) (by omega) (by omega) ?_
    refine x_aload_n (dT U_Lc33 25 rfl) rfl ?_
    refine x_iload (dT U_Lc33 26 rfl) rfl ?_
    refine x_iconst (dT U_Lc33 27 rfl) ?_
    refine x_iadd (dT U_Lc33 28 rfl) ?_
    refine x_sld (i + 2) hL (dT U_Lc33 29 rfl) (by omega) (by omega) ?_
    refine x_aload_n (dT U_Lc33 30 rfl) rfl ?_
    refine x_iload (dT U_Lc33 31 rfl) rfl ?_
    refine x_iconst (dT U_Lc33 32 rfl) ?_
    refine x_iadd (dT U_Lc33 33 rfl) ?_
    refine x_sld (i + 3) hL (dT U_Lc33 34 rfl) (by omega) (by omega) ?_
    refine x_invokevirtual (rc' := rc) (rs' := rs) (rc2 := 0) (rs2 := 0) (As := [_, _, _]) (st := _) M_X11_tell K_L_350 (dT U_Lc33 35 rfl) rfl rfl (by decide) rfl rfl wmx.c70 (Nat.le_of_ble_eq_true rfl) (by decide) rfl (Nat.le_of_ble_eq_true rfl) rfl (by decide) (Nat.le_of_ble_eq_true rfl) rfl rfl ?_
    refine S_X11_tell wmx v (xr_s _) (xr_s _) (xr_s _) (fun m1 _ _ _ _ _ => absurd c1 m1) (fun m1 m2 _ _ _ _ _ => absurd c2 m2) (fun m1 m2 m3 _ _ _ _ _ => absurd c3 m3) (fun m1 m2 m3 h3 r3 s3 ag wx => ?_)
    refine xRet_some ?_
    rw [ez9]
    refine x_istore (ls' := [some (.ref _), some (.ref _), some (.ref _), some (.ref _), some (.ref _), some (vi _), some (vi _), some (vi _), none]) (dT U_Lc33 36 rfl) (by decide) rfl ?_
    refine x_aload_n (dT U_Lc33 37 rfl) rfl ?_
    refine x_invokevirtual (rc' := rc) (rs' := rs) (rc2 := 0) (rs2 := 0) (As := []) (st := _) M_X11_thrown K_L_242 (dT U_Lc33 38 rfl) rfl rfl (by decide) rfl rfl wx.c70 (Nat.le_of_ble_eq_true rfl) (by decide) rfl (Nat.le_of_ble_eq_true rfl) rfl (by decide) (Nat.le_of_ble_eq_true rfl) rfl rfl ?_
    refine S_X11_thrown wx ?_
    refine xRet_some ?_
    refine x_iload (dT U_Lc33 39 rfl) rfl ?_
    refine x_icmp_eq (tgt := 2924) (dT U_Lc33 40 rfl) (by decide) (by unfold xr; omega) (by unfold xr; omega) (fun c2919 => ?_) (fun c2919 => (by exfalso; omega))
    refine x_iload (dT U_Lc33 43 rfl) rfl ?_
    refine x_if_nen (tgt := 2941) (dT U_Lc33 44 rfl) (by decide) (by decide) ?_
    refine x_aload_n (dT U_Lc33 45 rfl) rfl ?_
    refine x_iconst (dT U_Lc33 46 rfl) ?_
    refine x_laload 0 (dT U_Lc33 47 rfl) (ag.get (hset_eq (fc.get ho (by omega))) (by omega)) (Nat.le_of_ble_eq_true rfl) rfl (Nat.le_of_ble_eq_true rfl) (Nat.le_of_ble_eq_true rfl) ?_
    refine x_iload (dT U_Lc33 48 rfl) rfl ?_
    refine x_i2l (dT U_Lc33 49 rfl) hz9 ?_
    refine x_lcmp (dT U_Lc33 50 rfl) (xr_l hz9) (xr_l hz9) ?_
    refine x_if_eqj (tgt := 2941) (dT U_Lc33 51 rfl) (by decide) (xcmp_rf _) ?_
    refine x_goto (tgt := 5554) (dT U_Lc33 54 rfl) (by decide) ?_
    refine x_drop ?_ (M _ _ _ _ _ _ _ _ (IV_tell v c1 c2 c3) ((w2.out ((Ag.rf 143 143 h2).set (by omega)) (by omega)).out ag (by omega)) wx (ag.get (hset_eq (fc.get ho (by omega))) (by omega)) (ag.get (hset_ne (by omega) (fc.get hod (by omega))) (by omega)))
    repeat (first | exact trivial | refine ⟨rfl, ?_⟩ | refine ⟨trivial, ?_⟩)

def B_Lc34 : ByteArray := .mk #[0x2b, 0x2a, 0x15, 0x05, 0x04, 0x60, 0x2e, 0x2d, 0xb8, 0x01, 0x5f, 0x36, 0x06, 0x2c, 0x2a, 0x15, 0x05, 0x04, 0x60, 0x2e, 0xb6, 0x01, 0x61, 0x36, 0x07, 0x2c, 0xb6, 0x00, 0xf2, 0x15, 0x06, 0x9f, 0x00, 0x05, 0x03, 0xac, 0x15, 0x06, 0x9a, 0x00, 0x16, 0x2d, 0x03, 0x2f, 0x15, 0x07, 0x99, 0x00, 0x07, 0x0a, 0xa7, 0x00, 0x04, 0x09, 0x94, 0x99, 0x00, 0x05, 0x03, 0xac, 0xa7, 0x09, 0xf6]
theorem W_Lc34 : sameFrom m_L_law.2.1 B_Lc34 2944 := sameFrom_of (by decide +kernel)
def t_Lc34 : List (Nat × Instr × Nat) := [(2944, .aload_n 1, 1), (2945, .aload_n 0, 1), (2946, .iload 5, 2), (2948, .iconst 1, 1), (2949, .iadd, 1), (2950, .iaload, 1), (2951, .aload_n 3, 1), (2952, .invokestatic 351, 3), (2955, .istore 6, 2), (2957, .aload_n 2, 1), (2958, .aload_n 0, 1), (2959, .iload 5, 2), (2961, .iconst 1, 1), (2962, .iadd, 1), (2963, .iaload, 1), (2964, .invokevirtual 353, 3), (2967, .istore 7, 2), (2969, .aload_n 2, 1), (2970, .invokevirtual 242, 3), (2973, .iload 6, 2), (2975, .if_icmp .eq 5, 3), (2978, .iconst 0, 1), (2979, .ireturn, 1), (2980, .iload 6, 2), (2982, .ifCond .ne 22, 3), (2985, .aload_n 3, 1), (2986, .iconst 0, 1), (2987, .laload, 1), (2988, .iload 7, 2), (2990, .ifCond .eq 7, 3), (2993, .lconst 1, 1), (2994, .goto 4, 3), (2997, .lconst 0, 1), (2998, .lcmp, 1), (2999, .ifCond .eq 5, 3), (3002, .iconst 0, 1), (3003, .ireturn, 1), (3004, .goto 2550, 3)]
set_option maxRecDepth 20000 in
theorem U_Lc34 : okT m_L_law.2.1 t_Lc34 = true := dSt [(0, .aload_n 1, 1), (1, .aload_n 0, 1), (2, .iload 5, 2), (4, .iconst 1, 1), (5, .iadd, 1), (6, .iaload, 1), (7, .aload_n 3, 1), (8, .invokestatic 351, 3), (11, .istore 6, 2), (13, .aload_n 2, 1), (14, .aload_n 0, 1), (15, .iload 5, 2), (17, .iconst 1, 1), (18, .iadd, 1), (19, .iaload, 1), (20, .invokevirtual 353, 3), (23, .istore 7, 2), (25, .aload_n 2, 1), (26, .invokevirtual 242, 3), (29, .iload 6, 2), (31, .if_icmp .eq 5, 3), (34, .iconst 0, 1), (35, .ireturn, 1), (36, .iload 6, 2), (38, .ifCond .ne 22, 3), (41, .aload_n 3, 1), (42, .iconst 0, 1), (43, .laload, 1), (44, .iload 7, 2), (46, .ifCond .eq 7, 3), (49, .lconst 1, 1), (50, .goto 4, 3), (53, .lconst 0, 1), (54, .lcmp, 1), (55, .ifCond .eq 5, 3), (58, .iconst 0, 1), (59, .ireturn, 1), (60, .goto 2550, 3)] W_Lc34 (by decide +kernel) (by decide +kernel)
set_option maxRecDepth 20000 in
set_option maxHeartbeats 1000000 in
theorem LC_34 {G : xG} {d rc rs : Nat} {ex : Bool} {h : xH} {Q : xQ} {σ : St} {c0 : Int} {rr : Nat} {ss : Int} {l0 : Int} {d0 : UInt64} {i : Nat} (hL : G.2.2.2.2.2.1 < 2147483648) (hi : i + 10 ≤ G.2.2.2.2.2.1) (w : CW σ h) (wm : MX σ c0 rr ss h) (v : INV σ) (ho : h[143]? = some (cJ [l0])) (hod : h[144]? = some (cD [d0]))
    (M : ∀ (σ9 : St) (h9 : xH) (e9 : Bool) (c9 : Int) (r9 : Nat) (s9 : Int) (l9 : Int) (d9 : UInt64), INV σ9 → CW σ9 h9 → MX σ9 c9 r9 s9 h9 → h9[143]? = some (cJ [l9]) → h9[144]? = some (cD [d9]) → X G m_L_law (d + 10) rc rs e9 5554 [some (.ref 0), some (.ref 3), some (.ref 70), some (.ref 143), some (.ref 144), some (vi (i : Int)), none, none, none] [] h9 Q) : X G m_L_law (d + 10) (rc + 1) (rs + 6) ex 2944 [some (.ref 0), some (.ref 3), some (.ref 70), some (.ref 143), some (.ref 144), some (vi (i : Int)), none, none, none] [] h Q := by
  refine x_aload_n (dT U_Lc34 0 rfl) rfl ?_
  refine x_aload_n (dT U_Lc34 1 rfl) rfl ?_
  refine x_iload (dT U_Lc34 2 rfl) rfl ?_
  refine x_iconst (dT U_Lc34 3 rfl) ?_
  refine x_iadd (dT U_Lc34 4 rfl) ?_
  refine x_sld (i + 1) hL (dT U_Lc34 5 rfl) (by omega) (by omega) ?_
  refine x_aload_n (dT U_Lc34 6 rfl) rfl ?_
  refine x_invokestaticT (rc' := rc) (rs' := rs) (rc2 := 0 + 1) (rs2 := 0 + 6) (As := [_, _, _]) (st := _) M_L_isAccepted K_L_351 (dT U_Lc34 7 rfl) rfl (by decide) rfl rfl (Nat.le_of_ble_eq_true rfl) rfl (by decide) (Nat.le_of_ble_eq_true rfl) (by omega) (by omega) ?_
  refine S_L_isAccepted w v (xr_s _) ho (fun c1 => ?_) (fun c1 c2 => ?_) (fun c1 c2 => ?_)
  · refine xRet_some ?_
    refine x_istore (ls' := [some (.ref _), some (.ref _), some (.ref _), some (.ref _), some (.ref _), some (vi _), some (vi _), none, none]) (dT U_Lc34 8 rfl) (by decide) rfl ?_
    refine x_aload_n (dT U_Lc34 9 rfl) rfl ?_
    refine x_aload_n (dT U_Lc34 10 rfl) rfl ?_
    refine x_iload (dT U_Lc34 11 rfl) rfl ?_
    refine x_iconst (dT U_Lc34 12 rfl) ?_
    refine x_iadd (dT U_Lc34 13 rfl) ?_
    refine x_sld (i + 1) hL (dT U_Lc34 14 rfl) (by omega) (by omega) ?_
    refine x_invokevirtual (rc' := rc) (rs' := rs) (rc2 := 0) (rs2 := 0) (As := [_]) (st := _) M_X11_isAccepted K_L_353 (dT U_Lc34 15 rfl) rfl rfl (by decide) rfl rfl wm.c70 (Nat.le_of_ble_eq_true rfl) (by decide) rfl (Nat.le_of_ble_eq_true rfl) rfl (by decide) (Nat.le_of_ble_eq_true rfl) rfl rfl ?_
    refine S_X11_isAccepted wm v (xr_s _) (fun m1 h3 z ag wx xz => ?_) (fun m1 m2 _ _ _ _ _ => absurd m1 c1) (fun m1 m2 _ _ _ _ _ => absurd m1 c1)
    refine xRet_some ?_
    refine x_istore (ls' := [some (.ref _), some (.ref _), some (.ref _), some (.ref _), some (.ref _), some (vi _), some (vi _), some (vi _), none]) (dT U_Lc34 16 rfl) (by decide) rfl ?_
    refine x_aload_n (dT U_Lc34 17 rfl) rfl ?_
    refine x_invokevirtual (rc' := rc) (rs' := rs) (rc2 := 0) (rs2 := 0) (As := []) (st := _) M_X11_thrown K_L_242 (dT U_Lc34 18 rfl) rfl rfl (by decide) rfl rfl wx.c70 (Nat.le_of_ble_eq_true rfl) (by decide) rfl (Nat.le_of_ble_eq_true rfl) rfl (by decide) (Nat.le_of_ble_eq_true rfl) rfl rfl ?_
    refine S_X11_thrown wx ?_
    refine xRet_some ?_
    refine x_iload (dT U_Lc34 19 rfl) rfl ?_
    refine x_icmp_eq (tgt := 2980) (dT U_Lc34 20 rfl) (by decide) (by unfold xr; omega) (by unfold xr; omega) (fun c2975 => ?_) (fun c2975 => (by exfalso; omega))
    refine x_iload (dT U_Lc34 23 rfl) rfl ?_
    refine x_if_nej (tgt := 3004) (dT U_Lc34 24 rfl) (by decide) (by decide) ?_
    refine x_goto (tgt := 5554) (dT U_Lc34 37 rfl) (by decide) ?_
    refine x_drop ?_ (M _ _ _ _ _ _ _ _ v (w.out ag (by omega)) wx (ag.get ho (by omega)) (ag.get hod (by omega)))
    repeat (first | exact trivial | refine ⟨rfl, ?_⟩ | refine ⟨trivial, ?_⟩)
  · refine xRet_some ?_
    have wmx := wm.out (h2 := (h.set 143 (cJ [1]))) (fun a ha => by rw [hset_fr (by omega)])
    refine x_istore (ls' := [some (.ref _), some (.ref _), some (.ref _), some (.ref _), some (.ref _), some (vi _), some (vi _), none, none]) (dT U_Lc34 8 rfl) (by decide) rfl ?_
    refine x_aload_n (dT U_Lc34 9 rfl) rfl ?_
    refine x_aload_n (dT U_Lc34 10 rfl) rfl ?_
    refine x_iload (dT U_Lc34 11 rfl) rfl ?_
    refine x_iconst (dT U_Lc34 12 rfl) ?_
    refine x_iadd (dT U_Lc34 13 rfl) ?_
    refine x_sld (i + 1) hL (dT U_Lc34 14 rfl) (by omega) (by omega) ?_
    refine x_invokevirtual (rc' := rc) (rs' := rs) (rc2 := 0) (rs2 := 0) (As := [_]) (st := _) M_X11_isAccepted K_L_353 (dT U_Lc34 15 rfl) rfl rfl (by decide) rfl rfl wmx.c70 (Nat.le_of_ble_eq_true rfl) (by decide) rfl (Nat.le_of_ble_eq_true rfl) rfl (by decide) (Nat.le_of_ble_eq_true rfl) rfl rfl ?_
    refine S_X11_isAccepted wmx v (xr_s _) (fun m1 _ _ _ _ _ => absurd c1 m1) (fun m1 m2 h3 r3 s3 ag wx => ?_) (fun m1 m2 _ _ _ _ _ => absurd c2 m2)
    refine xRet_some ?_
    refine x_istore (ls' := [some (.ref _), some (.ref _), some (.ref _), some (.ref _), some (.ref _), some (vi _), some (vi _), some (vi _), none]) (dT U_Lc34 16 rfl) (by decide) rfl ?_
    refine x_aload_n (dT U_Lc34 17 rfl) rfl ?_
    refine x_invokevirtual (rc' := rc) (rs' := rs) (rc2 := 0) (rs2 := 0) (As := []) (st := _) M_X11_thrown K_L_242 (dT U_Lc34 18 rfl) rfl rfl (by decide) rfl rfl wx.c70 (Nat.le_of_ble_eq_true rfl) (by decide) rfl (Nat.le_of_ble_eq_true rfl) rfl (by decide) (Nat.le_of_ble_eq_true rfl) rfl rfl ?_
    refine S_X11_thrown wx ?_
    refine xRet_some ?_
    refine x_iload (dT U_Lc34 19 rfl) rfl ?_
    refine x_icmp_eq (tgt := 2980) (dT U_Lc34 20 rfl) (by decide) (by unfold xr; omega) (by unfold xr; omega) (fun c2975 => ?_) (fun c2975 => (by exfalso; omega))
    refine x_iload (dT U_Lc34 23 rfl) rfl ?_
    refine x_if_nen (tgt := 3004) (dT U_Lc34 24 rfl) (by decide) (by decide) ?_
    refine x_aload_n (dT U_Lc34 25 rfl) rfl ?_
    refine x_iconst (dT U_Lc34 26 rfl) ?_
    refine x_laload 0 (dT U_Lc34 27 rfl) (ag.get (hset_eq ho) (by omega)) (Nat.le_of_ble_eq_true rfl) rfl (Nat.le_of_ble_eq_true rfl) (Nat.le_of_ble_eq_true rfl) ?_
    refine x_iload (dT U_Lc34 28 rfl) rfl ?_
    refine x_if_eqn (tgt := 2997) (dT U_Lc34 29 rfl) (by decide) (by decide) ?_
    refine x_lconst (z := 1) (dT U_Lc34 30 rfl) rfl ?_
    refine x_goto (tgt := 2998) (dT U_Lc34 31 rfl) (by decide) ?_
    refine x_lcmp (dT U_Lc34 33 rfl) (by unfold xrl; decide) (by unfold xrl; decide) ?_
    refine x_if_eqj (tgt := 3004) (dT U_Lc34 34 rfl) (by decide) (xcmp_rf _) ?_
    refine x_goto (tgt := 5554) (dT U_Lc34 37 rfl) (by decide) ?_
    refine x_drop ?_ (M _ _ _ _ _ _ _ _ v ((w.out ((Ag.rf 143 143 h).set (by omega)) (by omega)).out ag (by omega)) wx (ag.get (hset_eq ho) (by omega)) (ag.get (hset_ne (by omega) hod) (by omega)))
    repeat (first | exact trivial | refine ⟨rfl, ?_⟩ | refine ⟨trivial, ?_⟩)
  · refine xRet_some ?_
    have wmx := wm.out (h2 := (h.set 143 (cJ [0]))) (fun a ha => by rw [hset_fr (by omega)])
    refine x_istore (ls' := [some (.ref _), some (.ref _), some (.ref _), some (.ref _), some (.ref _), some (vi _), some (vi _), none, none]) (dT U_Lc34 8 rfl) (by decide) rfl ?_
    refine x_aload_n (dT U_Lc34 9 rfl) rfl ?_
    refine x_aload_n (dT U_Lc34 10 rfl) rfl ?_
    refine x_iload (dT U_Lc34 11 rfl) rfl ?_
    refine x_iconst (dT U_Lc34 12 rfl) ?_
    refine x_iadd (dT U_Lc34 13 rfl) ?_
    refine x_sld (i + 1) hL (dT U_Lc34 14 rfl) (by omega) (by omega) ?_
    refine x_invokevirtual (rc' := rc) (rs' := rs) (rc2 := 0) (rs2 := 0) (As := [_]) (st := _) M_X11_isAccepted K_L_353 (dT U_Lc34 15 rfl) rfl rfl (by decide) rfl rfl wmx.c70 (Nat.le_of_ble_eq_true rfl) (by decide) rfl (Nat.le_of_ble_eq_true rfl) rfl (by decide) (Nat.le_of_ble_eq_true rfl) rfl rfl ?_
    refine S_X11_isAccepted wmx v (xr_s _) (fun m1 _ _ _ _ _ => absurd c1 m1) (fun m1 m2 _ _ _ _ _ => absurd m2 c2) (fun m1 m2 h3 r3 s3 ag wx => ?_)
    refine xRet_some ?_
    refine x_istore (ls' := [some (.ref _), some (.ref _), some (.ref _), some (.ref _), some (.ref _), some (vi _), some (vi _), some (vi _), none]) (dT U_Lc34 16 rfl) (by decide) rfl ?_
    refine x_aload_n (dT U_Lc34 17 rfl) rfl ?_
    refine x_invokevirtual (rc' := rc) (rs' := rs) (rc2 := 0) (rs2 := 0) (As := []) (st := _) M_X11_thrown K_L_242 (dT U_Lc34 18 rfl) rfl rfl (by decide) rfl rfl wx.c70 (Nat.le_of_ble_eq_true rfl) (by decide) rfl (Nat.le_of_ble_eq_true rfl) rfl (by decide) (Nat.le_of_ble_eq_true rfl) rfl rfl ?_
    refine S_X11_thrown wx ?_
    refine xRet_some ?_
    refine x_iload (dT U_Lc34 19 rfl) rfl ?_
    refine x_icmp_eq (tgt := 2980) (dT U_Lc34 20 rfl) (by decide) (by unfold xr; omega) (by unfold xr; omega) (fun c2975 => ?_) (fun c2975 => (by exfalso; omega))
    refine x_iload (dT U_Lc34 23 rfl) rfl ?_
    refine x_if_nen (tgt := 3004) (dT U_Lc34 24 rfl) (by decide) (by decide) ?_
    refine x_aload_n (dT U_Lc34 25 rfl) rfl ?_
    refine x_iconst (dT U_Lc34 26 rfl) ?_
    refine x_laload 0 (dT U_Lc34 27 rfl) (ag.get (hset_eq ho) (by omega)) (Nat.le_of_ble_eq_true rfl) rfl (Nat.le_of_ble_eq_true rfl) (Nat.le_of_ble_eq_true rfl) ?_
    refine x_iload (dT U_Lc34 28 rfl) rfl ?_
    refine x_if_eqj (tgt := 2997) (dT U_Lc34 29 rfl) (by decide) (by decide) ?_
    refine x_lconst (z := 0) (dT U_Lc34 32 rfl) rfl ?_
    refine x_lcmp (dT U_Lc34 33 rfl) (by unfold xrl; decide) (by unfold xrl; decide) ?_
    refine x_if_eqj (tgt := 3004) (dT U_Lc34 34 rfl) (by decide) (xcmp_rf _) ?_
    refine x_goto (tgt := 5554) (dT U_Lc34 37 rfl) (by decide) ?_
    refine x_drop ?_ (M _ _ _ _ _ _ _ _ v ((w.out ((Ag.rf 143 143 h).set (by omega)) (by omega)).out ag (by omega)) wx (ag.get (hset_eq ho) (by omega)) (ag.get (hset_ne (by omega) hod) (by omega)))
    repeat (first | exact trivial | refine ⟨rfl, ?_⟩ | refine ⟨trivial, ?_⟩)

def B_Lc35 : ByteArray := .mk #[0x2b, 0x2a, 0x15, 0x05, 0x04, 0x60, 0x2e, 0x2a, 0x15, 0x05, 0x05, 0x60, 0x2e, 0x2a, 0x15, 0x05, 0x06, 0x60, 0x2e, 0x2a, 0x15, 0x05, 0x07, 0x60, 0x2e, 0x2d, 0xb8, 0x01, 0x62, 0x36, 0x06, 0x2c, 0x2a, 0x15, 0x05, 0x04, 0x60, 0x2e, 0x2a, 0x15, 0x05, 0x05, 0x60, 0x2e, 0x2a, 0x15, 0x05, 0x06, 0x60, 0x2e, 0x2a, 0x15, 0x05, 0x07, 0x60, 0x2e, 0xb6, 0x01, 0x64, 0x36, 0x07, 0x2c, 0xb6, 0x00, 0xf2, 0x15, 0x06, 0x9f, 0x00, 0x05, 0x03, 0xac, 0x15, 0x06, 0x9a, 0x00, 0x0f, 0x2d, 0x03, 0x2f, 0x15, 0x07, 0x85, 0x94, 0x99, 0x00, 0x05, 0x03, 0xac, 0xa7, 0x09, 0x9a]
theorem W_Lc35 : sameFrom m_L_law.2.1 B_Lc35 3007 := sameFrom_of (by decide +kernel)
def t_Lc35 : List (Nat × Instr × Nat) := [(3007, .aload_n 1, 1), (3008, .aload_n 0, 1), (3009, .iload 5, 2), (3011, .iconst 1, 1), (3012, .iadd, 1), (3013, .iaload, 1), (3014, .aload_n 0, 1), (3015, .iload 5, 2), (3017, .iconst 2, 1), (3018, .iadd, 1), (3019, .iaload, 1), (3020, .aload_n 0, 1), (3021, .iload 5, 2), (3023, .iconst 3, 1), (3024, .iadd, 1), (3025, .iaload, 1), (3026, .aload_n 0, 1), (3027, .iload 5, 2), (3029, .iconst 4, 1), (3030, .iadd, 1), (3031, .iaload, 1), (3032, .aload_n 3, 1), (3033, .invokestatic 354, 3), (3036, .istore 6, 2), (3038, .aload_n 2, 1), (3039, .aload_n 0, 1), (3040, .iload 5, 2), (3042, .iconst 1, 1), (3043, .iadd, 1), (3044, .iaload, 1), (3045, .aload_n 0, 1), (3046, .iload 5, 2), (3048, .iconst 2, 1), (3049, .iadd, 1), (3050, .iaload, 1), (3051, .aload_n 0, 1), (3052, .iload 5, 2), (3054, .iconst 3, 1), (3055, .iadd, 1), (3056, .iaload, 1), (3057, .aload_n 0, 1), (3058, .iload 5, 2), (3060, .iconst 4, 1), (3061, .iadd, 1), (3062, .iaload, 1), (3063, .invokevirtual 356, 3), (3066, .istore 7, 2), (3068, .aload_n 2, 1), (3069, .invokevirtual 242, 3), (3072, .iload 6, 2), (3074, .if_icmp .eq 5, 3), (3077, .iconst 0, 1), (3078, .ireturn, 1), (3079, .iload 6, 2), (3081, .ifCond .ne 15, 3), (3084, .aload_n 3, 1), (3085, .iconst 0, 1), (3086, .laload, 1), (3087, .iload 7, 2), (3089, .i2l, 1), (3090, .lcmp, 1), (3091, .ifCond .eq 5, 3), (3094, .iconst 0, 1), (3095, .ireturn, 1), (3096, .goto 2458, 3)]
set_option maxRecDepth 20000 in
theorem U_Lc35 : okT m_L_law.2.1 t_Lc35 = true := dSt [(0, .aload_n 1, 1), (1, .aload_n 0, 1), (2, .iload 5, 2), (4, .iconst 1, 1), (5, .iadd, 1), (6, .iaload, 1), (7, .aload_n 0, 1), (8, .iload 5, 2), (10, .iconst 2, 1), (11, .iadd, 1), (12, .iaload, 1), (13, .aload_n 0, 1), (14, .iload 5, 2), (16, .iconst 3, 1), (17, .iadd, 1), (18, .iaload, 1), (19, .aload_n 0, 1), (20, .iload 5, 2), (22, .iconst 4, 1), (23, .iadd, 1), (24, .iaload, 1), (25, .aload_n 3, 1), (26, .invokestatic 354, 3), (29, .istore 6, 2), (31, .aload_n 2, 1), (32, .aload_n 0, 1), (33, .iload 5, 2), (35, .iconst 1, 1), (36, .iadd, 1), (37, .iaload, 1), (38, .aload_n 0, 1), (39, .iload 5, 2), (41, .iconst 2, 1), (42, .iadd, 1), (43, .iaload, 1), (44, .aload_n 0, 1), (45, .iload 5, 2), (47, .iconst 3, 1), (48, .iadd, 1), (49, .iaload, 1), (50, .aload_n 0, 1), (51, .iload 5, 2), (53, .iconst 4, 1), (54, .iadd, 1), (55, .iaload, 1), (56, .invokevirtual 356, 3), (59, .istore 7, 2), (61, .aload_n 2, 1), (62, .invokevirtual 242, 3), (65, .iload 6, 2), (67, .if_icmp .eq 5, 3), (70, .iconst 0, 1), (71, .ireturn, 1), (72, .iload 6, 2), (74, .ifCond .ne 15, 3), (77, .aload_n 3, 1), (78, .iconst 0, 1), (79, .laload, 1), (80, .iload 7, 2), (82, .i2l, 1), (83, .lcmp, 1), (84, .ifCond .eq 5, 3), (87, .iconst 0, 1), (88, .ireturn, 1), (89, .goto 2458, 3)] W_Lc35 (by decide +kernel) (by decide +kernel)
set_option maxRecDepth 20000 in
set_option maxHeartbeats 1000000 in
theorem LC_35 {G : xG} {d rc rs : Nat} {ex : Bool} {h : xH} {Q : xQ} {σ : St} {c0 : Int} {rr : Nat} {ss : Int} {l0 : Int} {d0 : UInt64} {i : Nat} (hL : G.2.2.2.2.2.1 < 2147483648) (hi : i + 10 ≤ G.2.2.2.2.2.1) (w : CW σ h) (wm : MX σ c0 rr ss h) (v : INV σ) (ho : h[143]? = some (cJ [l0])) (hod : h[144]? = some (cD [d0]))
    (M : ∀ (σ9 : St) (h9 : xH) (e9 : Bool) (c9 : Int) (r9 : Nat) (s9 : Int) (l9 : Int) (d9 : UInt64), INV σ9 → CW σ9 h9 → MX σ9 c9 r9 s9 h9 → h9[143]? = some (cJ [l9]) → h9[144]? = some (cD [d9]) → X G m_L_law (d + 10) rc rs e9 5554 [some (.ref 0), some (.ref 3), some (.ref 70), some (.ref 143), some (.ref 144), some (vi (i : Int)), none, none, none] [] h9 Q) : X G m_L_law (d + 10) (rc + 5) (rs + 30) ex 3007 [some (.ref 0), some (.ref 3), some (.ref 70), some (.ref 143), some (.ref 144), some (vi (i : Int)), none, none, none] [] h Q := by
  refine x_aload_n (dT U_Lc35 0 rfl) rfl ?_
  refine x_aload_n (dT U_Lc35 1 rfl) rfl ?_
  refine x_iload (dT U_Lc35 2 rfl) rfl ?_
  refine x_iconst (dT U_Lc35 3 rfl) ?_
  refine x_iadd (dT U_Lc35 4 rfl) ?_
  refine x_sld (i + 1) hL (dT U_Lc35 5 rfl) (by omega) (by omega) ?_
  refine x_aload_n (dT U_Lc35 6 rfl) rfl ?_
  refine x_iload (dT U_Lc35 7 rfl) rfl ?_
  refine x_iconst (dT U_Lc35 8 rfl) ?_
  refine x_iadd (dT U_Lc35 9 rfl) ?_
  refine x_sld (i + 2) hL (dT U_Lc35 10 rfl) (by omega) (by omega) ?_
  refine x_aload_n (dT U_Lc35 11 rfl) rfl ?_
  refine x_iload (dT U_Lc35 12 rfl) rfl ?_
  refine x_iconst (dT U_Lc35 13 rfl) ?_
  refine x_iadd (dT U_Lc35 14 rfl) ?_
  refine x_sld (i + 3) hL (dT U_Lc35 15 rfl) (by omega) (by omega) ?_
  refine x_aload_n (dT U_Lc35 16 rfl) rfl ?_
  refine x_iload (dT U_Lc35 17 rfl) rfl ?_
  refine x_iconst (dT U_Lc35 18 rfl) ?_
  refine x_iadd (dT U_Lc35 19 rfl) ?_
  refine x_sld (i + 4) hL (dT U_Lc35 20 rfl) (by omega) (by omega) ?_
  refine x_aload_n (dT U_Lc35 21 rfl) rfl ?_
  refine x_invokestaticT (rc' := rc) (rs' := rs) (rc2 := 0 + 5) (rs2 := 0 + 30) (As := [_, _, _, _, _, _]) (st := _) M_L_simulate K_L_354 (dT U_Lc35 22 rfl) rfl (by decide) rfl rfl (Nat.le_of_ble_eq_true rfl) rfl (by decide) (Nat.le_of_ble_eq_true rfl) (by omega) (by omega) ?_
  refine S_L_simulate w v (xr_s _) (xr_s _) (xr_s _) (xr_s _) ho (fun c1 => ?_) (fun c1 c2 => ?_) (fun c1 c2 c3 => ?_) (fun c1 c2 c3 h2 fc w2 z9 hz9 ez9 => ?_)
  · refine xRet_some ?_
    refine x_istore (ls' := [some (.ref _), some (.ref _), some (.ref _), some (.ref _), some (.ref _), some (vi _), some (vi _), none, none]) (dT U_Lc35 23 rfl) (by decide) rfl ?_
    refine x_aload_n (dT U_Lc35 24 rfl) rfl ?_
    refine x_aload_n (dT U_Lc35 25 rfl) rfl ?_
    refine x_iload (dT U_Lc35 26 rfl) rfl ?_
    refine x_iconst (dT U_Lc35 27 rfl) ?_
    refine x_iadd (dT U_Lc35 28 rfl) ?_
    refine x_sld (i + 1) hL (dT U_Lc35 29 rfl) (by omega) (by omega) ?_
    refine x_aload_n (dT U_Lc35 30 rfl) rfl ?_
    refine x_iload (dT U_Lc35 31 rfl) rfl ?_
    refine x_iconst (dT U_Lc35 32 rfl) ?_
    refine x_iadd (dT U_Lc35 33 rfl) ?_
    refine x_sld (i + 2) hL (dT U_Lc35 34 rfl) (by omega) (by omega) ?_
    refine x_aload_n (dT U_Lc35 35 rfl) rfl ?_
    refine x_iload (dT U_Lc35 36 rfl) rfl ?_
    refine x_iconst (dT U_Lc35 37 rfl) ?_
    refine x_iadd (dT U_Lc35 38 rfl) ?_
    refine x_sld (i + 3) hL (dT U_Lc35 39 rfl) (by omega) (by omega) ?_
    refine x_aload_n (dT U_Lc35 40 rfl) rfl ?_
    refine x_iload (dT U_Lc35 41 rfl) rfl ?_
    refine x_iconst (dT U_Lc35 42 rfl) ?_
    refine x_iadd (dT U_Lc35 43 rfl) ?_
    refine x_sld (i + 4) hL (dT U_Lc35 44 rfl) (by omega) (by omega) ?_
    refine x_invokevirtual (rc' := rc) (rs' := rs) (rc2 := 0) (rs2 := 0) (As := [_, _, _, _]) (st := _) M_X11_simulate K_L_356 (dT U_Lc35 45 rfl) rfl rfl (by decide) rfl rfl wm.c70 (Nat.le_of_ble_eq_true rfl) (by decide) rfl (Nat.le_of_ble_eq_true rfl) rfl (by decide) (Nat.le_of_ble_eq_true rfl) rfl rfl ?_
    refine S_X11_simulate wm v (xr_s _) (xr_s _) (xr_s _) (xr_s _) (fun m1 h3 z ag wx xz => ?_) (fun m1 m2 _ _ _ _ _ => absurd m1 c1) (fun m1 m2 m3 _ _ _ _ _ => absurd m1 c1) (fun m1 m2 m3 _ _ _ _ _ => absurd m1 c1)
    refine xRet_some ?_
    refine x_istore (ls' := [some (.ref _), some (.ref _), some (.ref _), some (.ref _), some (.ref _), some (vi _), some (vi _), some (vi _), none]) (dT U_Lc35 46 rfl) (by decide) rfl ?_
    refine x_aload_n (dT U_Lc35 47 rfl) rfl ?_
    refine x_invokevirtual (rc' := rc) (rs' := rs) (rc2 := 0) (rs2 := 0) (As := []) (st := _) M_X11_thrown K_L_242 (dT U_Lc35 48 rfl) rfl rfl (by decide) rfl rfl wx.c70 (Nat.le_of_ble_eq_true rfl) (by decide) rfl (Nat.le_of_ble_eq_true rfl) rfl (by decide) (Nat.le_of_ble_eq_true rfl) rfl rfl ?_
    refine S_X11_thrown wx ?_
    refine xRet_some ?_
    refine x_iload (dT U_Lc35 49 rfl) rfl ?_
    refine x_icmp_eq (tgt := 3079) (dT U_Lc35 50 rfl) (by decide) (by unfold xr; omega) (by unfold xr; omega) (fun c3074 => ?_) (fun c3074 => (by exfalso; omega))
    refine x_iload (dT U_Lc35 53 rfl) rfl ?_
    refine x_if_nej (tgt := 3096) (dT U_Lc35 54 rfl) (by decide) (by decide) ?_
    refine x_goto (tgt := 5554) (dT U_Lc35 64 rfl) (by decide) ?_
    refine x_drop ?_ (M _ _ _ _ _ _ _ _ v (w.out ag (by omega)) wx (ag.get ho (by omega)) (ag.get hod (by omega)))
    repeat (first | exact trivial | refine ⟨rfl, ?_⟩ | refine ⟨trivial, ?_⟩)
  · refine xRet_some ?_
    refine x_istore (ls' := [some (.ref _), some (.ref _), some (.ref _), some (.ref _), some (.ref _), some (vi _), some (vi _), none, none]) (dT U_Lc35 23 rfl) (by decide) rfl ?_
    refine x_aload_n (dT U_Lc35 24 rfl) rfl ?_
    refine x_aload_n (dT U_Lc35 25 rfl) rfl ?_
    refine x_iload (dT U_Lc35 26 rfl) rfl ?_
    refine x_iconst (dT U_Lc35 27 rfl) ?_
    refine x_iadd (dT U_Lc35 28 rfl) ?_
    refine x_sld (i + 1) hL (dT U_Lc35 29 rfl) (by omega) (by omega) ?_
    refine x_aload_n (dT U_Lc35 30 rfl) rfl ?_
    refine x_iload (dT U_Lc35 31 rfl) rfl ?_
    refine x_iconst (dT U_Lc35 32 rfl) ?_
    refine x_iadd (dT U_Lc35 33 rfl) ?_
    refine x_sld (i + 2) hL (dT U_Lc35 34 rfl) (by omega) (by omega) ?_
    refine x_aload_n (dT U_Lc35 35 rfl) rfl ?_
    refine x_iload (dT U_Lc35 36 rfl) rfl ?_
    refine x_iconst (dT U_Lc35 37 rfl) ?_
    refine x_iadd (dT U_Lc35 38 rfl) ?_
    refine x_sld (i + 3) hL (dT U_Lc35 39 rfl) (by omega) (by omega) ?_
    refine x_aload_n (dT U_Lc35 40 rfl) rfl ?_
    refine x_iload (dT U_Lc35 41 rfl) rfl ?_
    refine x_iconst (dT U_Lc35 42 rfl) ?_
    refine x_iadd (dT U_Lc35 43 rfl) ?_
    refine x_sld (i + 4) hL (dT U_Lc35 44 rfl) (by omega) (by omega) ?_
    refine x_invokevirtual (rc' := rc) (rs' := rs) (rc2 := 0) (rs2 := 0) (As := [_, _, _, _]) (st := _) M_X11_simulate K_L_356 (dT U_Lc35 45 rfl) rfl rfl (by decide) rfl rfl wm.c70 (Nat.le_of_ble_eq_true rfl) (by decide) rfl (Nat.le_of_ble_eq_true rfl) rfl (by decide) (Nat.le_of_ble_eq_true rfl) rfl rfl ?_
    refine S_X11_simulate wm v (xr_s _) (xr_s _) (xr_s _) (xr_s _) (fun m1 _ _ _ _ _ => absurd c1 m1) (fun m1 m2 h3 z ag wx xz => ?_) (fun m1 m2 m3 _ _ _ _ _ => absurd m2 c2) (fun m1 m2 m3 _ _ _ _ _ => absurd m2 c2)
    refine xRet_some ?_
    refine x_istore (ls' := [some (.ref _), some (.ref _), some (.ref _), some (.ref _), some (.ref _), some (vi _), some (vi _), some (vi _), none]) (dT U_Lc35 46 rfl) (by decide) rfl ?_
    refine x_aload_n (dT U_Lc35 47 rfl) rfl ?_
    refine x_invokevirtual (rc' := rc) (rs' := rs) (rc2 := 0) (rs2 := 0) (As := []) (st := _) M_X11_thrown K_L_242 (dT U_Lc35 48 rfl) rfl rfl (by decide) rfl rfl wx.c70 (Nat.le_of_ble_eq_true rfl) (by decide) rfl (Nat.le_of_ble_eq_true rfl) rfl (by decide) (Nat.le_of_ble_eq_true rfl) rfl rfl ?_
    refine S_X11_thrown wx ?_
    refine xRet_some ?_
    refine x_iload (dT U_Lc35 49 rfl) rfl ?_
    refine x_icmp_eq (tgt := 3079) (dT U_Lc35 50 rfl) (by decide) (by unfold xr; omega) (by unfold xr; omega) (fun c3074 => ?_) (fun c3074 => (by exfalso; omega))
    refine x_iload (dT U_Lc35 53 rfl) rfl ?_
    refine x_if_ne (tgt := 3096) (dT U_Lc35 54 rfl) (by decide) (by unfold xr; omega) (fun c3081 => ?_) (fun c3081 => (by exfalso; omega))
    refine x_goto (tgt := 5554) (dT U_Lc35 64 rfl) (by decide) ?_
    refine x_drop ?_ (M _ _ _ _ _ _ _ _ v (w.out ag (by omega)) wx (ag.get ho (by omega)) (ag.get hod (by omega)))
    repeat (first | exact trivial | refine ⟨rfl, ?_⟩ | refine ⟨trivial, ?_⟩)
  · refine xRet_some ?_
    refine x_istore (ls' := [some (.ref _), some (.ref _), some (.ref _), some (.ref _), some (.ref _), some (vi _), some (vi _), none, none]) (dT U_Lc35 23 rfl) (by decide) rfl ?_
    refine x_aload_n (dT U_Lc35 24 rfl) rfl ?_
    refine x_aload_n (dT U_Lc35 25 rfl) rfl ?_
    refine x_iload (dT U_Lc35 26 rfl) rfl ?_
    refine x_iconst (dT U_Lc35 27 rfl) ?_
    refine x_iadd (dT U_Lc35 28 rfl) ?_
    refine x_sld (i + 1) hL (dT U_Lc35 29 rfl) (by omega) (by omega) ?_
    refine x_aload_n (dT U_Lc35 30 rfl) rfl ?_
    refine x_iload (dT U_Lc35 31 rfl) rfl ?_
    refine x_iconst (dT U_Lc35 32 rfl) ?_
    refine x_iadd (dT U_Lc35 33 rfl) ?_
    refine x_sld (i + 2) hL (dT U_Lc35 34 rfl) (by omega) (by omega) ?_
    refine x_aload_n (dT U_Lc35 35 rfl) rfl ?_
    refine x_iload (dT U_Lc35 36 rfl) rfl ?_
    refine x_iconst (dT U_Lc35 37 rfl) ?_
    refine x_iadd (dT U_Lc35 38 rfl) ?_
    refine x_sld (i + 3) hL (dT U_Lc35 39 rfl) (by omega) (by omega) ?_
    refine x_aload_n (dT U_Lc35 40 rfl) rfl ?_
    refine x_iload (dT U_Lc35 41 rfl) rfl ?_
    refine x_iconst (dT U_Lc35 42 rfl) ?_
    refine x_iadd (dT U_Lc35 43 rfl) ?_
    refine x_sld (i + 4) hL (dT U_Lc35 44 rfl) (by omega) (by omega) ?_
    refine x_invokevirtual (rc' := rc) (rs' := rs) (rc2 := 0) (rs2 := 0) (As := [_, _, _, _]) (st := _) M_X11_simulate K_L_356 (dT U_Lc35 45 rfl) rfl rfl (by decide) rfl rfl wm.c70 (Nat.le_of_ble_eq_true rfl) (by decide) rfl (Nat.le_of_ble_eq_true rfl) rfl (by decide) (Nat.le_of_ble_eq_true rfl) rfl rfl ?_
    refine S_X11_simulate wm v (xr_s _) (xr_s _) (xr_s _) (xr_s _) (fun m1 _ _ _ _ _ => absurd c1 m1) (fun m1 m2 _ _ _ _ _ => absurd c2 m2) (fun m1 m2 m3 h3 z ag wx xz => ?_) (fun m1 m2 m3 _ _ _ _ _ => absurd m3 c3)
    refine xRet_some ?_
    refine x_istore (ls' := [some (.ref _), some (.ref _), some (.ref _), some (.ref _), some (.ref _), some (vi _), some (vi _), some (vi _), none]) (dT U_Lc35 46 rfl) (by decide) rfl ?_
    refine x_aload_n (dT U_Lc35 47 rfl) rfl ?_
    refine x_invokevirtual (rc' := rc) (rs' := rs) (rc2 := 0) (rs2 := 0) (As := []) (st := _) M_X11_thrown K_L_242 (dT U_Lc35 48 rfl) rfl rfl (by decide) rfl rfl wx.c70 (Nat.le_of_ble_eq_true rfl) (by decide) rfl (Nat.le_of_ble_eq_true rfl) rfl (by decide) (Nat.le_of_ble_eq_true rfl) rfl rfl ?_
    refine S_X11_thrown wx ?_
    refine xRet_some ?_
    refine x_iload (dT U_Lc35 49 rfl) rfl ?_
    refine x_icmp_eq (tgt := 3079) (dT U_Lc35 50 rfl) (by decide) (by unfold xr; omega) (by unfold xr; omega) (fun c3074 => ?_) (fun c3074 => (by exfalso; omega))
    refine x_iload (dT U_Lc35 53 rfl) rfl ?_
    refine x_if_ne (tgt := 3096) (dT U_Lc35 54 rfl) (by decide) (by unfold xr; omega) (fun c3081 => ?_) (fun c3081 => (by exfalso; omega))
    refine x_goto (tgt := 5554) (dT U_Lc35 64 rfl) (by decide) ?_
    refine x_drop ?_ (M _ _ _ _ _ _ _ _ v (w.out ag (by omega)) wx (ag.get ho (by omega)) (ag.get hod (by omega)))
    repeat (first | exact trivial | refine ⟨rfl, ?_⟩ | refine ⟨trivial, ?_⟩)
  · refine xRet_some ?_
    have wmx := wm.out (h2 := (h2.set 143 (cJ [z9]))) (fun a ha => by rw [hset_fr (by omega)]; exact fc.2 a (by omega))
    refine x_istore (ls' := [some (.ref _), some (.ref _), some (.ref _), some (.ref _), some (.ref _), some (vi _), some (vi _), none, none]) (dT U_Lc35 23 rfl) (by decide) rfl ?_
    refine x_aload_n (dT U_Lc35 24 rfl) rfl ?_
    refine x_aload_n (dT U_Lc35 25 rfl) rfl ?_
    refine x_iload (dT U_Lc35 26 rfl) rfl ?_
    refine x_iconst (dT U_Lc35 27 rfl) ?_
    refine x_iadd (dT U_Lc35 28 rfl) ?_
    refine x_sld (i + 1) hL (dT U_Lc35 29 rfl) (by omega) (by omega) ?_
    refine x_aload_n (dT U_Lc35 30 rfl) rfl ?_
    refine x_iload (dT U_Lc35 31 rfl) rfl ?_
    refine x_iconst (dT U_Lc35 32 rfl) ?_
    refine x_iadd (dT U_Lc35 33 rfl) ?_
    refine x_sld (i + 2) hL (dT U_Lc35 34 rfl) (by omega) (by omega) ?_
    refine x_aload_n (dT U_Lc35 35 rfl) rfl ?_
    refine x_iload (dT U_Lc35 36 rfl) rfl ?_
    refine x_iconst (dT U_Lc35 37 rfl) ?_
    refine x_iadd (dT U_Lc35 38 rfl) ?_
    refine x_sld (i + 3) hL (dT U_Lc35 39 rfl) (by omega) (by omega) ?_
    refine x_aload_n (dT U_Lc35 40 rfl) rfl ?_
    refine x_iload (dT U_Lc35 41 rfl) rfl ?_
    refine x_iconst (dT U_Lc35 42 rfl) ?_
    refine x_iadd (dT U_Lc35 43 rfl) ?_
    refine x_sld (i + 4) hL (dT U_Lc35 44 rfl) (by omega) (by omega) ?_
    refine x_invokevirtual (rc' := rc) (rs' := rs) (rc2 := 0) (rs2 := 0) (As := [_, _, _, _]) (st := _) M_X11_simulate K_L_356 (dT U_Lc35 45 rfl) rfl rfl (by decide) rfl rfl wmx.c70 (Nat.le_of_ble_eq_true rfl) (by decide) rfl (Nat.le_of_ble_eq_true rfl) rfl (by decide) (Nat.le_of_ble_eq_true rfl) rfl rfl ?_
    refine S_X11_simulate wmx v (xr_s _) (xr_s _) (xr_s _) (xr_s _) (fun m1 _ _ _ _ _ => absurd c1 m1) (fun m1 m2 _ _ _ _ _ => absurd c2 m2) (fun m1 m2 m3 _ _ _ _ _ => absurd c3 m3) (fun m1 m2 m3 h3 r3 s3 ag wx => ?_)
    refine xRet_some ?_
    rw [ez9]
    refine x_istore (ls' := [some (.ref _), some (.ref _), some (.ref _), some (.ref _), some (.ref _), some (vi _), some (vi _), some (vi _), none]) (dT U_Lc35 46 rfl) (by decide) rfl ?_
    refine x_aload_n (dT U_Lc35 47 rfl) rfl ?_
    refine x_invokevirtual (rc' := rc) (rs' := rs) (rc2 := 0) (rs2 := 0) (As := []) (st := _) M_X11_thrown K_L_242 (dT U_Lc35 48 rfl) rfl rfl (by decide) rfl rfl wx.c70 (Nat.le_of_ble_eq_true rfl) (by decide) rfl (Nat.le_of_ble_eq_true rfl) rfl (by decide) (Nat.le_of_ble_eq_true rfl) rfl rfl ?_
    refine S_X11_thrown wx ?_
    refine xRet_some ?_
    refine x_iload (dT U_Lc35 49 rfl) rfl ?_
    refine x_icmp_eq (tgt := 3079) (dT U_Lc35 50 rfl) (by decide) (by unfold xr; omega) (by unfold xr; omega) (fun c3074 => ?_) (fun c3074 => (by exfalso; omega))
    refine x_iload (dT U_Lc35 53 rfl) rfl ?_
    refine x_if_nen (tgt := 3096) (dT U_Lc35 54 rfl) (by decide) (by decide) ?_
    refine x_aload_n (dT U_Lc35 55 rfl) rfl ?_
    refine x_iconst (dT U_Lc35 56 rfl) ?_
    refine x_laload 0 (dT U_Lc35 57 rfl) (ag.get (hset_eq (fc.get ho (by omega))) (by omega)) (Nat.le_of_ble_eq_true rfl) rfl (Nat.le_of_ble_eq_true rfl) (Nat.le_of_ble_eq_true rfl) ?_
    refine x_iload (dT U_Lc35 58 rfl) rfl ?_
    refine x_i2l (dT U_Lc35 59 rfl) hz9 ?_
    refine x_lcmp (dT U_Lc35 60 rfl) (xr_l hz9) (xr_l hz9) ?_
    refine x_if_eqj (tgt := 3096) (dT U_Lc35 61 rfl) (by decide) (xcmp_rf _) ?_
    refine x_goto (tgt := 5554) (dT U_Lc35 64 rfl) (by decide) ?_
    refine x_drop ?_ (M _ _ _ _ _ _ _ _ (IV_simulate v c1 c2 c3) ((w2.out ((Ag.rf 143 143 h2).set (by omega)) (by omega)).out ag (by omega)) wx (ag.get (hset_eq (fc.get ho (by omega))) (by omega)) (ag.get (hset_ne (by omega) (fc.get hod (by omega))) (by omega)))
    repeat (first | exact trivial | refine ⟨rfl, ?_⟩ | refine ⟨trivial, ?_⟩)
