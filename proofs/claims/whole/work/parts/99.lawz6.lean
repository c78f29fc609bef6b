def B_Lc50 : ByteArray := .mk #[0x2b, 0x2a, 0x15, 0x05, 0x04, 0x60, 0x2e, 0x2a, 0x15, 0x05, 0x05, 0x60, 0x2e, 0x2d, 0xb8, 0x01, 0x91, 0x36, 0x06, 0x2c, 0x2a, 0x15, 0x05, 0x04, 0x60, 0x2e, 0x2a, 0x15, 0x05, 0x05, 0x60, 0x2e, 0xb6, 0x01, 0x93, 0x36, 0x07, 0x2c, 0xb6, 0x00, 0xf2, 0x15, 0x06, 0x9f, 0x00, 0x05, 0x03, 0xac, 0x15, 0x06, 0x9a, 0x00, 0x0f, 0x2d, 0x03, 0x2f, 0x15, 0x07, 0x85, 0x94, 0x99, 0x00, 0x05, 0x03, 0xac, 0xa7, 0x04, 0xc8]
theorem W_Lc50 : sameFrom m_L_law.2.1 B_Lc50 4265 := sameFrom_of (by decide +kernel)
def t_Lc50 : List (Nat × Instr × Nat) := [(4265, .aload_n 1, 1), (4266, .aload_n 0, 1), (4267, .iload 5, 2), (4269, .iconst 1, 1), (4270, .iadd, 1), (4271, .iaload, 1), (4272, .aload_n 0, 1), (4273, .iload 5, 2), (4275, .iconst 2, 1), (4276, .iadd, 1), (4277, .iaload, 1), (4278, .aload_n 3, 1), (4279, .invokestatic 401, 3), (4282, .istore 6, 2), (4284, .aload_n 2, 1), (4285, .aload_n 0, 1), (4286, .iload 5, 2), (4288, .iconst 1, 1), (4289, .iadd, 1), (4290, .iaload, 1), (4291, .aload_n 0, 1), (4292, .iload 5, 2), (4294, .iconst 2, 1), (4295, .iadd, 1), (4296, .iaload, 1), (4297, .invokevirtual 403, 3), (4300, .istore 7, 2), (4302, .aload_n 2, 1), (4303, .invokevirtual 242, 3), (4306, .iload 6, 2), (4308, .if_icmp .eq 5, 3), (4311, .iconst 0, 1), (4312, .ireturn, 1), (4313, .iload 6, 2), (4315, .ifCond .ne 15, 3), (4318, .aload_n 3, 1), (4319, .iconst 0, 1), (4320, .laload, 1), (4321, .iload 7, 2), (4323, .i2l, 1), (4324, .lcmp, 1), (4325, .ifCond .eq 5, 3), (4328, .iconst 0, 1), (4329, .ireturn, 1), (4330, .goto 1224, 3)]
set_option maxRecDepth 20000 in
theorem U_Lc50 : okT m_L_law.2.1 t_Lc50 = true := dSt [(0, .aload_n 1, 1), (1, .aload_n 0, 1), (2, .iload 5, 2), (4, .iconst 1, 1), (5, .iadd, 1), (6, .iaload, 1), (7, .aload_n 0, 1), (8, .iload 5, 2), (10, .iconst 2, 1), (11, .iadd, 1), (12, .iaload, 1), (13, .aload_n 3, 1), (14, .invokestatic 401, 3), (17, .istore 6, 2), (19, .aload_n 2, 1), (20, .aload_n 0, 1), (21, .iload 5, 2), (23, .iconst 1, 1), (24, .iadd, 1), (25, .iaload, 1), (26, .aload_n 0, 1), (27, .iload 5, 2), (29, .iconst 2, 1), (30, .iadd, 1), (31, .iaload, 1), (32, .invokevirtual 403, 3), (35, .istore 7, 2), (37, .aload_n 2, 1), (38, .invokevirtual 242, 3), (41, .iload 6, 2), (43, .if_icmp .eq 5, 3), (46, .iconst 0, 1), (47, .ireturn, 1), (48, .iload 6, 2), (50, .ifCond .ne 15, 3), (53, .aload_n 3, 1), (54, .iconst 0, 1), (55, .laload, 1), (56, .iload 7, 2), (58, .i2l, 1), (59, .lcmp, 1), (60, .ifCond .eq 5, 3), (63, .iconst 0, 1), (64, .ireturn, 1), (65, .goto 1224, 3)] W_Lc50 (by decide +kernel) (by decide +kernel)
set_option maxRecDepth 20000 in
set_option maxHeartbeats 1000000 in
theorem LC_50 {G : xG} {d rc rs : Nat} {ex : Bool} {h : xH} {Q : xQ} {σ : St} {c0 : Int} {rr : Nat} {ss : Int} {l0 : Int} {d0 : UInt64} {i : Nat} (hL : G.2.2.2.2.2.1 < 2147483648) (hi : i + 10 ≤ G.2.2.2.2.2.1) (w : CW σ h) (wm : MX σ c0 rr ss h) (v : INV σ) (ho : h[143]? = some (cJ [l0])) (hod : h[144]? = some (cD [d0]))
    (M : ∀ (σ9 : St) (h9 : xH) (e9 : Bool) (c9 : Int) (r9 : Nat) (s9 : Int) (l9 : Int) (d9 : UInt64), INV σ9 → CW σ9 h9 → MX σ9 c9 r9 s9 h9 → h9[143]? = some (cJ [l9]) → h9[144]? = some (cD [d9]) → X G m_L_law (d + 10) rc rs e9 5554 [some (.ref 0), some (.ref 3), some (.ref 70), some (.ref 143), some (.ref 144), some (vi (i : Int)), none, none, none] [] h9 Q) : X G m_L_law (d + 10) (rc + 3) (rs + 18) ex 4265 [some (.ref 0), some (.ref 3), some (.ref 70), some (.ref 143), some (.ref 144), some (vi (i : Int)), none, none, none] [] h Q := by
  refine x_aload_n (dT U_Lc50 0 rfl) rfl ?_
  refine x_aload_n (dT U_Lc50 1 rfl) rfl ?_
  refine x_iload (dT U_Lc50 2 rfl) rfl ?_
  refine x_iconst (dT U_Lc50 3 rfl) ?_
  refine x_iadd (dT U_Lc50 4 rfl) ?_
  refine x_sld (i + 1) hL (dT U_Lc50 5 rfl) (by omega) (by omega) ?_
  refine x_aload_n (dT U_Lc50 6 rfl) rfl ?_
  refine x_iload (dT U_Lc50 7 rfl) rfl ?_
  refine x_iconst (dT U_Lc50 8 rfl) ?_
  refine x_iadd (dT U_Lc50 9 rfl) ?_
  refine x_sld (i + 2) hL (dT U_Lc50 10 rfl) (by omega) (by omega) ?_
  refine x_aload_n (dT U_Lc50 11 rfl) rfl ?_
  refine x_invokestaticT (rc' := rc) (rs' := rs) (rc2 := 0 + 3) (rs2 := 0 + 18) (As := [_, _, _, _]) (st := _) M_L_bitLike K_L_401 (dT U_Lc50 12 rfl) rfl (by decide) rfl rfl (Nat.le_of_ble_eq_true rfl) rfl (by decide) (Nat.le_of_ble_eq_true rfl) (by omega) (by omega) ?_
  refine S_L_bitLike w v (xr_s _) (xr_s _) ho (fun c1 => ?_) (fun c1 c2 => ?_) (fun c1 c2 c3 => ?_) (fun c1 c2 c3 z9 hz9 ez9 => ?_)
  · refine xRet_some ?_
    refine x_istore (ls' := [some (.ref _), some (.ref _), some (.ref _), some (.ref _), some (.ref _), some (vi _), some (vi _), none, none]) (dT U_Lc50 13 rfl) (by decide) rfl ?_
    refine x_aload_n (dT U_Lc50 14 rfl) rfl ?_
    refine x_aload_n (dT U_Lc50 15 rfl) rfl ?_
    refine x_iload (dT U_Lc50 16 rfl) rfl ?_
    refine x_iconst (dT U_Lc50 17 rfl) ?_
    refine x_iadd (dT U_Lc50 18 rfl) ?_
    refine x_sld (i + 1) hL (dT U_Lc50 19 rfl) (by omega) (by omega) ?_
    refine x_aload_n (dT U_Lc50 20 rfl) rfl ?_
    refine x_iload (dT U_Lc50 21 rfl) rfl ?_
    refine x_iconst (dT U_Lc50 22 rfl) ?_
    refine x_iadd (dT U_Lc50 23 rfl) ?_
    refine x_sld (i + 2) hL (dT U_Lc50 24 rfl) (by omega) (by omega) ?_
    refine x_invokevirtual (rc' := rc) (rs' := rs) (rc2 := 0) (rs2 := 0) (As := [_, _]) (st := _) M_X11_bitLike K_L_403 (dT U_Lc50 25 rfl) rfl rfl (by decide) rfl rfl wm.c70 (Nat.le_of_ble_eq_true rfl) (by decide) rfl (Nat.le_of_ble_eq_true rfl) rfl (by decide) (Nat.le_of_ble_eq_true rfl) rfl rfl ?_
    refine S_X11_bitLike wm v (xr_s _) (xr_s _) (fun m1 h3 z ag wx xz => ?_) (fun m1 m2 _ _ _ _ _ => absurd m1 c1) (fun m1 m2 m3 _ _ _ _ _ => absurd m1 c1) (fun m1 m2 m3 _ _ _ _ _ => absurd m1 c1)
    refine xRet_some ?_
    refine x_istore (ls' := [some (.ref _), some (.ref _), some (.ref _), some (.ref _), some (.ref _), some (vi _), some (vi _), some (vi _), none]) (dT U_Lc50 26 rfl) (by decide) rfl ?_
    refine x_aload_n (dT U_Lc50 27 rfl) rfl ?_
    refine x_invokevirtual (rc' := rc) (rs' := rs) (rc2 := 0) (rs2 := 0) (As := []) (st := _) M_X11_thrown K_L_242 (dT U_Lc50 28 rfl) rfl rfl (by decide) rfl rfl wx.c70 (Nat.le_of_ble_eq_true rfl) (by decide) rfl (Nat.le_of_ble_eq_true rfl) rfl (by decide) (Nat.le_of_ble_eq_true rfl) rfl rfl ?_
    refine S_X11_thrown wx ?_
    refine xRet_some ?_
    refine x_iload (dT U_Lc50 29 rfl) rfl ?_
    refine x_icmp_eq (tgt := 4313) (dT U_Lc50 30 rfl) (by decide) (by unfold xr; omega) (by unfold xr; omega) (fun c4308 => ?_) (fun c4308 => (by exfalso; omega))
    refine x_iload (dT U_Lc50 33 rfl) rfl ?_
    refine x_if_nej (tgt := 4330) (dT U_Lc50 34 rfl) (by decide) (by decide) ?_
    refine x_goto (tgt := 5554) (dT U_Lc50 44 rfl) (by decide) ?_
    refine x_drop ?_ (M _ _ _ _ _ _ _ _ v (w.out ag (by omega)) wx (ag.get ho (by omega)) (ag.get hod (by omega)))
    repeat (first | exact trivial | refine ⟨rfl, ?_⟩ | refine ⟨trivial, ?_⟩)
  · refine xRet_some ?_
    refine x_istore (ls' := [some (.ref _), some (.ref _), some (.ref _), some (.ref _), some (.ref _), some (vi _), some (vi _), none, none]) (dT U_Lc50 13 rfl) (by decide) rfl ?_
    refine x_aload_n (dT U_Lc50 14 rfl) rfl ?_
    refine x_aload_n (dT U_Lc50 15 rfl) rfl ?_
    refine x_iload (dT U_Lc50 16 rfl) rfl ?_
    refine x_iconst (dT U_Lc50 17 rfl) ?_
    refine x_iadd (dT U_Lc50 18 rfl) ?_
    refine x_sld (i + 1) hL (dT U_Lc50 19 rfl) (by omega) (by omega) ?_
    refine x_aload_n (dT U_Lc50 20 rfl) rfl ?_
    refine x_iload (dT U_Lc50 21 rfl) rfl ?_
    refine x_iconst (dT U_Lc50 22 rfl) ?_
    refine x_iadd (dT U_Lc50 23 rfl) ?_
    refine x_sld (i + 2) hL (dT U_Lc50 24 rfl) (by omega) (by omega) ?_
    refine x_invokevirtual (rc' := rc) (rs' := rs) (rc2 := 0) (rs2 := 0) (As := [_, _]) (st := _) M_X11_bitLike K_L_403 (dT U_Lc50 25 rfl) rfl rfl (by decide) rfl rfl wm.c70 (Nat.le_of_ble_eq_true rfl) (by decide) rfl (Nat.le_of_ble_eq_true rfl) rfl (by decide) (Nat.le_of_ble_eq_true rfl) rfl rfl ?_
    refine S_X11_bitLike wm v (xr_s _) (xr_s _) (fun m1 _ _ _ _ _ => absurd c1 m1) (fun m1 m2 h3 z ag wx xz => ?_) (fun m1 m2 m3 _ _ _ _ _ => absurd m2 c2) (fun m1 m2 m3 _ _ _ _ _ => absurd m2 c2)
    refine xRet_some ?_
    refine x_istore (ls' := [some (.ref _), some (.ref _), some (.ref _), some (.ref _), some (.ref _), some (vi _), some (vi _), some (vi _), none]) (dT U_Lc50 26 rfl) (by decide) rfl ?_
    refine x_aload_n (dT U_Lc50 27 rfl) rfl ?_
    refine x_invokevirtual (rc' := rc) (rs' := rs) (rc2 := 0) (rs2 := 0) (As := []) (st := _) M_X11_thrown K_L_242 (dT U_Lc50 28 rfl) rfl rfl (by decide) rfl rfl wx.c70 (Nat.le_of_ble_eq_true rfl) (by decide) rfl (Nat.le_of_ble_eq_true rfl) rfl (by decide) (Nat.le_of_ble_eq_true rfl) rfl rfl ?_
    refine S_X11_thrown wx ?_
    refine xRet_some ?_
    refine x_iload (dT U_Lc50 29 rfl) rfl ?_
    refine x_icmp_eq (tgt := 4313) (dT U_Lc50 30 rfl) (by decide) (by unfold xr; omega) (by unfold xr; omega) (fun c4308 => ?_) (fun c4308 => (by exfalso; omega))
    refine x_iload (dT U_Lc50 33 rfl) rfl ?_
    refine x_if_ne (tgt := 4330) (dT U_Lc50 34 rfl) (by decide) (by unfold xr; omega) (fun c4315 => ?_) (fun c4315 => (by exfalso; omega))
    refine x_goto (tgt := 5554) (dT U_Lc50 44 rfl) (by decide) ?_
    refine x_drop ?_ (M _ _ _ _ _ _ _ _ v (w.out ag (by omega)) wx (ag.get ho (by omega)) (ag.get hod (by omega)))
    repeat (first | exact trivial | refine ⟨rfl, ?_⟩ | refine ⟨trivial, ?_⟩)
  · refine xRet_some ?_
    refine x_istore (ls' := [some (.ref _), some (.ref _), some (.ref _), some (.ref _), some (.ref _), some (vi _), some (vi _), none, none]) (dT U_Lc50 13 rfl) (by decide) rfl ?_
    refine x_aload_n (dT U_Lc50 14 rfl) rfl ?_
    refine x_aload_n (dT U_Lc50 15 rfl) rfl ?_
    refine x_iload (dT U_Lc50 16 rfl) rfl ?_
    refine x_iconst (dT U_Lc50 17 rfl) ?_
    refine x_iadd (dT U_Lc50 18 rfl) ?_
    refine x_sld (i + 1) hL (dT U_Lc50 19 rfl) (by omega) (by omega) ?_
    refine x_aload_n (dT U_Lc50 20 rfl) rfl ?_
    refine x_iload (dT U_Lc50 21 rfl) rfl ?_
    refine x_iconst (dT U_Lc50 22 rfl) ?_
    refine x_iadd (dT U_Lc50 23 rfl) ?_
    refine x_sld (i + 2) hL (dT U_Lc50 24 rfl) (by omega) (by omega) ?_
    refine x_invokevirtual (rc' := rc) (rs' := rs) (rc2 := 0) (rs2 := 0) (As := [_, _]) (st := _) M_X11_bitLike K_L_403 (dT U_Lc50 25 rfl) rfl rfl (by decide) rfl rfl wm.c70 (Nat.le_of_ble_eq_true rfl) (by decide) rfl (Nat.le_of_ble_eq_true rfl) rfl (by decide) (Nat.le_of_ble_eq_true rfl) rfl rfl ?_
    refine S_X11_bitLike wm v (xr_s _) (xr_s _) (fun m1 _ _ _ _ _ => absurd c1 m1) (fun m1 m2 _ _ _ _ _ => absurd c2 m2) (fun m1 m2 m3 h3 z ag wx xz => ?_) (fun m1 m2 m3 _ _ _ _ _ => absurd m3 c3)
    refine xRet_some ?_
    refine x_istore (ls' := [some (.ref _), some (.ref _), some (.ref _), some (.ref _), some (.ref _), some (vi _), some (vi _), some (vi _), none]) (dT U_Lc50 26 rfl) (by decide) rfl ?_
    refine x_aload_n (dT U_Lc50 27 rfl) rfl ?_
    refine x_invokevirtual (rc' := rc) (rs' := rs) (rc2 := 0) (rs2 := 0) (As := []) (st := _) M_X11_thrown K_L_242 (dT U_Lc50 28 rfl) rfl rfl (by decide) rfl rfl wx.c70 (Nat.le_of_ble_eq_true rfl) (by decide) rfl (Nat.le_of_ble_eq_true rfl) rfl (by decide) (Nat.le_of_ble_eq_true rfl) rfl rfl ?_
    refine S_X11_thrown wx ?_
    refine xRet_some ?_
    refine x_iload (dT U_Lc50 29 rfl) rfl ?_
    refine x_icmp_eq (tgt := 4313) (dT U_Lc50 30 rfl) (by decide) (by unfold xr; omega) (by unfold xr; omega) (fun c4308 => ?_) (fun c4308 => (by exfalso; omega))
    refine x_iload (dT U_Lc50 33 rfl) rfl ?_
    refine x_if_ne (tgt := 4330) (dT U_Lc50 34 rfl) (by decide) (by unfold xr; omega) (fun c4315 => ?_) (fun c4315 => (by exfalso; omega))
    refine x_goto (tgt := 5554) (dT U_Lc50 44 rfl) (by decide) ?_
    refine x_drop ?_ (M _ _ _ _ _ _ _ _ v (w.out ag (by omega)) wx (ag.get ho (by omega)) (ag.get hod (by omega)))
    repeat (first | exact trivial | refine ⟨rfl, ?_⟩ | refine ⟨trivial, ?_⟩)
  · refine xRet_some ?_
    have wmx := wm.out (h2 := (h.set 143 (cJ [z9]))) (fun a ha => by rw [hset_fr (by omega)])
    refine x_istore (ls' := [some (.ref _), some (.ref _), some (.ref _), some (.ref _), some (.ref _), some (vi _), some (vi _), none, none]) (dT U_Lc50 13 rfl) (by decide) rfl ?_
    refine x_aload_n (dT U_Lc50 14 rfl) rfl ?_
    refine x_aload_n (dT U_Lc50 15 rfl) rfl ?_
    refine x_iload (dT U_Lc50 16 rfl) rfl ?_
    refine x_iconst (dT U_Lc50 17 rfl) ?_
    refine x_iadd (dT U_Lc50 18 rfl) ?_
    refine x_sld (i + 1) hL (dT U_Lc50 19 rfl) (by omega) (by omega) ?_
    refine x_aload_n (dT U_Lc50 20 rfl) rfl ?_
    refine x_iload (dT U_Lc50 21 rfl) rfl ?_
    refine x_iconst (dT U_Lc50 22 rfl) ?_
    refine x_iadd (dT U_Lc50 23 rfl) ?_
    refine x_sld (i + 2) hL (dT U_Lc50 24 rfl) (by omega) (by omega) ?_
    refine x_invokevirtual (rc' := rc) (rs' := rs) (rc2 := 0) (rs2 := 0) (As := [_, _]) (st := _) M_X11_bitLike K_L_403 (dT U_Lc50 25 rfl) rfl rfl (by decide) rfl rfl wmx.c70 (Nat.le_of_ble_eq_true rfl) (by decide) rfl (Nat.le_of_ble_eq_true rfl) rfl (by decide) (Nat.le_of_ble_eq_true rfl) rfl rfl ?_
    refine S_X11_bitLike wmx v (xr_s _) (xr_s _) (fun m1 _ _ _ _ _ => absurd c1 m1) (fun m1 m2 _ _ _ _ _ => absurd c2 m2) (fun m1 m2 m3 _ _ _ _ _ => absurd c3 m3) (fun m1 m2 m3 h3 r3 s3 ag wx => ?_)
    refine xRet_some ?_
    rw [ez9]
    refine x_istore (ls' := [some (.ref _), some (.ref _), some (.ref _), some (.ref _), some (.ref _), some (vi _), some (vi _), some (vi _), none]) (dT U_Lc50 26 rfl) (by decide) rfl ?_
    refine x_aload_n (dT U_Lc50 27 rfl) rfl ?_
    refine x_invokevirtual (rc' := rc) (rs' := rs) (rc2 := 0) (rs2 := 0) (As := []) (st := _) M_X11_thrown K_L_242 (dT U_Lc50 28 rfl) rfl rfl (by decide) rfl rfl wx.c70 (Nat.le_of_ble_eq_true rfl) (by decide) rfl (Nat.le_of_ble_eq_true rfl) rfl (by decide) (Nat.le_of_ble_eq_true rfl) rfl rfl ?_
    refine S_X11_thrown wx ?_
    refine xRet_some ?_
    refine x_iload (dT U_Lc50 29 rfl) rfl ?_
    refine x_icmp_eq (tgt := 4313) (dT U_Lc50 30 rfl) (by decide) (by unfold xr; omega) (by unfold xr; omega) (fun c4308 => ?_) (fun c4308 => (by exfalso; omega))
    refine x_iload (dT U_Lc50 33 rfl) rfl ?_
    refine x_if_nen (tgt := 4330) (dT U_Lc50 34 rfl) (by decide) (by decide) ?_
    refine x_aload_n (dT U_Lc50 35 rfl) rfl ?_
    refine x_iconst (dT U_Lc50 36 rfl) ?_
    refine x_laload 0 (dT U_Lc50 37 rfl) (ag.get (hset_eq ho) (by omega)) (Nat.le_of_ble_eq_true rfl) rfl (Nat.le_of_ble_eq_true rfl) (Nat.le_of_ble_eq_true rfl) ?_
    refine x_iload (dT U_Lc50 38 rfl) rfl ?_
    refine x_i2l (dT U_Lc50 39 rfl) hz9 ?_
    refine x_lcmp (dT U_Lc50 40 rfl) (xr_l hz9) (xr_l hz9) ?_
    refine x_if_eqj (tgt := 4330) (dT U_Lc50 41 rfl) (by decide) (xcmp_rf _) ?_
    refine x_goto (tgt := 5554) (dT U_Lc50 44 rfl) (by decide) ?_
    refine x_drop ?_ (M _ _ _ _ _ _ _ _ v ((w.out ((Ag.rf 143 143 h).set (by omega)) (by omega)).out ag (by omega)) wx (ag.get (hset_eq ho) (by omega)) (ag.get (hset_ne (by omega) hod) (by omega)))
    repeat (first | exact trivial | refine ⟨rfl, ?_⟩ | refine ⟨trivial, ?_⟩)

def B_Lc51 : ByteArray := .mk #[0x2b, 0x2a, 0x15, 0x05, 0x04, 0x60, 0x2e, 0x2a, 0x15, 0x05, 0x05, 0x60, 0x2e, 0x2a, 0x15, 0x05, 0x06, 0x60, 0x2e, 0x2a, 0x15, 0x05, 0x07, 0x60, 0x2e, 0x2d, 0xb8, 0x01, 0x94, 0x36, 0x06, 0x2c, 0x2a, 0x15, 0x05, 0x04, 0x60, 0x2e, 0x2a, 0x15, 0x05, 0x05, 0x60, 0x2e, 0x2a, 0x15, 0x05, 0x06, 0x60, 0x2e, 0x2a, 0x15, 0x05, 0x07, 0x60, 0x2e, 0xb6, 0x01, 0x96, 0x36, 0x07, 0x2c, 0xb6, 0x00, 0xf2, 0x15, 0x06, 0x9f, 0x00, 0x05, 0x03, 0xac, 0x15, 0x06, 0x9a, 0x00, 0x0f, 0x2d, 0x03, 0x2f, 0x15, 0x07, 0x85, 0x94, 0x99, 0x00, 0x05, 0x03, 0xac, 0xa7, 0x04, 0x6c]
theorem W_Lc51 : sameFrom m_L_law.2.1 B_Lc51 4333 := sameFrom_of (by decide +kernel)
def t_Lc51 : List (Nat × Instr × Nat) := [(4333, .aload_n 1, 1), (4334, .aload_n 0, 1), (4335, .iload 5, 2), (4337, .iconst 1, 1), (4338, .iadd, 1), (4339, .iaload, 1), (4340, .aload_n 0, 1), (4341, .iload 5, 2), (4343, .iconst 2, 1), (4344, .iadd, 1), (4345, .iaload, 1), (4346, .aload_n 0, 1), (4347, .iload 5, 2), (4349, .iconst 3, 1), (4350, .iadd, 1), (4351, .iaload, 1), (4352, .aload_n 0, 1), (4353, .iload 5, 2), (4355, .iconst 4, 1), (4356, .iadd, 1), (4357, .iaload, 1), (4358, .aload_n 3, 1), (4359, .invokestatic 404, 3), (4362, .istore 6, 2), (4364, .aload_n 2, 1), (4365, .aload_n 0, 1), (4366, .iload 5, 2), (4368, .iconst 1, 1), (4369, .iadd, 1), (4370, .iaload, 1), (4371, .aload_n 0, 1), (4372, .iload 5, 2), (4374, .iconst 2, 1), (4375, .iadd, 1), (4376, .iaload, 1), (4377, .aload_n 0, 1), (4378, .iload 5, 2), (4380, .iconst 3, 1), (4381, .iadd, 1), (4382, .iaload, 1), (4383, .aload_n 0, 1), (4384, .iload 5, 2), (4386, .iconst 4, 1), (4387, .iadd, 1), (4388, .iaload, 1), (4389, .invokevirtual 406, 3), (4392, .istore 7, 2), (4394, .aload_n 2, 1), (4395, .invokevirtual 242, 3), (4398, .iload 6, 2), (4400, .if_icmp .eq 5, 3), (4403, .iconst 0, 1), (4404, .ireturn, 1), (4405, .iload 6, 2), (4407, .ifCond .ne 15, 3), (4410, .aload_n 3, 1), (4411, .iconst 0, 1), (4412, .laload, 1), (4413, .iload 7, 2), (4415, .i2l, 1), (4416, .lcmp, 1), (4417, .ifCond .eq 5, 3), (4420, .iconst 0, 1), (4421, .ireturn, 1), (4422, .goto 1132, 3)]
set_option maxRecDepth 20000 in
theorem U_Lc51 : okT m_L_law.2.1 t_Lc51 = true := dSt [(0, .aload_n 1, 1), (1, .aload_n 0, 1), (2, .iload 5, 2), (4, .iconst 1, 1), (5, .iadd, 1), (6, .iaload, 1), (7, .aload_n 0, 1), (8, .iload 5, 2), (10, .iconst 2, 1), (11, .iadd, 1), (12, .iaload, 1), (13, .aload_n 0, 1), (14, .iload 5, 2), (16, .iconst 3, 1), (17, .iadd, 1), (18, .iaload, 1), (19, .aload_n 0, 1), (20, .iload 5, 2), (22, .iconst 4, 1), (23, .iadd, 1), (24, .iaload, 1), (25, .aload_n 3, 1), (26, .invokestatic 404, 3), (29, .istore 6, 2), (31, .aload_n 2, 1), (32, .aload_n 0, 1), (33, .iload 5, 2), (35, .iconst 1, 1), (36, .iadd, 1), (37, .iaload, 1), (38, .aload_n 0, 1), (39, .iload 5, 2), (41, .iconst 2, 1), (42, .iadd, 1), (43, .iaload, 1), (44, .aload_n 0, 1), (45, .iload 5, 2), (47, .iconst 3, 1), (48, .iadd, 1), (49, .iaload, 1), (50, .aload_n 0, 1), (51, .iload 5, 2), (53, .iconst 4, 1), (54, .iadd, 1), (55, .iaload, 1), (56, .invokevirtual 406, 3), (59, .istore 7, 2), (61, .aload_n 2, 1), (62, .invokevirtual 242, 3), (65, .iload 6, 2), (67, .if_icmp .eq 5, 3), (70, .iconst 0, 1), (71, .ireturn, 1), (72, .iload 6, 2), (74, .ifCond .ne 15, 3), (77, .aload_n 3, 1), (78, .iconst 0, 1), (79, .laload, 1), (80, .iload 7, 2), (82, .i2l, 1), (83, .lcmp, 1), (84, .ifCond .eq 5, 3), (87, .iconst 0, 1), (88, .ireturn, 1), (89, .goto 1132, 3)] W_Lc51 (by decide +kernel) (by decide +kernel)
set_option maxRecDepth 20000 in
set_option maxHeartbeats 1000000 in
theorem LC_51 {G : xG} {d rc rs : Nat} {ex : Bool} {h : xH} {Q : xQ} {σ : St} {c0 : Int} {rr : Nat} {ss : Int} {l0 : Int} {d0 : UInt64} {i : Nat} (hL : G.2.2.2.2.2.1 < 2147483648) (hi : i + 10 ≤ G.2.2.2.2.2.1) (w : CW σ h) (wm : MX σ c0 rr ss h) (v : INV σ) (ho : h[143]? = some (cJ [l0])) (hod : h[144]? = some (cD [d0]))
    (M : ∀ (σ9 : St) (h9 : xH) (e9 : Bool) (c9 : Int) (r9 : Nat) (s9 : Int) (l9 : Int) (d9 : UInt64), INV σ9 → CW σ9 h9 → MX σ9 c9 r9 s9 h9 → h9[143]? = some (cJ [l9]) → h9[144]? = some (cD [d9]) → X G m_L_law (d + 10) rc rs e9 5554 [some (.ref 0), some (.ref 3), some (.ref 70), some (.ref 143), some (.ref 144), some (vi (i : Int)), none, none, none] [] h9 Q) : X G m_L_law (d + 10) (rc + 6) (rs + 36) ex 4333 [some (.ref 0), some (.ref 3), some (.ref 70), some (.ref 143), some (.ref 144), some (vi (i : Int)), none, none, none] [] h Q := by
  refine x_aload_n (dT U_Lc51 0 rfl) rfl ?_
  refine x_aload_n (dT U_Lc51 1 rfl) rfl ?_
  refine x_iload (dT U_Lc51 2 rfl) rfl ?_
  refine x_iconst (dT U_Lc51 3 rfl) ?_
  refine x_iadd (dT U_Lc51 4 rfl) ?_
  refine x_sld (i + 1) hL (dT U_Lc51 5 rfl) (by omega) (by omega) ?_
  refine x_aload_n (dT U_Lc51 6 rfl) rfl ?_
  refine x_iload (dT U_Lc51 7 rfl) rfl ?_
  refine x_iconst (dT U_Lc51 8 rfl) ?_
  refine x_iadd (dT U_Lc51 9 rfl) ?_
  refine x_sld (i + 2) hL (dT U_Lc51 10 rfl) (by omega) (by omega) ?_
  refine x_aload_n (dT U_Lc51 11 rfl) rfl ?_
  refine x_iload (dT U_Lc51 12 rfl) rfl ?_
  refine x_iconst (dT U_Lc51 13 rfl) ?_
  refine x_iadd (dT U_Lc51 14 rfl) ?_
  refine x_sld (i + 3) hL (dT U_Lc51 15 rfl) (by omega) (by omega) ?_
  refine x_aload_n (dT U_Lc51 16 rfl) rfl ?_
  refine x_iload (dT U_Lc51 17 rfl) rfl ?_
  refine x_iconst (dT U_Lc51 18 rfl) ?_
  refine x_iadd (dT U_Lc51 19 rfl) ?_
  refine x_sld (i + 4) hL (dT U_Lc51 20 rfl) (by omega) (by omega) ?_
  refine x_aload_n (dT U_Lc51 21 rfl) rfl ?_
  refine x_invokestaticT (rc' := rc) (rs' := rs) (rc2 := 0 + 6) (rs2 := 0 + 36) (As := [_, _, _, _, _, _]) (st := _) M_L_gate K_L_404 (dT U_Lc51 22 rfl) rfl (by decide) rfl rfl (Nat.le_of_ble_eq_true rfl) rfl (by decide) (Nat.le_of_ble_eq_true rfl) (by omega) (by omega) ?_
  refine S_L_gate w v (xr_s _) (xr_s _) (xr_s _) (xr_s _) ho (fun c1 => ?_) (fun c1 c2 => ?_) (fun c1 c2 c3 => ?_) (fun c1 c2 c3 h2 fc w2 z9 hz9 ez9 => ?_)
  · refine xRet_some ?_
    refine x_istore (ls' := [some (.ref _), some (.ref _), some (.ref _), some (.ref _), some (.ref _), some (vi _), some (vi _), none, none]) (dT U_Lc51 23 rfl) (by decide) rfl ?_
    refine x_aload_n (dT U_Lc51 24 rfl) rfl ?_
    refine x_aload_n (dT U_Lc51 25 rfl) rfl ?_
    refine x_iload (dT U_Lc51 26 rfl) rfl ?_
    refine x_iconst (dT U_Lc51 27 rfl) ?_
    refine x_iadd (dT U_Lc51 28 rfl) ?_
    refine x_sld (i + 1) hL (dT U_Lc51 29 rfl) (by omega) (by omega) ?_
    refine x_aload_n (dT U_Lc51 30 rfl) rfl ?_
    refine x_iload (dT U_Lc51 31 rfl) rfl ?_
    refine x_iconst (dT U_Lc51 32 rfl) ?_
    refine x_iadd (dT U_Lc51 33 rfl) ?_
    refine x_sld (i + 2) hL (dT U_Lc51 34 rfl) (by omega) (by omega) ?_
    refine x_aload_n (dT U_Lc51 35 rfl) rfl ?_
    refine x_iload (dT U_Lc51 36 rfl) rfl ?_
    refine x_iconst (dT U_Lc51 37 rfl) ?_
    refine x_iadd (dT U_Lc51 38 rfl) ?_
    refine x_sld (i + 3) hL (dT U_Lc51 39 rfl) (by omega) (by omega) ?_
    refine x_aload_n (dT U_Lc51 40 rfl) rfl ?_
    refine x_iload (dT U_Lc51 41 rfl) rfl ?_
    refine x_iconst (dT U_Lc51 42 rfl) ?_
    refine x_iadd (dT U_Lc51 43 rfl) ?_
    refine x_sld (i + 4) hL (dT U_Lc51 44 rfl) (by omega) (by omega) ?_
    refine x_invokevirtual (rc' := rc) (rs' := rs) (rc2 := 0) (rs2 := 0) (As := [_, _, _, _]) (st := _) M_X11_gate K_L_406 (dT U_Lc51 45 rfl) rfl rfl (by decide) rfl rfl wm.c70 (Nat.le_of_ble_eq_true rfl) (by decide) rfl (Nat.le_of_ble_eq_true rfl) rfl (by decide) (Nat.le_of_ble_eq_true rfl) rfl rfl ?_
    refine S_X11_gate wm v (xr_s _) (xr_s _) (xr_s _) (xr_s _) (fun m1 h3 z ag wx xz => ?_) (fun m1 m2 _ _ _ _ _ => absurd m1 c1) (fun m1 m2 m3 _ _ _ _ _ => absurd m1 c1) (fun m1 m2 m3 _ _ _ _ _ => absurd m1 c1)
    refine xRet_some ?_
    refine x_istore (ls' := [some (.ref _), some (.ref _), some (.ref _), some (.ref _), some (.ref _), some (vi _), some (vi _), some (vi _), none]) (dT U_Lc51 46 rfl) (by decide) rfl ?_
    refine x_aload_n (dT U_Lc51 47 rfl) rfl ?_
    refine x_invokevirtual (rc' := rc) (rs' := rs) (rc2 := 0) (rs2 := 0) (As := []) (st := _) M_X11_thrown K_L_242 (dT U_Lc51 48 rfl) rfl rfl (by decide) rfl rfl wx.c70 (Nat.le_of_ble_eq_true rfl) (by decide) rfl (Nat.le_of_ble_eq_true rfl) rfl (by decide) (Nat.le_of_ble_eq_true rfl) rfl rfl ?_
    refine S_X11_thrown wx ?_
    refine xRet_some ?_
    refine x_iload (dT U_Lc51 49 rfl) rfl ?_
    refine x_icmp_eq (tgt := 4405) (dT U_Lc51 50 rfl) (by decide) (by unfold xr; omega) (by unfold xr; omega) (fun c4400 => ?_) (fun c4400 => (by exfalso; omega))
    refine x_iload (dT U_Lc51 53 rfl) rfl ?_
    refine x_if_nej (tgt := 4422) (dT U_Lc51 54 rfl) (by decide) (by decide) ?_
    refine x_goto (tgt := 5554) (dT U_Lc51 64 rfl) (by decide) ?_
    refine x_drop ?_ (M _ _ _ _ _ _ _ _ v (w.out ag (by omega)) wx (ag.get ho (by omega)) (ag.get hod (by omega)))
    repeat (first | exact trivial | refine ⟨rfl, ?_⟩ | refine ⟨trivial, ?_⟩)
  · refine xRet_some ?_
    refine x_istore (ls' := [some (.ref _), some (.ref _), some (.ref _), some (.ref _), some (.ref _), some (vi _), some (vi _), none, none]) (dT U_Lc51 23 rfl) (by decide) rfl ?_
    refine x_aload_n (dT U_Lc51 24 rfl) rfl ?_
    refine x_aload_n (dT U_Lc51 25 rfl) rfl ?_
    refine x_iload (dT U_Lc51 26 rfl) rfl ?_
    refine x_iconst (dT U_Lc51 27 rfl) ?_
    refine x_iadd (dT U_Lc51 28 rfl) ?_
    refine x_sld (i + 1) hL (dT U_Lc51 29 rfl) (by omega) (by omega) ?_
    refine x_aload_n (dT U_Lc51 30 rfl) rfl ?_
    refine x_iload (dT U_Lc51 31 rfl) rfl ?_
    refine x_iconst (dT U_Lc51 32 rfl) ?_
    refine x_iadd (dT U_Lc51 33 rfl) ?_
    refine x_sld (i + 2) hL (dT U_Lc51 34 rfl) (by omega) (by omega) ?_
    refine x_aload_n (dT U_Lc51 35 rfl) rfl ?_
    refine x_iload (dT U_Lc51 36 rfl) rfl ?_
    refine x_iconst (dT U_Lc51 37 rfl) ?_
    refine x_iadd (dT U_Lc51 38 rfl) ?_
    refine x_sld (i + 3) hL (dT U_Lc51 39 rfl) (by omega) (by omega) ?_
    refine x_aload_n (dT U_Lc51 40 rfl) rfl ?_
    refine x_iload (dT U_Lc51 41 rfl) rfl ?_
    refine x_iconst (dT U_Lc51 42 rfl) ?_
    refine x_iadd (dT U_Lc51 43 rfl) ?_
    refine x_sld (i + 4) hL (dT U_Lc51 44 rfl) (by omega) (by omega) ?_
    refine x_invokevirtual (rc' := rc) (rs' := rs) (rc2 := 0) (rs2 := 0) (As := [_, _, _, _]) (st := _) M_X11_gate K_L_406 (dT U_Lc51 45 rfl) rfl rfl (by decide) rfl rfl wm.c70 (Nat.le_of_ble_eq_true rfl) (by decide) rfl (Nat.le_of_ble_eq_true rfl) rfl (by decide) (Nat.le_of_ble_eq_true rfl) rfl rfl ?_
    refine S_X11_gate wm v (xr_s _) (xr_s _) (xr_s _) (xr_s _) (fun m1 _ _ _ _ _ => absurd c1 m1) (fun m1 m2 h3 z ag wx xz => ?_) (fun m1 m2 m3 _ _ _ _ _ => absurd m2 c2) (fun m1 m2 m3 _ _ _ _ _ => absurd m2 c2)
    refine xRet_some ?_
    refine x_istore (ls' := [some (.ref _), some (.ref _), some (.ref _), some (.ref _), some (.ref _), some (vi _), some (vi _), some (vi _), none]) (dT U_Lc51 46 rfl) (by decide) rfl ?_
    refine x_aload_n (dT U_Lc51 47 rfl) rfl ?_
    refine x_invokevirtual (rc' := rc) (rs' := rs) (rc2 := 0) (rs2 := 0) (As := []) (st := _) M_X11_thrown K_L_242 (dT U_Lc51 48 rfl) rfl rfl (by decide) rfl rfl wx.c70 (Nat.le_of_ble_eq_true rfl) (by decide) rfl (Nat.le_of_ble_eq_true rfl) rfl (by decide) (Nat.le_of_ble_eq_true rfl) rfl rfl ?_
    refine S_X11_thrown wx ?_
    refine xRet_some ?_
    refine x_iload (dT U_Lc51 49 rfl) rfl ?_
    refine x_icmp_eq (tgt := 4405) (dT U_Lc51 50 rfl) (by decide) (by unfold xr; omega) (by unfold xr; omega) (fun c4400 => ?_) (fun c4400 => (by exfalso; omega))
    refine x_iload (dT U_Lc51 53 rfl) rfl ?_
    refine x_if_ne (tgt := 4422) (dT U_Lc51 54 rfl) (by decide) (by unfold xr; omega) (fun c4407 => ?_) (fun c4407 => (by exfalso; omega))
    refine x_goto (tgt := 5554) (dT U_Lc51 64 rfl) (by decide) ?_
    refine x_drop ?_ (M _ _ _ _ _ _ _ _ v (w.out ag (by omega)) wx (ag.get ho (by omega)) (ag.get hod (by omega)))
    repeat (first | exact trivial | refine ⟨rfl, ?_⟩ | refine ⟨trivial, ?_⟩)
  · refine xRet_some ?_
    refine x_istore (ls' := [some (.ref _), some (.ref _), some (.ref _), some (.ref _), some (.ref _), some (vi _), some (vi _), none, none]) (dT U_Lc51 23 rfl) (by decide) rfl ?_
    refine x_aload_n (dT U_Lc51 24 rfl) rfl ?_
    refine x_aload_n (dT U_Lc51 25 rfl) rfl ?_
    refine x_iload (dT U_Lc51 26 rfl) rfl ?_
    refine x_iconst (dT U_Lc51 27 rfl) ?_
    refine x_iadd (dT U_Lc51 28 rfl) ?_
    refine x_sld (i + 1) hL (dT U_Lc51 29 rfl) (by omega) (by omega) ?_
    refine x_aload_n (dT U_Lc51 30 rfl) rfl ?_
    refine x_iload (dT U_Lc51 31 rfl) rfl ?_
    refine x_iconst (dT U_Lc51 32 rfl) ?_
    refine x_iadd (dT U_Lc51 33 rfl) ?_
    refine x_sld (i + 2) hL (dT U_Lc51 34 rfl) (by omega) (by omega) ?_
    refine x_aload_n (dT U_Lc51 35 rfl) rfl ?_
    refine x_iload (dT U_Lc51 36 rfl) rfl ?_
    refine x_iconst (dT U_Lc51 37 rfl) ?_
    refine x_iadd (dT U_Lc51 38 rfl) ?_
    refine x_sld (i + 3) hL (dT U_Lc51 39 rfl) (by omega) (by omega) ?_
    refine x_aload_n (dT U_Lc51 40 rfl) rfl ?_
    refine x_iload (dT U_Lc51 41 rfl) rfl ?_
    refine x_iconst (dT U_Lc51 42 rfl) ?_
    refine x_iadd (dT U_Lc51 43 rfl) ?_
    refine x_sld (i + 4) hL (dT U_Lc51 44 rfl) (by omega) (by omega) ?_
    refine x_invokevirtual (rc' := rc) (rs' := rs) (rc2 := 0) (rs2 := 0) (As := [_, _, _, _]) (st := _) M_X11_gate K_L_406 (dT U_Lc51 45 rfl) rfl rfl (by decide) rfl rfl wm.c70 (Nat.le_of_ble_eq_true rfl) (by decide) rfl (Nat.le_of_ble_eq_true rfl) rfl (by decide) (Nat.le_of_ble_eq_true rfl) rfl rfl ?_
    refine S_X11_gate wm v (xr_s _) (xr_s _) (xr_s _) (xr_s _) (fun m1 _ _ _ _ _ => absurd c1 m1) (fun m1 m2 _ _ _ _ _ => absurd c2 m2) (fun m1 m2 m3 h3 z ag wx xz => ?_) (fun m1 m2 m3 _ _ _ _ _ => absurd m3 c3)
    refine xRet_some ?_
    refine x_istore (ls' := [some (.ref _), some (.ref _), some (.ref _), some (.ref _), some (.ref _), some (vi _), some (vi _), some (vi _), none]) (dT U_Lc51 46 rfl) (by decide) rfl ?_
    refine x_aload_n (dT U_Lc51 47 rfl) rfl ?_
    refine x_invokevirtual (rc' := rc) (rs' := rs) (rc2 := 0) (rs2 := 0) (As := []) (st := _) M_X11_thrown K_L_242 (dT U_Lc51 48 rfl) rfl rfl (by decide) rfl rfl wx.c70 (Nat.le_of_ble_eq_true rfl) (by decide) rfl (Nat.le_of_ble_eq_true rfl) rfl (by decide) (Nat.le_of_ble_eq_true rfl) rfl rfl ?_
    refine S_X11_thrown wx ?_
    refine xRet_some ?_
    refine x_iload (dT U_Lc51 49 rfl) rfl ?_
    refine x_icmp_eq (tgt := 4405) (dT U_Lc51 50 rfl) (by decide) (by unfold xr; omega) (by unfold xr; omega) (fun c4400 => ?_) (fun c4400 => (by exfalso; omega))
    refine x_iload (dT U_Lc51 53 rfl) rfl ?_
    refine x_if_ne (tgt := 4422) (dT U_Lc51 54 rfl) (by decide) (by unfold xr; omega) (fun c4407 => ?_) (fun c4407 => (by exfalso; omega))
    refine x_goto (tgt := 5554) (dT U_Lc51 64 rfl) (by decide) ?_
    refine x_drop ?_ (M _ _ _ _ _ _ _ _ v (w.out ag (by omega)) wx (ag.get ho (by omega)) (ag.get hod (by omega)))
    repeat (first | exact trivial | refine ⟨rfl, ?_⟩ | refine ⟨trivial, ?_⟩)
  · refine xRet_some ?_
    have wmx := wm.out (h2 := (h2.set 143 (cJ [z9]))) (fun a ha => by rw [hset_fr (by omega)]; exact fc.2 a (by omega))
    refine x_istore (ls' := [some (.ref _), some (.ref _), some (.ref _), some (.ref _), some (.ref _), some (vi _), some (vi _), none, none]) (dT U_Lc51 23 rfl) (by decide) rfl ?_
    refine x_aload_n (dT U_Lc51 24 rfl) rfl ?_
    refine x_aload_n (dT U_Lc51 25 rfl) rfl ?_
    refine x_iload (dT U_Lc51 26 rfl) rfl ?_
    refine x_iconst (dT U_Lc51 27 rfl) ?_
    refine x_iadd (dT U_Lc51 28 rfl) ?_
    refine x_sld (i + 1) hL (dT U_Lc51 29 rfl) (by omega) (by omega) ?_
    refine x_aload_n (dT U_Lc51 30 rfl) rfl ?_
    refine x_iload (dT U_Lc51 31 rfl) rfl ?_
    refine x_iconst (dT U_Lc51 32 rfl) ?_
    refine x_iadd (dT U_Lc51 33 rfl) ?_
    refine x_sld (i + 2) hL (dT U_Lc51 34 rfl) (by omega) (by omega) ?_
    refine x_aload_n (dT U_Lc51 35 rfl) rfl ?_
    refine x_iload (dT U_Lc51 36 rfl) rfl ?_
    refine x_iconst (dT U_Lc51 37 rfl) ?_
    refine x_iadd (dT U_Lc51 38 rfl) ?_
    refine x_sld (i + 3) hL (dT U_Lc51 39 rfl) (by omega) (by omega) ?_
    refine x_aload_n (dT U_Lc51 40 rfl) rfl ?_
    refine x_iload (dT U_Lc51 41 rfl) rfl ?_
    refine x_iconst (dT U_Lc51 42 rfl) ?_
    refine x_iadd (dT U_Lc51 43 rfl) ?_
    refine x_sld (i + 4) hL (dT U_Lc51 44 rfl) (by omega) (by omega) ?_
    refine x_invokevirtual (rc' := rc) (rs' := rs) (rc2 := 0) (rs2 := 0) (As := [_, _, _, _]) (st := _) M_X11_gate K_L_406 (dT U_Lc51 45 rfl) rfl rfl (by decide) rfl rfl wmx.c70 (Nat.le_of_ble_eq_true rfl) (by decide) rfl (Nat.le_of_ble_eq_true rfl) rfl (by decide) (Nat.le_of_ble_eq_true rfl) rfl rfl ?_
    refine S_X11_gate wmx v (xr_s _) (xr_s _) (xr_s _) (xr_s _) (fun m1 _ _ _ _ _ => absurd c1 m1) (fun m1 m2 _ _ _ _ _ => absurd c2 m2) (fun m1 m2 m3 _ _ _ _ _ => absurd c3 m3) (fun m1 m2 m3 h3 r3 s3 ag wx => ?_)
    refine xRet_some ?_
    rw [ez9]
    refine x_istore (ls' := [some (.ref _), some (.ref _), some (.ref _), some (.ref _), some (.ref _), some (vi _), some (vi _), some (vi _), none]) (dT U_Lc51 46 rfl) (by decide) rfl ?_
    refine x_aload_n (dT U_Lc51 47 rfl) rfl ?_
    refine x_invokevirtual (rc' := rc) (rs' := rs) (rc2 := 0) (rs2 := 0) (As := []) (st := _) M_X11_thrown K_L_242 (dT U_Lc51 48 rfl) rfl rfl (by decide) rfl rfl wx.c70 (Nat.le_of_ble_eq_true rfl) (by decide) rfl (Nat.le_of_ble_eq_true rfl) rfl (by decide) (Nat.le_of_ble_eq_true rfl) rfl rfl ?_
    refine S_X11_thrown wx ?_
    refine xRet_some ?_
    refine x_iload (dT U_Lc51 49 rfl) rfl ?_
    refine x_icmp_eq (tgt := 4405) (dT U_Lc51 50 rfl) (by decide) (by unfold xr; omega) (by unfold xr; omega) (fun c4400 => ?_) (fun c4400 => (by exfalso; omega))
    refine x_iload (dT U_Lc51 53 rfl) rfl ?_
    refine x_if_nen (tgt := 4422) (dT U_Lc51 54 rfl) (by decide) (by decide) ?_
    refine x_aload_n (dT U_Lc51 55 rfl) rfl ?_
    refine x_iconst (dT U_Lc51 56 rfl) ?_
    refine x_laload 0 (dT U_Lc51 57 rfl) (ag.get (hset_eq (fc.get ho (by omega))) (by omega)) (Nat.le_of_ble_eq_true rfl) rfl (Nat.le_of_ble_eq_true rfl) (Nat.le_of_ble_eq_true rfl) ?_
    refine x_iload (dT U_Lc51 58 rfl) rfl ?_
    refine x_i2l (dT U_Lc51 59 rfl) hz9 ?_
    refine x_lcmp (dT U_Lc51 60 rfl) (xr_l hz9) (xr_l hz9) ?_
    refine x_if_eqj (tgt := 4422) (dT U_Lc51 61 rfl) (by decide) (xcmp_rf _) ?_
    refine x_goto (tgt := 5554) (dT U_Lc51 64 rfl) (by decide) ?_
    refine x_drop ?_ (M _ _ _ _ _ _ _ _ (IV_gate v c1 c2 c3) ((w2.out ((Ag.rf 143 143 h2).set (by omega)) (by omega)).out ag (by omega)) wx (ag.get (hset_eq (fc.get ho (by omega))) (by omega)) (ag.get (hset_ne (by omega) (fc.get hod (by omega))) (by omega)))
    repeat (first | exact trivial | refine ⟨rfl, ?_⟩ | refine ⟨trivial, ?_⟩)

def B_Lc52 : ByteArray := .mk #[0x2b, 0xb6, 0x01, 0x97, 0x2c, 0xb6, 0x01, 0x9a, 0x9f, 0x04, 0x61, 0x03, 0xac]
theorem W_Lc52 : sameFrom m_L_law.2.1 B_Lc52 4425 := sameFrom_of (by decide +kernel)
def t_Lc52 : List (Nat × Instr × Nat) := [(4425, .aload_n 1, 1), (4426, .invokevirtual 407, 3), (4429, .aload_n 2, 1), (4430, .invokevirtual 410, 3), (4433, .if_icmp .eq 1121, 3), (4436, .iconst 0, 1), (4437, .ireturn, 1)]
set_option maxRecDepth 20000 in
theorem U_Lc52 : okT m_L_law.2.1 t_Lc52 = true := dSt [(0, .aload_n 1, 1), (1, .invokevirtual 407, 3), (4, .aload_n 2, 1), (5, .invokevirtual 410, 3), (8, .if_icmp .eq 1121, 3), (11, .iconst 0, 1), (12, .ireturn, 1)] W_Lc52 (by decide +kernel) (by decide +kernel)
set_option maxRecDepth 20000 in
set_option maxHeartbeats 1000000 in
theorem LC_52 {G : xG} {d rc rs : Nat} {ex : Bool} {h : xH} {Q : xQ} {σ : St} {c0 : Int} {rr : Nat} {ss : Int} {l0 : Int} {d0 : UInt64} {i : Nat} (hL : G.2.2.2.2.2.1 < 2147483648) (hi : i + 10 ≤ G.2.2.2.2.2.1) (w : CW σ h) (wm : MX σ c0 rr ss h) (v : INV σ) (ho : h[143]? = some (cJ [l0])) (hod : h[144]? = some (cD [d0]))
    (M : ∀ (σ9 : St) (h9 : xH) (e9 : Bool) (c9 : Int) (r9 : Nat) (s9 : Int) (l9 : Int) (d9 : UInt64), INV σ9 → CW σ9 h9 → MX σ9 c9 r9 s9 h9 → h9[143]? = some (cJ [l9]) → h9[144]? = some (cD [d9]) → X G m_L_law (d + 10) rc rs e9 5554 [some (.ref 0), some (.ref 3), some (.ref 70), some (.ref 143), some (.ref 144), some (vi (i : Int)), none, none, none] [] h9 Q) : X G m_L_law (d + 10) (rc + 0) (rs + 0) ex 4425 [some (.ref 0), some (.ref 3), some (.ref 70), some (.ref 143), some (.ref 144), some (vi (i : Int)), none, none, none] [] h Q := by
  refine x_aload_n (dT U_Lc52 0 rfl) rfl ?_
  refine x_invokevirtual (rc' := rc) (rs' := rs) (rc2 := 0 + 0) (rs2 := 0 + 0) (As := []) (st := _) M_X10_ungate K_L_407 (dT U_Lc52 1 rfl) rfl rfl (by decide) rfl rfl w.c3 (Nat.le_of_ble_eq_true rfl) (by decide) rfl (Nat.le_of_ble_eq_true rfl) rfl (by decide) (Nat.le_of_ble_eq_true rfl) (by omega) (by omega) ?_
  refine S_X10_ungate w v  (fun h2 fc w2 => ?_)
  · refine xRet_some ?_
    have wmx := wm.out (h2 := h2) (fun a ha => fc.2 a (by omega))
    refine x_nf (fun z9 hz9 ez9 => ?_)
    refine x_aload_n (dT U_Lc52 2 rfl) rfl ?_
    refine x_invokevirtual (rc' := rc) (rs' := rs) (rc2 := 0) (rs2 := 0) (As := []) (st := _) M_X11_ungate K_L_410 (dT U_Lc52 3 rfl) rfl rfl (by decide) rfl rfl wmx.c70 (Nat.le_of_ble_eq_true rfl) (by decide) rfl (Nat.le_of_ble_eq_true rfl) rfl (by decide) (Nat.le_of_ble_eq_true rfl) rfl rfl ?_
    refine S_X11_ungate wmx v  (fun  h3 r3 s3 ag wx => ?_)
    refine xRet_some ?_
    rw [ez9]
    refine x_icmp_eq (tgt := 5554) (dT U_Lc52 4 rfl) (by decide) hz9 hz9 (fun _ => ?_) (fun z => absurd rfl z)
    refine x_drop ?_ (M _ _ _ _ _ _ _ _ v.ungate (w2.out ag (by omega)) wx (ag.get (fc.get ho (by omega)) (by omega)) (ag.get (fc.get hod (by omega)) (by omega)))
    repeat (first | exact trivial | refine ⟨rfl, ?_⟩ | refine ⟨trivial, ?_⟩)

def B_Lc53 : ByteArray := .mk #[0x2b, 0x2a, 0x15, 0x05, 0x04, 0x60, 0x2e, 0x2d, 0xb8, 0x01, 0x9b, 0x36, 0x06, 0x2c, 0x2a, 0x15, 0x05, 0x04, 0x60, 0x2e, 0xb6, 0x01, 0x9d, 0x36, 0x07, 0x2c, 0xb6, 0x00, 0xf2, 0x15, 0x06, 0x9f, 0x00, 0x05, 0x03, 0xac, 0x15, 0x06, 0x9a, 0x00, 0x0f, 0x2d, 0x03, 0x2f, 0x15, 0x07, 0x85, 0x94, 0x99, 0x00, 0x05, 0x03, 0xac, 0xa7, 0x04, 0x27]
theorem W_Lc53 : sameFrom m_L_law.2.1 B_Lc53 4438 := sameFrom_of (by decide +kernel)
def t_Lc53 : List (Nat × Instr × Nat) := [(4438, .aload_n 1, 1), (4439, .aload_n 0, 1), (4440, .iload 5, 2), (4442, .iconst 1, 1), (4443, .iadd, 1), (4444, .iaload, 1), (4445, .aload_n 3, 1), (4446, .invokestatic 411, 3), (4449, .istore 6, 2), (4451, .aload_n 2, 1), (4452, .aload_n 0, 1), (4453, .iload 5, 2), (4455, .iconst 1, 1), (4456, .iadd, 1), (4457, .iaload, 1), (4458, .invokevirtual 413, 3), (4461, .istore 7, 2), (4463, .aload_n 2, 1), (4464, .invokevirtual 242, 3), (4467, .iload 6, 2), (4469, .if_icmp .eq 5, 3), (4472, .iconst 0, 1), (4473, .ireturn, 1), (4474, .iload 6, 2), (4476, .ifCond .ne 15, 3), (4479, .aload_n 3, 1), (4480, .iconst 0, 1), (4481, .laload, 1), (4482, .iload 7, 2), (4484, .i2l, 1), (4485, .lcmp, 1), (4486, .ifCond .eq 5, 3), (4489, .iconst 0, 1), (4490, .ireturn, 1), (4491, .goto 1063, 3)]
set_option maxRecDepth 20000 in
theorem U_Lc53 : okT m_L_law.2.1 t_Lc53 = true := dSt [(0, .aload_n 1, 1), (1, .aload_n 0, 1), (2, .iload 5, 2), (4, .iconst 1, 1), (5, .iadd, 1), (6, .iaload, 1), (7, .aload_n 3, 1), (8, .invokestatic 411, 3), (11, .istore 6, 2), (13, .aload_n 2, 1), (14, .aload_n 0, 1), (15, .iload 5, 2), (17, .iconst 1, 1), (18, .iadd, 1), (19, .iaload, 1), (20, .invokevirtual 413, 3), (23, .istore 7, 2), (25, .aload_n 2, 1), (26, .invokevirtual 242, 3), (29, .iload 6, 2), (31, .if_icmp .eq 5, 3), (34, .iconst 0, 1), (35, .ireturn, 1), (36, .iload 6, 2), (38, .ifCond .ne 15, 3), (41, .aload_n 3, 1), (42, .iconst 0, 1), (43, .laload, 1), (44, .iload 7, 2), (46, .i2l, 1), (47, .lcmp, 1), (48, .ifCond .eq 5, 3), (51, .iconst 0, 1), (52, .ireturn, 1), (53, .goto 1063, 3)] W_Lc53 (by decide +kernel) (by decide +kernel)
set_option maxRecDepth 20000 in
set_option maxHeartbeats 1000000 in
theorem LC_53 {G : xG} {d rc rs : Nat} {ex : Bool} {h : xH} {Q : xQ} {σ : St} {c0 : Int} {rr : Nat} {ss : Int} {l0 : Int} {d0 : UInt64} {i : Nat} (hL : G.2.2.2.2.2.1 < 2147483648) (hi : i + 10 ≤ G.2.2.2.2.2.1) (w : CW σ h) (wm : MX σ c0 rr ss h) (v : INV σ) (ho : h[143]? = some (cJ [l0])) (hod : h[144]? = some (cD [d0]))
    (M : ∀ (σ9 : St) (h9 : xH) (e9 : Bool) (c9 : Int) (r9 : Nat) (s9 : Int) (l9 : Int) (d9 : UInt64), INV σ9 → CW σ9 h9 → MX σ9 c9 r9 s9 h9 → h9[143]? = some (cJ [l9]) → h9[144]? = some (cD [d9]) → X G m_L_law (d + 10) rc rs e9 5554 [some (.ref 0), some (.ref 3), some (.ref 70), some (.ref 143), some (.ref 144), some (vi (i : Int)), none, none, none] [] h9 Q) : X G m_L_law (d + 10) (rc + 1) (rs + 6) ex 4438 [some (.ref 0), some (.ref 3), some (.ref 70), some (.ref 143), some (.ref 144), some (vi (i : Int)), none, none, none] [] h Q := by
  refine x_aload_n (dT U_Lc53 0 rfl) rfl ?_
  refine x_aload_n (dT U_Lc53 1 rfl) rfl ?_
  refine x_iload (dT U_Lc53 2 rfl) rfl ?_
  refine x_iconst (dT U_Lc53 3 rfl) ?_
  refine x_iadd (dT U_Lc53 4 rfl) ?_
  refine x_sld (i + 1) hL (dT U_Lc53 5 rfl) (by omega) (by omega) ?_
  refine x_aload_n (dT U_Lc53 6 rfl) rfl ?_
  refine x_invokestaticT (rc' := rc) (rs' := rs) (rc2 := 0 + 1) (rs2 := 0 + 6) (As := [_, _, _]) (st := _) M_L_fails K_L_411 (dT U_Lc53 7 rfl) rfl (by decide) rfl rfl (Nat.le_of_ble_eq_true rfl) rfl (by decide) (Nat.le_of_ble_eq_true rfl) (by omega) (by omega) ?_
  refine S_L_fails w v (xr_s _) ho (fun c1 => ?_) (fun c1 h2 fc w2 z9 hz9 ez9 => ?_)
  · refine xRet_some ?_
    refine x_istore (ls' := [some (.ref _), some (.ref _), some (.ref _), some (.ref _), some (.ref _), some (vi _), some (vi _), none, none]) (dT U_Lc53 8 rfl) (by decide) rfl ?_
    refine x_aload_n (dT U_Lc53 9 rfl) rfl ?_
    refine x_aload_n (dT U_Lc53 10 rfl) rfl ?_
    refine x_iload (dT U_Lc53 11 rfl) rfl ?_
    refine x_iconst (dT U_Lc53 12 rfl) ?_
    refine x_iadd (dT U_Lc53 13 rfl) ?_
    refine x_sld (i + 1) hL (dT U_Lc53 14 rfl) (by omega) (by omega) ?_
    refine x_invokevirtual (rc' := rc) (rs' := rs) (rc2 := 0) (rs2 := 0) (As := [_]) (st := _) M_X11_fails K_L_413 (dT U_Lc53 15 rfl) rfl rfl (by decide) rfl rfl wm.c70 (Nat.le_of_ble_eq_true rfl) (by decide) rfl (Nat.le_of_ble_eq_true rfl) rfl (by decide) (Nat.le_of_ble_eq_true rfl) rfl rfl ?_
    refine S_X11_fails wm v (xr_s _) (fun m1 h3 z ag wx xz => ?_) (fun m1 _ _ _ _ _ => absurd m1 c1)
    refine xRet_some ?_
    refine x_istore (ls' := [some (.ref _), some (.ref _), some (.ref _), some (.ref _), some (.ref _), some (vi _), some (vi _), some (vi _), none]) (dT U_Lc53 16 rfl) (by decide) rfl ?_
    refine x_aload_n (dT U_Lc53 17 rfl) rfl ?_
    refine x_invokevirtual (rc' := rc) (rs' := rs) (rc2 := 0) (rs2 := 0) (As := []) (st := _) M_X11_thrown K_L_242 (dT U_Lc53 18 rfl) rfl rfl (by decide) rfl rfl wx.c70 (Nat.le_of_ble_eq_true rfl) (by decide) rfl (Nat.le_of_ble_eq_true rfl) rfl (by decide) (Nat.le_of_ble_eq_true rfl) rfl rfl ?_
    refine S_X11_thrown wx ?_
    refine xRet_some ?_
    refine x_iload (dT U_Lc53 19 rfl) rfl ?_
    refine x_icmp_eq (tgt := 4474) (dT U_Lc53 20 rfl) (by decide) (by unfold xr; omega) (by unfold xr; omega) (fun c4469 => ?_) (fun c4469 => (by exfalso; omega))
    refine x_iload (dT U_Lc53 23 rfl) rfl ?_
    refine x_if_nej (tgt := 4491) (dT U_Lc53 24 rfl) (by decide) (by decide) ?_
    refine x_goto (tgt := 5554) (dT U_Lc53 34 rfl) (by decide) ?_
    refine x_drop ?_ (M _ _ _ _ _ _ _ _ v (w.out ag (by omega)) wx (ag.get ho (by omega)) (ag.get hod (by omega)))
    repeat (first | exact trivial | refine ⟨rfl, ?_⟩ | refine ⟨trivial, ?_⟩)
  · refine xRet_some ?_
    have wmx := wm.out (h2 := (h2.set 143 (cJ [z9]))) (fun a ha => by rw [hset_fr (by omega)]; exact fc.2 a (by omega))
    refine x_istore (ls' := [some (.ref _), some (.ref _), some (.ref _), some (.ref _), some (.ref _), some (vi _), some (vi _), none, none]) (dT U_Lc53 8 rfl) (by decide) rfl ?_
    refine x_aload_n (dT U_Lc53 9 rfl) rfl ?_
    refine x_aload_n (dT U_Lc53 10 rfl) rfl ?_
    refine x_iload (dT U_Lc53 11 rfl) rfl ?_
    refine x_iconst (dT U_Lc53 12 rfl) ?_
    refine x_iadd (dT U_Lc53 13 rfl) ?_
    refine x_sld (i + 1) hL (dT U_Lc53 14 rfl) (by omega) (by omega) ?_
    refine x_invokevirtual (rc' := rc) (rs' := rs) (rc2 := 0) (rs2 := 0) (As := [_]) (st := _) M_X11_fails K_L_413 (dT U_Lc53 15 rfl) rfl rfl (by decide) rfl rfl wmx.c70 (Nat.le_of_ble_eq_true rfl) (by decide) rfl (Nat.le_of_ble_eq_true rfl) rfl (by decide) (Nat.le_of_ble_eq_true rfl) rfl rfl ?_
    refine S_X11_fails wmx v (xr_s _) (fun m1 _ _ _ _ _ => absurd c1 m1) (fun m1 h3 r3 s3 ag wx => ?_)
    refine xRet_some ?_
    rw [ez9]
    refine x_istore (ls' := [some (.ref _), some (.ref _), some (.ref _), some (.ref _), some (.ref _), some (vi _), some (vi _), some (vi _), none]) (dT U_Lc53 16 rfl) (by decide) rfl ?_
    refine x_aload_n (dT U_Lc53 17 rfl) rfl ?_
    refine x_invokevirtual (rc' := rc) (rs' := rs) (rc2 := 0) (rs2 := 0) (As := []) (st := _) M_X11_thrown K_L_242 (dT U_Lc53 18 rfl) rfl rfl (by decide) rfl rfl wx.c70 (Nat.le_of_ble_eq_true rfl) (by decide) rfl (Nat.le_of_ble_eq_true rfl) rfl (by decide) (Nat.le_of_ble_eq_true rfl) rfl rfl ?_
    refine S_X11_thrown wx ?_
    refine xRet_some ?_
    refine x_iload (dT U_Lc53 19 rfl) rfl ?_
    refine x_icmp_eq (tgt := 4474) (dT U_Lc53 20 rfl) (by decide) (by unfold xr; omega) (by unfold xr; omega) (fun c4469 => ?_) (fun c4469 => (by exfalso; omega))
    refine x_iload (dT U_Lc53 23 rfl) rfl ?_
    refine x_if_nen (tgt := 4491) (dT U_Lc53 24 rfl) (by decide) (by decide) ?_
    refine x_aload_n (dT U_Lc53 25 rfl) rfl ?_
    refine x_iconst (dT U_Lc53 26 rfl) ?_
    refine x_laload 0 (dT U_Lc53 27 rfl) (ag.get (hset_eq (fc.get ho (by omega))) (by omega)) (Nat.le_of_ble_eq_true rfl) rfl (Nat.le_of_ble_eq_true rfl) (Nat.le_of_ble_eq_true rfl) ?_
    refine x_iload (dT U_Lc53 28 rfl) rfl ?_
    refine x_i2l (dT U_Lc53 29 rfl) hz9 ?_
    refine x_lcmp (dT U_Lc53 30 rfl) (xr_l hz9) (xr_l hz9) ?_
    refine x_if_eqj (tgt := 4491) (dT U_Lc53 31 rfl) (by decide) (xcmp_rf _) ?_
    refine x_goto (tgt := 5554) (dT U_Lc53 34 rfl) (by decide) ?_
    refine x_drop ?_ (M _ _ _ _ _ _ _ _ v ((w2.out ((Ag.rf 143 143 h2).set (by omega)) (by omega)).out ag (by omega)) wx (ag.get (hset_eq (fc.get ho (by omega))) (by omega)) (ag.get (hset_ne (by omega) (fc.get hod (by omega))) (by omega)))
    repeat (first | exact trivial | refine ⟨rfl, ?_⟩ | refine ⟨trivial, ?_⟩)

def B_Lc54 : ByteArray := .mk #[0x2b, 0x2a, 0x15, 0x05, 0x04, 0x60, 0x2e, 0x2a, 0x15, 0x05, 0x05, 0x60, 0x2e, 0x2d, 0xb8, 0x01, 0x9e, 0x36, 0x06, 0x2c, 0x2a, 0x15, 0x05, 0x04, 0x60, 0x2e, 0x2a, 0x15, 0x05, 0x05, 0x60, 0x2e, 0xb6, 0x01, 0xa0, 0x36, 0x07, 0x2c, 0xb6, 0x00, 0xf2, 0x15, 0x06, 0x9f, 0x00, 0x05, 0x03, 0xac, 0x15, 0x06, 0x9a, 0x00, 0x0f, 0x2d, 0x03, 0x2f, 0x15, 0x07, 0x85, 0x94, 0x99, 0x00, 0x05, 0x03, 0xac, 0xa7, 0x03, 0xe3]
theorem W_Lc54 : sameFrom m_L_law.2.1 B_Lc54 4494 := sameFrom_of (by decide +kernel)
def t_Lc54 : List (Nat × Instr × Nat) := [(4494, .aload_n 1, 1), (4495, .aload_n 0, 1), (4496, .iload 5, 2), (4498, .iconst 1, 1), (4499, .iadd, 1), (4500, .iaload, 1), (4501, .aload_n 0, 1), (4502, .iload 5, 2), (4504, .iconst 2, 1), (4505, .iadd, 1), (4506, .iaload, 1), (4507, .aload_n 3, 1), (4508, .invokestatic 414, 3), (4511, .istore 6, 2), (4513, .aload_n 2, 1), (4514, .aload_n 0, 1), (4515, .iload 5, 2), (4517, .iconst 1, 1), (4518, .iadd, 1), (4519, .iaload, 1), (4520, .aload_n 0, 1), (4521, .iload 5, 2), (4523, .iconst 2, 1), (4524, .iadd, 1), (4525, .iaload, 1), (4526, .invokevirtual 416, 3), (4529, .istore 7, 2), (4531, .aload_n 2, 1), (4532, .invokevirtual 242, 3), (4535, .iload 6, 2), (4537, .if_icmp .eq 5, 3), (4540, .iconst 0, 1), (4541, .ireturn, 1), (4542, .iload 6, 2), (4544, .ifCond .ne 15, 3), (4547, .aload_n 3, 1), (4548, .iconst 0, 1), (4549, .laload, 1), (4550, .iload 7, 2), (4552, .i2l, 1), (4553, .lcmp, 1), (4554, .ifCond .eq 5, 3), (4557, .iconst 0, 1), (4558, .ireturn, 1), (4559, .goto 995, 3)]
set_option maxRecDepth 20000 in
theorem U_Lc54 : okT m_L_law.2.1 t_Lc54 = true := dSt [(0, .aload_n 1, 1), (1, .aload_n 0, 1), (2, .iload 5, 2), (4, .iconst 1, 1), (5, .iadd, 1), (6, .iaload, 1), (7, .aload_n 0, 1), (8, .iload 5, 2), (10, .iconst 2, 1), (11, .iadd, 1), (12, .iaload, 1), (13, .aload_n 3, 1), (14, .invokestatic 414, 3), (17, .istore 6, 2), (19, .aload_n 2, 1), (20, .aload_n 0, 1), (21, .iload 5, 2), (23, .iconst 1, 1), (24, .iadd, 1), (25, .iaload, 1), (26, .aload_n 0, 1), (27, .iload 5, 2), (29, .iconst 2, 1), (30, .iadd, 1), (31, .iaload, 1), (32, .invokevirtual 416, 3), (35, .istore 7, 2), (37, .aload_n 2, 1), (38, .invokevirtual 242, 3), (41, .iload 6, 2), (43, .if_icmp .eq 5, 3), (46, .iconst 0, 1), (47, .ireturn, 1), (48, .iload 6, 2), (50, .ifCond .ne 15, 3), (53, .aload_n 3, 1), (54, .iconst 0, 1), (55, .laload, 1), (56, .iload 7, 2), (58, .i2l, 1), (59, .lcmp, 1), (60, .ifCond .eq 5, 3), (63, .iconst 0, 1), (64, .ireturn, 1), (65, .goto 995, 3)] W_Lc54 (by decide +kernel) (by decide +kernel)
set_option maxRecDepth 20000 in
set_option maxHeartbeats 1000000 in
theorem LC_54 {G : xG} {d rc rs : Nat} {ex : Bool} {h : xH} {Q : xQ} {σ : St} {c0 : Int} {rr : Nat} {ss : Int} {l0 : Int} {d0 : UInt64} {i : Nat} (hL : G.2.2.2.2.2.1 < 2147483648) (hi : i + 10 ≤ G.2.2.2.2.2.1) (w : CW σ h) (wm : MX σ c0 rr ss h) (v : INV σ) (ho : h[143]? = some (cJ [l0])) (hod : h[144]? = some (cD [d0]))
    (M : ∀ (σ9 : St) (h9 : xH) (e9 : Bool) (c9 : Int) (r9 : Nat) (s9 : Int) (l9 : Int) (d9 : UInt64), INV σ9 → CW σ9 h9 → MX σ9 c9 r9 s9 h9 → h9[143]? = some (cJ [l9]) → h9[144]? = some (cD [d9]) → X G m_L_law (d + 10) rc rs e9 5554 [some (.ref 0), some (.ref 3), some (.ref 70), some (.ref 143), some (.ref 144), some (vi (i : Int)), none, none, none] [] h9 Q) : X G m_L_law (d + 10) (rc + 2) (rs + 12) ex 4494 [some (.ref 0), some (.ref 3), some (.ref 70), some (.ref 143), some (.ref 144), some (vi (i : Int)), none, none, none] [] h Q := by
  refine x_aload_n (dT U_Lc54 0 rfl) rfl ?_
  refine x_aload_n (dT U_Lc54 1 rfl) rfl ?_
  refine x_iload (dT U_Lc54 2 rfl) rfl ?_
  refine x_iconst (dT U_Lc54 3 rfl) ?_
  refine x_iadd (dT U_Lc54 4 rfl) ?_
  refine x_sld (i + 1) hL (dT U_Lc54 5 rfl) (by omega) (by omega) ?_
  refine x_aload_n (dT U_Lc54 6 rfl) rfl ?_
  refine x_iload (dT U_Lc54 7 rfl) rfl ?_
  refine x_iconst (dT U_Lc54 8 rfl) ?_
  refine x_iadd (dT U_Lc54 9 rfl) ?_
  refine x_sld (i + 2) hL (dT U_Lc54 10 rfl) (by omega) (by omega) ?_
  refine x_aload_n (dT U_Lc54 11 rfl) rfl ?_
  refine x_invokestaticT (rc' := rc) (rs' := rs) (rc2 := 0 + 2) (rs2 := 0 + 12) (As := [_, _, _, _]) (st := _) M_L_faults K_L_414 (dT U_Lc54 12 rfl) rfl (by decide) rfl rfl (Nat.le_of_ble_eq_true rfl) rfl (by decide) (Nat.le_of_ble_eq_true rfl) (by omega) (by omega) ?_
  refine S_L_faults w v (xr_s _) (xr_s _) ho (fun c1 => ?_) (fun c1 h2 fc w2 z9 hz9 ez9 => ?_)
  · refine xRet_some ?_
    refine x_istore (ls' := [some (.ref _), some (.ref _), some (.ref _), some (.ref _), some (.ref _), some (vi _), some (vi _), none, none]) (dT U_Lc54 13 rfl) (by decide) rfl ?_
    refine x_aload_n (dT U_Lc54 14 rfl) rfl ?_
    refine x_aload_n (dT U_Lc54 15 rfl) rfl ?_
    refine x_iload (dT U_Lc54 16 rfl) rfl ?_
    refine x_iconst (dT U_Lc54 17 rfl) ?_
    refine x_iadd (dT U_Lc54 18 rfl) ?_
    refine x_sld (i + 1) hL (dT U_Lc54 19 rfl) (by omega) (by omega) ?_
    refine x_aload_n (dT U_Lc54 20 rfl) rfl ?_
    refine x_iload (dT U_Lc54 21 rfl) rfl ?_
    refine x_iconst (dT U_Lc54 22 rfl) ?_
    refine x_iadd (dT U_Lc54 23 rfl) ?_
    refine x_sld (i + 2) hL (dT U_Lc54 24 rfl) (by omega) (by omega) ?_
    refine x_invokevirtual (rc' := rc) (rs' := rs) (rc2 := 0) (rs2 := 0) (As := [_, _]) (st := _) M_X11_faults K_L_416 (dT U_Lc54 25 rfl) rfl rfl (by decide) rfl rfl wm.c70 (Nat.le_of_ble_eq_true rfl) (by decide) rfl (Nat.le_of_ble_eq_true rfl) rfl (by decide) (Nat.le_of_ble_eq_true rfl) rfl rfl ?_
    refine S_X11_faults wm v (xr_s _) (xr_s _) (fun m1 h3 z ag wx xz => ?_) (fun m1 _ _ _ _ _ => absurd m1 c1)
    refine xRet_some ?_
    refine x_istore (ls' := [some (.ref _), some (.ref _), some (.ref _), some (.ref _), some (.ref _), some (vi _), some (vi _), some (vi _), none]) (dT U_Lc54 26 rfl) (by decide) rfl ?_
    refine x_aload_n (dT U_Lc54 27 rfl) rfl ?_
    refine x_invokevirtual (rc' := rc) (rs' := rs) (rc2 := 0) (rs2 := 0) (As := []) (st := _) M_X11_thrown K_L_242 (dT U_Lc54 28 rfl) rfl rfl (by decide) rfl rfl wx.c70 (Nat.le_of_ble_eq_true rfl) (by decide) rfl (Nat.le_of_ble_eq_true rfl) rfl (by decide) (Nat.le_of_ble_eq_true rfl) rfl rfl ?_
    refine S_X11_thrown wx ?_
    refine xRet_some ?_
    refine x_iload (dT U_Lc54 29 rfl) rfl ?_
    refine x_icmp_eq (tgt := 4542) (dT U_Lc54 30 rfl) (by decide) (by unfold xr; omega) (by unfold xr; omega) (fun c4537 => ?_) (fun c4537 => (by exfalso; omega))
    refine x_iload (dT U_Lc54 33 rfl) rfl ?_
    refine x_if_nej (tgt := 4559) (dT U_Lc54 34 rfl) (by decide) (by decide) ?_
    refine x_goto (tgt := 5554) (dT U_Lc54 44 rfl) (by decide) ?_
    refine x_drop ?_ (M _ _ _ _ _ _ _ _ v (w.out ag (by omega)) wx (ag.get ho (by omega)) (ag.get hod (by omega)))
    repeat (first | exact trivial | refine ⟨rfl, ?_⟩ | refine ⟨trivial, ?_⟩)
  · refine xRet_some ?_
    have wmx := wm.out (h2 := (h2.set 143 (cJ [z9]))) (fun a ha => by rw [hset_fr (by omega)]; exact fc.2 a (by omega))
    refine x_istore (ls' := [some (.ref _), some (.ref _), some (.ref _), some (.ref _), some (.ref _), some (vi _), some (vi _), none, none]) (dT U_Lc54 13 rfl) (by decide) rfl ?_
    refine x_aload_n (dT U_Lc54 14 rfl) rfl ?_
    refine x_aload_n (dT U_Lc54 15 rfl) rfl ?_
    refine x_iload (dT U_Lc54 16 rfl) rfl ?_
    refine x_iconst (dT U_Lc54 17 rfl) ?_
    refine x_iadd (dT U_Lc54 18 rfl) ?_
    refine x_sld (i + 1) hL (dT U_Lc54 19 rfl) (by omega) (by omega) ?_
    refine x_aload_n (dT U_Lc54 20 rfl) rfl ?_
    refine x_iload (dT U_Lc54 21 rfl) rfl ?_
    refine x_iconst (dT U_Lc54 22 rfl) ?_
    refine x_iadd (dT U_Lc54 23 rfl) ?_
    refine x_sld (i + 2) hL (dT U_Lc54 24 rfl) (by omega) (by omega) ?_
    refine x_invokevirtual (rc' := rc) (rs' := rs) (rc2 := 0) (rs2 := 0) (As := [_, _]) (st := _) M_X11_faults K_L_416 (dT U_Lc54 25 rfl) rfl rfl (by decide) rfl rfl wmx.c70 (Nat.le_of_ble_eq_true rfl) (by decide) rfl (Nat.le_of_ble_eq_true rfl) rfl (by decide) (Nat.le_of_ble_eq_true rfl) rfl rfl ?_
    refine S_X11_faults wmx v (xr_s _) (xr_s _) (fun m1 _ _ _ _ _ => absurd c1 m1) (fun m1 h3 r3 s3 ag wx => ?_)
    refine xRet_some ?_
    rw [ez9]
    refine x_istore (ls' := [some (.ref _), some (.ref _), some (.ref _), some (.ref _), some (.ref _), some (vi _), some (vi _), some (vi _), none]) (dT U_Lc54 26 rfl) (by decide) rfl ?_
    refine x_aload_n (dT U_Lc54 27 rfl) rfl ?_
    refine x_invokevirtual (rc' := rc) (rs' := rs) (rc2 := 0) (rs2 := 0) (As := []) (st := _) M_X11_thrown K_L_242 (dT U_Lc54 28 rfl) rfl rfl (by decide) rfl rfl wx.c70 (Nat.le_of_ble_eq_true rfl) (by decide) rfl (Nat.le_of_ble_eq_true rfl) rfl (by decide) (Nat.le_of_ble_eq_true rfl) rfl rfl ?_
    refine S_X11_thrown wx ?_
    refine xRet_some ?_
    refine x_iload (dT U_Lc54 29 rfl) rfl ?_
    refine x_icmp_eq (tgt := 4542) (dT U_Lc54 30 rfl) (by decide) (by unfold xr; omega) (by unfold xr; omega) (fun c4537 => ?_) (fun c4537 => (by exfalso; omega))
    refine x_iload (dT U_Lc54 33 rfl) rfl ?_
    refine x_if_nen (tgt := 4559) (dT U_Lc54 34 rfl) (by decide) (by decide) ?_
    refine x_aload_n (dT U_Lc54 35 rfl) rfl ?_
    refine x_iconst (dT U_Lc54 36 rfl) ?_
    refine x_laload 0 (dT U_Lc54 37 rfl) (ag.get (hset_eq (fc.get ho (by omega))) (by omega)) (Nat.le_of_ble_eq_true rfl) rfl (Nat.le_of_ble_eq_true rfl) (Nat.le_of_ble_eq_true rfl) ?_
    refine x_iload (dT U_Lc54 38 rfl) rfl ?_
    refine x_i2l (dT U_Lc54 39 rfl) hz9 ?_
    refine x_lcmp (dT U_Lc54 40 rfl) (xr_l hz9) (xr_l hz9) ?_
    refine x_if_eqj (tgt := 4559) (dT U_Lc54 41 rfl) (by decide) (xcmp_rf _) ?_
    refine x_goto (tgt := 5554) (dT U_Lc54 44 rfl) (by decide) ?_
    refine x_drop ?_ (M _ _ _ _ _ _ _ _ (IV_faults v c1) ((w2.out ((Ag.rf 143 143 h2).set (by omega)) (by omega)).out ag (by omega)) wx (ag.get (hset_eq (fc.get ho (by omega))) (by omega)) (ag.get (hset_ne (by omega) (fc.get hod (by omega))) (by omega)))
    repeat (first | exact trivial | refine ⟨rfl, ?_⟩ | refine ⟨trivial, ?_⟩)

def B_Lc55 : ByteArray := .mk #[0x2b, 0x2a, 0x15, 0x05, 0x04, 0x60, 0x2e, 0x2d, 0xb8, 0x01, 0xa1, 0x36, 0x06, 0x2c, 0x2a, 0x15, 0x05, 0x04, 0x60, 0x2e, 0xb6, 0x01, 0xa3, 0x36, 0x07, 0x2c, 0xb6, 0x00, 0xf2, 0x15, 0x06, 0x9f, 0x00, 0x05, 0x03, 0xac, 0x15, 0x06, 0x9a, 0x00, 0x0f, 0x2d, 0x03, 0x2f, 0x15, 0x07, 0x85, 0x94, 0x99, 0x00, 0x05, 0x03, 0xac, 0xa7, 0x03, 0xab]
theorem W_Lc55 : sameFrom m_L_law.2.1 B_Lc55 4562 := sameFrom_of (by decide +kernel)
def t_Lc55 : List (Nat × Instr × Nat) := [(4562, .aload_n 1, 1), (4563, .aload_n 0, 1), (4564, .iload 5, 2), (4566, .iconst 1, 1), (4567, .iadd, 1), (4568, .iaload, 1), (4569, .aload_n 3, 1), (4570, .invokestatic 417, 3), (4573, .istore 6, 2), (4575, .aload_n 2, 1), (4576, .aload_n 0, 1), (4577, .iload 5, 2), (4579, .iconst 1, 1), (4580, .iadd, 1), (4581, .iaload, 1), (4582, .invokevirtual 419, 3), (4585, .istore 7, 2), (4587, .aload_n 2, 1), (4588, .invokevirtual 242, 3), (4591, .iload 6, 2), (4593, .if_icmp .eq 5, 3), (4596, .iconst 0, 1), (4597, .ireturn, 1), (4598, .iload 6, 2), (4600, .ifCond .ne 15, 3), (4603, .aload_n 3, 1), (4604, .iconst 0, 1), (4605, .laload, 1), (4606, .iload 7, 2), (4608, .i2l, 1), (4609, .lcmp, 1), (4610, .ifCond .eq 5, 3), (4613, .iconst 0, 1), (4614, .ireturn, 1), (4615, .goto 939, 3)]
set_option maxRecDepth 20000 in
theorem U_Lc55 : okT m_L_law.2.1 t_Lc55 = true := dSt [(0, .aload_n 1, 1), (1, .aload_n 0, 1), (2, .iload 5, 2), (4, .iconst 1, 1), (5, .iadd, 1), (6, .iaload, 1), (7, .aload_n 3, 1), (8, .invokestatic 417, 3), (11, .istore 6, 2), (13, .aload_n 2, 1), (14, .aload_n 0, 1), (15, .iload 5, 2), (17, .iconst 1, 1), (18, .iadd, 1), (19, .iaload, 1), (20, .invokevirtual 419, 3), (23, .istore 7, 2), (25, .aload_n 2, 1), (26, .invokevirtual 242, 3), (29, .iload 6, 2), (31, .if_icmp .eq 5, 3), (34, .iconst 0, 1), (35, .ireturn, 1), (36, .iload 6, 2), (38, .ifCond .ne 15, 3), (41, .aload_n 3, 1), (42, .iconst 0, 1), (43, .laload, 1), (44, .iload 7, 2), (46, .i2l, 1), (47, .lcmp, 1), (48, .ifCond .eq 5, 3), (51, .iconst 0, 1), (52, .ireturn, 1), (53, .goto 939, 3)] W_Lc55 (by decide +kernel) (by decide +kernel)
set_option maxRecDepth 20000 in
set_option maxHeartbeats 1000000 in
theorem LC_55 {G : xG} {d rc rs : Nat} {ex : Bool} {h : xH} {Q : xQ} {σ : St} {c0 : Int} {rr : Nat} {ss : Int} {l0 : Int} {d0 : UInt64} {i : Nat} (hL : G.2.2.2.2.2.1 < 2147483648) (hi : i + 10 ≤ G.2.2.2.2.2.1) (w : CW σ h) (wm : MX σ c0 rr ss h) (v : INV σ) (ho : h[143]? = some (cJ [l0])) (hod : h[144]? = some (cD [d0]))
    (M : ∀ (σ9 : St) (h9 : xH) (e9 : Bool) (c9 : Int) (r9 : Nat) (s9 : Int) (l9 : Int) (d9 : UInt64), INV σ9 → CW σ9 h9 → MX σ9 c9 r9 s9 h9 → h9[143]? = some (cJ [l9]) → h9[144]? = some (cD [d9]) → X G m_L_law (d + 10) rc rs e9 5554 [some (.ref 0), some (.ref 3), some (.ref 70), some (.ref 143), some (.ref 144), some (vi (i : Int)), none, none, none] [] h9 Q) : X G m_L_law (d + 10) (rc + 1) (rs + 6) ex 4562 [some (.ref 0), some (.ref 3), some (.ref 70), some (.ref 143), some (.ref 144), some (vi (i : Int)), none, none, none] [] h Q := by
  refine x_aload_n (dT U_Lc55 0 rfl) rfl ?_
  refine x_aload_n (dT U_Lc55 1 rfl) rfl ?_
  refine x_iload (dT U_Lc55 2 rfl) rfl ?_
  refine x_iconst (dT U_Lc55 3 rfl) ?_
  refine x_iadd (dT U_Lc55 4 rfl) ?_
  refine x_sld (i + 1) hL (dT U_Lc55 5 rfl) (by omega) (by omega) ?_
  refine x_aload_n (dT U_Lc55 6 rfl) rfl ?_
  refine x_invokestaticT (rc' := rc) (rs' := rs) (rc2 := 0 + 1) (rs2 := 0 + 6) (As := [_, _, _]) (st := _) M_L_spots K_L_417 (dT U_Lc55 7 rfl) rfl (by decide) rfl rfl (Nat.le_of_ble_eq_true rfl) rfl (by decide) (Nat.le_of_ble_eq_true rfl) (by omega) (by omega) ?_
  refine S_L_spots w v (xr_s _) ho (fun c1 => ?_) (fun c1 h2 fc w2 z9 hz9 ez9 => ?_)
  · refine xRet_some ?_
    refine x_istore (ls' := [some (.ref _), some (.ref _), some (.ref _), some (.ref _), some (.ref _), some (vi _), some (vi _), none, none]) (dT U_Lc55 8 rfl) (by decide) rfl ?_
    refine x_aload_n (dT U_Lc55 9 rfl) rfl ?_
    refine x_aload_n (dT U_Lc55 10 rfl) rfl ?_
    refine x_iload (dT U_Lc55 11 rfl) rfl ?_
    refine x_iconst (dT U_Lc55 12 rfl) ?_
    refine x_iadd (dT U_Lc55 13 rfl) ?_
    refine x_sld (i + 1) hL (dT U_Lc55 14 rfl) (by omega) (by omega) ?_
    refine x_invokevirtual (rc' := rc) (rs' := rs) (rc2 := 0) (rs2 := 0) (As := [_]) (st := _) M_X11_spots K_L_419 (dT U_Lc55 15 rfl) rfl rfl (by decide) rfl rfl wm.c70 (Nat.le_of_ble_eq_true rfl) (by decide) rfl (Nat.le_of_ble_eq_true rfl) rfl (by decide) (Nat.le_of_ble_eq_true rfl) rfl rfl ?_
    refine S_X11_spots wm v (xr_s _) (fun m1 h3 z ag wx xz => ?_) (fun m1 _ _ _ _ _ => absurd m1 c1)
    refine xRet_some ?_
    refine x_istore (ls' := [some (.ref _), some (.ref _), some (.ref _), some (.ref _), some (.ref _), some (vi _), some (vi _), some (vi _), none]) (dT U_Lc55 16 rfl) (by decide) rfl ?_
    refine x_aload_n (dT U_Lc55 17 rfl) rfl ?_
    refine x_invokevirtual (rc' := rc) (rs' := rs) (rc2 := 0) (rs2 := 0) (As := []) (st := _) M_X11_thrown K_L_242 (dT U_Lc55 18 rfl) rfl rfl (by decide) rfl rfl wx.c70 (Nat.le_of_ble_eq_true rfl) (by decide) rfl (Nat.le_of_ble_eq_true rfl) rfl (by decide) (Nat.le_of_ble_eq_true rfl) rfl rfl ?_
    refine S_X11_thrown wx ?_
    refine xRet_some ?_
    refine x_iload (dT U_Lc55 19 rfl) rfl ?_
    refine x_icmp_eq (tgt := 4598) (dT U_Lc55 20 rfl) (by decide) (by unfold xr; omega) (by unfold xr; omega) (fun c4593 => ?_) (fun c4593 => (by exfalso; omega))
    refine x_iload (dT U_Lc55 23 rfl) rfl ?_
    refine x_if_nej (tgt := 4615) (dT U_Lc55 24 rfl) (by decide) (by decide) ?_
    refine x_goto (tgt := 5554) (dT U_Lc55 34 rfl) (by decide) ?_
    refine x_drop ?_ (M _ _ _ _ _ _ _ _ v (w.out ag (by omega)) wx (ag.get ho (by omega)) (ag.get hod (by omega)))
    repeat (first | exact trivial | refine ⟨rfl, ?_⟩ | refine ⟨trivial, ?_⟩)
  · refine xRet_some ?_
    have wmx := wm.out (h2 := (h2.set 143 (cJ [z9]))) (fun a ha => by rw [hset_fr (by omega)]; exact fc.2 a (by omega))
    refine x_istore (ls' := [some (.ref _), some (.ref _), some (.ref _), some (.ref _), some (.ref _), some (vi _), some (vi _), none, none]) (dT U_Lc55 8 rfl) (by decide) rfl ?_
    refine x_aload_n (dT U_Lc55 9 rfl) rfl ?_
    refine x_aload_n (dT U_Lc55 10 rfl) rfl ?_
    refine x_iload (dT U_Lc55 11 rfl) rfl ?_
    refine x_iconst (dT U_Lc55 12 rfl) ?_
    refine x_iadd (dT U_Lc55 13 rfl) ?_
    refine x_sld (i + 1) hL (dT U_Lc55 14 rfl) (by omega) (by omega) ?_
    refine x_invokevirtual (rc' := rc) (rs' := rs) (rc2 := 0) (rs2 := 0) (As := [_]) (st := _) M_X11_spots K_L_419 (dT U_Lc55 15 rfl) rfl rfl (by decide) rfl rfl wmx.c70 (Nat.le_of_ble_eq_true rfl) (by decide) rfl (Nat.le_of_ble_eq_true rfl) rfl (by decide) (Nat.le_of_ble_eq_true rfl) rfl rfl ?_
    refine S_X11_spots wmx v (xr_s _) (fun m1 _ _ _ _ _ => absurd c1 m1) (fun m1 h3 r3 s3 ag wx => ?_)
    refine xRet_some ?_
    rw [ez9]
    refine x_istore (ls' := [some (.ref _), some (.ref _), some (.ref _), some (.ref _), some (.ref _), some (vi _), some (vi _), some (vi _), none]) (dT U_Lc55 16 rfl) (by decide) rfl ?_
    refine x_aload_n (dT U_Lc55 17 rfl) rfl ?_
    refine x_invokevirtual (rc' := rc) (rs' := rs) (rc2 := 0) (rs2 := 0) (As := []) (st := _) M_X11_thrown K_L_242 (dT U_Lc55 18 rfl) rfl rfl (by decide) rfl rfl wx.c70 (Nat.le_of_ble_eq_true rfl) (by decide) rfl (Nat.le_of_ble_eq_true rfl) rfl (by decide) (Nat.le_of_ble_eq_true rfl) rfl rfl ?_
    refine S_X11_thrown wx ?_
    refine xRet_some ?_
    refine x_iload (dT U_Lc55 19 rfl) rfl ?_
    refine x_icmp_eq (tgt := 4598) (dT U_Lc55 20 rfl) (by decide) (by unfold xr; omega) (by unfold xr; omega) (fun c4593 => ?_) (fun c4593 => (by exfalso; omega))
    refine x_iload (dT U_Lc55 23 rfl) rfl ?_
    refine x_if_nen (tgt := 4615) (dT U_Lc55 24 rfl) (by decide) (by decide) ?_
    refine x_aload_n (dT U_Lc55 25 rfl) rfl ?_
    refine x_iconst (dT U_Lc55 26 rfl) ?_
    refine x_laload 0 (dT U_Lc55 27 rfl) (ag.get (hset_eq (fc.get ho (by omega))) (by omega)) (Nat.le_of_ble_eq_true rfl) rfl (Nat.le_of_ble_eq_true rfl) (Nat.le_of_ble_eq_true rfl) ?_
    refine x_iload (dT U_Lc55 28 rfl) rfl ?_
    refine x_i2l (dT U_Lc55 29 rfl) hz9 ?_
    refine x_lcmp (dT U_Lc55 30 rfl) (xr_l hz9) (xr_l hz9) ?_
    refine x_if_eqj (tgt := 4615) (dT U_Lc55 31 rfl) (by decide) (xcmp_rf _) ?_
    refine x_goto (tgt := 5554) (dT U_Lc55 34 rfl) (by decide) ?_
    refine x_drop ?_ (M _ _ _ _ _ _ _ _ v ((w2.out ((Ag.rf 143 143 h2).set (by omega)) (by omega)).out ag (by omega)) wx (ag.get (hset_eq (fc.get ho (by omega))) (by omega)) (ag.get (hset_ne (by omega) (fc.get hod (by omega))) (by omega)))
    repeat (first | exact trivial | refine ⟨rfl, ?_⟩ | refine ⟨trivial, ?_⟩)

def B_Lc56 : ByteArray := .mk #[0x2b, 0x2a, 0x15, 0x05, 0x04, 0x60, 0x2e, 0x2d, 0xb8, 0x01, 0xa4, 0x36, 0x06, 0x2c, 0x2a, 0x15, 0x05, 0x04, 0x60, 0x2e, 0xb6, 0x01, 0xa6, 0x36, 0x07, 0x2c, 0xb6, 0x00, 0xf2, 0x15, 0x06, 0x9f, 0x00, 0x05, 0x03, 0xac, 0x15, 0x06, 0x9a, 0x00, 0x0f, 0x2d, 0x03, 0x2f, 0x15, 0x07, 0x85, 0x94, 0x99, 0x00, 0x05, 0x03, 0xac, 0xa7, 0x03, 0x73]
theorem W_Lc56 : sameFrom m_L_law.2.1 B_Lc56 4618 := sameFrom_of (by decide +kernel)
def t_Lc56 : List (Nat × Instr × Nat) := [(4618, .aload_n 1, 1), (4619, .aload_n 0, 1), (4620, .iload 5, 2), (4622, .iconst 1, 1), (4623, .iadd, 1), (4624, .iaload, 1), (4625, .aload_n 3, 1), (4626, .invokestatic 420, 3), (4629, .istore 6, 2), (4631, .aload_n 2, 1), (4632, .aload_n 0, 1), (4633, .iload 5, 2), (4635, .iconst 1, 1), (4636, .iadd, 1), (4637, .iaload, 1), (4638, .invokevirtual 422, 3), (4641, .istore 7, 2), (4643, .aload_n 2, 1), (4644, .invokevirtual 242, 3), (4647, .iload 6, 2), (4649, .if_icmp .eq 5, 3), (4652, .iconst 0, 1), (4653, .ireturn, 1), (4654, .iload 6, 2), (4656, .ifCond .ne 15, 3), (4659, .aload_n 3, 1), (4660, .iconst 0, 1), (4661, .laload, 1), (4662, .iload 7, 2), (4664, .i2l, 1), (4665, .lcmp, 1), (4666, .ifCond .eq 5, 3), (4669, .iconst 0, 1), (4670, .ireturn, 1), (4671, .goto 883, 3)]
set_option maxRecDepth 20000 in
theorem U_Lc56 : okT m_L_law.2.1 t_Lc56 = true := dSt [(0, .aload_n 1, 1), (1, .aload_n 0, 1), (2, .iload 5, 2), (4, .iconst 1, 1), (5, .iadd, 1), (6, .iaload, 1), (7, .aload_n 3, 1), (8, .invokestatic 420, 3), (11, .istore 6, 2), (13, .aload_n 2, 1), (14, .aload_n 0, 1), (15, .iload 5, 2), (17, .iconst 1, 1), (18, .iadd, 1), (19, .iaload, 1), (20, .invokevirtual 422, 3), (23, .istore 7, 2), (25, .aload_n 2, 1), (26, .invokevirtual 242, 3), (29, .iload 6, 2), (31, .if_icmp .eq 5, 3), (34, .iconst 0, 1), (35, .ireturn, 1), (36, .iload 6, 2), (38, .ifCond .ne 15, 3), (41, .aload_n 3, 1), (42, .iconst 0, 1), (43, .laload, 1), (44, .iload 7, 2), (46, .i2l, 1), (47, .lcmp, 1), (48, .ifCond .eq 5, 3), (51, .iconst 0, 1), (52, .ireturn, 1), (53, .goto 883, 3)] W_Lc56 (by decide +kernel) (by decide +kernel)
set_option maxRecDepth 20000 in
set_option maxHeartbeats 1000000 in
theorem LC_56 {G : xG} {d rc rs : Nat} {ex : Bool} {h : xH} {Q : xQ} {σ : St} {c0 : Int} {rr : Nat} {ss : Int} {l0 : Int} {d0 : UInt64} {i : Nat} (hL : G.2.2.2.2.2.1 < 2147483648) (hi : i + 10 ≤ G.2.2.2.2.2.1) (w : CW σ h) (wm : MX σ c0 rr ss h) (v : INV σ) (ho : h[143]? = some (cJ [l0])) (hod : h[144]? = some (cD [d0]))
    (M : ∀ (σ9 : St) (h9 : xH) (e9 : Bool) (c9 : Int) (r9 : Nat) (s9 : Int) (l9 : Int) (d9 : UInt64), INV σ9 → CW σ9 h9 → MX σ9 c9 r9 s9 h9 → h9[143]? = some (cJ [l9]) → h9[144]? = some (cD [d9]) → X G m_L_law (d + 10) rc rs e9 5554 [some (.ref 0), some (.ref 3), some (.ref 70), some (.ref 143), some (.ref 144), some (vi (i : Int)), none, none, none] [] h9 Q) : X G m_L_law (d + 10) (rc + 1) (rs + 6) ex 4618 [some (.ref 0), some (.ref 3), some (.ref 70), some (.ref 143), some (.ref 144), some (vi (i : Int)), none, none, none] [] h Q := by
  refine x_aload_n (dT U_Lc56 0 rfl) rfl ?_
  refine x_aload_n (dT U_Lc56 1 rfl) rfl ?_
  refine x_iload (dT U_Lc56 2 rfl) rfl ?_
  refine x_iconst (dT U_Lc56 3 rfl) ?_
  refine x_iadd (dT U_Lc56 4 rfl) ?_
  refine x_sld (i + 1) hL (dT U_Lc56 5 rfl) (by omega) (by omega) ?_
  refine x_aload_n (dT U_Lc56 6 rfl) rfl ?_
  refine x_invokestaticT (rc' := rc) (rs' := rs) (rc2 := 0 + 1) (rs2 := 0 + 6) (As := [_, _, _]) (st := _) M_L_total K_L_420 (dT U_Lc56 7 rfl) rfl (by decide) rfl rfl (Nat.le_of_ble_eq_true rfl) rfl (by decide) (Nat.le_of_ble_eq_true rfl) (by omega) (by omega) ?_
  refine S_L_total w v (xr_s _) ho (fun c1 => ?_) (fun c1 z9 hz9 ez9 => ?_)
  · refine xRet_some ?_
    refine x_istore (ls' := [some (.ref _), some (.ref _), some (.ref _), some (.ref _), some (.ref _), some (vi _), some (vi _), none, none]) (dT U_Lc56 8 rfl) (by decide) rfl ?_
    refine x_aload_n (dT U_Lc56 9 rfl) rfl ?_
    refine x_aload_n (dT U_Lc56 10 rfl) rfl ?_
    refine x_iload (dT U_Lc56 11 rfl) rfl ?_
    refine x_iconst (dT U_Lc56 12 rfl) ?_
    refine x_iadd (dT U_Lc56 13 rfl) ?_
    refine x_sld (i + 1) hL (dT U_Lc56 14 rfl) (by omega) (by omega) ?_
    refine x_invokevirtual (rc' := rc) (rs' := rs) (rc2 := 0) (rs2 := 0) (As := [_]) (st := _) M_X11_total K_L_422 (dT U_Lc56 15 rfl) rfl rfl (by decide) rfl rfl wm.c70 (Nat.le_of_ble_eq_true rfl) (by decide) rfl (Nat.le_of_ble_eq_true rfl) rfl (by decide) (Nat.le_of_ble_eq_true rfl) rfl rfl ?_
    refine S_X11_total wm v (xr_s _) (fun m1 h3 z ag wx xz => ?_) (fun m1 _ _ _ _ _ => absurd m1 c1)
    refine xRet_some ?_
    refine x_istore (ls' := [some (.ref _), some (.ref _), some (.ref _), some (.ref _), some (.ref _), some (vi _), some (vi _), some (vi _), none]) (dT U_Lc56 16 rfl) (by decide) rfl ?_
    refine x_aload_n (dT U_Lc56 17 rfl) rfl ?_
    refine x_invokevirtual (rc' := rc) (rs' := rs) (rc2 := 0) (rs2 := 0) (As := []) (st := _) M_X11_thrown K_L_242 (dT U_Lc56 18 rfl) rfl rfl (by decide) rfl rfl wx.c70 (Nat.le_of_ble_eq_true rfl) (by decide) rfl (Nat.le_of_ble_eq_true rfl) rfl (by decide) (Nat.le_of_ble_eq_true rfl) rfl rfl ?_
    refine S_X11_thrown wx ?_
    refine xRet_some ?_
    refine x_iload (dT U_Lc56 19 rfl) rfl ?_
    refine x_icmp_eq (tgt := 4654) (dT U_Lc56 20 rfl) (by decide) (by unfold xr; omega) (by unfold xr; omega) (fun c4649 => ?_) (fun c4649 => (by exfalso; omega))
    refine x_iload (dT U_Lc56 23 rfl) rfl ?_
    refine x_if_nej (tgt := 4671) (dT U_Lc56 24 rfl) (by decide) (by decide) ?_
    refine x_goto (tgt := 5554) (dT U_Lc56 34 rfl) (by decide) ?_
    refine x_drop ?_ (M _ _ _ _ _ _ _ _ v (w.out ag (by omega)) wx (ag.get ho (by omega)) (ag.get hod (by omega)))
    repeat (first | exact trivial | refine ⟨rfl, ?_⟩ | refine ⟨trivial, ?_⟩)
  · refine xRet_some ?_
    have wmx := wm.out (h2 := (h.set 143 (cJ [z9]))) (fun a ha => by rw [hset_fr (by omega)])
    refine x_istore (ls' := [some (.ref _), some (.ref _), some (.ref _), some (.ref _), some (.ref _), some (vi _), some (vi _), none, none]) (dT U_Lc56 8 rfl) (by decide) rfl ?_
    refine x_aload_n (dT U_Lc56 9 rfl) rfl ?_
    refine x_aload_n (dT U_Lc56 10 rfl) rfl ?_
    refine x_iload (dT U_Lc56 11 rfl) rfl ?_
    refine x_iconst (dT U_Lc56 12 rfl) ?_
    refine x_iadd (dT U_Lc56 13 rfl) ?_
    refine x_sld (i + 1) hL (dT U_Lc56 14 rfl) (by omega) (by omega) ?_
    refine x_invokevirtual (rc' := rc) (rs' := rs) (rc2 := 0) (rs2 := 0) (As := [_]) (st := _) M_X11_total K_L_422 (dT U_Lc56 15 rfl) rfl rfl (by decide) rfl rfl wmx.c70 (Nat.le_of_ble_eq_true rfl) (by decide) rfl (Nat.le_of_ble_eq_true rfl) rfl (by decide) (Nat.le_of_ble_eq_true rfl) rfl rfl ?_
    refine S_X11_total wmx v (xr_s _) (fun m1 _ _ _ _ _ => absurd c1 m1) (fun m1 h3 r3 s3 ag wx => ?_)
    refine xRet_some ?_
    rw [ez9]
    refine x_istore (ls' := [some (.ref _), some (.ref _), some (.ref _), some (.ref _), some (.ref _), some (vi _), some (vi _), some (vi _), none]) (dT U_Lc56 16 rfl) (by decide) rfl ?_
    refine x_aload_n (dT U_Lc56 17 rfl) rfl ?_
    refine x_invokevirtual (rc' := rc) (rs' := rs) (rc2 := 0) (rs2 := 0) (As := []) (st := _) M_X11_thrown K_L_242 (dT U_Lc56 18 rfl) rfl rfl (by decide) rfl rfl wx.c70 (Nat.le_of_ble_eq_true rfl) (by decide) rfl (Nat.le_of_ble_eq_true rfl) rfl (by decide) (Nat.le_of_ble_eq_true rfl) rfl rfl ?_
    refine S_X11_thrown wx ?_
    refine xRet_some ?_
    refine x_iload (dT U_Lc56 19 rfl) rfl ?_
    refine x_icmp_eq (tgt := 4654) (dT U_Lc56 20 rfl) (by decide) (by unfold xr; omega) (by unfold xr; omega) (fun c4649 => ?_) (fun c4649 => (by exfalso; omega))
    refine x_iload (dT U_Lc56 23 rfl) rfl ?_
    refine x_if_nen (tgt := 4671) (dT U_Lc56 24 rfl) (by decide) (by decide) ?_
    refine x_aload_n (dT U_Lc56 25 rfl) rfl ?_
    refine x_iconst (dT U_Lc56 26 rfl) ?_
    refine x_laload 0 (dT U_Lc56 27 rfl) (ag.get (hset_eq ho) (by omega)) (Nat.le_of_ble_eq_true rfl) rfl (Nat.le_of_ble_eq_true rfl) (Nat.le_of_ble_eq_true rfl) ?_
    refine x_iload (dT U_Lc56 28 rfl) rfl ?_
    refine x_i2l (dT U_Lc56 29 rfl) hz9 ?_
    refine x_lcmp (dT U_Lc56 30 rfl) (xr_l hz9) (xr_l hz9) ?_
    refine x_if_eqj (tgt := 4671) (dT U_Lc56 31 rfl) (by decide) (xcmp_rf _) ?_
    refine x_goto (tgt := 5554) (dT U_Lc56 34 rfl) (by decide) ?_
    refine x_drop ?_ (M _ _ _ _ _ _ _ _ v ((w.out ((Ag.rf 143 143 h).set (by omega)) (by omega)).out ag (by omega)) wx (ag.get (hset_eq ho) (by omega)) (ag.get (hset_ne (by omega) hod) (by omega)))
    repeat (first | exact trivial | refine ⟨rfl, ?_⟩ | refine ⟨trivial, ?_⟩)
