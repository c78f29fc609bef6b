def B_Lc57 : ByteArray := .mk #[0x2b, 0x2a, 0x15, 0x05, 0x04, 0x60, 0x2e, 0x2a, 0x15, 0x05, 0x05, 0x60, 0x2e, 0x2a, 0x15, 0x05, 0x06, 0x60, 0x2e, 0x2a, 0x15, 0x05, 0x07, 0x60, 0x2e, 0x2d, 0xb8, 0x01, 0xa7, 0x36, 0x06, 0x2c, 0x2a, 0x15, 0x05, 0x04, 0x60, 0x2e, 0x2a, 0x15, 0x05, 0x05, 0x60, 0x2e, 0x2a, 0x15, 0x05, 0x06, 0x60, 0x2e, 0x2a, 0x15, 0x05, 0x07, 0x60, 0x2e, 0xb6, 0x01, 0xa9, 0x36, 0x07, 0x2c, 0xb6, 0x00, 0xf2, 0x15, 0x06, 0x9f, 0x00, 0x05, 0x03, 0xac, 0x15, 0x06, 0x9a, 0x00, 0x0f, 0x2d, 0x03, 0x2f, 0x15, 0x07, 0x85, 0x94, 0x99, 0x00, 0x05, 0x03, 0xac, 0xa7, 0x03, 0x17]
theorem W_Lc57 : sameFrom m_L_law.2.1 B_Lc57 4674 := sameFrom_of (by decide +kernel)
def t_Lc57 : List (Nat × Instr × Nat) := [(4674, .aload_n 1, 1), (4675, .aload_n 0, 1), (4676, .iload 5, 2), (4678, .iconst 1, 1), (4679, .iadd, 1), (4680, .iaload, 1), (4681, .aload_n 0, 1), (4682, .iload 5, 2), (4684, .iconst 2, 1), (4685, .iadd, 1), (4686, .iaload, 1), (4687, .aload_n 0, 1), (4688, .iload 5, 2), (4690, .iconst 3, 1), (4691, .iadd, 1), (4692, .iaload, 1), (4693, .aload_n 0, 1), (4694, .iload 5, 2), (4696, .iconst 4, 1), (4697, .iadd, 1), (4698, .iaload, 1), (4699, .aload_n 3, 1), (4700, .invokestatic 423, 3), (4703, .istore 6, 2), (4705, .aload_n 2, 1), (4706, .aload_n 0, 1), (4707, .iload 5, 2), (4709, .iconst 1, 1), (4710, .iadd, 1), (4711, .iaload, 1), (4712, .aload_n 0, 1), (4713, .iload 5, 2), (4715, .iconst 2, 1), (4716, .iadd, 1), (4717, .iaload, 1), (4718, .aload_n 0, 1), (4719, .iload 5, 2), (4721, .iconst 3, 1), (4722, .iadd, 1), (4723, .iaload, 1), (4724, .aload_n 0, 1), (4725, .iload 5, 2), (4727, .iconst 4, 1), (4728, .iadd, 1), (4729, .iaload, 1), (4730, .invokevirtual 425, 3), (4733, .istore 7, 2), (4735, .aload_n 2, 1), (4736, .invokevirtual 242, 3), (4739, .iload 6, 2), (4741, .if_icmp .eq 5, 3), (4744, .iconst 0, 1), (4745, .ireturn, 1), (4746, .iload 6, 2), (4748, .ifCond .ne 15, 3), (4751, .aload_n 3, 1), (4752, .iconst 0, 1), (4753, .laload, 1), (4754, .iload 7, 2), (4756, .i2l, 1), (4757, .lcmp, 1), (4758, .ifCond .eq 5, 3), (4761, .iconst 0, 1), (4762, .ireturn, 1), (4763, .goto 791, 3)]
set_option maxRecDepth 20000 in
theorem U_Lc57 : okT m_L_law.2.1 t_Lc57 = true := dSt [(0, .aload_n 1, 1), (1, .aload_n 0, 1), (2, .iload 5, 2), (4, .iconst 1, 1), (5, .iadd, 1), (6, .iaload, 1), (7, .aload_n 0, 1), (8, .iload 5, 2), (10, .iconst 2, 1), (11, .iadd, 1), (12, .iaload, 1), (13, .aload_n 0, 1), (14, .iload 5, 2), (16, .iconst 3, 1), (17, .iadd, 1), (18, .iaload, 1), (19, .aload_n 0, 1), (20, .iload 5, 2), (22, .iconst 4, 1), (23, .iadd, 1), (24, .iaload, 1), (25, .aload_n 3, 1), (26, .invokestatic 423, 3), (29, .istore 6, 2), (31, .aload_n 2, 1), (32, .aload_n 0, 1), (33, .iload 5, 2), (35, .iconst 1, 1), (36, .iadd, 1), (37, .iaload, 1), (38, .aload_n 0, 1), (39, .iload 5, 2), (41, .iconst 2, 1), (42, .iadd, 1), (43, .iaload, 1), (44, .aload_n 0, 1), (45, .iload 5, 2), (47, .iconst 3, 1), (48, .iadd, 1), (49, .iaload, 1), (50, .aload_n 0, 1), (51, .iload 5, 2), (53, .iconst 4, 1), (54, .iadd, 1), (55, .iaload, 1), (56, .invokevirtual 425, 3), (59, .istore 7, 2), (61, .aload_n 2, 1), (62, .invokevirtual 242, 3), (65, .iload 6, 2), (67, .if_icmp .eq 5, 3), (70, .iconst 0, 1), (71, .ireturn, 1), (72, .iload 6, 2), (74, .ifCond .ne 15, 3), (77, .aload_n 3, 1), (78, .iconst 0, 1), (79, .laload, 1), (80, .iload 7, 2), (82, .i2l, 1), (83, .lcmp, 1), (84, .ifCond .eq 5, 3), (87, .iconst 0, 1), (88, .ireturn, 1), (89, .goto 791, 3)] W_Lc57 (by decide +kernel) (by decide +kernel)
set_option maxRecDepth 20000 in
set_option maxHeartbeats 1000000 in
theorem LC_57 {G : xG} {d rc rs : Nat} {ex : Bool} {h : xH} {Q : xQ} {σ : St} {c0 : Int} {rr : Nat} {ss : Int} {l0 : Int} {d0 : UInt64} {i : Nat} (hL : G.2.2.2.2.2.1 < 2147483648) (hi : i + 10 ≤ G.2.2.2.2.2.1) (w : CW σ h) (wm : MX σ c0 rr ss h) (v : INV σ) (ho : h[143]? = some (cJ [l0])) (hod : h[144]? = some (cD [d0]))
    (M : ∀ (σ9 : St) (h9 : xH) (e9 : Bool) (c9 : Int) (r9 : Nat) (s9 : Int) (l9 : Int) (d9 : UInt64), INV σ9 → CW σ9 h9 → MX σ9 c9 r9 s9 h9 → h9[143]? = some (cJ [l9]) → h9[144]? = some (cD [d9]) → X G m_L_law (d + 10) rc rs e9 5554 [some (.ref 0), some (.ref 3), some (.ref 70), some (.ref 143), some (.ref 144), some (vi (i : Int)), none, none, none] [] h9 Q) : X G m_L_law (d + 10) (rc + 4) (rs + 24) ex 4674 [some (.ref 0), some (.ref 3), some (.ref 70), some (.ref 143), some (.ref 144), some (vi (i : Int)), none, none, none] [] h Q := by
  refine x_aload_n (dT U_Lc57 0 rfl) rfl ?_
  refine x_aload_n (dT U_Lc57 1 rfl) rfl ?_
  refine x_iload (dT U_Lc57 2 rfl) rfl ?_
  refine x_iconst (dT U_Lc57 3 rfl) ?_
  refine x_iadd (dT U_Lc57 4 rfl) ?_
  refine x_sld (i + 1) hL (dT U_Lc57 5 rfl) (by omega) (by omega) ?_
  refine x_aload_n (dT U_Lc57 6 rfl) rfl ?_
  refine x_iload (dT U_Lc57 7 rfl) rfl ?_
  refine x_iconst (dT U_Lc57 8 rfl) ?_
  refine x_iadd (dT U_Lc57 9 rfl) ?_
  refine x_sld (i + 2) hL (dT U_Lc57 10 rfl) (by omega) (by omega) ?_
  refine x_aload_n (dT U_Lc57 11 rfl) rfl ?_
  refine x_iload (dT U_Lc57 12 rfl) rfl ?_
  refine x_iconst (dT U_Lc57 13 rfl) ?_
  refine x_iadd (dT U_Lc57 14 rfl) ?_
  refine x_sld (i + 3) hL (dT U_Lc57 15 rfl) (by omega) (by omega) ?_
  refine x_aload_n (dT U_Lc57 16 rfl) rfl ?_
  refine x_iload (dT U_Lc57 17 rfl) rfl ?_
  refine x_iconst (dT U_Lc57 18 rfl) ?_
  refine x_iadd (dT U_Lc57 19 rfl) ?_
  refine x_sld (i + 4) hL (dT U_Lc57 20 rfl) (by omega) (by omega) ?_
  refine x_aload_n (dT U_Lc57 21 rfl) rfl ?_
  refine x_invokestaticT (rc' := rc) (rs' := rs) (rc2 := 0 + 4) (rs2 := 0 + 24) (As := [_, _, _, _, _, _]) (st := _) M_L_extend K_L_423 (dT U_Lc57 22 rfl) rfl (by decide) rfl rfl (Nat.le_of_ble_eq_true rfl) rfl (by decide) (Nat.le_of_ble_eq_true rfl) (by omega) (by omega) ?_
  refine S_L_extend w v (xr_s _) (xr_s _) (xr_s _) (xr_s _) ho (fun c1 => ?_) (fun c1 c2 => ?_) (fun c1 c2 h2 fc w2 z9 hz9 ez9 => ?_)
  · refine xRet_some ?_
    refine x_istore (ls' := [some (.ref _), some (.ref _), some (.ref _), some (.ref _), some (.ref _), some (vi _), some (vi _), none, none]) (dT U_Lc57 23 rfl) (by decide) rfl ?_
    refine x_aload_n (dT U_Lc57 24 rfl) rfl ?_
    refine x_aload_n (dT U_Lc57 25 rfl) rfl ?_
    refine x_iload (dT U_Lc57 26 rfl) rfl ?_
    refine x_iconst (dT U_Lc57 27 rfl) ?_
    refine x_iadd (dT U_Lc57 28 rfl) ?_
    refine x_sld (i + 1) hL (dT U_Lc57 29 rfl) (by omega) (by omega) ?_
    refine x_aload_n (dT U_Lc57 30 rfl) rfl ?_
    refine x_iload (dT U_Lc57 31 rfl) rfl ?_
    refine x_iconst (dT U_Lc57 32 rfl) ?_
    refine x_iadd (dT U_Lc57 33 rfl) ?_
    refine x_sld (i + 2) hL (dT U_Lc57 34 rfl) (by omega) (by omega) ?_
    refine x_aload_n (dT U_Lc57 35 rfl) rfl ?_
    refine x_iload (dT U_Lc57 36 rfl) rfl ?_
    refine x_iconst (dT U_Lc57 37 rfl) ?_
    refine x_iadd (dT U_Lc57 38 rfl) ?_
    refine x_sld (i + 3) hL (dT U_Lc57 39 rfl) (by omega) (by omega) ?_
    refine x_aload_n (dT U_Lc57 40 rfl) rfl ?_
    refine x_iload (dT U_Lc57 41 rfl) rfl ?_
    refine x_iconst (dT U_Lc57 42 rfl) ?_
    refine x_iadd (dT U_Lc57 43 rfl) ?_
    refine x_sld (i + 4) hL (dT U_Lc57 44 rfl) (by omega) (by omega) ?_
    refine x_invokevirtual (rc' := rc) (rs' := rs) (rc2 := 0) (rs2 := 0) (As := [_, _, _, _]) (st := _) M_X11_extend K_L_425 (dT U_Lc57 45 rfl) rfl rfl (by decide) rfl rfl wm.c70 (Nat.le_of_ble_eq_true rfl) (by decide) rfl (Nat.le_of_ble_eq_true rfl) rfl (by decide) (Nat.le_of_ble_eq_true rfl) rfl rfl ?_
    refine S_X11_extend wm v (xr_s _) (xr_s _) (xr_s _) (xr_s _) (fun m1 h3 z ag wx xz => ?_) (fun m1 m2 _ _ _ _ _ => absurd m1 c1) (fun m1 m2 _ _ _ _ _ => absurd m1 c1)
    refine xRet_some ?_
    refine x_istore (ls' := [some (.ref _), some (.ref _), some (.ref _), some (.ref _), some (.ref _), some (vi _), some (vi _), some (vi _), none]) (dT U_Lc57 46 rfl) (by decide) rfl ?_
    refine x_aload_n (dT U_Lc57 47 rfl) rfl ?_
    refine x_invokevirtual (rc' := rc) (rs' := rs) (rc2 := 0) (rs2 := 0) (As := []) (st := _) M_X11_thrown K_L_242 (dT U_Lc57 48 rfl) rfl rfl (by decide) rfl rfl wx.c70 (Nat.le_of_ble_eq_true rfl) (by decide) rfl (Nat.le_of_ble_eq_true rfl) rfl (by decide) (Nat.le_of_ble_eq_true rfl) rfl rfl ?_
    refine S_X11_thrown wx ?_
    refine xRet_some ?_
    refine x_iload (dT U_Lc57 49 rfl) rfl ?_
    refine x_icmp_eq (tgt := 4746) (dT U_Lc57 50 rfl) (by decide) (by unfold xr; omega) (by unfold xr; omega) (fun c4741 => ?_) (fun c4741 => (by exfalso; omega))
    refine x_iload (dT U_Lc57 53 rfl) rfl ?_
    refine x_if_nej (tgt := 4763) (dT U_Lc57 54 rfl) (by decide) (by decide) ?_
    refine x_goto (tgt := 5554) (dT U_Lc57 64 rfl) (by decide) ?_
    refine x_drop ?_ (M _ _ _ _ _ _ _ _ v (w.out ag (by omega)) wx (ag.get ho (by omega)) (ag.get hod (by omega)))
    repeat (first | exact trivial | refine ⟨rfl, ?_⟩ | refine ⟨trivial, ?_⟩)
  · refine xRet_some ?_
    refine x_istore (ls' := [some (.ref _), some (.ref _), some (.ref _), some (.ref _), some (.ref _), some (vi _), some (vi _), none, none]) (dT U_Lc57 23 rfl) (by decide) rfl ?_
    refine x_aload_n (dT U_Lc57 24 rfl) rfl ?_
    refine x_aload_n (dT U_Lc57 25 rfl) rfl ?_
    refine x_iload (dT U_Lc57 26 rfl) rfl ?_
    refine x_iconst (dT U_Lc57 27 rfl) ?_
    refine x_iadd (dT U_Lc57 28 rfl) ?_
    refine x_sld (i + 1) hL (dT U_Lc57 29 rfl) (by omega) (by omega) ?_
    refine x_aload_n (dT U_Lc57 30 rfl) rfl ?_
    refine x_iload (dT U_Lc57 31 rfl) rfl ?_
    refine x_iconst (dT U_Lc57 32 rfl) ?_
    refine x_iadd (dT U_Lc57 33 rfl) ?_
    refine x_sld (i + 2) hL (dT U_Lc57 34 rfl) (by omega) (by omega) ?_
    refine x_aload_n (dT U_Lc57 35 rfl) rfl ?_
    refine x_iload (dT U_Lc57 36 rfl) rfl ?_
    refine x_iconst (dT U_Lc57 37 rfl) ?_
    refine x_iadd (dT U_Lc57 38 rfl) ?_
    refine x_sld (i + 3) hL (dT U_Lc57 39 rfl) (by omega) (by omega) ?_
    refine x_aload_n (dT U_Lc57 40 rfl) rfl ?_
    refine x_iload (dT U_Lc57 41 rfl) rfl ?_
    refine x_iconst (dT U_Lc57 42 rfl) ?_
    refine x_iadd (dT U_Lc57 43 rfl) ?_
    refine x_sld (i + 4) hL (dT U_Lc57 44 rfl) (by omega) (by omega) ?_
    refine x_invokevirtual (rc' := rc) (rs' := rs) (rc2 := 0) (rs2 := 0) (As := [_, _, _, _]) (st := _) M_X11_extend K_L_425 (dT U_Lc57 45 rfl) rfl rfl (by decide) rfl rfl wm.c70 (Nat.le_of_ble_eq_true rfl) (by decide) rfl (Nat.le_of_ble_eq_true rfl) rfl (by decide) (Nat.le_of_ble_eq_true rfl) rfl rfl ?_
    refine S_X11_extend wm v (xr_s _) (xr_s _) (xr_s _) (xr_s _) (fun m1 _ _ _ _ _ => absurd c1 m1) (fun m1 m2 h3 z ag wx xz => ?_) (fun m1 m2 _ _ _ _ _ => absurd m2 c2)
    refine xRet_some ?_
    refine x_istore (ls' := [some (.ref _), some (.ref _), some (.ref _), some (.ref _), some (.ref _), some (vi _), some (vi _), some (vi _), none]) (dT U_Lc57 46 rfl) (by decide) rfl ?_
    refine x_aload_n (dT U_Lc57 47 rfl) rfl ?_
    refine x_invokevirtual (rc' := rc) (rs' := rs) (rc2 := 0) (rs2 := 0) (As := []) (st := _) M_X11_thrown K_L_242 (dT U_Lc57 48 rfl) rfl rfl (by decide) rfl rfl wx.c70 (Nat.le_of_ble_eq_true rfl) (by decide) rfl (Nat.le_of_ble_eq_true rfl) rfl (by decide) (Nat.le_of_ble_eq_true rfl) rfl rfl ?_
    refine S_X11_thrown wx ?_
    refine xRet_some ?_
    refine x_iload (dT U_Lc57 49 rfl) rfl ?_
    refine x_icmp_eq (tgt := 4746) (dT U_Lc57 50 rfl) (by decide) (by unfold xr; omega) (by unfold xr; omega) (fun c4741 => ?_) (fun c4741 => (by exfalso; omega))
    refine x_iload (dT U_Lc57 53 rfl) rfl ?_
    refine x_if_ne (tgt := 4763) (dT U_Lc57 54 rfl) (by decide) (by unfold xr; omega) (fun c4748 => ?_) (fun c4748 => (by exfalso; omega))
    refine x_goto (tgt := 5554) (dT U_Lc57 64 rfl) (by decide) ?_
    refine x_drop ?_ (M _ _ _ _ _ _ _ _ v (w.out ag (by omega)) wx (ag.get ho (by omega)) (ag.get hod (by omega)))
    repeat (first | exact trivial | refine ⟨rfl, ?_⟩ | refine ⟨trivial, ?_⟩)
  · refine xRet_some ?_
    have wmx := wm.out (h2 := (h2.set 143 (cJ [z9]))) (fun a ha => by rw [hset_fr (by omega)]; exact fc.2 a (by omega))
    refine x_istore (ls' := [some (.ref _), some (.ref _), some (.ref _), some (.ref _), some (.ref _), some (vi _), some (vi _), none, none]) (dT U_Lc57 23 rfl) (by decide) rfl ?_
    refine x_aload_n (dT U_Lc57 24 rfl) rfl ?_
    refine x_aload_n (dT U_Lc57 25 rfl) rfl ?_
    refine x_iload (dT U_Lc57 26 rfl) rfl ?_
    refine x_iconst (dT U_Lc57 27 rfl) ?_
    refine x_iadd (dT U_Lc57 28 rfl) ?_
    refine x_sld (i + 1) hL (dT U_Lc57 29 rfl) (by omega) (by omega) ?_
    refine x_aload_n (dT U_Lc57 30 rfl) rfl ?_
    refine x_iload (dT U_Lc57 31 rfl) rfl ?_
    refine x_iconst (dT U_Lc57 32 rfl) ?_
    refine x_iadd (dT U_Lc57 33 rfl) ?_
    refine x_sld (i + 2) hL (dT U_Lc57 34 rfl) (by omega) (by omega) ?_
    refine x_aload_n (dT U_Lc57 35 rfl) rfl ?_
    refine x_iload (dT U_Lc57 36 rfl) rfl ?_
    refine x_iconst (dT U_Lc57 37 rfl) ?_
    refine x_iadd (dT U_Lc57 38 rfl) ?_
    refine x_sld (i + 3) hL (dT U_Lc57 39 rfl) (by omega) (by omega) ?_
    refine x_aload_n (dT U_Lc57 40 rfl) rfl ?_
    refine x_iload (dT U_Lc57 41 rfl) rfl ?_
    refine x_iconst (dT U_Lc57 42 rfl) ?_
    refine x_iadd (dT U_Lc57 43 rfl) ?_
    refine x_sld (i + 4) hL (dT U_Lc57 44 rfl) (by omega) (by omega) ?_
    refine x_invokevirtual (rc' := rc) (rs' := rs) (rc2 := 0) (rs2 := 0) (As := [_, _, _, _]) (st := _) M_X11_extend K_L_425 (dT U_Lc57 45 rfl) rfl rfl (by decide) rfl rfl wmx.c70 (Nat.le_of_ble_eq_true rfl) (by decide) rfl (Nat.le_of_ble_eq_true rfl) rfl (by decide) (Nat.le_of_ble_eq_true rfl) rfl rfl ?_
    refine S_X11_extend wmx v (xr_s _) (xr_s _) (xr_s _) (xr_s _) (fun m1 _ _ _ _ _ => absurd c1 m1) (fun m1 m2 _ _ _ _ _ => absurd c2 m2) (fun m1 m2 h3 r3 s3 ag wx => ?_)
    refine xRet_some ?_
    rw [ez9]
    refine x_istore (ls' := [some (.ref _), some (.ref _), some (.ref _), some (.ref _), some (.ref _), some (vi _), some (vi _), some (vi _), none]) (dT U_Lc57 46 rfl) (by decide) rfl ?_
    refine x_aload_n (dT U_Lc57 47 rfl) rfl ?_
    refine x_invokevirtual (rc' := rc) (rs' := rs) (rc2 := 0) (rs2 := 0) (As := []) (st := _) M_X11_thrown K_L_242 (dT U_Lc57 48 rfl) rfl rfl (by decide) rfl rfl wx.c70 (Nat.le_of_ble_eq_true rfl) (by decide) rfl (Nat.le_of_ble_eq_true rfl) rfl (by decide) (Nat.le_of_ble_eq_true rfl) rfl rfl ?_
    refine S_X11_thrown wx ?_
    refine xRet_some ?_
    refine x_iload (dT U_Lc57 49 rfl) rfl ?_
    refine x_icmp_eq (tgt := 4746) (dT U_Lc57 50 rfl) (by decide) (by unfold xr; omega) (by unfold xr; omega) (fun c4741 => ?_) (fun c4741 => (by exfalso; omega))
    refine x_iload (dT U_Lc57 53 rfl) rfl ?_
    refine x_if_nen (tgt := 4763) (dT U_Lc57 54 rfl) (by decide) (by decide) ?_
    refine x_aload_n (dT U_Lc57 55 rfl) rfl ?_
    refine x_iconst (dT U_Lc57 56 rfl) ?_
    refine x_laload 0 (dT U_Lc57 57 rfl) (ag.get (hset_eq (fc.get ho (by omega))) (by omega)) (Nat.le_of_ble_eq_true rfl) rfl (Nat.le_of_ble_eq_true rfl) (Nat.le_of_ble_eq_true rfl) ?_
    refine x_iload (dT U_Lc57 58 rfl) rfl ?_
    refine x_i2l (dT U_Lc57 59 rfl) hz9 ?_
    refine x_lcmp (dT U_Lc57 60 rfl) (xr_l hz9) (xr_l hz9) ?_
    refine x_if_eqj (tgt := 4763) (dT U_Lc57 61 rfl) (by decide) (xcmp_rf _) ?_
    refine x_goto (tgt := 5554) (dT U_Lc57 64 rfl) (by decide) ?_
    refine x_drop ?_ (M _ _ _ _ _ _ _ _ v ((w2.out ((Ag.rf 143 143 h2).set (by omega)) (by omega)).out ag (by omega)) wx (ag.get (hset_eq (fc.get ho (by omega))) (by omega)) (ag.get (hset_ne (by omega) (fc.get hod (by omega))) (by omega)))
    repeat (first | exact trivial | refine ⟨rfl, ?_⟩ | refine ⟨trivial, ?_⟩)

def B_Lc58 : ByteArray := .mk #[0x2b, 0x2a, 0x15, 0x05, 0x04, 0x60, 0x2e, 0x2a, 0x15, 0x05, 0x05, 0x60, 0x2e, 0x2d, 0xb8, 0x01, 0xaa, 0x36, 0x06, 0x2c, 0x2a, 0x15, 0x05, 0x04, 0x60, 0x2e, 0x2a, 0x15, 0x05, 0x05, 0x60, 0x2e, 0xb6, 0x01, 0xac, 0x36, 0x07, 0x2c, 0xb6, 0x00, 0xf2, 0x15, 0x06, 0x9f, 0x00, 0x05, 0x03, 0xac, 0x15, 0x06, 0x9a, 0x00, 0x0f, 0x2d, 0x03, 0x2f, 0x15, 0x07, 0x85, 0x94, 0x99, 0x00, 0x05, 0x03, 0xac, 0xa7, 0x02, 0xd3]
theorem W_Lc58 : sameFrom m_L_law.2.1 B_Lc58 4766 := sameFrom_of (by decide +kernel)
def t_Lc58 : List (Nat × Instr × Nat) := [(4766, .aload_n 1, 1), (4767, .aload_n 0, 1), (4768, .iload 5, 2), (4770, .iconst 1, 1), (4771, .iadd, 1), (4772, .iaload, 1), (4773, .aload_n 0, 1), (4774, .iload 5, 2), (4776, .iconst 2, 1), (4777, .iadd, 1), (4778, .iaload, 1), (4779, .aload_n 3, 1), (4780, .invokestatic 426, 3), (4783, .istore 6, 2), (4785, .aload_n 2, 1), (4786, .aload_n 0, 1), (4787, .iload 5, 2), (4789, .iconst 1, 1), (4790, .iadd, 1), (4791, .iaload, 1), (4792, .aload_n 0, 1), (4793, .iload 5, 2), (4795, .iconst 2, 1), (4796, .iadd, 1), (4797, .iaload, 1), (4798, .invokevirtual 428, 3), (4801, .istore 7, 2), (4803, .aload_n 2, 1), (4804, .invokevirtual 242, 3), (4807, .iload 6, 2), (4809, .if_icmp .eq 5, 3), (4812, .iconst 0, 1), (4813, .ireturn, 1), (4814, .iload 6, 2), (4816, .ifCond .ne 15, 3), (4819, .aload_n 3, 1), (4820, .iconst 0, 1), (4821, .laload, 1), (4822, .iload 7, 2), (4824, .i2l, 1), (4825, .lcmp, 1), (4826, .ifCond .eq 5, 3), (4829, .iconst 0, 1), (4830, .ireturn, 1), (4831, .goto 723, 3)]
set_option maxRecDepth 20000 in
theorem U_Lc58 : okT m_L_law.2.1 t_Lc58 = true := dSt [(0, .aload_n 1, 1), (1, .aload_n 0, 1), (2, .iload 5, 2), (4, .iconst 1, 1), (5, .iadd, 1), (6, .iaload, 1), (7, .aload_n 0, 1), (8, .iload 5, 2), (10, .iconst 2, 1), (11, .iadd, 1), (12, .iaload, 1), (13, .aload_n 3, 1), (14, .invokestatic 426, 3), (17, .istore 6, 2), (19, .aload_n 2, 1), (20, .aload_n 0, 1), (21, .iload 5, 2), (23, .iconst 1, 1), (24, .iadd, 1), (25, .iaload, 1), (26, .aload_n 0, 1), (27, .iload 5, 2), (29, .iconst 2, 1), (30, .iadd, 1), (31, .iaload, 1), (32, .invokevirtual 428, 3), (35, .istore 7, 2), (37, .aload_n 2, 1), (38, .invokevirtual 242, 3), (41, .iload 6, 2), (43, .if_icmp .eq 5, 3), (46, .iconst 0, 1), (47, .ireturn, 1), (48, .iload 6, 2), (50, .ifCond .ne 15, 3), (53, .aload_n 3, 1), (54, .iconst 0, 1), (55, .laload, 1), (56, .iload 7, 2), (58, .i2l, 1), (59, .lcmp, 1), (60, .ifCond .eq 5, 3), (63, .iconst 0, 1), (64, .ireturn, 1), (65, .goto 723, 3)] W_Lc58 (by decide +kernel) (by decide +kernel)
set_option maxRecDepth 20000 in
set_option maxHeartbeats 1000000 in
theorem LC_58 {G : xG} {d rc rs : Nat} {ex : Bool} {h : xH} {Q : xQ} {σ : St} {c0 : Int} {rr : Nat} {ss : Int} {l0 : Int} {d0 : UInt64} {i : Nat} (hL : G.2.2.2.2.2.1 < 2147483648) (hi : i + 10 ≤ G.2.2.2.2.2.1) (w : CW σ h) (wm : MX σ c0 rr ss h) (v : INV σ) (ho : h[143]? = some (cJ [l0])) (hod : h[144]? = some (cD [d0]))
    (M : ∀ (σ9 : St) (h9 : xH) (e9 : Bool) (c9 : Int) (r9 : Nat) (s9 : Int) (l9 : Int) (d9 : UInt64), INV σ9 → CW σ9 h9 → MX σ9 c9 r9 s9 h9 → h9[143]? = some (cJ [l9]) → h9[144]? = some (cD [d9]) → X G m_L_law (d + 10) rc rs e9 5554 [some (.ref 0), some (.ref 3), some (.ref 70), some (.ref 143), some (.ref 144), some (vi (i : Int)), none, none, none] [] h9 Q) : X G m_L_law (d + 10) (rc + 2) (rs + 12) ex 4766 [some (.ref 0), some (.ref 3), some (.ref 70), some (.ref 143), some (.ref 144), some (vi (i : Int)), none, none, none] [] h Q := by
  refine x_aload_n (dT U_Lc58 0 rfl) rfl ?_
  refine x_aload_n (dT U_Lc58 1 rfl) rfl ?_
  refine x_iload (dT U_Lc58 2 rfl) rfl ?_
  refine x_iconst (dT U_Lc58 3 rfl) ?_
  refine x_iadd (dT U_Lc58 4 rfl) ?_
  refine x_sld (i + 1) hL (dT U_Lc58 5 rfl) (by omega) (by omega) ?_
  refine x_aload_n (dT U_Lc58 6 rfl) rfl ?_
  refine x_iload (dT U_Lc58 7 rfl) rfl ?_
  refine x_iconst (dT U_Lc58 8 rfl) ?_
  refine x_iadd (dT U_Lc58 9 rfl) ?_
  refine x_sld (i + 2) hL (dT U_Lc58 10 rfl) (by omega) (by omega) ?_
  refine x_aload_n (dT U_Lc58 11 rfl) rfl ?_
  refine x_invokestaticT (rc' := rc) (rs' := rs) (rc2 := 0 + 2) (rs2 := 0 + 12) (As := [_, _, _, _]) (st := _) M_L_play K_L_426 (dT U_Lc58 12 rfl) rfl (by decide) rfl rfl (Nat.le_of_ble_eq_true rfl) rfl (by decide) (Nat.le_of_ble_eq_true rfl) (by omega) (by omega) ?_
  refine S_L_play w v (xr_s _) (xr_s _) ho (fun c1 => ?_) (fun c1 c2 => ?_) (fun c1 c2 i9 q9 h2 fc w2 z9 hz9 ez9 => ?_)
  · refine xRet_some ?_
    refine x_istore (ls' := [some (.ref _), some (.ref _), some (.ref _), some (.ref _), some (.ref _), some (vi _), some (vi _), none, none]) (dT U_Lc58 13 rfl) (by decide) rfl ?_
    refine x_aload_n (dT U_Lc58 14 rfl) rfl ?_
    refine x_aload_n (dT U_Lc58 15 rfl) rfl ?_
    refine x_iload (dT U_Lc58 16 rfl) rfl ?_
    refine x_iconst (dT U_Lc58 17 rfl) ?_
    refine x_iadd (dT U_Lc58 18 rfl) ?_
    refine x_sld (i + 1) hL (dT U_Lc58 19 rfl) (by omega) (by omega) ?_
    refine x_aload_n (dT U_Lc58 20 rfl) rfl ?_
    refine x_iload (dT U_Lc58 21 rfl) rfl ?_
    refine x_iconst (dT U_Lc58 22 rfl) ?_
    refine x_iadd (dT U_Lc58 23 rfl) ?_
    refine x_sld (i + 2) hL (dT U_Lc58 24 rfl) (by omega) (by omega) ?_
    refine x_invokevirtual (rc' := rc) (rs' := rs) (rc2 := 0) (rs2 := 0) (As := [_, _]) (st := _) M_X11_play K_L_428 (dT U_Lc58 25 rfl) rfl rfl (by decide) rfl rfl wm.c70 (Nat.le_of_ble_eq_true rfl) (by decide) rfl (Nat.le_of_ble_eq_true rfl) rfl (by decide) (Nat.le_of_ble_eq_true rfl) rfl rfl ?_
    refine S_X11_play (i9 := 0) wm v (xr_s _) (xr_s _) (fun m1 h3 z ag wx xz => ?_) (fun m1 m2 _ _ _ _ _ => absurd m1 c1) (fun m1 m2 _ _ _ _ _ => absurd m1 c1)
    refine xRet_some ?_
    refine x_istore (ls' := [some (.ref _), some (.ref _), some (.ref _), some (.ref _), some (.ref _), some (vi _), some (vi _), some (vi _), none]) (dT U_Lc58 26 rfl) (by decide) rfl ?_
    refine x_aload_n (dT U_Lc58 27 rfl) rfl ?_
    refine x_invokevirtual (rc' := rc) (rs' := rs) (rc2 := 0) (rs2 := 0) (As := []) (st := _) M_X11_thrown K_L_242 (dT U_Lc58 28 rfl) rfl rfl (by decide) rfl rfl wx.c70 (Nat.le_of_ble_eq_true rfl) (by decide) rfl (Nat.le_of_ble_eq_true rfl) rfl (by decide) (Nat.le_of_ble_eq_true rfl) rfl rfl ?_
    refine S_X11_thrown wx ?_
    refine xRet_some ?_
    refine x_iload (dT U_Lc58 29 rfl) rfl ?_
    refine x_icmp_eq (tgt := 4814) (dT U_Lc58 30 rfl) (by decide) (by unfold xr; omega) (by unfold xr; omega) (fun c4809 => ?_) (fun c4809 => (by exfalso; omega))
    refine x_iload (dT U_Lc58 33 rfl) rfl ?_
    refine x_if_nej (tgt := 4831) (dT U_Lc58 34 rfl) (by decide) (by decide) ?_
    refine x_goto (tgt := 5554) (dT U_Lc58 44 rfl) (by decide) ?_
    refine x_drop ?_ (M _ _ _ _ _ _ _ _ v (w.out ag (by omega)) wx (ag.get ho (by omega)) (ag.get hod (by omega)))
    repeat (first | exact trivial | refine ⟨rfl, ?_⟩ | refine ⟨trivial, ?_⟩)
  · refine xRet_some ?_
    refine x_istore (ls' := [some (.ref _), some (.ref _), some (.ref _), some (.ref _), some (.ref _), some (vi _), some (vi _), none, none]) (dT U_Lc58 13 rfl) (by decide) rfl ?_
    refine x_aload_n (dT U_Lc58 14 rfl) rfl ?_
    refine x_aload_n (dT U_Lc58 15 rfl) rfl ?_
    refine x_iload (dT U_Lc58 16 rfl) rfl ?_
    refine x_iconst (dT U_Lc58 17 rfl) ?_
    refine x_iadd (dT U_Lc58 18 rfl) ?_
    refine x_sld (i + 1) hL (dT U_Lc58 19 rfl) (by omega) (by omega) ?_
    refine x_aload_n (dT U_Lc58 20 rfl) rfl ?_
    refine x_iload (dT U_Lc58 21 rfl) rfl ?_
    refine x_iconst (dT U_Lc58 22 rfl) ?_
    refine x_iadd (dT U_Lc58 23 rfl) ?_
    refine x_sld (i + 2) hL (dT U_Lc58 24 rfl) (by omega) (by omega) ?_
    refine x_invokevirtual (rc' := rc) (rs' := rs) (rc2 := 0) (rs2 := 0) (As := [_, _]) (st := _) M_X11_play K_L_428 (dT U_Lc58 25 rfl) rfl rfl (by decide) rfl rfl wm.c70 (Nat.le_of_ble_eq_true rfl) (by decide) rfl (Nat.le_of_ble_eq_true rfl) rfl (by decide) (Nat.le_of_ble_eq_true rfl) rfl rfl ?_
    refine S_X11_play (i9 := 0) wm v (xr_s _) (xr_s _) (fun m1 _ _ _ _ _ => absurd c1 m1) (fun m1 m2 h3 z ag wx xz => ?_) (fun m1 m2 _ _ _ _ _ => absurd m2 c2)
    refine xRet_some ?_
    refine x_istore (ls' := [some (.ref _), some (.ref _), some (.ref _), some (.ref _), some (.ref _), some (vi _), some (vi _), some (vi _), none]) (dT U_Lc58 26 rfl) (by decide) rfl ?_
    refine x_aload_n (dT U_Lc58 27 rfl) rfl ?_
    refine x_invokevirtual (rc' := rc) (rs' := rs) (rc2 := 0) (rs2 := 0) (As := []) (st := _) M_X11_thrown K_L_242 (dT U_Lc58 28 rfl) rfl rfl (by decide) rfl rfl wx.c70 (Nat.le_of_ble_eq_true rfl) (by decide) rfl (Nat.le_of_ble_eq_true rfl) rfl (by decide) (Nat.le_of_ble_eq_true rfl) rfl rfl ?_
    refine S_X11_thrown wx ?_
    refine xRet_some ?_
    refine x_iload (dT U_Lc58 29 rfl) rfl ?_
    refine x_icmp_eq (tgt := 4814) (dT U_Lc58 30 rfl) (by decide) (by unfold xr; omega) (by unfold xr; omega) (fun c4809 => ?_) (fun c4809 => (by exfalso; omega))
    refine x_iload (dT U_Lc58 33 rfl) rfl ?_
    refine x_if_ne (tgt := 4831) (dT U_Lc58 34 rfl) (by decide) (by unfold xr; omega) (fun c4816 => ?_) (fun c4816 => (by exfalso; omega))
    refine x_goto (tgt := 5554) (dT U_Lc58 44 rfl) (by decide) ?_
    refine x_drop ?_ (M _ _ _ _ _ _ _ _ v (w.out ag (by omega)) wx (ag.get ho (by omega)) (ag.get hod (by omega)))
    repeat (first | exact trivial | refine ⟨rfl, ?_⟩ | refine ⟨trivial, ?_⟩)
  · refine xRet_some ?_
    have wmx := wm.out (h2 := (h2.set 143 (cJ [z9]))) (fun a ha => by rw [hset_fr (by omega)]; exact fc.2 a (by omega))
    refine x_istore (ls' := [some (.ref _), some (.ref _), some (.ref _), some (.ref _), some (.ref _), some (vi _), some (vi _), none, none]) (dT U_Lc58 13 rfl) (by decide) rfl ?_
    refine x_aload_n (dT U_Lc58 14 rfl) rfl ?_
    refine x_aload_n (dT U_Lc58 15 rfl) rfl ?_
    refine x_iload (dT U_Lc58 16 rfl) rfl ?_
    refine x_iconst (dT U_Lc58 17 rfl) ?_
    refine x_iadd (dT U_Lc58 18 rfl) ?_
    refine x_sld (i + 1) hL (dT U_Lc58 19 rfl) (by omega) (by omega) ?_
    refine x_aload_n (dT U_Lc58 20 rfl) rfl ?_
    refine x_iload (dT U_Lc58 21 rfl) rfl ?_
    refine x_iconst (dT U_Lc58 22 rfl) ?_
    refine x_iadd (dT U_Lc58 23 rfl) ?_
    refine x_sld (i + 2) hL (dT U_Lc58 24 rfl) (by omega) (by omega) ?_
    refine x_invokevirtual (rc' := rc) (rs' := rs) (rc2 := 0) (rs2 := 0) (As := [_, _]) (st := _) M_X11_play K_L_428 (dT U_Lc58 25 rfl) rfl rfl (by decide) rfl rfl wmx.c70 (Nat.le_of_ble_eq_true rfl) (by decide) rfl (Nat.le_of_ble_eq_true rfl) rfl (by decide) (Nat.le_of_ble_eq_true rfl) rfl rfl ?_
    refine S_X11_play (i9 := i9) wmx v (xr_s _) (xr_s _) (fun m1 _ _ _ _ _ => absurd c1 m1) (fun m1 m2 _ _ _ _ _ => absurd c2 m2) (fun m1 m2 h3 r3 s3 ag wx => ?_)
    refine xRet_some ?_
    rw [ez9]
    refine x_istore (ls' := [some (.ref _), some (.ref _), some (.ref _), some (.ref _), some (.ref _), some (vi _), some (vi _), some (vi _), none]) (dT U_Lc58 26 rfl) (by decide) rfl ?_
    refine x_aload_n (dT U_Lc58 27 rfl) rfl ?_
    refine x_invokevirtual (rc' := rc) (rs' := rs) (rc2 := 0) (rs2 := 0) (As := []) (st := _) M_X11_thrown K_L_242 (dT U_Lc58 28 rfl) rfl rfl (by decide) rfl rfl wx.c70 (Nat.le_of_ble_eq_true rfl) (by decide) rfl (Nat.le_of_ble_eq_true rfl) rfl (by decide) (Nat.le_of_ble_eq_true rfl) rfl rfl ?_
    refine S_X11_thrown wx ?_
    refine xRet_some ?_
    refine x_iload (dT U_Lc58 29 rfl) rfl ?_
    refine x_icmp_eq (tgt := 4814) (dT U_Lc58 30 rfl) (by decide) (by unfold xr; omega) (by unfold xr; omega) (fun c4809 => ?_) (fun c4809 => (by exfalso; omega))
    refine x_iload (dT U_Lc58 33 rfl) rfl ?_
    refine x_if_nen (tgt := 4831) (dT U_Lc58 34 rfl) (by decide) (by decide) ?_
    refine x_aload_n (dT U_Lc58 35 rfl) rfl ?_
    refine x_iconst (dT U_Lc58 36 rfl) ?_
    refine x_laload 0 (dT U_Lc58 37 rfl) (ag.get (hset_eq (fc.get ho (by omega))) (by omega)) (Nat.le_of_ble_eq_true rfl) rfl (Nat.le_of_ble_eq_true rfl) (Nat.le_of_ble_eq_true rfl) ?_
    refine x_iload (dT U_Lc58 38 rfl) rfl ?_
    refine x_i2l (dT U_Lc58 39 rfl) hz9 ?_
    refine x_lcmp (dT U_Lc58 40 rfl) (xr_l hz9) (xr_l hz9) ?_
    refine x_if_eqj (tgt := 4831) (dT U_Lc58 41 rfl) (by decide) (xcmp_rf _) ?_
    refine x_goto (tgt := 5554) (dT U_Lc58 44 rfl) (by decide) ?_
    refine x_drop ?_ (M _ _ _ _ _ _ _ _ (IV_play v c1 c2 q9) ((w2.out ((Ag.rf 143 143 h2).set (by omega)) (by omega)).out ag (by omega)) wx (ag.get (hset_eq (fc.get ho (by omega))) (by omega)) (ag.get (hset_ne (by omega) (fc.get hod (by omega))) (by omega)))
    repeat (first | exact trivial | refine ⟨rfl, ?_⟩ | refine ⟨trivial, ?_⟩)

def B_Lc59 : ByteArray := .mk #[0x2b, 0x2a, 0x15, 0x05, 0x04, 0x60, 0x2e, 0x2a, 0x15, 0x05, 0x05, 0x60, 0x2e, 0x2d, 0xb8, 0x01, 0xad, 0x36, 0x06, 0x2c, 0x2a, 0x15, 0x05, 0x04, 0x60, 0x2e, 0x2a, 0x15, 0x05, 0x05, 0x60, 0x2e, 0xb6, 0x01, 0xaf, 0x36, 0x07, 0x2c, 0xb6, 0x00, 0xf2, 0x15, 0x06, 0x9f, 0x00, 0x05, 0x03, 0xac, 0x15, 0x06, 0x9a, 0x00, 0x0f, 0x2d, 0x03, 0x2f, 0x15, 0x07, 0x85, 0x94, 0x99, 0x00, 0x05, 0x03, 0xac, 0xa7, 0x02, 0x8f]
theorem W_Lc59 : sameFrom m_L_law.2.1 B_Lc59 4834 := sameFrom_of (by decide +kernel)
def t_Lc59 : List (Nat × Instr × Nat) := [(4834, .aload_n 1, 1), (4835, .aload_n 0, 1), (4836, .iload 5, 2), (4838, .iconst 1, 1), (4839, .iadd, 1), (4840, .iaload, 1), (4841, .aload_n 0, 1), (4842, .iload 5, 2), (4844, .iconst 2, 1), (4845, .iadd, 1), (4846, .iaload, 1), (4847, .aload_n 3, 1), (4848, .invokestatic 429, 3), (4851, .istore 6, 2), (4853, .aload_n 2, 1), (4854, .aload_n 0, 1), (4855, .iload 5, 2), (4857, .iconst 1, 1), (4858, .iadd, 1), (4859, .iaload, 1), (4860, .aload_n 0, 1), (4861, .iload 5, 2), (4863, .iconst 2, 1), (4864, .iadd, 1), (4865, .iaload, 1), (4866, .invokevirtual 431, 3), (4869, .istore 7, 2), (4871, .aload_n 2, 1), (4872, .invokevirtual 242, 3), (4875, .iload 6, 2), (4877, .if_icmp .eq 5, 3), (4880, .iconst 0, 1), (4881, .ireturn, 1), (4882, .iload 6, 2), (4884, .ifCond .ne 15, 3), (4887, .aload_n 3, 1), (4888, .iconst 0, 1), (4889, .laload, 1), (4890, .iload 7, 2), (4892, .i2l, 1), (4893, .lcmp, 1), (4894, .ifCond .eq 5, 3), (4897, .iconst 0, 1), (4898, .ireturn, 1), (4899, .goto 655, 3)]
set_option maxRecDepth 20000 in
theorem U_Lc59 : okT m_L_law.2.1 t_Lc59 = true := dSt [(0, .aload_n 1, 1), (1, .aload_n 0, 1), (2, .iload 5, 2), (4, .iconst 1, 1), (5, .iadd, 1), (6, .iaload, 1), (7, .aload_n 0, 1), (8, .iload 5, 2), (10, .iconst 2, 1), (11, .iadd, 1), (12, .iaload, 1), (13, .aload_n 3, 1), (14, .invokestatic 429, 3), (17, .istore 6, 2), (19, .aload_n 2, 1), (20, .aload_n 0, 1), (21, .iload 5, 2), (23, .iconst 1, 1), (24, .iadd, 1), (25, .iaload, 1), (26, .aload_n 0, 1), (27, .iload 5, 2), (29, .iconst 2, 1), (30, .iadd, 1), (31, .iaload, 1), (32, .invokevirtual 431, 3), (35, .istore 7, 2), (37, .aload_n 2, 1), (38, .invokevirtual 242, 3), (41, .iload 6, 2), (43, .if_icmp .eq 5, 3), (46, .iconst 0, 1), (47, .ireturn, 1), (48, .iload 6, 2), (50, .ifCond .ne 15, 3), (53, .aload_n 3, 1), (54, .iconst 0, 1), (55, .laload, 1), (56, .iload 7, 2), (58, .i2l, 1), (59, .lcmp, 1), (60, .ifCond .eq 5, 3), (63, .iconst 0, 1), (64, .ireturn, 1), (65, .goto 655, 3)] W_Lc59 (by decide +kernel) (by decide +kernel)
set_option maxRecDepth 20000 in
set_option maxHeartbeats 1000000 in
theorem LC_59 {G : xG} {d rc rs : Nat} {ex : Bool} {h : xH} {Q : xQ} {σ : St} {c0 : Int} {rr : Nat} {ss : Int} {l0 : Int} {d0 : UInt64} {i : Nat} (hL : G.2.2.2.2.2.1 < 2147483648) (hi : i + 10 ≤ G.2.2.2.2.2.1) (w : CW σ h) (wm : MX σ c0 rr ss h) (v : INV σ) (ho : h[143]? = some (cJ [l0])) (hod : h[144]? = some (cD [d0]))
    (M : ∀ (σ9 : St) (h9 : xH) (e9 : Bool) (c9 : Int) (r9 : Nat) (s9 : Int) (l9 : Int) (d9 : UInt64), INV σ9 → CW σ9 h9 → MX σ9 c9 r9 s9 h9 → h9[143]? = some (cJ [l9]) → h9[144]? = some (cD [d9]) → X G m_L_law (d + 10) rc rs e9 5554 [some (.ref 0), some (.ref 3), some (.ref 70), some (.ref 143), some (.ref 144), some (vi (i : Int)), none, none, none] [] h9 Q) : X G m_L_law (d + 10) (rc + 4) (rs + 24) ex 4834 [some (.ref 0), some (.ref 3), some (.ref 70), some (.ref 143), some (.ref 144), some (vi (i : Int)), none, none, none] [] h Q := by
  refine x_aload_n (dT U_Lc59 0 rfl) rfl ?_
  refine x_aload_n (dT U_Lc59 1 rfl) rfl ?_
  refine x_iload (dT U_Lc59 2 rfl) rfl ?_
  refine x_iconst (dT U_Lc59 3 rfl) ?_
  refine x_iadd (dT U_Lc59 4 rfl) ?_
  refine x_sld (i + 1) hL (dT U_Lc59 5 rfl) (by omega) (by omega) ?_
  refine x_aload_n (dT U_Lc59 6 rfl) rfl ?_
  refine x_iload (dT U_Lc59 7 rfl) rfl ?_
  refine x_iconst (dT U_Lc59 8 rfl) ?_
  refine x_iadd (dT U_Lc59 9 rfl) ?_
  refine x_sld (i + 2) hL (dT U_Lc59 10 rfl) (by omega) (by omega) ?_
  refine x_aload_n (dT U_Lc59 11 rfl) rfl ?_
  refine x_invokestaticT (rc' := rc) (rs' := rs) (rc2 := 0 + 4) (rs2 := 0 + 24) (As := [_, _, _, _]) (st := _) M_L_send K_L_429 (dT U_Lc59 12 rfl) rfl (by decide) rfl rfl (Nat.le_of_ble_eq_true rfl) rfl (by decide) (Nat.le_of_ble_eq_true rfl) (by omega) (by omega) ?_
  refine S_L_send w v (xr_s _) (xr_s _) ho (fun c1 => ?_) (fun c1 c2 => ?_) (fun c1 c2 c3 => ?_) (fun c1 c2 c3 i9 q9 h2 fc w2 z9 hz9 ez9 => ?_)
  · refine xRet_some ?_
    refine x_istore (ls' := [some (.ref _), some (.ref _), some (.ref _), some (.ref _), some (.ref _), some (vi _), some (vi _), none, none]) (dT U_Lc59 13 rfl) (by decide) rfl ?_
    refine x_aload_n (dT U_Lc59 14 rfl) rfl ?_
    refine x_aload_n (dT U_Lc59 15 rfl) rfl ?_
    refine x_iload (dT U_Lc59 16 rfl) rfl ?_
    refine x_iconst (dT U_Lc59 17 rfl) ?_
    refine x_iadd (dT U_Lc59 18 rfl) ?_
    refine x_sld (i + 1) hL (dT U_Lc59 19 rfl) (by omega) (by omega) ?_
    refine x_aload_n (dT U_Lc59 20 rfl) rfl ?_
    refine x_iload (dT U_Lc59 21 rfl) rfl ?_
    refine x_iconst (dT U_Lc59 22 rfl) ?_
    refine x_iadd (dT U_Lc59 23 rfl) ?_
    refine x_sld (i + 2) hL (dT U_Lc59 24 rfl) (by omega) (by omega) ?_
    refine x_invokevirtual (rc' := rc) (rs' := rs) (rc2 := 0) (rs2 := 0) (As := [_, _]) (st := _) M_X11_send K_L_431 (dT U_Lc59 25 rfl) rfl rfl (by decide) rfl rfl wm.c70 (Nat.le_of_ble_eq_true rfl) (by decide) rfl (Nat.le_of_ble_eq_true rfl) rfl (by decide) (Nat.le_of_ble_eq_true rfl) rfl rfl ?_
    refine S_X11_send (i9 := 0) wm v (xr_s _) (xr_s _) (fun m1 h3 z ag wx xz => ?_) (fun m1 m2 _ _ _ _ _ => absurd m1 c1) (fun m1 m2 m3 _ _ _ _ _ => absurd m1 c1) (fun m1 m2 m3 _ _ _ _ _ => absurd m1 c1)
    refine xRet_some ?_
    refine x_istore (ls' := [some (.ref _), some (.ref _), some (.ref _), some (.ref _), some (.ref _), some (vi _), some (vi _), some (vi _), none]) (dT U_Lc59 26 rfl) (by decide) rfl ?_
    refine x_aload_n (dT U_Lc59 27 rfl) rfl ?_
    refine x_invokevirtual (rc' := rc) (rs' := rs) (rc2 := 0) (rs2 := 0) (As := []) (st := _) M_X11_thrown K_L_242 (dT U_Lc59 28 rfl) rfl rfl (by decide) rfl rfl wx.c70 (Nat.le_of_ble_eq_true rfl) (by decide) rfl (Nat.le_of_ble_eq_true rfl) rfl (by decide) (Nat.le_of_ble_eq_true rfl) rfl rfl ?_
    refine S_X11_thrown wx ?_
    refine xRet_some ?_
    refine x_iload (dT U_Lc59 29 rfl) rfl ?_
    refine x_icmp_eq (tgt := 4882) (dT U_Lc59 30 rfl) (by decide) (by unfold xr; omega) (by unfold xr; omega) (fun c4877 => ?_) (fun c4877 => (by exfalso; omega))
    refine x_iload (dT U_Lc59 33 rfl) rfl ?_
    refine x_if_nej (tgt := 4899) (dT U_Lc59 34 rfl) (by decide) (by decide) ?_
    refine x_goto (tgt := 5554) (dT U_Lc59 44 rfl) (by decide) ?_
    refine x_drop ?_ (M _ _ _ _ _ _ _ _ v (w.out ag (by omega)) wx (ag.get ho (by omega)) (ag.get hod (by omega)))
    repeat (first | exact trivial | refine ⟨rfl, ?_⟩ | refine ⟨trivial, ?_⟩)
  · refine xRet_some ?_
    refine x_istore (ls' := [some (.ref _), some (.ref _), some (.ref _), some (.ref _), some (.ref _), some (vi _), some (vi _), none, none]) (dT U_Lc59 13 rfl) (by decide) rfl ?_
    refine x_aload_n (dT U_Lc59 14 rfl) rfl ?_
    refine x_aload_n (dT U_Lc59 15 rfl) rfl ?_
    refine x_iload (dT U_Lc59 16 rfl) rfl ?_
    refine x_iconst (dT U_Lc59 17 rfl) ?_
    refine x_iadd (dT U_Lc59 18 rfl) ?_
    refine x_sld (i + 1) hL (dT U_Lc59 19 rfl) (by omega) (by omega) ?_
    refine x_aload_n (dT U_Lc59 20 rfl) rfl ?_
    refine x_iload (dT U_Lc59 21 rfl) rfl ?_
    refine x_iconst (dT U_Lc59 22 rfl) ?_
    refine x_iadd (dT U_Lc59 23 rfl) ?_
    refine x_sld (i + 2) hL (dT U_Lc59 24 rfl) (by omega) (by omega) ?_
    refine x_invokevirtual (rc' := rc) (rs' := rs) (rc2 := 0) (rs2 := 0) (As := [_, _]) (st := _) M_X11_send K_L_431 (dT U_Lc59 25 rfl) rfl rfl (by decide) rfl rfl wm.c70 (Nat.le_of_ble_eq_true rfl) (by decide) rfl (Nat.le_of_ble_eq_true rfl) rfl (by decide) (Nat.le_of_ble_eq_true rfl) rfl rfl ?_
    refine S_X11_send (i9 := 0) wm v (xr_s _) (xr_s _) (fun m1 _ _ _ _ _ => absurd c1 m1) (fun m1 m2 h3 z ag wx xz => ?_) (fun m1 m2 m3 _ _ _ _ _ => absurd m2 c2) (fun m1 m2 m3 _ _ _ _ _ => absurd m2 c2)
    refine xRet_some ?_
    refine x_istore (ls' := [some (.ref _), some (.ref _), some (.ref _), some (.ref _), some (.ref _), some (vi _), some (vi _), some (vi _), none]) (dT U_Lc59 26 rfl) (by decide) rfl ?_
    refine x_aload_n (dT U_Lc59 27 rfl) rfl ?_
    refine x_invokevirtual (rc' := rc) (rs' := rs) (rc2 := 0) (rs2 := 0) (As := []) (st := _) M_X11_thrown K_L_242 (dT U_Lc59 28 rfl) rfl rfl (by decide) rfl rfl wx.c70 (Nat.le_of_ble_eq_true rfl) (by decide) rfl (Nat.le_of_ble_eq_true rfl) rfl (by decide) (Nat.le_of_ble_eq_true rfl) rfl rfl ?_
    refine S_X11_thrown wx ?_
    refine xRet_some ?_
    refine x_iload (dT U_Lc59 29 rfl) rfl ?_
    refine x_icmp_eq (tgt := 4882) (dT U_Lc59 30 rfl) (by decide) (by unfold xr; omega) (by unfold xr; omega) (fun c4877 => ?_) (fun c4877 => (by exfalso; omega))
    refine x_iload (dT U_Lc59 33 rfl) rfl ?_
    refine x_if_ne (tgt := 4899) (dT U_Lc59 34 rfl) (by decide) (by unfold xr; omega) (fun c4884 => ?_) (fun c4884 => (by exfalso; omega))
    refine x_goto (tgt := 5554) (dT U_Lc59 44 rfl) (by decide) ?_
    refine x_drop ?_ (M _ _ _ _ _ _ _ _ v (w.out ag (by omega)) wx (ag.get ho (by omega)) (ag.get hod (by omega)))
    repeat (first | exact trivial | refine ⟨rfl, ?_⟩ | refine ⟨trivial, ?_⟩)
  · refine xRet_some ?_
    refine x_istore (ls' := [some (.ref _), some (.ref _), some (.ref _), some (.ref _), some (.ref _), some (vi _), some (vi _), none, none]) (dT U_Lc59 13 rfl) (by decide) rfl ?_
    refine x_aload_n (dT U_Lc59 14 rfl) rfl ?_
    refine x_aload_n (dT U_Lc59 15 rfl) rfl ?_
    refine x_iload (dT U_Lc59 16 rfl) rfl ?_
    refine x_iconst (dT U_Lc59 17 rfl) ?_
    refine x_iadd (dT U_Lc59 18 rfl) ?_
    refine x_sld (i + 1) hL (dT U_Lc59 19 rfl) (by omega) (by omega) ?_
    refine x_aload_n (dT U_Lc59 20 rfl) rfl ?_
    refine x_iload (dT U_Lc59 21 rfl) rfl ?_
    refine x_iconst (dT U_Lc59 22 rfl) ?_
    refine x_iadd (dT U_Lc59 23 rfl) ?_
    refine x_sld (i + 2) hL (dT U_Lc59 24 rfl) (by omega) (by omega) ?_
    refine x_invokevirtual (rc' := rc) (rs' := rs) (rc2 := 0) (rs2 := 0) (As := [_, _]) (st := _) M_X11_send K_L_431 (dT U_Lc59 25 rfl) rfl rfl (by decide) rfl rfl wm.c70 (Nat.le_of_ble_eq_true rfl) (by decide) rfl (Nat.le_of_ble_eq_true rfl) rfl (by decide) (Nat.le_of_ble_eq_true rfl) rfl rfl ?_
    refine S_X11_send (i9 := 0) wm v (xr_s _) (xr_s _) (fun m1 _ _ _ _ _ => absurd c1 m1) (fun m1 m2 _ _ _ _ _ => absurd c2 m2) (fun m1 m2 m3 h3 z ag wx xz => ?_) (fun m1 m2 m3 _ _ _ _ _ => absurd m3 c3)
    refine xRet_some ?_
    refine x_istore (ls' := [some (.ref _), some (.ref _), some (.ref _), some (.ref _), some (.ref _), some (vi _), some (vi _), some (vi _), none]) (dT U_Lc59 26 rfl) (by decide) rfl ?_
    refine x_aload_n (dT U_Lc59 27 rfl) rfl ?_
    refine x_invokevirtual (rc' := rc) (rs' := rs) (rc2 := 0) (rs2 := 0) (As := []) (st := _) M_X11_thrown K_L_242 (dT U_Lc59 28 rfl) rfl rfl (by decide) rfl rfl wx.c70 (Nat.le_of_ble_eq_true rfl) (by decide) rfl (Nat.le_of_ble_eq_true rfl) rfl (by decide) (Nat.le_of_ble_eq_true rfl) rfl rfl ?_
    refine S_X11_thrown wx ?_
    refine xRet_some ?_
    refine x_iload (dT U_Lc59 29 rfl) rfl ?_
    refine x_icmp_eq (tgt := 4882) (dT U_Lc59 30 rfl) (by decide) (by unfold xr; omega) (by unfold xr; omega) (fun c4877 => ?_) (fun c4877 => (by exfalso; omega))
    refine x_iload (dT U_Lc59 33 rfl) rfl ?_
    refine x_if_ne (tgt := 4899) (dT U_Lc59 34 rfl) (by decide) (by unfold xr; omega) (fun c4884 => ?_) (fun c4884 => (by exfalso; omega))
    refine x_goto (tgt := 5554) (dT U_Lc59 44 rfl) (by decide) ?_
    refine x_drop ?_ (M _ _ _ _ _ _ _ _ v (w.out ag (by omega)) wx (ag.get ho (by omega)) (ag.get hod (by omega)))
    repeat (first | exact trivial | refine ⟨rfl, ?_⟩ | refine ⟨trivial, ?_⟩)
  · refine xRet_some ?_
    have wmx := wm.out (h2 := (h2.set 143 (cJ [z9]))) (fun a ha => by rw [hset_fr (by omega)]; exact fc.2 a (by omega))
    refine x_istore (ls' := [some (.ref _), some (.ref _), some (.ref _), some (.ref _), some (.ref _), some (vi _), some (vi _), none, none]) (dT U_Lc59 13 rfl) (by decide) rfl ?_
    refine x_aload_n (dT U_Lc59 14 rfl) rfl ?_
    refine x_aload_n (dT U_Lc59 15 rfl) rfl ?_
    refine x_iload (dT U_Lc59 16 rfl) rfl ?_
    refine x_iconst (dT U_Lc59 17 rfl) ?_
    refine x_iadd (dT U_Lc59 18 rfl) ?_
    refine x_sld (i + 1) hL (dT U_Lc59 19 rfl) (by omega) (by omega) ?_
    refine x_aload_n (dT U_Lc59 20 rfl) rfl ?_
    refine x_iload (dT U_Lc59 21 rfl) rfl ?_
    refine x_iconst (dT U_Lc59 22 rfl) ?_
    refine x_iadd (dT U_Lc59 23 rfl) ?_
    refine x_sld (i + 2) hL (dT U_Lc59 24 rfl) (by omega) (by omega) ?_
    refine x_invokevirtual (rc' := rc) (rs' := rs) (rc2 := 0) (rs2 := 0) (As := [_, _]) (st := _) M_X11_send K_L_431 (dT U_Lc59 25 rfl) rfl rfl (by decide) rfl rfl wmx.c70 (Nat.le_of_ble_eq_true rfl) (by decide) rfl (Nat.le_of_ble_eq_true rfl) rfl (by decide) (Nat.le_of_ble_eq_true rfl) rfl rfl ?_
    refine S_X11_send (i9 := i9) wmx v (xr_s _) (xr_s _) (fun m1 _ _ _ _ _ => absurd c1 m1) (fun m1 m2 _ _ _ _ _ => absurd c2 m2) (fun m1 m2 m3 _ _ _ _ _ => absurd c3 m3) (fun m1 m2 m3 h3 r3 s3 ag wx => ?_)
    refine xRet_some ?_
    rw [ez9]
    refine x_istore (ls' := [some (.ref _), some (.ref _), some (.ref _), some (.ref _), some (.ref _), some (vi _), some (vi _), some (vi _), none]) (dT U_Lc59 26 rfl) (by decide) rfl ?_
    refine x_aload_n (dT U_Lc59 27 rfl) rfl ?_
    refine x_invokevirtual (rc' := rc) (rs' := rs) (rc2 := 0) (rs2 := 0) (As := []) (st := _) M_X11_thrown K_L_242 (dT U_Lc59 28 rfl) rfl rfl (by decide) rfl rfl wx.c70 (Nat.le_of_ble_eq_true rfl) (by decide) rfl (Nat.le_of_ble_eq_true rfl) rfl (by decide) (Nat.le_of_ble_eq_true rfl) rfl rfl ?_
    refine S_X11_thrown wx ?_
    refine xRet_some ?_
    refine x_iload (dT U_Lc59 29 rfl) rfl ?_
    refine x_icmp_eq (tgt := 4882) (dT U_Lc59 30 rfl) (by decide) (by unfold xr; omega) (by unfold xr; omega) (fun c4877 => ?_) (fun c4877 => (by exfalso; omega))
    refine x_iload (dT U_Lc59 33 rfl) rfl ?_
    refine x_if_nen (tgt := 4899) (dT U_Lc59 34 rfl) (by decide) (by decide) ?_
    refine x_aload_n (dT U_Lc59 35 rfl) rfl ?_
    refine x_iconst (dT U_Lc59 36 rfl) ?_
    refine x_laload 0 (dT U_Lc59 37 rfl) (ag.get (hset_eq (fc.get ho (by omega))) (by omega)) (Nat.le_of_ble_eq_true rfl) rfl (Nat.le_of_ble_eq_true rfl) (Nat.le_of_ble_eq_true rfl) ?_
    refine x_iload (dT U_Lc59 38 rfl) rfl ?_
    refine x_i2l (dT U_Lc59 39 rfl) hz9 ?_
    refine x_lcmp (dT U_Lc59 40 rfl) (xr_l hz9) (xr_l hz9) ?_
    refine x_if_eqj (tgt := 4899) (dT U_Lc59 41 rfl) (by decide) (xcmp_rf _) ?_
    refine x_goto (tgt := 5554) (dT U_Lc59 44 rfl) (by decide) ?_
    refine x_drop ?_ (M _ _ _ _ _ _ _ _ (IV_send v c1 c2 c3 q9) ((w2.out ((Ag.rf 143 143 h2).set (by omega)) (by omega)).out ag (by omega)) wx (ag.get (hset_eq (fc.get ho (by omega))) (by omega)) (ag.get (hset_ne (by omega) (fc.get hod (by omega))) (by omega)))
    repeat (first | exact trivial | refine ⟨rfl, ?_⟩ | refine ⟨trivial, ?_⟩)

def B_Lc60 : ByteArray := .mk #[0x2b, 0x2a, 0x15, 0x05, 0x04, 0x60, 0x2e, 0x2d, 0xb8, 0x01, 0xb0, 0x36, 0x06, 0x2c, 0x2a, 0x15, 0x05, 0x04, 0x60, 0x2e, 0xb6, 0x01, 0xb2, 0x36, 0x07, 0x2c, 0xb6, 0x00, 0xf2, 0x15, 0x06, 0x9f, 0x00, 0x05, 0x03, 0xac, 0x15, 0x06, 0x9a, 0x00, 0x0f, 0x2d, 0x03, 0x2f, 0x15, 0x07, 0x85, 0x94, 0x99, 0x00, 0x05, 0x03, 0xac, 0xa7, 0x02, 0x57]
theorem W_Lc60 : sameFrom m_L_law.2.1 B_Lc60 4902 := sameFrom_of (by decide +kernel)
def t_Lc60 : List (Nat × Instr × Nat) := [(4902, .aload_n 1, 1), (4903, .aload_n 0, 1), (4904, .iload 5, 2), (4906, .iconst 1, 1), (4907, .iadd, 1), (4908, .iaload, 1), (4909, .aload_n 3, 1), (4910, .invokestatic 432, 3), (4913, .istore 6, 2), (4915, .aload_n 2, 1), (4916, .aload_n 0, 1), (4917, .iload 5, 2), (4919, .iconst 1, 1), (4920, .iadd, 1), (4921, .iaload, 1), (4922, .invokevirtual 434, 3), (4925, .istore 7, 2), (4927, .aload_n 2, 1), (4928, .invokevirtual 242, 3), (4931, .iload 6, 2), (4933, .if_icmp .eq 5, 3), (4936, .iconst 0, 1), (4937, .ireturn, 1), (4938, .iload 6, 2), (4940, .ifCond .ne 15, 3), (4943, .aload_n 3, 1), (4944, .iconst 0, 1), (4945, .laload, 1), (4946, .iload 7, 2), (4948, .i2l, 1), (4949, .lcmp, 1), (4950, .ifCond .eq 5, 3), (4953, .iconst 0, 1), (4954, .ireturn, 1), (4955, .goto 599, 3)]
set_option maxRecDepth 20000 in
theorem U_Lc60 : okT m_L_law.2.1 t_Lc60 = true := dSt [(0, .aload_n 1, 1), (1, .aload_n 0, 1), (2, .iload 5, 2), (4, .iconst 1, 1), (5, .iadd, 1), (6, .iaload, 1), (7, .aload_n 3, 1), (8, .invokestatic 432, 3), (11, .istore 6, 2), (13, .aload_n 2, 1), (14, .aload_n 0, 1), (15, .iload 5, 2), (17, .iconst 1, 1), (18, .iadd, 1), (19, .iaload, 1), (20, .invokevirtual 434, 3), (23, .istore 7, 2), (25, .aload_n 2, 1), (26, .invokevirtual 242, 3), (29, .iload 6, 2), (31, .if_icmp .eq 5, 3), (34, .iconst 0, 1), (35, .ireturn, 1), (36, .iload 6, 2), (38, .ifCond .ne 15, 3), (41, .aload_n 3, 1), (42, .iconst 0, 1), (43, .laload, 1), (44, .iload 7, 2), (46, .i2l, 1), (47, .lcmp, 1), (48, .ifCond .eq 5, 3), (51, .iconst 0, 1), (52, .ireturn, 1), (53, .goto 599, 3)] W_Lc60 (by decide +kernel) (by decide +kernel)
set_option maxRecDepth 20000 in
set_option maxHeartbeats 1000000 in
theorem LC_60 {G : xG} {d rc rs : Nat} {ex : Bool} {h : xH} {Q : xQ} {σ : St} {c0 : Int} {rr : Nat} {ss : Int} {l0 : Int} {d0 : UInt64} {i : Nat} (hL : G.2.2.2.2.2.1 < 2147483648) (hi : i + 10 ≤ G.2.2.2.2.2.1) (w : CW σ h) (wm : MX σ c0 rr ss h) (v : INV σ) (ho : h[143]? = some (cJ [l0])) (hod : h[144]? = some (cD [d0]))
    (M : ∀ (σ9 : St) (h9 : xH) (e9 : Bool) (c9 : Int) (r9 : Nat) (s9 : Int) (l9 : Int) (d9 : UInt64), INV σ9 → CW σ9 h9 → MX σ9 c9 r9 s9 h9 → h9[143]? = some (cJ [l9]) → h9[144]? = some (cD [d9]) → X G m_L_law (d + 10) rc rs e9 5554 [some (.ref 0), some (.ref 3), some (.ref 70), some (.ref 143), some (.ref 144), some (vi (i : Int)), none, none, none] [] h9 Q) : X G m_L_law (d + 10) (rc + 2) (rs + 12) ex 4902 [some (.ref 0), some (.ref 3), some (.ref 70), some (.ref 143), some (.ref 144), some (vi (i : Int)), none, none, none] [] h Q := by
  refine x_aload_n (dT U_Lc60 0 rfl) rfl ?_
  refine x_aload_n (dT U_Lc60 1 rfl) rfl ?_
  refine x_iload (dT U_Lc60 2 rfl) rfl ?_
  refine x_iconst (dT U_Lc60 3 rfl) ?_
  refine x_iadd (dT U_Lc60 4 rfl) ?_
  refine x_sld (i + 1) hL (dT U_Lc60 5 rfl) (by omega) (by omega) ?_
  refine x_aload_n (dT U_Lc60 6 rfl) rfl ?_
  refine x_invokestaticT (rc' := rc) (rs' := rs) (rc2 := 0 + 2) (rs2 := 0 + 12) (As := [_, _, _]) (st := _) M_L_draw K_L_432 (dT U_Lc60 7 rfl) rfl (by decide) rfl rfl (Nat.le_of_ble_eq_true rfl) rfl (by decide) (Nat.le_of_ble_eq_true rfl) (by omega) (by omega) ?_
  refine S_L_draw w v (xr_s _) ho (fun c1 => ?_) (fun c1 c2 => ?_) (fun c1 c2 h2 fc w2 z9 hz9 ez9 => ?_)
  · refine xRet_some ?_
    refine x_istore (ls' := [some (.ref _), some (.ref _), some (.ref _), some (.ref _), some (.ref _), some (vi _), some (vi _), none, none]) (dT U_Lc60 8 rfl) (by decide) rfl ?_
    refine x_aload_n (dT U_Lc60 9 rfl) rfl ?_
    refine x_aload_n (dT U_Lc60 10 rfl) rfl ?_
    refine x_iload (dT U_Lc60 11 rfl) rfl ?_
    refine x_iconst (dT U_Lc60 12 rfl) ?_
    refine x_iadd (dT U_Lc60 13 rfl) ?_
    refine x_sld (i + 1) hL (dT U_Lc60 14 rfl) (by omega) (by omega) ?_
    refine x_invokevirtual (rc' := rc) (rs' := rs) (rc2 := 0) (rs2 := 0) (As := [_]) (st := _) M_X11_draw K_L_434 (dT U_Lc60 15 rfl) rfl rfl (by decide) rfl rfl wm.c70 (Nat.le_of_ble_eq_true rfl) (by decide) rfl (Nat.le_of_ble_eq_true rfl) rfl (by decide) (Nat.le_of_ble_eq_true rfl) rfl rfl ?_
    refine S_X11_draw wm v (xr_s _) (fun m1 h3 z ag wx xz => ?_) (fun m1 m2 _ _ _ _ _ => absurd m1 c1) (fun m1 m2 _ _ _ _ _ => absurd m1 c1)
    refine xRet_some ?_
    refine x_istore (ls' := [some (.ref _), some (.ref _), some (.ref _), some (.ref _), some (.ref _), some (vi _), some (vi _), some (vi _), none]) (dT U_Lc60 16 rfl) (by decide) rfl ?_
    refine x_aload_n (dT U_Lc60 17 rfl) rfl ?_
    refine x_invokevirtual (rc' := rc) (rs' := rs) (rc2 := 0) (rs2 := 0) (As := []) (st := _) M_X11_thrown K_L_242 (dT U_Lc60 18 rfl) rfl rfl (by decide) rfl rfl wx.c70 (Nat.le_of_ble_eq_true rfl) (by decide) rfl (Nat.le_of_ble_eq_true rfl) rfl (by decide) (Nat.le_of_ble_eq_true rfl) rfl rfl ?_
    refine S_X11_thrown wx ?_
    refine xRet_some ?_
    refine x_iload (dT U_Lc60 19 rfl) rfl ?_
    refine x_icmp_eq (tgt := 4938) (dT U_Lc60 20 rfl) (by decide) (by unfold xr; omega) (by unfold xr; omega) (fun c4933 => ?_) (fun c4933 => (by exfalso; omega))
    refine x_iload (dT U_Lc60 23 rfl) rfl ?_
    refine x_if_nej (tgt := 4955) (dT U_Lc60 24 rfl) (by decide) (by decide) ?_
    refine x_goto (tgt := 5554) (dT U_Lc60 34 rfl) (by decide) ?_
    refine x_drop ?_ (M _ _ _ _ _ _ _ _ v (w.out ag (by omega)) wx (ag.get ho (by omega)) (ag.get hod (by omega)))
    repeat (first | exact trivial | refine ⟨rfl, ?_⟩ | refine ⟨trivial, ?_⟩)
  · refine xRet_some ?_
    refine x_istore (ls' := [some (.ref _), some (.ref _), some (.ref _), some (.ref _), some (.ref _), some (vi _), some (vi _), none, none]) (dT U_Lc60 8 rfl) (by decide) rfl ?_
    refine x_aload_n (dT U_Lc60 9 rfl) rfl ?_
    refine x_aload_n (dT U_Lc60 10 rfl) rfl ?_
    refine x_iload (dT U_Lc60 11 rfl) rfl ?_
    refine x_iconst (dT U_Lc60 12 rfl) ?_
    refine x_iadd (dT U_Lc60 13 rfl) ?_
    refine x_sld (i + 1) hL (dT U_Lc60 14 rfl) (by omega) (by omega) ?_
    refine x_invokevirtual (rc' := rc) (rs' := rs) (rc2 := 0) (rs2 := 0) (As := [_]) (st := _) M_X11_draw K_L_434 (dT U_Lc60 15 rfl) rfl rfl (by decide) rfl rfl wm.c70 (Nat.le_of_ble_eq_true rfl) (by decide) rfl (Nat.le_of_ble_eq_true rfl) rfl (by decide) (Nat.le_of_ble_eq_true rfl) rfl rfl ?_
    refine S_X11_draw wm v (xr_s _) (fun m1 _ _ _ _ _ => absurd c1 m1) (fun m1 m2 h3 z ag wx xz => ?_) (fun m1 m2 _ _ _ _ _ => absurd m2 c2)
    refine xRet_some ?_
    refine x_istore (ls' := [some (.ref _), some (.ref _), some (.ref _), some (.ref _), some (.ref _), some (vi _), some (vi _), some (vi _), none]) (dT U_Lc60 16 rfl) (by decide) rfl ?_
    refine x_aload_n (dT U_Lc60 17 rfl) rfl ?_
    refine x_invokevirtual (rc' := rc) (rs' := rs) (rc2 := 0) (rs2 := 0) (As := []) (st := _) M_X11_thrown K_L_242 (dT U_Lc60 18 rfl) rfl rfl (by decide) rfl rfl wx.c70 (Nat.le_of_ble_eq_true rfl) (by decide) rfl (Nat.le_of_ble_eq_true rfl) rfl (by decide) (Nat.le_of_ble_eq_true rfl) rfl rfl ?_
    refine S_X11_thrown wx ?_
    refine xRet_some ?_
    refine x_iload (dT U_Lc60 19 rfl) rfl ?_
    refine x_icmp_eq (tgt := 4938) (dT U_Lc60 20 rfl) (by decide) (by unfold xr; omega) (by unfold xr; omega) (fun c4933 => ?_) (fun c4933 => (by exfalso; omega))
    refine x_iload (dT U_Lc60 23 rfl) rfl ?_
    refine x_if_ne (tgt := 4955) (dT U_Lc60 24 rfl) (by decide) (by unfold xr; omega) (fun c4940 => ?_) (fun c4940 => (by exfalso; omega))
    refine x_goto (tgt := 5554) (dT U_Lc60 34 rfl) (by decide) ?_
    refine x_drop ?_ (M _ _ _ _ _ _ _ _ v (w.out ag (by omega)) wx (ag.get ho (by omega)) (ag.get hod (by omega)))
    repeat (first | exact trivial | refine ⟨rfl, ?_⟩ | refine ⟨trivial, ?_⟩)
  · refine xRet_some ?_
    have wmx := wm.out (h2 := (h2.set 143 (cJ [z9]))) (fun a ha => by rw [hset_fr (by omega)]; exact fc.2 a (by omega))
    refine x_istore (ls' := [some (.ref _), some (.ref _), some (.ref _), some (.ref _), some (.ref _), some (vi _), some (vi _), none, none]) (dT U_Lc60 8 rfl) (by decide) rfl ?_
    refine x_aload_n (dT U_Lc60 9 rfl) rfl ?_
    refine x_aload_n (dT U_Lc60 10 rfl) rfl ?_
    refine x_iload (dT U_Lc60 11 rfl) rfl ?_
    refine x_iconst (dT U_Lc60 12 rfl) ?_
    refine x_iadd (dT U_Lc60 13 rfl) ?_
    refine x_sld (i + 1) hL (dT U_Lc60 14 rfl) (by omega) (by omega) ?_
    refine x_invokevirtual (rc' := rc) (rs' := rs) (rc2 := 0) (rs2 := 0) (As := [_]) (st := _) M_X11_draw K_L_434 (dT U_Lc60 15 rfl) rfl rfl (by decide) rfl rfl wmx.c70 (Nat.le_of_ble_eq_true rfl) (by decide) rfl (Nat.le_of_ble_eq_true rfl) rfl (by decide) (Nat.le_of_ble_eq_true rfl) rfl rfl ?_
    refine S_X11_draw wmx v (xr_s _) (fun m1 _ _ _ _ _ => absurd c1 m1) (fun m1 m2 _ _ _ _ _ => absurd c2 m2) (fun m1 m2 h3 r3 s3 ag wx => ?_)
    refine xRet_some ?_
    rw [ez9]
    refine x_istore (ls' := [some (.ref _), some (.ref _), some (.ref _), some (.ref _), some (.ref _), some (vi _), some (vi _), some (vi _), none]) (dT U_Lc60 16 rfl) (by decide) rfl ?_
    refine x_aload_n (dT U_Lc60 17 rfl) rfl ?_
    refine x_invokevirtual (rc' := rc) (rs' := rs) (rc2 := 0) (rs2 := 0) (As := []) (st := _) M_X11_thrown K_L_242 (dT U_Lc60 18 rfl) rfl rfl (by decide) rfl rfl wx.c70 (Nat.le_of_ble_eq_true rfl) (by decide) rfl (Nat.le_of_ble_eq_true rfl) rfl (by decide) (Nat.le_of_ble_eq_true rfl) rfl rfl ?_
    refine S_X11_thrown wx ?_
    refine xRet_some ?_
    refine x_iload (dT U_Lc60 19 rfl) rfl ?_
    refine x_icmp_eq (tgt := 4938) (dT U_Lc60 20 rfl) (by decide) (by unfold xr; omega) (by unfold xr; omega) (fun c4933 => ?_) (fun c4933 => (by exfalso; omega))
    refine x_iload (dT U_Lc60 23 rfl) rfl ?_
    refine x_if_nen (tgt := 4955) (dT U_Lc60 24 rfl) (by decide) (by decide) ?_
    refine x_aload_n (dT U_Lc60 25 rfl) rfl ?_
    refine x_iconst (dT U_Lc60 26 rfl) ?_
    refine x_laload 0 (dT U_Lc60 27 rfl) (ag.get (hset_eq (fc.get ho (by omega))) (by omega)) (Nat.le_of_ble_eq_true rfl) rfl (Nat.le_of_ble_eq_true rfl) (Nat.le_of_ble_eq_true rfl) ?_
    refine x_iload (dT U_Lc60 28 rfl) rfl ?_
    refine x_i2l (dT U_Lc60 29 rfl) hz9 ?_
    refine x_lcmp (dT U_Lc60 30 rfl) (xr_l hz9) (xr_l hz9) ?_
    refine x_if_eqj (tgt := 4955) (dT U_Lc60 31 rfl) (by decide) (xcmp_rf _) ?_
    refine x_goto (tgt := 5554) (dT U_Lc60 34 rfl) (by decide) ?_
    refine x_drop ?_ (M _ _ _ _ _ _ _ _ (IV_draw v c1 c2) ((w2.out ((Ag.rf 143 143 h2).set (by omega)) (by omega)).out ag (by omega)) wx (ag.get (hset_eq (fc.get ho (by omega))) (by omega)) (ag.get (hset_ne (by omega) (fc.get hod (by omega))) (by omega)))
    repeat (first | exact trivial | refine ⟨rfl, ?_⟩ | refine ⟨trivial, ?_⟩)

def B_Lc61 : ByteArray := .mk #[0x2b, 0x2d, 0xb8, 0x01, 0xb3, 0x36, 0x06, 0x2c, 0xb6, 0x01, 0xb6, 0x36, 0x07, 0x2c, 0xb6, 0x00, 0xf2, 0x15, 0x06, 0x9f, 0x00, 0x05, 0x03, 0xac, 0x15, 0x06, 0x9a, 0x00, 0x0f, 0x2d, 0x03, 0x2f, 0x15, 0x07, 0x85, 0x94, 0x99, 0x00, 0x05, 0x03, 0xac, 0xa7, 0x02, 0x2b]
theorem W_Lc61 : sameFrom m_L_law.2.1 B_Lc61 4958 := sameFrom_of (by decide +kernel)
def t_Lc61 : List (Nat × Instr × Nat) := [(4958, .aload_n 1, 1), (4959, .aload_n 3, 1), (4960, .invokestatic 435, 3), (4963, .istore 6, 2), (4965, .aload_n 2, 1), (4966, .invokevirtual 438, 3), (4969, .istore 7, 2), (4971, .aload_n 2, 1), (4972, .invokevirtual 242, 3), (4975, .iload 6, 2), (4977, .if_icmp .eq 5, 3), (4980, .iconst 0, 1), (4981, .ireturn, 1), (4982, .iload 6, 2), (4984, .ifCond .ne 15, 3), (4987, .aload_n 3, 1), (4988, .iconst 0, 1), (4989, .laload, 1), (4990, .iload 7, 2), (4992, .i2l, 1), (4993, .lcmp, 1), (4994, .ifCond .eq 5, 3), (4997, .iconst 0, 1), (4998, .ireturn, 1), (4999, .goto 555, 3)]
set_option maxRecDepth 20000 in
theorem U_Lc61 : okT m_L_law.2.1 t_Lc61 = true := dSt [(0, .aload_n 1, 1), (1, .aload_n 3, 1), (2, .invokestatic 435, 3), (5, .istore 6, 2), (7, .aload_n 2, 1), (8, .invokevirtual 438, 3), (11, .istore 7, 2), (13, .aload_n 2, 1), (14, .invokevirtual 242, 3), (17, .iload 6, 2), (19, .if_icmp .eq 5, 3), (22, .iconst 0, 1), (23, .ireturn, 1), (24, .iload 6, 2), (26, .ifCond .ne 15, 3), (29, .aload_n 3, 1), (30, .iconst 0, 1), (31, .laload, 1), (32, .iload 7, 2), (34, .i2l, 1), (35, .lcmp, 1), (36, .ifCond .eq 5, 3), (39, .iconst 0, 1), (40, .ireturn, 1), (41, .goto 555, 3)] W_Lc61 (by decide +kernel) (by decide +kernel)
set_option maxRecDepth 20000 in
set_option maxHeartbeats 1000000 in
theorem LC_61 {G : xG} {d rc rs : Nat} {ex : Bool} {h : xH} {Q : xQ} {σ : St} {c0 : Int} {rr : Nat} {ss : Int} {l0 : Int} {d0 : UInt64} {i : Nat} (hL : G.2.2.2.2.2.1 < 2147483648) (hi : i + 10 ≤ G.2.2.2.2.2.1) (w : CW σ h) (wm : MX σ c0 rr ss h) (v : INV σ) (ho : h[143]? = some (cJ [l0])) (hod : h[144]? = some (cD [d0]))
    (M : ∀ (σ9 : St) (h9 : xH) (e9 : Bool) (c9 : Int) (r9 : Nat) (s9 : Int) (l9 : Int) (d9 : UInt64), INV σ9 → CW σ9 h9 → MX σ9 c9 r9 s9 h9 → h9[143]? = some (cJ [l9]) → h9[144]? = some (cD [d9]) → X G m_L_law (d + 10) rc rs e9 5554 [some (.ref 0), some (.ref 3), some (.ref 70), some (.ref 143), some (.ref 144), some (vi (i : Int)), none, none, none] [] h9 Q) : X G m_L_law (d + 10) (rc + 1) (rs + 6) ex 4958 [some (.ref 0), some (.ref 3), some (.ref 70), some (.ref 143), some (.ref 144), some (vi (i : Int)), none, none, none] [] h Q := by
  refine x_aload_n (dT U_Lc61 0 rfl) rfl ?_
  refine x_aload_n (dT U_Lc61 1 rfl) rfl ?_
  refine x_invokestaticT (rc' := rc) (rs' := rs) (rc2 := 0 + 1) (rs2 := 0 + 6) (As := [_, _]) (st := _) M_L_honest K_L_435 (dT U_Lc61 2 rfl) rfl (by decide) rfl rfl (Nat.le_of_ble_eq_true rfl) rfl (by decide) (Nat.le_of_ble_eq_true rfl) (by omega) (by omega) ?_
  refine S_L_honest w v  ho (fun c1 => ?_) (fun c1 z9 hz9 ez9 => ?_)
  · refine xRet_some ?_
    refine x_istore (ls' := [some (.ref _), some (.ref _), some (.ref _), some (.ref _), some (.ref _), some (vi _), some (vi _), none, none]) (dT U_Lc61 3 rfl) (by decide) rfl ?_
    refine x_aload_n (dT U_Lc61 4 rfl) rfl ?_
    refine x_invokevirtual (rc' := rc) (rs' := rs) (rc2 := 0) (rs2 := 0) (As := []) (st := _) M_X11_honest K_L_438 (dT U_Lc61 5 rfl) rfl rfl (by decide) rfl rfl wm.c70 (Nat.le_of_ble_eq_true rfl) (by decide) rfl (Nat.le_of_ble_eq_true rfl) rfl (by decide) (Nat.le_of_ble_eq_true rfl) rfl rfl ?_
    refine S_X11_honest wm v  (fun m1 h3 z ag wx xz => ?_) (fun m1 _ _ _ _ _ => absurd m1 c1)
    refine xRet_some ?_
    refine x_istore (ls' := [some (.ref _), some (.ref _), some (.ref _), some (.ref _), some (.ref _), some (vi _), some (vi _), some (vi _), none]) (dT U_Lc61 6 rfl) (by decide) rfl ?_
    refine x_aload_n (dT U_Lc61 7 rfl) rfl ?_
    refine x_invokevirtual (rc' := rc) (rs' := rs) (rc2 := 0) (rs2 := 0) (As := []) (st := _) M_X11_thrown K_L_242 (dT U_Lc61 8 rfl) rfl rfl (by decide) rfl rfl wx.c70 (Nat.le_of_ble_eq_true rfl) (by decide) rfl (Nat.le_of_ble_eq_true rfl) rfl (by decide) (Nat.le_of_ble_eq_true rfl) rfl rfl ?_
    refine S_X11_thrown wx ?_
    refine xRet_some ?_
    refine x_iload (dT U_Lc61 9 rfl) rfl ?_
    refine x_icmp_eq (tgt := 4982) (dT U_Lc61 10 rfl) (by decide) (by unfold xr; omega) (by unfold xr; omega) (fun c4977 => ?_) (fun c4977 => (by exfalso; omega))
    refine x_iload (dT U_Lc61 13 rfl) rfl ?_
    refine x_if_nej (tgt := 4999) (dT U_Lc61 14 rfl) (by decide) (by decide) ?_
    refine x_goto (tgt := 5554) (dT U_Lc61 24 rfl) (by decide) ?_
    refine x_drop ?_ (M _ _ _ _ _ _ _ _ v (w.out ag (by omega)) wx (ag.get ho (by omega)) (ag.get hod (by omega)))
    repeat (first | exact trivial | refine ⟨rfl, ?_⟩ | refine ⟨trivial, ?_⟩)
  · refine xRet_some ?_
    have wmx := wm.out (h2 := (h.set 143 (cJ [z9]))) (fun a ha => by rw [hset_fr (by omega)])
    refine x_istore (ls' := [some (.ref _), some (.ref _), some (.ref _), some (.ref _), some (.ref _), some (vi _), some (vi _), none, none]) (dT U_Lc61 3 rfl) (by decide) rfl ?_
    refine x_aload_n (dT U_Lc61 4 rfl) rfl ?_
    refine x_invokevirtual (rc' := rc) (rs' := rs) (rc2 := 0) (rs2 := 0) (As := []) (st := _) M_X11_honest K_L_438 (dT U_Lc61 5 rfl) rfl rfl (by decide) rfl rfl wmx.c70 (Nat.le_of_ble_eq_true rfl) (by decide) rfl (Nat.le_of_ble_eq_true rfl) rfl (by decide) (Nat.le_of_ble_eq_true rfl) rfl rfl ?_
    refine S_X11_honest wmx v  (fun m1 _ _ _ _ _ => absurd c1 m1) (fun m1 h3 r3 s3 ag wx => ?_)
    refine xRet_some ?_
    rw [ez9]
    refine x_istore (ls' := [some (.ref _), some (.ref _), some (.ref _), some (.ref _), some (.ref _), some (vi _), some (vi _), some (vi _), none]) (dT U_Lc61 6 rfl) (by decide) rfl ?_
    refine x_aload_n (dT U_Lc61 7 rfl) rfl ?_
    refine x_invokevirtual (rc' := rc) (rs' := rs) (rc2 := 0) (rs2 := 0) (As := []) (st := _) M_X11_thrown K_L_242 (dT U_Lc61 8 rfl) rfl rfl (by decide) rfl rfl wx.c70 (Nat.le_of_ble_eq_true rfl) (by decide) rfl (Nat.le_of_ble_eq_true rfl) rfl (by decide) (Nat.le_of_ble_eq_true rfl) rfl rfl ?_
    refine S_X11_thrown wx ?_
    refine xRet_some ?_
    refine x_iload (dT U_Lc61 9 rfl) rfl ?_
    refine x_icmp_eq (tgt := 4982) (dT U_Lc61 10 rfl) (by decide) (by unfold xr; omega) (by unfold xr; omega) (fun c4977 => ?_) (fun c4977 => (by exfalso; omega))
    refine x_iload (dT U_Lc61 13 rfl) rfl ?_
    refine x_if_nen (tgt := 4999) (dT U_Lc61 14 rfl) (by decide) (by decide) ?_
    refine x_aload_n (dT U_Lc61 15 rfl) rfl ?_
    refine x_iconst (dT U_Lc61 16 rfl) ?_
    refine x_laload 0 (dT U_Lc61 17 rfl) (ag.get (hset_eq ho) (by omega)) (Nat.le_of_ble_eq_true rfl) rfl (Nat.le_of_ble_eq_true rfl) (Nat.le_of_ble_eq_true rfl) ?_
    refine x_iload (dT U_Lc61 18 rfl) rfl ?_
    refine x_i2l (dT U_Lc61 19 rfl) hz9 ?_
    refine x_lcmp (dT U_Lc61 20 rfl) (xr_l hz9) (xr_l hz9) ?_
    refine x_if_eqj (tgt := 4999) (dT U_Lc61 21 rfl) (by decide) (xcmp_rf _) ?_
    refine x_goto (tgt := 5554) (dT U_Lc61 24 rfl) (by decide) ?_
    refine x_drop ?_ (M _ _ _ _ _ _ _ _ v ((w.out ((Ag.rf 143 143 h).set (by omega)) (by omega)).out ag (by omega)) wx (ag.get (hset_eq ho) (by omega)) (ag.get (hset_ne (by omega) hod) (by omega)))
    repeat (first | exact trivial | refine ⟨rfl, ?_⟩ | refine ⟨trivial, ?_⟩)

def B_Lc62 : ByteArray := .mk #[0x2b, 0x2d, 0xb8, 0x01, 0xb7, 0x36, 0x06, 0x2c, 0xb6, 0x01, 0xb9, 0x36, 0x07, 0x2c, 0xb6, 0x00, 0xf2, 0x15, 0x06, 0x9f, 0x00, 0x05, 0x03, 0xac, 0x15, 0x06, 0x9a, 0x00, 0x16, 0x2d, 0x03, 0x2f, 0x15, 0x07, 0x99, 0x00, 0x07, 0x0a, 0xa7, 0x00, 0x04, 0x09, 0x94, 0x99, 0x00, 0x05, 0x03, 0xac, 0xa7, 0x01, 0xf8]
theorem W_Lc62 : sameFrom m_L_law.2.1 B_Lc62 5002 := sameFrom_of (by decide +kernel)
def t_Lc62 : List (Nat × Instr × Nat) := [(5002, .aload_n 1, 1), (5003, .aload_n 3, 1), (5004, .invokestatic 439, 3), (5007, .istore 6, 2), (5009, .aload_n 2, 1), (5010, .invokevirtual 441, 3), (5013, .istore 7, 2), (5015, .aload_n 2, 1), (5016, .invokevirtual 242, 3), (5019, .iload 6, 2), (5021, .if_icmp .eq 5, 3), (5024, .iconst 0, 1), (5025, .ireturn, 1), (5026, .iload 6, 2), (5028, .ifCond .ne 22, 3), (5031, .aload_n 3, 1), (5032, .iconst 0, 1), (5033, .laload, 1), (5034, .iload 7, 2), (5036, .ifCond .eq 7, 3), (5039, .lconst 1, 1), (5040, .goto 4, 3), (5043, .lconst 0, 1), (5044, .lcmp, 1), (5045, .ifCond .eq 5, 3), (5048, .iconst 0, 1), (5049, .ireturn, 1), (5050, .goto 504, 3)]
set_option maxRecDepth 20000 in
theorem U_Lc62 : okT m_L_law.2.1 t_Lc62 = true := dSt [(0, .aload_n 1, 1), (1, .aload_n 3, 1), (2, .invokestatic 439, 3), (5, .istore 6, 2), (7, .aload_n 2, 1), (8, .invokevirtual 441, 3), (11, .istore 7, 2), (13, .aload_n 2, 1), (14, .invokevirtual 242, 3), (17, .iload 6, 2), (19, .if_icmp .eq 5, 3), (22, .iconst 0, 1), (23, .ireturn, 1), (24, .iload 6, 2), (26, .ifCond .ne 22, 3), (29, .aload_n 3, 1), (30, .iconst 0, 1), (31, .laload, 1), (32, .iload 7, 2), (34, .ifCond .eq 7, 3), (37, .lconst 1, 1), (38, .goto 4, 3), (41, .lconst 0, 1), (42, .lcmp, 1), (43, .ifCond .eq 5, 3), (46, .iconst 0, 1), (47, .ireturn, 1), (48, .goto 504, 3)] W_Lc62 (by decide +kernel) (by decide +kernel)
set_option maxRecDepth 20000 in
set_option maxHeartbeats 1000000 in
theorem LC_62 {G : xG} {d rc rs : Nat} {ex : Bool} {h : xH} {Q : xQ} {σ : St} {c0 : Int} {rr : Nat} {ss : Int} {l0 : Int} {d0 : UInt64} {i : Nat} (hL : G.2.2.2.2.2.1 < 2147483648) (hi : i + 10 ≤ G.2.2.2.2.2.1) (w : CW σ h) (wm : MX σ c0 rr ss h) (v : INV σ) (ho : h[143]? = some (cJ [l0])) (hod : h[144]? = some (cD [d0]))
    (M : ∀ (σ9 : St) (h9 : xH) (e9 : Bool) (c9 : Int) (r9 : Nat) (s9 : Int) (l9 : Int) (d9 : UInt64), INV σ9 → CW σ9 h9 → MX σ9 c9 r9 s9 h9 → h9[143]? = some (cJ [l9]) → h9[144]? = some (cD [d9]) → X G m_L_law (d + 10) rc rs e9 5554 [some (.ref 0), some (.ref 3), some (.ref 70), some (.ref 143), some (.ref 144), some (vi (i : Int)), none, none, none] [] h9 Q) : X G m_L_law (d + 10) (rc + 1) (rs + 6) ex 5002 [some (.ref 0), some (.ref 3), some (.ref 70), some (.ref 143), some (.ref 144), some (vi (i : Int)), none, none, none] [] h Q := by
  refine x_aload_n (dT U_Lc62 0 rfl) rfl ?_
  refine x_aload_n (dT U_Lc62 1 rfl) rfl ?_
  refine x_invokestaticT (rc' := rc) (rs' := rs) (rc2 := 0 + 1) (rs2 := 0 + 6) (As := [_, _]) (st := _) M_L_isWon K_L_439 (dT U_Lc62 2 rfl) rfl (by decide) rfl rfl (Nat.le_of_ble_eq_true rfl) rfl (by decide) (Nat.le_of_ble_eq_true rfl) (by omega) (by omega) ?_
  refine S_L_isWon w v  ho (fun c1 => ?_) (fun c1 c2 => ?_) (fun c1 c2 => ?_)
  · refine xRet_some ?_
    refine x_istore (ls' := [some (.ref _), some (.ref _), some (.ref _), some (.ref _), some (.ref _), some (vi _), some (vi _), none, none]) (dT U_Lc62 3 rfl) (by decide) rfl ?_
    refine x_aload_n (dT U_Lc62 4 rfl) rfl ?_
    refine x_invokevirtual (rc' := rc) (rs' := rs) (rc2 := 0) (rs2 := 0) (As := []) (st := _) M_X11_isWon K_L_441 (dT U_Lc62 5 rfl) rfl rfl (by decide) rfl rfl wm.c70 (Nat.le_of_ble_eq_true rfl) (by decide) rfl (Nat.le_of_ble_eq_true rfl) rfl (by decide) (Nat.le_of_ble_eq_true rfl) rfl rfl ?_
    refine S_X11_isWon wm v  (fun m1 h3 z ag wx xz => ?_) (fun m1 m2 _ _ _ _ _ => absurd m1 c1) (fun m1 m2 _ _ _ _ _ => absurd m1 c1)
    refine xRet_some ?_
    refine x_istore (ls' := [some (.ref _), some (.ref _), some (.ref _), some (.ref _), some (.ref _), some (vi _), some (vi _), some (vi _), none]) (dT U_Lc62 6 rfl) (by decide) rfl ?_
    refine x_aload_n (dT U_Lc62 7 rfl) rfl ?_
    refine x_invokevirtual (rc' := rc) (rs' := rs) (rc2 := 0) (rs2 := 0) (As := []) (st := _) M_X11_thrown K_L_242 (dT U_Lc62 8 rfl) rfl rfl (by decide) rfl rfl wx.c70 (Nat.le_of_ble_eq_true rfl) (by decide) rfl (Nat.le_of_ble_eq_true rfl) rfl (by decide) (Nat.le_of_ble_eq_true rfl) rfl rfl ?_
    refine S_X11_thrown wx ?_
    refine xRet_some ?_
    refine x_iload (dT U_Lc62 9 rfl) rfl ?_
    refine x_icmp_eq (tgt := 5026) (dT U_Lc62 10 rfl) (by decide) (by unfold xr; omega) (by unfold xr; omega) (fun c5021 => ?_) (fun c5021 => (by exfalso; omega))
    refine x_iload (dT U_Lc62 13 rfl) rfl ?_
    refine x_if_nej (tgt := 5050) (dT U_Lc62 14 rfl) (by decide) (by decide) ?_
    refine x_goto (tgt := 5554) (dT U_Lc62 27 rfl) (by decide) ?_
    refine x_drop ?_ (M _ _ _ _ _ _ _ _ v (w.out ag (by omega)) wx (ag.get ho (by omega)) (ag.get hod (by omega)))
    repeat (first | exact trivial | refine ⟨rfl, ?_⟩ | refine ⟨trivial, ?_⟩)
  · refine xRet_some ?_
    have wmx := wm.out (h2 := (h.set 143 (cJ [1]))) (fun a ha => by rw [hset_fr (by omega)])
    refine x_istore (ls' := [some (.ref _), some (.ref _), some (.ref _), some (.ref _), some (.ref _), some (vi _), some (vi _), none, none]) (dT U_Lc62 3 rfl) (by decide) rfl ?_
    refine x_aload_n (dT U_Lc62 4 rfl) rfl ?_
    refine x_invokevirtual (rc' := rc) (rs' := rs) (rc2 := 0) (rs2 := 0) (As := []) (st := _) M_X11_isWon K_L_441 (dT U_Lc62 5 rfl) rfl rfl (by decide) rfl rfl wmx.c70 (Nat.le_of_ble_eq_true rfl) (by decide) rfl (Nat.le_of_ble_eq_true rfl) rfl (by decide) (Nat.le_of_ble_eq_true rfl) rfl rfl ?_
    refine S_X11_isWon wmx v  (fun m1 _ _ _ _ _ => absurd c1 m1) (fun m1 m2 h3 r3 s3 ag wx => ?_) (fun m1 m2 _ _ _ _ _ => absurd c2 m2)
    refine xRet_some ?_
    refine x_istore (ls' := [some (.ref _), some (.ref _), some (.ref _), some (.ref _), some (.ref _), some (vi _), some (vi _), some (vi _), none]) (dT U_Lc62 6 rfl) (by decide) rfl ?_
    refine x_aload_n (dT U_Lc62 7 rfl) rfl ?_
    refine x_invokevirtual (rc' := rc) (rs' := rs) (rc2 := 0) (rs2 := 0) (As := []) (st := _) M_X11_thrown K_L_242 (dT U_Lc62 8 rfl) rfl rfl (by decide) rfl rfl wx.c70 (Nat.le_of_ble_eq_true rfl) (by decide) rfl (Nat.le_of_ble_eq_true rfl) rfl (by decide) (Nat.le_of_ble_eq_true rfl) rfl rfl ?_
    refine S_X11_thrown wx ?_
    refine xRet_some ?_
    refine x_iload (dT U_Lc62 9 rfl) rfl ?_
    refine x_icmp_eq (tgt := 5026) (dT U_Lc62 10 rfl) (by decide) (by unfold xr; omega) (by unfold xr; omega) (fun c5021 => ?_) (fun c5021 => (by exfalso; omega))
    refine x_iload (dT U_Lc62 13 rfl) rfl ?_
    refine x_if_nen (tgt := 5050) (dT U_Lc62 14 rfl) (by decide) (by decide) ?_
    refine x_aload_n (dT U_Lc62 15 rfl) rfl ?_
    refine x_iconst (dT U_Lc62 16 rfl) ?_
    refine x_laload 0 (dT U_Lc62 17 rfl) (ag.get (hset_eq ho) (by omega)) (Nat.le_of_ble_eq_true rfl) rfl (Nat.le_of_ble_eq_true rfl) (Nat.le_of_ble_eq_true rfl) ?_
    refine x_iload (dT U_Lc62 18 rfl) rfl ?_
    refine x_if_eqn (tgt := 5043) (dT U_Lc62 19 rfl) (by decide) (by decide) ?_
    refine x_lconst (z := 1) (dT U_Lc62 20 rfl) rfl ?_
    refine x_goto (tgt := 5044) (dT U_Lc62 21 rfl) (by decide) ?_
    refine x_lcmp (dT U_Lc62 23 rfl) (by unfold xrl; decide) (by unfold xrl; decide) ?_
    refine x_if_eqj (tgt := 5050) (dT U_Lc62 24 rfl) (by decide) (xcmp_rf _) ?_
    refine x_goto (tgt := 5554) (dT U_Lc62 27 rfl) (by decide) ?_
    refine x_drop ?_ (M _ _ _ _ _ _ _ _ v ((w.out ((Ag.rf 143 143 h).set (by omega)) (by omega)).out ag (by omega)) wx (ag.get (hset_eq ho) (by omega)) (ag.get (hset_ne (by omega) hod) (by omega)))
    repeat (first | exact trivial | refine ⟨rfl, ?_⟩ | refine ⟨trivial, ?_⟩)
  · refine xRet_some ?_
    have wmx := wm.out (h2 := (h.set 143 (cJ [0]))) (fun a ha => by rw [hset_fr (by omega)])
    refine x_istore (ls' := [some (.ref _), some (.ref _), some (.ref _), some (.ref _), some (.ref _), some (vi _), some (vi _), none, none]) (dT U_Lc62 3 rfl) (by decide) rfl ?_
    refine x_aload_n (dT U_Lc62 4 rfl) rfl ?_
    refine x_invokevirtual (rc' := rc) (rs' := rs) (rc2 := 0) (rs2 := 0) (As := []) (st := _) M_X11_isWon K_L_441 (dT U_Lc62 5 rfl) rfl rfl (by decide) rfl rfl wmx.c70 (Nat.le_of_ble_eq_true rfl) (by decide) rfl (Nat.le_of_ble_eq_true rfl) rfl (by decide) (Nat.le_of_ble_eq_true rfl) rfl rfl ?_
    refine S_X11_isWon wmx v  (fun m1 _ _ _ _ _ => absurd c1 m1) (fun m1 m2 _ _ _ _ _ => absurd m2 c2) (fun m1 m2 h3 r3 s3 ag wx => ?_)
    refine xRet_some ?_
    refine x_istore (ls' := [some (.ref _), some (.ref _), some (.ref _), some (.ref _), some (.ref _), some (vi _), some (vi _), some (vi _), none]) (dT U_Lc62 6 rfl) (by decide) rfl ?_
    refine x_aload_n (dT U_Lc62 7 rfl) rfl ?_
    refine x_invokevirtual (rc' := rc) (rs' := rs) (rc2 := 0) (rs2 := 0) (As := []) (st := _) M_X11_thrown K_L_242 (dT U_Lc62 8 rfl) rfl rfl (by decide) rfl rfl wx.c70 (Nat.le_of_ble_eq_true rfl) (by decide) rfl (Nat.le_of_ble_eq_true rfl) rfl (by decide) (Nat.le_of_ble_eq_true rfl) rfl rfl ?_
    refine S_X11_thrown wx ?_
    refine xRet_some ?_
    refine x_iload (dT U_Lc62 9 rfl) rfl ?_
    refine x_icmp_eq (tgt := 5026) (dT U_Lc62 10 rfl) (by decide) (by unfold xr; omega) (by unfold xr; omega) (fun c5021 => ?_) (fun c5021 => (by exfalso; omega))
    refine x_iload (dT U_Lc62 13 rfl) rfl ?_
    refine x_if_nen (tgt := 5050) (dT U_Lc62 14 rfl) (by decide) (by decide) ?_
    refine x_aload_n (dT U_Lc62 15 rfl) rfl ?_
    refine x_iconst (dT U_Lc62 16 rfl) ?_
    refine x_laload 0 (dT U_Lc62 17 rfl) (ag.get (hset_eq ho) (by omega)) (Nat.le_of_ble_eq_true rfl) rfl (Nat.le_of_ble_eq_true rfl) (Nat.le_of_ble_eq_true rfl) ?_
    refine x_iload (dT U_Lc62 18 rfl) rfl ?_
    refine x_if_eqj (tgt := 5043) (dT U_Lc62 19 rfl) (by decide) (by decide) ?_
    refine x_lconst (z := 0) (dT U_Lc62 22 rfl) rfl ?_
    refine x_lcmp (dT U_Lc62 23 rfl) (by unfold xrl; decide) (by unfold xrl; decide) ?_
    refine x_if_eqj (tgt := 5050) (dT U_Lc62 24 rfl) (by decide) (xcmp_rf _) ?_
    refine x_goto (tgt := 5554) (dT U_Lc62 27 rfl) (by decide) ?_
    refine x_drop ?_ (M _ _ _ _ _ _ _ _ v ((w.out ((Ag.rf 143 143 h).set (by omega)) (by omega)).out ag (by omega)) wx (ag.get (hset_eq ho) (by omega)) (ag.get (hset_ne (by omega) hod) (by omega)))
    repeat (first | exact trivial | refine ⟨rfl, ?_⟩ | refine ⟨trivial, ?_⟩)

def B_Lc63 : ByteArray := .mk #[0x2b, 0x2d, 0xb8, 0x01, 0xba, 0x36, 0x06, 0x2c, 0xb6, 0x01, 0xbc, 0x36, 0x07, 0x2c, 0xb6, 0x00, 0xf2, 0x15, 0x06, 0x9f, 0x00, 0x05, 0x03, 0xac, 0x15, 0x06, 0x9a, 0x00, 0x0f, 0x2d, 0x03, 0x2f, 0x15, 0x07, 0x85, 0x94, 0x99, 0x00, 0x05, 0x03, 0xac, 0xa7, 0x01, 0xcc]
theorem W_Lc63 : sameFrom m_L_law.2.1 B_Lc63 5053 := sameFrom_of (by decide +kernel)
def t_Lc63 : List (Nat × Instr × Nat) := [(5053, .aload_n 1, 1), (5054, .aload_n 3, 1), (5055, .invokestatic 442, 3), (5058, .istore 6, 2), (5060, .aload_n 2, 1), (5061, .invokevirtual 444, 3), (5064, .istore 7, 2), (5066, .aload_n 2, 1), (5067, .invokevirtual 242, 3), (5070, .iload 6, 2), (5072, .if_icmp .eq 5, 3), (5075, .iconst 0, 1), (5076, .ireturn, 1), (5077, .iload 6, 2), (5079, .ifCond .ne 15, 3), (5082, .aload_n 3, 1), (5083, .iconst 0, 1), (5084, .laload, 1), (5085, .iload 7, 2), (5087, .i2l, 1), (5088, .lcmp, 1), (5089, .ifCond .eq 5, 3), (5092, .iconst 0, 1), (5093, .ireturn, 1), (5094, .goto 460, 3)]
set_option maxRecDepth 20000 in
theorem U_Lc63 : okT m_L_law.2.1 t_Lc63 = true := dSt [(0, .aload_n 1, 1), (1, .aload_n 3, 1), (2, .invokestatic 442, 3), (5, .istore 6, 2), (7, .aload_n 2, 1), (8, .invokevirtual 444, 3), (11, .istore 7, 2), (13, .aload_n 2, 1), (14, .invokevirtual 242, 3), (17, .iload 6, 2), (19, .if_icmp .eq 5, 3), (22, .iconst 0, 1), (23, .ireturn, 1), (24, .iload 6, 2), (26, .ifCond .ne 15, 3), (29, .aload_n 3, 1), (30, .iconst 0, 1), (31, .laload, 1), (32, .iload 7, 2), (34, .i2l, 1), (35, .lcmp, 1), (36, .ifCond .eq 5, 3), (39, .iconst 0, 1), (40, .ireturn, 1), (41, .goto 460, 3)] W_Lc63 (by decide +kernel) (by decide +kernel)
set_option maxRecDepth 20000 in
set_option maxHeartbeats 1000000 in
theorem LC_63 {G : xG} {d rc rs : Nat} {ex : Bool} {h : xH} {Q : xQ} {σ : St} {c0 : Int} {rr : Nat} {ss : Int} {l0 : Int} {d0 : UInt64} {i : Nat} (hL : G.2.2.2.2.2.1 < 2147483648) (hi : i + 10 ≤ G.2.2.2.2.2.1) (w : CW σ h) (wm : MX σ c0 rr ss h) (v : INV σ) (ho : h[143]? = some (cJ [l0])) (hod : h[144]? = some (cD [d0]))
    (M : ∀ (σ9 : St) (h9 : xH) (e9 : Bool) (c9 : Int) (r9 : Nat) (s9 : Int) (l9 : Int) (d9 : UInt64), INV σ9 → CW σ9 h9 → MX σ9 c9 r9 s9 h9 → h9[143]? = some (cJ [l9]) → h9[144]? = some (cD [d9]) → X G m_L_law (d + 10) rc rs e9 5554 [some (.ref 0), some (.ref 3), some (.ref 70), some (.ref 143), some (.ref 144), some (vi (i : Int)), none, none, none] [] h9 Q) : X G m_L_law (d + 10) (rc + 1) (rs + 6) ex 5053 [some (.ref 0), some (.ref 3), some (.ref 70), some (.ref 143), some (.ref 144), some (vi (i : Int)), none, none, none] [] h Q := by
  refine x_aload_n (dT U_Lc63 0 rfl) rfl ?_
  refine x_aload_n (dT U_Lc63 1 rfl) rfl ?_
  refine x_invokestaticT (rc' := rc) (rs' := rs) (rc2 := 0 + 1) (rs2 := 0 + 6) (As := [_, _]) (st := _) M_L_chances K_L_442 (dT U_Lc63 2 rfl) rfl (by decide) rfl rfl (Nat.le_of_ble_eq_true rfl) rfl (by decide) (Nat.le_of_ble_eq_true rfl) (by omega) (by omega) ?_
  refine S_L_chances w v  ho (fun c1 => ?_) (fun c1 z9 hz9 ez9 => ?_)
  · refine xRet_some ?_
    refine x_istore (ls' := [some (.ref _), some (.ref _), some (.ref _), some (.ref _), some (.ref _), some (vi _), some (vi _), none, none]) (dT U_Lc63 3 rfl) (by decide) rfl ?_
    refine x_aload_n (dT U_Lc63 4 rfl) rfl ?_
    refine x_invokevirtual (rc' := rc) (rs' := rs) (rc2 := 0) (rs2 := 0) (As := []) (st := _) M_X11_chances K_L_444 (dT U_Lc63 5 rfl) rfl rfl (by decide) rfl rfl wm.c70 (Nat.le_of_ble_eq_true rfl) (by decide) rfl (Nat.le_of_ble_eq_true rfl) rfl (by decide) (Nat.le_of_ble_eq_true rfl) rfl rfl ?_
    refine S_X11_chances wm v  (fun m1 h3 z ag wx xz => ?_) (fun m1 _ _ _ _ _ => absurd m1 c1)
    refine xRet_some ?_
    refine x_istore (ls' := [some (.ref _), some (.ref _), some (.ref _), some (.ref _), some (.ref _), some (vi _), some (vi _), some (vi _), none]) (dT U_Lc63 6 rfl) (by decide) rfl ?_
    refine x_aload_n (dT U_Lc63 7 rfl) rfl ?_
    refine x_invokevirtual (rc' := rc) (rs' := rs) (rc2 := 0) (rs2 := 0) (As := []) (st := _) M_X11_thrown K_L_242 (dT U_Lc63 8 rfl) rfl rfl (by decide) rfl rfl wx.c70 (Nat.le_of_ble_eq_true rfl) (by decide) rfl (Nat.le_of_ble_eq_true rfl) rfl (by decide) (Nat.le_of_ble_eq_true rfl) rfl rfl ?_
    refine S_X11_thrown wx ?_
    refine xRet_some ?_
    refine x_iload (dT U_Lc63 9 rfl) rfl ?_
    refine x_icmp_eq (tgt := 5077) (dT U_Lc63 10 rfl) (by decide) (by unfold xr; omega) (by unfold xr; omega) (fun c5072 => ?_) (fun c5072 => (by exfalso; omega))
    refine x_iload (dT U_Lc63 13 rfl) rfl ?_
    refine x_if_nej (tgt := 5094) (dT U_Lc63 14 rfl) (by decide) (by decide) ?_
    refine x_goto (tgt := 5554) (dT U_Lc63 24 rfl) (by decide) ?_
    refine x_drop ?_ (M _ _ _ _ _ _ _ _ v (w.out ag (by omega)) wx (ag.get ho (by omega)) (ag.get hod (by omega)))
    repeat (first | exact trivial | refine ⟨rfl, ?_⟩ | refine ⟨trivial, ?_⟩)
  · refine xRet_some ?_
    have wmx := wm.out (h2 := (h.set 143 (cJ [z9]))) (fun a ha => by rw [hset_fr (by omega)])
    refine x_istore (ls' := [some (.ref _), some (.ref _), some (.ref _), some (.ref _), some (.ref _), some (vi _), some (vi _), none, none]) (dT U_Lc63 3 rfl) (by decide) rfl ?_
    refine x_aload_n (dT U_Lc63 4 rfl) rfl ?_
    refine x_invokevirtual (rc' := rc) (rs' := rs) (rc2 := 0) (rs2 := 0) (As := []) (st := _) M_X11_chances K_L_444 (dT U_Lc63 5 rfl) rfl rfl (by decide) rfl rfl wmx.c70 (Nat.le_of_ble_eq_true rfl) (by decide) rfl (Nat.le_of_ble_eq_true rfl) rfl (by decide) (Nat.le_of_ble_eq_true rfl) rfl rfl ?_
    refine S_X11_chances wmx v  (fun m1 _ _ _ _ _ => absurd c1 m1) (fun m1 h3 r3 s3 ag wx => ?_)
    refine xRet_some ?_
    rw [ez9]
    refine x_istore (ls' := [some (.ref _), some (.ref _), some (.ref _), some (.ref _), some (.ref _), some (vi _), some (vi _), some (vi _), none]) (dT U_Lc63 6 rfl) (by decide) rfl ?_
    refine x_aload_n (dT U_Lc63 7 rfl) rfl ?_
    refine x_invokevirtual (rc' := rc) (rs' := rs) (rc2 := 0) (rs2 := 0) (As := []) (st := _) M_X11_thrown K_L_242 (dT U_Lc63 8 rfl) rfl rfl (by decide) rfl rfl wx.c70 (Nat.le_of_ble_eq_true rfl) (by decide) rfl (Nat.le_of_ble_eq_true rfl) rfl (by decide) (Nat.le_of_ble_eq_true rfl) rfl rfl ?_
    refine S_X11_thrown wx ?_
    refine xRet_some ?_
    refine x_iload (dT U_Lc63 9 rfl) rfl ?_
    refine x_icmp_eq (tgt := 5077) (dT U_Lc63 10 rfl) (by decide) (by unfold xr; omega) (by unfold xr; omega) (fun c5072 => ?_) (fun c5072 => (by exfalso; omega))
    refine x_iload (dT U_Lc63 13 rfl) rfl ?_
    refine x_if_nen (tgt := 5094) (dT U_Lc63 14 rfl) (by decide) (by decide) ?_
    refine x_aload_n (dT U_Lc63 15 rfl) rfl ?_
    refine x_iconst (dT U_Lc63 16 rfl) ?_
    refine x_laload 0 (dT U_Lc63 17 rfl) (ag.get (hset_eq ho) (by omega)) (Nat.le_of_ble_eq_true rfl) rfl (Nat.le_of_ble_eq_true rfl) (Nat.le_of_ble_eq_true rfl) ?_
    refine x_iload (dT U_Lc63 18 rfl) rfl ?_
    refine x_i2l (dT U_Lc63 19 rfl) hz9 ?_
    refine x_lcmp (dT U_Lc63 20 rfl) (xr_l hz9) (xr_l hz9) ?_
    refine x_if_eqj (tgt := 5094) (dT U_Lc63 21 rfl) (by decide) (xcmp_rf _) ?_
    refine x_goto (tgt := 5554) (dT U_Lc63 24 rfl) (by decide) ?_
    refine x_drop ?_ (M _ _ _ _ _ _ _ _ v ((w.out ((Ag.rf 143 143 h).set (by omega)) (by omega)).out ag (by omega)) wx (ag.get (hset_eq ho) (by omega)) (ag.get (hset_ne (by omega) hod) (by omega)))
    repeat (first | exact trivial | refine ⟨rfl, ?_⟩ | refine ⟨trivial, ?_⟩)

def B_Lc64 : ByteArray := .mk #[0x2b, 0x2a, 0x15, 0x05, 0x04, 0x60, 0x2e, 0x2a, 0x15, 0x05, 0x05, 0x60, 0x2e, 0x2d, 0xb8, 0x01, 0xbd, 0x36, 0x06, 0x2c, 0x2a, 0x15, 0x05, 0x04, 0x60, 0x2e, 0x2a, 0x15, 0x05, 0x05, 0x60, 0x2e, 0xb6, 0x01, 0xbf, 0x36, 0x07, 0x2c, 0xb6, 0x00, 0xf2, 0x15, 0x06, 0x9f, 0x00, 0x05, 0x03, 0xac, 0x15, 0x06, 0x9a, 0x00, 0x0f, 0x2d, 0x03, 0x2f, 0x15, 0x07, 0x85, 0x94, 0x99, 0x00, 0x05, 0x03, 0xac, 0xa7, 0x01, 0x88]
theorem W_Lc64 : sameFrom m_L_law.2.1 B_Lc64 5097 := sameFrom_of (by decide +kernel)
def t_Lc64 : List (Nat × Instr × Nat) := [(5097, .aload_n 1, 1), (5098, .aload_n 0, 1), (5099, .iload 5, 2), (5101, .iconst 1, 1), (5102, .iadd, 1), (5103, .iaload, 1), (5104, .aload_n 0, 1), (5105, .iload 5, 2), (5107, .iconst 2, 1), (5108, .iadd, 1), (5109, .iaload, 1), (5110, .aload_n 3, 1), (5111, .invokestatic 445, 3), (5114, .istore 6, 2), (5116, .aload_n 2, 1), (5117, .aload_n 0, 1), (5118, .iload 5, 2), (5120, .iconst 1, 1), (5121, .iadd, 1), (5122, .iaload, 1), (5123, .aload_n 0, 1), (5124, .iload 5, 2), (5126, .iconst 2, 1), (5127, .iadd, 1), (5128, .iaload, 1), (5129, .invokevirtual 447, 3), (5132, .istore 7, 2), (5134, .aload_n 2, 1), (5135, .invokevirtual 242, 3), (5138, .iload 6, 2), (5140, .if_icmp .eq 5, 3), (5143, .iconst 0, 1), (5144, .ireturn, 1), (5145, .iload 6, 2), (5147, .ifCond .ne 15, 3), (5150, .aload_n 3, 1), (5151, .iconst 0, 1), (5152, .laload, 1), (5153, .iload 7, 2), (5155, .i2l, 1), (5156, .lcmp, 1), (5157, .ifCond .eq 5, 3), (5160, .iconst 0, 1), (5161, .ireturn, 1), (5162, .goto 392, 3)]
set_option maxRecDepth 20000 in
theorem U_Lc64 : okT m_L_law.2.1 t_Lc64 = true := dSt [(0, .aload_n 1, 1), (1, .aload_n 0, 1), (2, .iload 5, 2), (4, .iconst 1, 1), (5, .iadd, 1), (6, .iaload, 1), (7, .aload_n 0, 1), (8, .iload 5, 2), (10, .iconst 2, 1), (11, .iadd, 1), (12, .iaload, 1), (13, .aload_n 3, 1), (14, .invokestatic 445, 3), (17, .istore 6, 2), (19, .aload_n 2, 1), (20, .aload_n 0, 1), (21, .iload 5, 2), (23, .iconst 1, 1), (24, .iadd, 1), (25, .iaload, 1), (26, .aload_n 0, 1), (27, .iload 5, 2), (29, .iconst 2, 1), (30, .iadd, 1), (31, .iaload, 1), (32, .invokevirtual 447, 3), (35, .istore 7, 2), (37, .aload_n 2, 1), (38, .invokevirtual 242, 3), (41, .iload 6, 2), (43, .if_icmp .eq 5, 3), (46, .iconst 0, 1), (47, .ireturn, 1), (48, .iload 6, 2), (50, .ifCond .ne 15, 3), (53, .aload_n 3, 1), (54, .iconst 0, 1), (55, .laload, 1), (56, .iload 7, 2), (58, .i2l, 1), (59, .lcmp, 1), (60, .ifCond .eq 5, 3), (63, .iconst 0, 1), (64, .ireturn, 1), (65, .goto 392, 3)] W_Lc64 (by decide +kernel) (by decide +kernel)
set_option maxRecDepth 20000 in
set_option maxHeartbeats 1000000 in
theorem LC_64 {G : xG} {d rc rs : Nat} {ex : Bool} {h : xH} {Q : xQ} {σ : St} {c0 : Int} {rr : Nat} {ss : Int} {l0 : Int} {d0 : UInt64} {i : Nat} (hL : G.2.2.2.2.2.1 < 2147483648) (hi : i + 10 ≤ G.2.2.2.2.2.1) (w : CW σ h) (wm : MX σ c0 rr ss h) (v : INV σ) (ho : h[143]? = some (cJ [l0])) (hod : h[144]? = some (cD [d0]))
    (M : ∀ (σ9 : St) (h9 : xH) (e9 : Bool) (c9 : Int) (r9 : Nat) (s9 : Int) (l9 : Int) (d9 : UInt64), INV σ9 → CW σ9 h9 → MX σ9 c9 r9 s9 h9 → h9[143]? = some (cJ [l9]) → h9[144]? = some (cD [d9]) → X G m_L_law (d + 10) rc rs e9 5554 [some (.ref 0), some (.ref 3), some (.ref 70), some (.ref 143), some (.ref 144), some (vi (i : Int)), none, none, none] [] h9 Q) : X G m_L_law (d + 10) (rc + 3) (rs + 18) ex 5097 [some (.ref 0), some (.ref 3), some (.ref 70), some (.ref 143), some (.ref 144), some (vi (i : Int)), none, none, none] [] h Q := by
  refine x_aload_n (dT U_Lc64 0 rfl) rfl ?_
  refine x_aload_n (dT U_Lc64 1 rfl) rfl ?_
  refine x_iload (dT U_Lc64 2 rfl) rfl ?_
  refine x_iconst (dT U_Lc64 3 rfl) ?_
  refine x_iadd (dT U_Lc64 4 rfl) ?_
  refine x_sld (i + 1) hL (dT U_Lc64 5 rfl) (by omega) (by omega) ?_
  refine x_aload_n (dT U_Lc64 6 rfl) rfl ?_
  refine x_iload (dT U_Lc64 7 rfl) rfl ?_
  refine x_iconst (dT U_Lc64 8 rfl) ?_
  refine x_iadd (dT U_Lc64 9 rfl) ?_
  refine x_sld (i + 2) hL (dT U_Lc64 10 rfl) (by omega) (by omega) ?_
  refine x_aload_n (dT U_Lc64 11 rfl) rfl ?_
  refine x_invokestaticT (rc' := rc) (rs' := rs) (rc2 := 0 + 3) (rs2 := 0 + 18) (As := [_, _, _, _]) (st := _) M_L_mint K_L_445 (dT U_Lc64 12 rfl) rfl (by decide) rfl rfl (Nat.le_of_ble_eq_true rfl) rfl (by decide) (Nat.le_of_ble_eq_true rfl) (by omega) (by omega) ?_
  refine S_L_mint w v (xr_s _) (xr_s _) ho (fun c1 => ?_) (fun c1 c2 => ?_) (fun c1 c2 h2 fc w2 z9 hz9 ez9 => ?_)
  · refine xRet_some ?_
    refine x_istore (ls' := [some (.ref _), some (.ref _), some (.ref _), some (.ref _), some (.ref _), some (vi _), some (vi _), none, none]) (dT U_Lc64 13 rfl) (by decide) rfl ?_
    refine x_aload_n (dT U_Lc64 14 rfl) rfl ?_
    refine x_aload_n (dT U_Lc64 15 rfl) rfl ?_
    refine x_iload (dT U_Lc64 16 rfl) rfl ?_
    refine x_iconst (dT U_Lc64 17 rfl) ?_
    refine x_iadd (dT U_Lc64 18 rfl) ?_
    refine x_sld (i + 1) hL (dT U_Lc64 19 rfl) (by omega) (by omega) ?_
    refine x_aload_n (dT U_Lc64 20 rfl) rfl ?_
    refine x_iload (dT U_Lc64 21 rfl) rfl ?_
    refine x_iconst (dT U_Lc64 22 rfl) ?_
    refine x_iadd (dT U_Lc64 23 rfl) ?_
    refine x_sld (i + 2) hL (dT U_Lc64 24 rfl) (by omega) (by omega) ?_
    refine x_invokevirtual (rc' := rc) (rs' := rs) (rc2 := 0) (rs2 := 0) (As := [_, _]) (st := _) M_X11_mint K_L_447 (dT U_Lc64 25 rfl) rfl rfl (by decide) rfl rfl wm.c70 (Nat.le_of_ble_eq_true rfl) (by decide) rfl (Nat.le_of_ble_eq_true rfl) rfl (by decide) (Nat.le_of_ble_eq_true rfl) rfl rfl ?_
    refine S_X11_mint wm v (xr_s _) (xr_s _) (fun m1 h3 z ag wx xz => ?_) (fun m1 m2 _ _ _ _ _ => absurd m1 c1) (fun m1 m2 _ _ _ _ _ => absurd m1 c1)
    refine xRet_some ?_
    refine x_istore (ls' := [some (.ref _), some (.ref _), some (.ref _), some (.ref _), some (.ref _), some (vi _), some (vi _), some (vi _), none]) (dT U_Lc64 26 rfl) (by decide) rfl ?_
    refine x_aload_n (dT U_Lc64 27 rfl) rfl ?_
    refine x_invokevirtual (rc' := rc) (rs' := rs) (rc2 := 0) (rs2 := 0) (As := []) (st := _) M_X11_thrown K_L_242 (dT U_Lc64 28 rfl) rfl rfl (by decide) rfl rfl wx.c70 (Nat.le_of_ble_eq_true rfl) (by decide) rfl (Nat.le_of_ble_eq_true rfl) rfl (by decide) (Nat.le_of_ble_eq_true rfl) rfl rfl ?_
    refine S_X11_thrown wx ?_
    refine xRet_some ?_
    refine x_iload (dT U_Lc64 29 rfl) rfl ?_
    refine x_icmp_eq (tgt := 5145) (dT U_Lc64 30 rfl) (by decide) (by unfold xr; omega) (by unfold xr; omega) (fun c5140 => ?_) (fun c5140 => (by exfalso; omega))
    refine x_iload (dT U_Lc64 33 rfl) rfl ?_
    refine x_if_nej (tgt := 5162) (dT U_Lc64 34 rfl) (by decide) (by decide) ?_
    refine x_goto (tgt := 5554) (dT U_Lc64 44 rfl) (by decide) ?_
    refine x_drop ?_ (M _ _ _ _ _ _ _ _ v (w.out ag (by omega)) wx (ag.get ho (by omega)) (ag.get hod (by omega)))
    repeat (first | exact trivial | refine ⟨rfl, ?_⟩ | refine ⟨trivial, ?_⟩)
  · refine xRet_some ?_
    refine x_istore (ls' := [some (.ref _), some (.ref _), some (.ref _), some (.ref _), some (.ref _), some (vi _), some (vi _), none, none]) (dT U_Lc64 13 rfl) (by decide) rfl ?_
    refine x_aload_n (dT U_Lc64 14 rfl) rfl ?_
    refine x_aload_n (dT U_Lc64 15 rfl) rfl ?_
    refine x_iload (dT U_Lc64 16 rfl) rfl ?_
    refine x_iconst (dT U_Lc64 17 rfl) ?_
    refine x_iadd (dT U_Lc64 18 rfl) ?_
    refine x_sld (i + 1) hL (dT U_Lc64 19 rfl) (by omega) (by omega) ?_
    refine x_aload_n (dT U_Lc64 20 rfl) rfl ?_
    refine x_iload (dT U_Lc64 21 rfl) rfl ?_
    refine x_iconst (dT U_Lc64 22 rfl) ?_
    refine x_iadd (dT U_Lc64 23 rfl) ?_
    refine x_sld (i + 2) hL (dT U_Lc64 24 rfl) (by omega) (by omega) ?_
    refine x_invokevirtual (rc' := rc) (rs' := rs) (rc2 := 0) (rs2 := 0) (As := [_, _]) (st := _) M_X11_mint K_L_447 (dT U_Lc64 25 rfl) rfl rfl (by decide) rfl rfl wm.c70 (Nat.le_of_ble_eq_true rfl) (by decide) rfl (Nat.le_of_ble_eq_true rfl) rfl (by decide) (Nat.le_of_ble_eq_true rfl) rfl rfl ?_
    refine S_X11_mint wm v (xr_s _) (xr_s _) (fun m1 _ _ _ _ _ => absurd c1 m1) (fun m1 m2 h3 z ag wx xz => ?_) (fun m1 m2 _ _ _ _ _ => absurd m2 c2)
    refine xRet_some ?_
    refine x_istore (ls' := [some (.ref _), some (.ref _), some (.ref _), some (.ref _), some (.ref _), some (vi _), some (vi _), some (vi _), none]) (dT U_Lc64 26 rfl) (by decide) rfl ?_
    refine x_aload_n (dT U_Lc64 27 rfl) rfl ?_
    refine x_invokevirtual (rc' := rc) (rs' := rs) (rc2 := 0) (rs2 := 0) (As := []) (st := _) M_X11_thrown K_L_242 (dT U_Lc64 28 rfl) rfl rfl (by decide) rfl rfl wx.c70 (Nat.le_of_ble_eq_true rfl) (by decide) rfl (Nat.le_of_ble_eq_true rfl) rfl (by decide) (Nat.le_of_ble_eq_true rfl) rfl rfl ?_
    refine S_X11_thrown wx ?_
    refine xRet_some ?_
    refine x_iload (dT U_Lc64 29 rfl) rfl ?_
    refine x_icmp_eq (tgt := 5145) (dT U_Lc64 30 rfl) (by decide) (by unfold xr; omega) (by unfold xr; omega) (fun c5140 => ?_) (fun c5140 => (by exfalso; omega))
    refine x_iload (dT U_Lc64 33 rfl) rfl ?_
    refine x_if_ne (tgt := 5162) (dT U_Lc64 34 rfl) (by decide) (by unfold xr; omega) (fun c5147 => ?_) (fun c5147 => (by exfalso; omega))
    refine x_goto (tgt := 5554) (dT U_Lc64 44 rfl) (by decide) ?_
    refine x_drop ?_ (M _ _ _ _ _ _ _ _ v (w.out ag (by omega)) wx (ag.get ho (by omega)) (ag.get hod (by omega)))
    repeat (first | exact trivial | refine ⟨rfl, ?_⟩ | refine ⟨trivial, ?_⟩)
  · refine xRet_some ?_
    have wmx := wm.out (h2 := (h2.set 143 (cJ [z9]))) (fun a ha => by rw [hset_fr (by omega)]; exact fc.2 a (by omega))
    refine x_istore (ls' := [some (.ref _), some (.ref _), some (.ref _), some (.ref _), some (.ref _), some (vi _), some (vi _), none, none]) (dT U_Lc64 13 rfl) (by decide) rfl ?_
    refine x_aload_n (dT U_Lc64 14 rfl) rfl ?_
    refine x_aload_n (dT U_Lc64 15 rfl) rfl ?_
    refine x_iload (dT U_Lc64 16 rfl) rfl ?_
    refine x_iconst (dT U_Lc64 17 rfl) ?_
    refine x_iadd (dT U_Lc64 18 rfl) ?_
    refine x_sld (i + 1) hL (dT U_Lc64 19 rfl) (by omega) (by omega) ?_
    refine x_aload_n (dT U_Lc64 20 rfl) rfl ?_
    refine x_iload (dT U_Lc64 21 rfl) rfl ?_
    refine x_iconst (dT U_Lc64 22 rfl) ?_
    refine x_iadd (dT U_Lc64 23 rfl) ?_
    refine x_sld (i + 2) hL (dT U_Lc64 24 rfl) (by omega) (by omega) ?_
    refine x_invokevirtual (rc' := rc) (rs' := rs) (rc2 := 0) (rs2 := 0) (As := [_, _]) (st := _) M_X11_mint K_L_447 (dT U_Lc64 25 rfl) rfl rfl (by decide) rfl rfl wmx.c70 (Nat.le_of_ble_eq_true rfl) (by decide) rfl (Nat.le_of_ble_eq_true rfl) rfl (by decide) (Nat.le_of_ble_eq_true rfl) rfl rfl ?_
    refine S_X11_mint wmx v (xr_s _) (xr_s _) (fun m1 _ _ _ _ _ => absurd c1 m1) (fun m1 m2 _ _ _ _ _ => absurd c2 m2) (fun m1 m2 h3 r3 s3 ag wx => ?_)
    refine xRet_some ?_
    rw [ez9]
    refine x_istore (ls' := [some (.ref _), some (.ref _), some (.ref _), some (.ref _), some (.ref _), some (vi _), some (vi _), some (vi _), none]) (dT U_Lc64 26 rfl) (by decide) rfl ?_
    refine x_aload_n (dT U_Lc64 27 rfl) rfl ?_
    refine x_invokevirtual (rc' := rc) (rs' := rs) (rc2 := 0) (rs2 := 0) (As := []) (st := _) M_X11_thrown K_L_242 (dT U_Lc64 28 rfl) rfl rfl (by decide) rfl rfl wx.c70 (Nat.le_of_ble_eq_true rfl) (by decide) rfl (Nat.le_of_ble_eq_true rfl) rfl (by decide) (Nat.le_of_ble_eq_true rfl) rfl rfl ?_
    refine S_X11_thrown wx ?_
    refine xRet_some ?_
    refine x_iload (dT U_Lc64 29 rfl) rfl ?_
    refine x_icmp_eq (tgt := 5145) (dT U_Lc64 30 rfl) (by decide) (by unfold xr; omega) (by unfold xr; omega) (fun c5140 => ?_) (fun c5140 => (by exfalso; omega))
    refine x_iload (dT U_Lc64 33 rfl) rfl ?_
    refine x_if_nen (tgt := 5162) (dT U_Lc64 34 rfl) (by decide) (by decide) ?_
    refine x_aload_n (dT U_Lc64 35 rfl) rfl ?_
    refine x_iconst (dT U_Lc64 36 rfl) ?_
    refine x_laload 0 (dT U_Lc64 37 rfl) (ag.get (hset_eq (fc.get ho (by omega))) (by omega)) (Nat.le_of_ble_eq_true rfl) rfl (Nat.le_of_ble_eq_true rfl) (Nat.le_of_ble_eq_true rfl) ?_
    refine x_iload (dT U_Lc64 38 rfl) rfl ?_
    refine x_i2l (dT U_Lc64 39 rfl) hz9 ?_
    refine x_lcmp (dT U_Lc64 40 rfl) (xr_l hz9) (xr_l hz9) ?_
    refine x_if_eqj (tgt := 5162) (dT U_Lc64 41 rfl) (by decide) (xcmp_rf _) ?_
    refine x_goto (tgt := 5554) (dT U_Lc64 44 rfl) (by decide) ?_
    refine x_drop ?_ (M _ _ _ _ _ _ _ _ (IV_mint v c1 c2) ((w2.out ((Ag.rf 143 143 h2).set (by omega)) (by omega)).out ag (by omega)) wx (ag.get (hset_eq (fc.get ho (by omega))) (by omega)) (ag.get (hset_ne (by omega) (fc.get hod (by omega))) (by omega)))
    repeat (first | exact trivial | refine ⟨rfl, ?_⟩ | refine ⟨trivial, ?_⟩)
