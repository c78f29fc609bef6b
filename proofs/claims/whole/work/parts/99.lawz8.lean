def B_Lc65 : ByteArray := .mk #[0x2b, 0x2a, 0x15, 0x05, 0x04, 0x60, 0x2e, 0x2a, 0x15, 0x05, 0x05, 0x60, 0x2e, 0x2a, 0x15, 0x05, 0x06, 0x60, 0x2e, 0x2d, 0xb8, 0x01, 0xc0, 0x36, 0x06, 0x2c, 0x2a, 0x15, 0x05, 0x04, 0x60, 0x2e, 0x2a, 0x15, 0x05, 0x05, 0x60, 0x2e, 0x2a, 0x15, 0x05, 0x06, 0x60, 0x2e, 0xb6, 0x01, 0xc2, 0x36, 0x07, 0x2c, 0xb6, 0x00, 0xf2, 0x15, 0x06, 0x9f, 0x00, 0x05, 0x03, 0xac, 0x15, 0x06, 0x9a, 0x00, 0x0f, 0x2d, 0x03, 0x2f, 0x15, 0x07, 0x85, 0x94, 0x99, 0x00, 0x05, 0x03, 0xac, 0xa7, 0x01, 0x38]
theorem W_Lc65 : sameFrom m_L_law.2.1 B_Lc65 5165 := sameFrom_of (by decide +kernel)
def t_Lc65 : List (Nat × Instr × Nat) := [(5165, .aload_n 1, 1), (5166, .aload_n 0, 1), (5167, .iload 5, 2), (5169, .iconst 1, 1), (5170, .iadd, 1), (5171, .iaload, 1), (5172, .aload_n 0, 1), (5173, .iload 5, 2), (5175, .iconst 2, 1), (5176, .iadd, 1), (5177, .iaload, 1), (5178, .aload_n 0, 1), (5179, .iload 5, 2), (5181, .iconst 3, 1), (5182, .iadd, 1), (5183, .iaload, 1), (5184, .aload_n 3, 1), (5185, .invokestatic 448, 3), (5188, .istore 6, 2), (5190, .aload_n 2, 1), (5191, .aload_n 0, 1), (5192, .iload 5, 2), (5194, .iconst 1, 1), (5195, .iadd, 1), (5196, .iaload, 1), (5197, .aload_n 0, 1), (5198, .iload 5, 2), (5200, .iconst 2, 1), (5201, .iadd, 1), (5202, .iaload, 1), (5203, .aload_n 0, 1), (5204, .iload 5, 2), (5206, .iconst 3, 1), (5207, .iadd, 1), (5208, .iaload, 1), (5209, .invokevirtual 450, 3), (5212, .istore 7, 2), (5214, .aload_n 2, 1), (5215, .invokevirtual 242, 3), (5218, .iload 6, 2), (5220, .if_icmp .eq 5, 3), (5223, .iconst 0, 1), (5224, .ireturn, 1), (5225, .iload 6, 2), (5227, .ifCond .ne 15, 3), (5230, .aload_n 3, 1), (5231, .iconst 0, 1), (5232, .laload, 1), (5233, .iload 7, 2), (5235, .i2l, 1), (5236, .lcmp, 1), (5237, .ifCond .eq 5, 3), (5240, .iconst 0, 1), (5241, .ireturn, 1), (5242, .goto 312, 3)]
set_option maxRecDepth 20000 in
theorem U_Lc65 : okT m_L_law.2.1 t_Lc65 = true := dSt [(0, .aload_n 1, 1), (1, .aload_n 0, 1), (2, .iload 5, 2), (4, .iconst 1, 1), (5, .iadd, 1), (6, .iaload, 1), (7, .aload_n 0, 1), (8, .iload 5, 2), (10, .iconst 2, 1), (11, .iadd, 1), (12, .iaload, 1), (13, .aload_n 0, 1), (14, .iload 5, 2), (16, .iconst 3, 1), (17, .iadd, 1), (18, .iaload, 1), (19, .aload_n 3, 1), (20, .invokestatic 448, 3), (23, .istore 6, 2), (25, .aload_n 2, 1), (26, .aload_n 0, 1), (27, .iload 5, 2), (29, .iconst 1, 1), (30, .iadd, 1), (31, .iaload, 1), (32, .aload_n 0, 1), (33, .iload 5, 2), (35, .iconst 2, 1), (36, .iadd, 1), (37, .iaload, 1), (38, .aload_n 0, 1), (39, .iload 5, 2), (41, .iconst 3, 1), (42, .iadd, 1), (43, .iaload, 1), (44, .invokevirtual 450, 3), (47, .istore 7, 2), (49, .aload_n 2, 1), (50, .invokevirtual 242, 3), (53, .iload 6, 2), (55, .if_icmp .eq 5, 3), (58, .iconst 0, 1), (59, .ireturn, 1), (60, .iload 6, 2), (62, .ifCond .ne 15, 3), (65, .aload_n 3, 1), (66, .iconst 0, 1), (67, .laload, 1), (68, .iload 7, 2), (70, .i2l, 1), (71, .lcmp, 1), (72, .ifCond .eq 5, 3), (75, .iconst 0, 1), (76, .ireturn, 1), (77, .goto 312, 3)] W_Lc65 (by decide +kernel) (by decide +kernel)
set_option maxRecDepth 20000 in
set_option maxHeartbeats 1000000 in
theorem LC_65 {G : xG} {d rc rs : Nat} {ex : Bool} {h : xH} {Q : xQ} {σ : St} {c0 : Int} {rr : Nat} {ss : Int} {l0 : Int} {d0 : UInt64} {i : Nat} (hL : G.2.2.2.2.2.1 < 2147483648) (hi : i + 10 ≤ G.2.2.2.2.2.1) (w : CW σ h) (wm : MX σ c0 rr ss h) (v : INV σ) (ho : h[143]? = some (cJ [l0])) (hod : h[144]? = some (cD [d0]))
    (M : ∀ (σ9 : St) (h9 : xH) (e9 : Bool) (c9 : Int) (r9 : Nat) (s9 : Int) (l9 : Int) (d9 : UInt64), INV σ9 → CW σ9 h9 → MX σ9 c9 r9 s9 h9 → h9[143]? = some (cJ [l9]) → h9[144]? = some (cD [d9]) → X G m_L_law (d + 10) rc rs e9 5554 [some (.ref 0), some (.ref 3), some (.ref 70), some (.ref 143), some (.ref 144), some (vi (i : Int)), none, none, none] [] h9 Q) : X G m_L_law (d + 10) (rc + 5) (rs + 30) ex 5165 [some (.ref 0), some (.ref 3), some (.ref 70), some (.ref 143), some (.ref 144), some (vi (i : Int)), none, none, none] [] h Q := by
  refine x_aload_n (dT U_Lc65 0 rfl) rfl ?_
  refine x_aload_n (dT U_Lc65 1 rfl) rfl ?_
  refine x_iload (dT U_Lc65 2 rfl) rfl ?_
  refine x_iconst (dT U_Lc65 3 rfl) ?_
  refine x_iadd (dT U_Lc65 4 rfl) ?_
  refine x_sld (i + 1) hL (dT U_Lc65 5 rfl) (by omega) (by omega) ?_
  refine x_aload_n (dT U_Lc65 6 rfl) rfl ?_
  refine x_iload (dT U_Lc65 7 rfl) rfl ?_
  refine x_iconst (dT U_Lc65 8 rfl) ?_
  refine x_iadd (dT U_Lc65 9 rfl) ?_
  refine x_sld (i + 2) hL (dT U_Lc65 10 rfl) (by omega) (by omega) ?_
  refine x_aload_n (dT U_Lc65 11 rfl) rfl ?_
  refine x_iload (dT U_Lc65 12 rfl) rfl ?_
  refine x_iconst (dT U_Lc65 13 rfl) ?_
  refine x_iadd (dT U_Lc65 14 rfl) ?_
  refine x_sld (i + 3) hL (dT U_Lc65 15 rfl) (by omega) (by omega) ?_
  refine x_aload_n (dT U_Lc65 16 rfl) rfl ?_
  refine x_invokestaticT (rc' := rc) (rs' := rs) (rc2 := 0 + 5) (rs2 := 0 + 30) (As := [_, _, _, _, _]) (st := _) M_L_split K_L_448 (dT U_Lc65 17 rfl) rfl (by decide) rfl rfl (Nat.le_of_ble_eq_true rfl) rfl (by decide) (Nat.le_of_ble_eq_true rfl) (by omega) (by omega) ?_
  refine S_L_split w v (xr_s _) (xr_s _) (xr_s _) ho (fun c1 => ?_) (fun c1 c2 => ?_) (fun c1 c2 c3 => ?_) (fun c1 c2 c3 h2 fc w2 z9 hz9 ez9 => ?_)
  · refine xRet_some ?_
    refine x_istore (ls' := [some (.ref _), some (.ref _), some (.ref _), some (.ref _), some (.ref _), some (vi _), some (vi _), none, none]) (dT U_Lc65 18 rfl) (by decide) rfl ?_
    refine x_aload_n (dT U_Lc65 19 rfl) rfl ?_
    refine x_aload_n (dT U_Lc65 20 rfl) rfl ?_
    refine x_iload (dT U_Lc65 21 rfl) rfl ?_
    refine x_iconst (dT U_Lc65 22 rfl) ?_
    refine x_iadd (dT U_Lc65 23 rfl) ?_
    refine x_sld (i + 1) hL (dT U_Lc65 24 rfl) (by omega) (by omega) ?_
    refine x_aload_n (dT U_Lc65 25 rfl) rfl ?_
    refine x_iload (dT U_Lc65 26 rfl) rfl ?_
    refine x_iconst (dT U_Lc65 27 rfl) ?_
    refine x_iadd (dT U_Lc65 28 rfl) ?_
    refine x_sld (i + 2) hL (dT U_Lc65 29 rfl) (by omega) (by omega) ?_
    refine x_aload_n (dT U_Lc65 30 rfl) rfl ?_
    refine x_iload (dT U_Lc65 31 rfl) rfl ?_
    refine x_iconst (dT U_Lc65 32 rfl) ?_
    refine x_iadd (dT U_Lc65 33 rfl) ?_
    refine x_sld (i + 3) hL (dT U_Lc65 34 rfl) (by omega) (by omega) ?_
    refine x_invokevirtual (rc' := rc) (rs' := rs) (rc2 := 0) (rs2 := 0) (As := [_, _, _]) (st := _) M_X11_split K_L_450 (dT U_Lc65 35 rfl) rfl rfl (by decide) rfl rfl wm.c70 (Nat.le_of_ble_eq_true rfl) (by decide) rfl (Nat.le_of_ble_eq_true rfl) rfl (by decide) (Nat.le_of_ble_eq_true rfl) rfl rfl ?_
    refine S_X11_split wm v (xr_s _) (xr_s _) (xr_s _) (fun m1 h3 z ag wx xz => ?_) (fun m1 m2 _ _ _ _ _ => absurd m1 c1) (fun m1 m2 m3 _ _ _ _ _ => absurd m1 c1) (fun m1 m2 m3 _ _ _ _ _ => absurd m1 c1)
    refine xRet_some ?_
    refine x_istore (ls' := [some (.ref _), some (.ref _), some (.ref _), some (.ref _), some (.ref _), some (vi _), some (vi _), some (vi _), none]) (dT U_Lc65 36 rfl) (by decide) rfl ?_
    refine x_aload_n (dT U_Lc65 37 rfl) rfl ?_
    refine x_invokevirtual (rc' := rc) (rs' := rs) (rc2 := 0) (rs2 := 0) (As := []) (st := _) M_X11_thrown K_L_242 (dT U_Lc65 38 rfl) rfl rfl (by decide) rfl rfl wx.c70 (Nat.le_of_ble_eq_true rfl) (by decide) rfl (Nat.le_of_ble_eq_true rfl) rfl (by decide) (Nat.le_of_ble_eq_true rfl) rfl rfl ?_
    refine S_X11_thrown wx ?_
    refine xRet_some ?_
    refine x_iload (dT U_Lc65 39 rfl) rfl ?_
    refine x_icmp_eq (tgt := 5225) (dT U_Lc65 40 rfl) (by decide) (by unfold xr; omega) (by unfold xr; omega) (fun c5220 => ?_) (fun c5220 => (by exfalso; omega))
    refine x_iload (dT U_Lc65 43 rfl) rfl ?_
    refine x_if_nej (tgt := 5242) (dT U_Lc65 44 rfl) (by decide) (by decide) ?_
    refine x_goto (tgt := 5554) (dT U_Lc65 54 rfl) (by decide) ?_
    refine x_drop ?_ (M _ _ _ _ _ _ _ _ v (w.out ag (by omega)) wx (ag.get ho (by omega)) (ag.get hod (by omega)))
    repeat (first | exact trivial | refine ⟨rfl, ?_⟩ | refine ⟨trivial, ?_⟩)
  · refine xRet_some ?_
    refine x_istore (ls' := [some (.ref _), some (.ref _), some (.ref _), some (.ref _), some (.ref _), some (vi _), some (vi _), none, none]) (dT U_Lc65 18 rfl) (by decide) rfl ?_
    refine x_aload_n (dT U_Lc65 19 rfl) rfl ?_
    refine x_aload_n (dT U_Lc65 20 rfl) rfl ?_
    refine x_iload (dT U_Lc65 21 rfl) rfl ?_
    refine x_iconst (dT U_Lc65 22 rfl) ?_
    refine x_iadd (dT U_Lc65 23 rfl) ?_
    refine x_sld (i + 1) hL (dT U_Lc65 24 rfl) (by omega) (by omega) ?_
    refine x_aload_n (dT U_Lc65 25 rfl) rfl ?_
    refine x_iload (dT U_Lc65 26 rfl) rfl ?_
    refine x_iconst (dT U_Lc65 27 rfl) ?_
    refine x_iadd (dT U_Lc65 28 rfl) ?_
    refine x_sld (i + 2) hL (dT U_Lc65 29 rfl) (by omega) (by omega) ?_
    refine x_aload_n (dT U_Lc65 30 rfl) rfl ?_
    refine x_iload (dT U_Lc65 31 rfl) rfl ?_
    refine x_iconst (dT U_Lc65 32 rfl) ?_
    refine x_iadd (dT U_Lc65 33 rfl) ?_
    refine x_sld (i + 3) hL (dT U_Lc65 34 rfl) (by omega) (by omega) ?_
    refine x_invokevirtual (rc' := rc) (rs' := rs) (rc2 := 0) (rs2 := 0) (As := [_, _, _]) (st := _) M_X11_split K_L_450 (dT U_Lc65 35 rfl) rfl rfl (by decide) rfl rfl wm.c70 (Nat.le_of_ble_eq_true rfl) (by decide) rfl (Nat.le_of_ble_eq_true rfl) rfl (by decide) (Nat.le_of_ble_eq_true rfl) rfl rfl ?_
    refine S_X11_split wm v (xr_s _) (xr_s _) (xr_s _) (fun m1 _ _ _ _ _ => absurd c1 m1) (fun m1 m2 h3 z ag wx xz => ?_) (fun m1 m2 m3 _ _ _ _ _ => absurd m2 c2) (fun m1 m2 m3 _ _ _ _ _ => absurd m2 c2)
    refine xRet_some ?_
    refine x_istore (ls' := [some (.ref _), some (.ref _), some (.ref _), some (.ref _), some (.ref _), some (vi _), some (vi _), some (vi _), none]) (dT U_Lc65 36 rfl) (by decide) rfl ?_
    refine x_aload_n (dT U_Lc65 37 rfl) rfl ?_
    refine x_invokevirtual (rc' := rc) (rs' := rs) (rc2 := 0) (rs2 := 0) (As := []) (st := _) M_X11_thrown K_L_242 (dT U_Lc65 38 rfl) rfl rfl (by decide) rfl rfl wx.c70 (Nat.le_of_ble_eq_true rfl) (by decide) rfl (Nat.le_of_ble_eq_true rfl) rfl (by decide) (Nat.le_of_ble_eq_true rfl) rfl rfl ?_
    refine S_X11_thrown wx ?_
    refine xRet_some ?_
    refine x_iload (dT U_Lc65 39 rfl) rfl ?_
    refine x_icmp_eq (tgt := 5225) (dT U_Lc65 40 rfl) (by decide) (by unfold xr; omega) (by unfold xr; omega) (fun c5220 => ?_) (fun c5220 => (by exfalso; omega))
    refine x_iload (dT U_Lc65 43 rfl) rfl ?_
    refine x_if_ne (tgt := 5242) (dT U_Lc65 44 rfl) (by decide) (by unfold xr; omega) (fun c5227 => ?_) (fun c5227 => (by exfalso; omega))
    refine x_goto (tgt := 5554) (dT U_Lc65 54 rfl) (by decide) ?_
    refine x_drop ?_ (M _ _ _ _ _ _ _ _ v (w.out ag (by omega)) wx (ag.get ho (by omega)) (ag.get hod (by omega)))
    repeat (first | exact trivial | refine ⟨rfl, ?_⟩ | refine ⟨trivial, ?_⟩)
  · refine xRet_some ?_
    refine x_istore (ls' := [some (.ref _), some (.ref _), some (.ref _), some (.ref _), some (.ref _), some (vi _), some (vi _), none, none]) (dT U_Lc65 18 rfl) (by decide) rfl ?_
    refine x_aload_n (dT U_Lc65 19 rfl) rfl ?_
    refine x_aload_n (dT U_Lc65 20 rfl) rfl ?_
    refine x_iload (dT U_Lc65 21 rfl) rfl ?_
    refine x_iconst (dT U_Lc65 22 rfl) ?_
    refine x_iadd (dT U_Lc65 23 rfl) ?_
    refine x_sld (i + 1) hL (dT U_Lc65 24 rfl) (by omega) (by omega) ?_
    refine x_aload_n (dT U_Lc65 25 rfl) rfl ?_
    refine x_iload (dT U_Lc65 26 rfl) rfl ?_
    refine x_iconst (dT U_Lc65 27 rfl) ?_
    refine x_iadd (dT U_Lc65 28 rfl) ?_
    refine x_sld (i + 2) hL (dT U_Lc65 29 rfl) (by omega) (by omega) ?_
    refine x_aload_n (dT U_Lc65 30 rfl) rfl ?_
    refine x_iload (dT U_Lc65 31 rfl) rfl ?_
    refine x_iconst (dT U_Lc65 32 rfl) ?_
    refine x_iadd (dT U_Lc65 33 rfl) ?_
    refine x_sld (i + 3) hL (dT U_Lc65 34 rfl) (by omega) (by omega) ?_
    refine x_invokevirtual (rc' := rc) (rs' := rs) (rc2 := 0) (rs2 := 0) (As := [_, _, _]) (st := _) M_X11_split K_L_450 (dT U_Lc65 35 rfl) rfl rfl (by decide) rfl rfl wm.c70 (Nat.le_of_ble_eq_true rfl) (by decide) rfl (Nat.le_of_ble_eq_true rfl) rfl (by decide) (Nat.le_of_ble_eq_true rfl) rfl rfl ?_
    refine S_X11_split wm v (xr_s _) (xr_s _) (xr_s _) (fun m1 _ _ _ _ _ => absurd c1 m1) (fun m1 m2 _ _ _ _ _ => absurd c2 m2) (fun m1 m2 m3 h3 z ag wx xz => ?_) (fun m1 m2 m3 _ _ _ _ _ => absurd m3 c3)
    refine xRet_some ?_
    refine x_istore (ls' := [some (.ref _), some (.ref _), some (.ref _), some (.ref _), some (.ref _), some (vi _), some (vi _), some (vi _), none]) (dT U_Lc65 36 rfl) (by decide) rfl ?_
    refine x_aload_n (dT U_Lc65 37 rfl) rfl ?_
    refine x_invokevirtual (rc' := rc) (rs' := rs) (rc2 := 0) (rs2 := 0) (As := []) (st := _) M_X11_thrown K_L_242 (dT U_Lc65 38 rfl) rfl rfl (by decide) rfl rfl wx.c70 (Nat.le_of_ble_eq_true rfl) (by decide) rfl (Nat.le_of_ble_eq_true rfl) rfl (by decide) (Nat.le_of_ble_eq_true rfl) rfl rfl ?_
    refine S_X11_thrown wx ?_
    refine xRet_some ?_
    refine x_iload (dT U_Lc65 39 rfl) rfl ?_
    refine x_icmp_eq (tgt := 5225) (dT U_Lc65 40 rfl) (by decide) (by unfold xr; omega) (by unfold xr; omega) (fun c5220 => ?_) (fun c5220 => (by exfalso; omega))
    refine x_iload (dT U_Lc65 43 rfl) rfl ?_
    refine x_if_ne (tgt := 5242) (dT U_Lc65 44 rfl) (by decide) (by unfold xr; omega) (fun c5227 => ?_) (fun c5227 => (by exfalso; omega))
    refine x_goto (tgt := 5554) (dT U_Lc65 54 rfl) (by decide) ?_
    refine x_drop ?_ (M _ _ _ _ _ _ _ _ v (w.out ag (by omega)) wx (ag.get ho (by omega)) (ag.get hod (by omega)))
    repeat (first | exact trivial | refine ⟨rfl, ?_⟩ | refine ⟨trivial, ?_⟩)
  · refine xRet_some ?_
    have wmx := wm.out (h2 := (h2.set 143 (cJ [z9]))) (fun a ha => by rw [hset_fr (by omega)]; exact fc.2 a (by omega))
    refine x_istore (ls' := [some (.ref _), some (.ref _), some (.ref _), some (.ref _), some (.ref _), some (vi _), some (vi _), none, none]) (dT U_Lc65 18 rfl) (by decide) rfl ?_
    refine x_aload_n (dT U_Lc65 19 rfl) rfl ?_
    refine x_aload_n (dT U_Lc65 20 rfl) rfl ?_
    refine x_iload (dT U_Lc65 21 rfl) rfl ?_
    refine x_iconst (dT U_Lc65 22 rfl) ?_
    refine x_iadd (dT U_Lc65 23 rfl) ?_
    refine x_sld (i + 1) hL (dT U_Lc65 24 rfl) (by omega) (by omega) ?_
    refine x_aload_n (dT U_Lc65 25 rfl) rfl ?_
    refine x_iload (dT U_Lc65 26 rfl) rfl ?_
    refine x_iconst (dT U_Lc65 27 rfl) ?_
    refine x_iadd (dT U_Lc65 28 rfl) ?_
    refine x_sld (i + 2) hL (dT U_Lc65 29 rfl) (by omega) (by omega) ?_
    refine x_aload_n (dT U_Lc65 30 rfl) rfl ?_
    refine x_iload (dT U_Lc65 31 rfl) rfl ?_
    refine x_iconst (dT U_Lc65 32 rfl) ?_
    refine x_iadd (dT U_Lc65 33 rfl) ?_
    refine x_sld (i + 3) hL (dT U_Lc65 34 rfl) (by omega) (by omega) ?_
    refine x_invokevirtual (rc' := rc) (rs' := rs) (rc2 := 0) (rs2 := 0) (As := [_, _, _]) (st := _) M_X11_split K_L_450 (dT U_Lc65 35 rfl) rfl rfl (by decide) rfl rfl wmx.c70 (Nat.le_of_ble_eq_true rfl) (by decide) rfl (Nat.le_of_ble_eq_true rfl) rfl (by decide) (Nat.le_of_ble_eq_true rfl) rfl rfl ?_
    refine S_X11_split wmx v (xr_s _) (xr_s _) (xr_s _) (fun m1 _ _ _ _ _ => absurd c1 m1) (fun m1 m2 _ _ _ _ _ => absurd c2 m2) (fun m1 m2 m3 _ _ _ _ _ => absurd c3 m3) (fun m1 m2 m3 h3 r3 s3 ag wx => ?_)
    refine xRet_some ?_
    rw [ez9]
    refine x_istore (ls' := [some (.ref _), some (.ref _), some (.ref _), some (.ref _), some (.ref _), some (vi _), some (vi _), some (vi _), none]) (dT U_Lc65 36 rfl) (by decide) rfl ?_
    refine x_aload_n (dT U_Lc65 37 rfl) rfl ?_
    refine x_invokevirtual (rc' := rc) (rs' := rs) (rc2 := 0) (rs2 := 0) (As := []) (st := _) M_X11_thrown K_L_242 (dT U_Lc65 38 rfl) rfl rfl (by decide) rfl rfl wx.c70 (Nat.le_of_ble_eq_true rfl) (by decide) rfl (Nat.le_of_ble_eq_true rfl) rfl (by decide) (Nat.le_of_ble_eq_true rfl) rfl rfl ?_
    refine S_X11_thrown wx ?_
    refine xRet_some ?_
    refine x_iload (dT U_Lc65 39 rfl) rfl ?_
    refine x_icmp_eq (tgt := 5225) (dT U_Lc65 40 rfl) (by decide) (by unfold xr; omega) (by unfold xr; omega) (fun c5220 => ?_) (fun c5220 => (by exfalso; omega))
    refine x_iload (dT U_Lc65 43 rfl) rfl ?_
    refine x_if_nen (tgt := 5242) (dT U_Lc65 44 rfl) (by decide) (by decide) ?_
    refine x_aload_n (dT U_Lc65 45 rfl) rfl ?_
    refine x_iconst (dT U_Lc65 46 rfl) ?_
    refine x_laload 0 (dT U_Lc65 47 rfl) (ag.get (hset_eq (fc.get ho (by omega))) (by omega)) (Nat.le_of_ble_eq_true rfl) rfl (Nat.le_of_ble_eq_true rfl) (Nat.le_of_ble_eq_true rfl) ?_
    refine x_iload (dT U_Lc65 48 rfl) rfl ?_
    refine x_i2l (dT U_Lc65 49 rfl) hz9 ?_
    refine x_lcmp (dT U_Lc65 50 rfl) (xr_l hz9) (xr_l hz9) ?_
    refine x_if_eqj (tgt := 5242) (dT U_Lc65 51 rfl) (by decide) (xcmp_rf _) ?_
    refine x_goto (tgt := 5554) (dT U_Lc65 54 rfl) (by decide) ?_
    refine x_drop ?_ (M _ _ _ _ _ _ _ _ (IV_split v c1 c2 c3) ((w2.out ((Ag.rf 143 143 h2).set (by omega)) (by omega)).out ag (by omega)) wx (ag.get (hset_eq (fc.get ho (by omega))) (by omega)) (ag.get (hset_ne (by omega) (fc.get hod (by omega))) (by omega)))
    repeat (first | exact trivial | refine ⟨rfl, ?_⟩ | refine ⟨trivial, ?_⟩)

def B_Lc66 : ByteArray := .mk #[0x2b, 0x2a, 0x15, 0x05, 0x04, 0x60, 0x2e, 0x2a, 0x15, 0x05, 0x05, 0x60, 0x2e, 0x2d, 0xb8, 0x01, 0xc3, 0x36, 0x06, 0x2c, 0x2a, 0x15, 0x05, 0x04, 0x60, 0x2e, 0x2a, 0x15, 0x05, 0x05, 0x60, 0x2e, 0xb6, 0x01, 0xc5, 0x36, 0x07, 0x2c, 0xb6, 0x00, 0xf2, 0x15, 0x06, 0x9f, 0x00, 0x05, 0x03, 0xac, 0x15, 0x06, 0x9a, 0x00, 0x0f, 0x2d, 0x03, 0x2f, 0x15, 0x07, 0x85, 0x94, 0x99, 0x00, 0x05, 0x03, 0xac, 0xa7, 0x00, 0xf4]
theorem W_Lc66 : sameFrom m_L_law.2.1 B_Lc66 5245 := sameFrom_of (by decide +kernel)
def t_Lc66 : List (Nat × Instr × Nat) := [(5245, .aload_n 1, 1), (5246, .aload_n 0, 1), (5247, .iload 5, 2), (5249, .iconst 1, 1), (5250, .iadd, 1), (5251, .iaload, 1), (5252, .aload_n 0, 1), (5253, .iload 5, 2), (5255, .iconst 2, 1), (5256, .iadd, 1), (5257, .iaload, 1), (5258, .aload_n 3, 1), (5259, .invokestatic 451, 3), (5262, .istore 6, 2), (5264, .aload_n 2, 1), (5265, .aload_n 0, 1), (5266, .iload 5, 2), (5268, .iconst 1, 1), (5269, .iadd, 1), (5270, .iaload, 1), (5271, .aload_n 0, 1), (5272, .iload 5, 2), (5274, .iconst 2, 1), (5275, .iadd, 1), (5276, .iaload, 1), (5277, .invokevirtual 453, 3), (5280, .istore 7, 2), (5282, .aload_n 2, 1), (5283, .invokevirtual 242, 3), (5286, .iload 6, 2), (5288, .if_icmp .eq 5, 3), (5291, .iconst 0, 1), (5292, .ireturn, 1), (5293, .iload 6, 2), (5295, .ifCond .ne 15, 3), (5298, .aload_n 3, 1), (5299, .iconst 0, 1), (5300, .laload, 1), (5301, .iload 7, 2), (5303, .i2l, 1), (5304, .lcmp, 1), (5305, .ifCond .eq 5, 3), (5308, .iconst 0, 1), (5309, .ireturn, 1), (5310, .goto 244, 3)]
set_option maxRecDepth 20000 in
theorem U_Lc66 : okT m_L_law.2.1 t_Lc66 = true := dSt [(0, .aload_n 1, 1), (1, .aload_n 0, 1), (2, .iload 5, 2), (4, .iconst 1, 1), (5, .iadd, 1), (6, .iaload, 1), (7, .aload_n 0, 1), (8, .iload 5, 2), (10, .iconst 2, 1), (11, .iadd, 1), (12, .iaload, 1), (13, .aload_n 3, 1), (14, .invokestatic 451, 3), (17, .istore 6, 2), (19, .aload_n 2, 1), (20, .aload_n 0, 1), (21, .iload 5, 2), (23, .iconst 1, 1), (24, .iadd, 1), (25, .iaload, 1), (26, .aload_n 0, 1), (27, .iload 5, 2), (29, .iconst 2, 1), (30, .iadd, 1), (31, .iaload, 1), (32, .invokevirtual 453, 3), (35, .istore 7, 2), (37, .aload_n 2, 1), (38, .invokevirtual 242, 3), (41, .iload 6, 2), (43, .if_icmp .eq 5, 3), (46, .iconst 0, 1), (47, .ireturn, 1), (48, .iload 6, 2), (50, .ifCond .ne 15, 3), (53, .aload_n 3, 1), (54, .iconst 0, 1), (55, .laload, 1), (56, .iload 7, 2), (58, .i2l, 1), (59, .lcmp, 1), (60, .ifCond .eq 5, 3), (63, .iconst 0, 1), (64, .ireturn, 1), (65, .goto 244, 3)] W_Lc66 (by decide +kernel) (by decide +kernel)
set_option maxRecDepth 20000 in
set_option maxHeartbeats 1000000 in
theorem LC_66 {G : xG} {d rc rs : Nat} {ex : Bool} {h : xH} {Q : xQ} {σ : St} {c0 : Int} {rr : Nat} {ss : Int} {l0 : Int} {d0 : UInt64} {i : Nat} (hL : G.2.2.2.2.2.1 < 2147483648) (hi : i + 10 ≤ G.2.2.2.2.2.1) (w : CW σ h) (wm : MX σ c0 rr ss h) (v : INV σ) (ho : h[143]? = some (cJ [l0])) (hod : h[144]? = some (cD [d0]))
    (M : ∀ (σ9 : St) (h9 : xH) (e9 : Bool) (c9 : Int) (r9 : Nat) (s9 : Int) (l9 : Int) (d9 : UInt64), INV σ9 → CW σ9 h9 → MX σ9 c9 r9 s9 h9 → h9[143]? = some (cJ [l9]) → h9[144]? = some (cD [d9]) → X G m_L_law (d + 10) rc rs e9 5554 [some (.ref 0), some (.ref 3), some (.ref 70), some (.ref 143), some (.ref 144), some (vi (i : Int)), none, none, none] [] h9 Q) : X G m_L_law (d + 10) (rc + 6) (rs + 36) ex 5245 [some (.ref 0), some (.ref 3), some (.ref 70), some (.ref 143), some (.ref 144), some (vi (i : Int)), none, none, none] [] h Q := by
  refine x_aload_n (dT U_Lc66 0 rfl) rfl ?_
  refine x_aload_n (dT U_Lc66 1 rfl) rfl ?_
  refine x_iload (dT U_Lc66 2 rfl) rfl ?_
  refine x_iconst (dT U_Lc66 3 rfl) ?_
  refine x_iadd (dT U_Lc66 4 rfl) ?_
  refine x_sld (i + 1) hL (dT U_Lc66 5 rfl) (by omega) (by omega) ?_
  refine x_aload_n (dT U_Lc66 6 rfl) rfl ?_
  refine x_iload (dT U_Lc66 7 rfl) rfl ?_
  refine x_iconst (dT U_Lc66 8 rfl) ?_
  refine x_iadd (dT U_Lc66 9 rfl) ?_
  refine x_sld (i + 2) hL (dT U_Lc66 10 rfl) (by omega) (by omega) ?_
  refine x_aload_n (dT U_Lc66 11 rfl) rfl ?_
  refine x_invokestaticT (rc' := rc) (rs' := rs) (rc2 := 0 + 6) (rs2 := 0 + 36) (As := [_, _, _, _]) (st := _) M_L_merge K_L_451 (dT U_Lc66 12 rfl) rfl (by decide) rfl rfl (Nat.le_of_ble_eq_true rfl) rfl (by decide) (Nat.le_of_ble_eq_true rfl) (by omega) (by omega) ?_
  refine S_L_merge w v (xr_s _) (xr_s _) ho (fun c1 => ?_) (fun c1 c2 => ?_) (fun c1 c2 c3 => ?_) (fun c1 c2 c3 h2 fc w2 z9 hz9 ez9 => ?_)
  · refine xRet_some ?_
    refine x_istore (ls' := [some (.ref _), some (.ref _), some (.ref _), some (.ref _), some (.ref _), some (vi _), some (vi _), none, none]) (dT U_Lc66 13 rfl) (by decide) rfl ?_
    refine x_aload_n (dT U_Lc66 14 rfl) rfl ?_
    refine x_aload_n (dT U_Lc66 15 rfl) rfl ?_
    refine x_iload (dT U_Lc66 16 rfl) rfl ?_
    refine x_iconst (dT U_Lc66 17 rfl) ?_
    refine x_iadd (dT U_Lc66 18 rfl) ?_
    refine x_sld (i + 1) hL (dT U_Lc66 19 rfl) (by omega) (by omega) ?_
    refine x_aload_n (dT U_Lc66 20 rfl) rfl ?_
    refine x_iload (dT U_Lc66 21 rfl) rfl ?_
    refine x_iconst (dT U_Lc66 22 rfl) ?_
    refine x_iadd (dT U_Lc66 23 rfl) ?_
    refine x_sld (i + 2) hL (dT U_Lc66 24 rfl) (by omega) (by omega) ?_
    refine x_invokevirtual (rc' := rc) (rs' := rs) (rc2 := 0) (rs2 := 0) (As := [_, _]) (st := _) M_X11_merge K_L_453 (dT U_Lc66 25 rfl) rfl rfl (by decide) rfl rfl wm.c70 (Nat.le_of_ble_eq_true rfl) (by decide) rfl (Nat.le_of_ble_eq_true rfl) rfl (by decide) (Nat.le_of_ble_eq_true rfl) rfl rfl ?_
    refine S_X11_merge wm v (xr_s _) (xr_s _) (fun m1 h3 z ag wx xz => ?_) (fun m1 m2 _ _ _ _ _ => absurd m1 c1) (fun m1 m2 m3 _ _ _ _ _ => absurd m1 c1) (fun m1 m2 m3 _ _ _ _ _ => absurd m1 c1)
    refine xRet_some ?_
    refine x_istore (ls' := [some (.ref _), some (.ref _), some (.ref _), some (.ref _), some (.ref _), some (vi _), some (vi _), some (vi _), none]) (dT U_Lc66 26 rfl) (by decide) rfl ?_
    refine x_aload_n (dT U_Lc66 27 rfl) rfl ?_
    refine x_invokevirtual (rc' := rc) (rs' := rs) (rc2 := 0) (rs2 := 0) (As := []) (st := _) M_X11_thrown K_L_242 (dT U_Lc66 28 rfl) rfl rfl (by decide) rfl rfl wx.c70 (Nat.le_of_ble_eq_true rfl) (by decide) rfl (Nat.le_of_ble_eq_true rfl) rfl (by decide) (Nat.le_of_ble_eq_true rfl) rfl rfl ?_
    refine S_X11_thrown wx ?_
    refine xRet_some ?_
    refine x_iload (dT U_Lc66 29 rfl) rfl ?_
    refine x_icmp_eq (tgt := 5293) (dT U_Lc66 30 rfl) (by decide) (by unfold xr; omega) (by unfold xr; omega) (fun c5288 => ?_) (fun c5288 => (by exfalso; omega))
    refine x_iload (dT U_Lc66 33 rfl) rfl ?_
    refine x_if_nej (tgt := 5310) (dT U_Lc66 34 rfl) (by decide) (by decide) ?_
    refine x_goto (tgt := 5554) (dT U_Lc66 44 rfl) (by decide) ?_
    refine x_drop ?_ (M _ _ _ _ _ _ _ _ v (w.out ag (by omega)) wx (ag.get ho (by omega)) (ag.get hod (by omega)))
    repeat (first | exact trivial | refine ⟨rfl, ?_⟩ | refine ⟨trivial, ?_⟩)
  · refine xRet_some ?_
    refine x_istore (ls' := [some (.ref _), some (.ref _), some (.ref _), some (.ref _), some (.ref _), some (vi _), some (vi _), none, none]) (dT U_Lc66 13 rfl) (by decide) rfl ?_
    refine x_aload_n (dT U_Lc66 14 rfl) rfl ?_
    refine x_aload_n (dT U_Lc66 15 rfl) rfl ?_
    refine x_iload (dT U_Lc66 16 rfl) rfl ?_
    refine x_iconst (dT U_Lc66 17 rfl) ?_
    refine x_iadd (dT U_Lc66 18 rfl) ?_
    refine x_sld (i + 1) hL (dT U_Lc66 19 rfl) (by omega) (by omega) ?_
    refine x_aload_n (dT U_Lc66 20 rfl) rfl ?_
    refine x_iload (dT U_Lc66 21 rfl) rfl ?_
    refine x_iconst (dT U_Lc66 22 rfl) ?_
    refine x_iadd (dT U_Lc66 23 rfl) ?_
    refine x_sld (i + 2) hL (dT U_Lc66 24 rfl) (by omega) (by omega) ?_
    refine x_invokevirtual (rc' := rc) (rs' := rs) (rc2 := 0) (rs2 := 0) (As := [_, _]) (st := _) M_X11_merge K_L_453 (dT U_Lc66 25 rfl) rfl rfl (by decide) rfl rfl wm.c70 (Nat.le_of_ble_eq_true rfl) (by decide) rfl (Nat.le_of_ble_eq_true rfl) rfl (by decide) (Nat.le_of_ble_eq_true rfl) rfl rfl ?_
    refine S_X11_merge wm v (xr_s _) (xr_s _) (fun m1 _ _ _ _ _ => absurd c1 m1) (fun m1 m2 h3 z ag wx xz => ?_) (fun m1 m2 m3 _ _ _ _ _ => absurd m2 c2) (fun m1 m2 m3 _ _ _ _ _ => absurd m2 c2)
    refine xRet_some ?_
    refine x_istore (ls' := [some (.ref _), some (.ref _), some (.ref _), some (.ref _), some (.ref _), some (vi _), some (vi _), some (vi _), none]) (dT U_Lc66 26 rfl) (by decide) rfl ?_
    refine x_aload_n (dT U_Lc66 27 rfl) rfl ?_
    refine x_invokevirtual (rc' := rc) (rs' := rs) (rc2 := 0) (rs2 := 0) (As := []) (st := _) M_X11_thrown K_L_242 (dT U_Lc66 28 rfl) rfl rfl (by decide) rfl rfl wx.c70 (Nat.le_of_ble_eq_true rfl) (by decide) rfl (Nat.le_of_ble_eq_true rfl) rfl (by decide) (Nat.le_of_ble_eq_true rfl) rfl rfl ?_
    refine S_X11_thrown wx ?_
    refine xRet_some ?_
    refine x_iload (dT U_Lc66 29 rfl) rfl ?_
    refine x_icmp_eq (tgt := 5293) (dT U_Lc66 30 rfl) (by decide) (by unfold xr; omega) (by unfold xr; omega) (fun c5288 => ?_) (fun c5288 => (by exfalso; omega))
    refine x_iload (dT U_Lc66 33 rfl) rfl ?_
    refine x_if_ne (tgt := 5310) (dT U_Lc66 34 rfl) (by decide) (by unfold xr; omega) (fun c5295 => ?_) (fun c5295 => (by exfalso; omega))
    refine x_goto (tgt := 5554) (dT U_Lc66 44 rfl) (by decide) ?_
    refine x_drop ?_ (M _ _ _ _ _ _ _ _ v (w.out ag (by omega)) wx (ag.get ho (by omega)) (ag.get hod (by omega)))
    repeat (first | exact trivial | refine ⟨rfl, ?_⟩ | refine ⟨trivial, ?_⟩)
  · refine xRet_some ?_
    refine x_istore (ls' := [some (.ref _), some (.ref _), some (.ref _), some (.ref _), some (.ref _), some (vi _), some (vi _), none, none]) (dT U_Lc66 13 rfl) (by decide) rfl ?_
    refine x_aload_n (dT U_Lc66 14 rfl) rfl ?_
    refine x_aload_n (dT U_Lc66 15 rfl) rfl ?_
    refine x_iload (dT U_Lc66 16 rfl) rfl ?_
    refine x_iconst (dT U_Lc66 17 rfl) ?_
    refine x_iadd (dT U_Lc66 18 rfl) ?_
    refine x_sld (i + 1) hL (dT U_Lc66 19 rfl) (by omega) (by omega) ?_
    refine x_aload_n (dT U_Lc66 20 rfl) rfl ?_
    refine x_iload (dT U_Lc66 21 rfl) rfl ?_
    refine x_iconst (dT U_Lc66 22 rfl) ?_
    refine x_iadd (dT U_Lc66 23 rfl) ?_
    refine x_sld (i + 2) hL (dT U_Lc66 24 rfl) (by omega) (by omega) ?_
    refine x_invokevirtual (rc' := rc) (rs' := rs) (rc2 := 0) (rs2 := 0) (As := [_, _]) (st := _) M_X11_merge K_L_453 (dT U_Lc66 25 rfl) rfl rfl (by decide) rfl rfl wm.c70 (Nat.le_of_ble_eq_true rfl) (by decide) rfl (Nat.le_of_ble_eq_true rfl) rfl (by decide) (Nat.le_of_ble_eq_true rfl) rfl rfl ?_
    refine S_X11_merge wm v (xr_s _) (xr_s _) (fun m1 _ _ _ _ _ => absurd c1 m1) (fun m1 m2 _ _ _ _ _ => absurd c2 m2) (fun m1 m2 m3 h3 z ag wx xz => ?_) (fun m1 m2 m3 _ _ _ _ _ => absurd m3 c3)
    refine xRet_some ?_
    refine x_istore (ls' := [some (.ref _), some (.ref _), some (.ref _), some (.ref _), some (.ref _), some (vi _), some (vi _), some (vi _), none]) (dT U_Lc66 26 rfl) (by decide) rfl ?_
    refine x_aload_n (dT U_Lc66 27 rfl) rfl ?_
    refine x_invokevirtual (rc' := rc) (rs' := rs) (rc2 := 0) (rs2 := 0) (As := []) (st := _) M_X11_thrown K_L_242 (dT U_Lc66 28 rfl) rfl rfl (by decide) rfl rfl wx.c70 (Nat.le_of_ble_eq_true rfl) (by decide) rfl (Nat.le_of_ble_eq_true rfl) rfl (by decide) (Nat.le_of_ble_eq_true rfl) rfl rfl ?_
    refine S_X11_thrown wx ?_
    refine xRet_some ?_
    refine x_iload (dT U_Lc66 29 rfl) rfl ?_
    refine x_icmp_eq (tgt := 5293) (dT U_Lc66 30 rfl) (by decide) (by unfold xr; omega) (by unfold xr; omega) (fun c5288 => ?_) (fun c5288 => (by exfalso; omega))
    refine x_iload (dT U_Lc66 33 rfl) rfl ?_
    refine x_if_ne (tgt := 5310) (dT U_Lc66 34 rfl) (by decide) (by unfold xr; omega) (fun c5295 => ?_) (fun c5295 => (by exfalso; omega))
    refine x_goto (tgt := 5554) (dT U_Lc66 44 rfl) (by decide) ?_
    refine x_drop ?_ (M _ _ _ _ _ _ _ _ v (w.out ag (by omega)) wx (ag.get ho (by omega)) (ag.get hod (by omega)))
    repeat (first | exact trivial | refine ⟨rfl, ?_⟩ | refine ⟨trivial, ?_⟩)
  · refine xRet_some ?_
    have wmx := wm.out (h2 := (h2.set 143 (cJ [z9]))) (fun a ha => by rw [hset_fr (by omega)]; exact fc.2 a (by omega))
    refine x_istore (ls' := [some (.ref _), some (.ref _), some (.ref _), some (.ref _), some (.ref _), some (vi _), some (vi _), none, none]) (dT U_Lc66 13 rfl) (by decide) rfl ?_
    refine x_aload_n (dT U_Lc66 14 rfl) rfl ?_
    refine x_aload_n (dT U_Lc66 15 rfl) rfl ?_
    refine x_iload (dT U_Lc66 16 rfl) rfl ?_
    refine x_iconst (dT U_Lc66 17 rfl) ?_
    refine x_iadd (dT U_Lc66 18 rfl) ?_
    refine x_sld (i + 1) hL (dT U_Lc66 19 rfl) (by omega) (by omega) ?_
    refine x_aload_n (dT U_Lc66 20 rfl) rfl ?_
    refine x_iload (dT U_Lc66 21 rfl) rfl ?_
    refine x_iconst (dT U_Lc66 22 rfl) ?_
    refine x_iadd (dT U_Lc66 23 rfl) ?_
    refine x_sld (i + 2) hL (dT U_Lc66 24 rfl) (by omega) (by omega) ?_
    refine x_invokevirtual (rc' := rc) (rs' := rs) (rc2 := 0) (rs2 := 0) (As := [_, _]) (st := _) M_X11_merge K_L_453 (dT U_Lc66 25 rfl) rfl rfl (by decide) rfl rfl wmx.c70 (Nat.le_of_ble_eq_true rfl) (by decide) rfl (Nat.le_of_ble_eq_true rfl) rfl (by decide) (Nat.le_of_ble_eq_true rfl) rfl rfl ?_
    refine S_X11_merge wmx v (xr_s _) (xr_s _) (fun m1 _ _ _ _ _ => absurd c1 m1) (fun m1 m2 _ _ _ _ _ => absurd c2 m2) (fun m1 m2 m3 _ _ _ _ _ => absurd c3 m3) (fun m1 m2 m3 h3 r3 s3 ag wx => ?_)
    refine xRet_some ?_
    rw [ez9]
    refine x_istore (ls' := [some (.ref _), some (.ref _), some (.ref _), some (.ref _), some (.ref _), some (vi _), some (vi _), some (vi _), none]) (dT U_Lc66 26 rfl) (by decide) rfl ?_
    refine x_aload_n (dT U_Lc66 27 rfl) rfl ?_
    refine x_invokevirtual (rc' := rc) (rs' := rs) (rc2 := 0) (rs2 := 0) (As := []) (st := _) M_X11_thrown K_L_242 (dT U_Lc66 28 rfl) rfl rfl (by decide) rfl rfl wx.c70 (Nat.le_of_ble_eq_true rfl) (by decide) rfl (Nat.le_of_ble_eq_true rfl) rfl (by decide) (Nat.le_of_ble_eq_true rfl) rfl rfl ?_
    refine S_X11_thrown wx ?_
    refine xRet_some ?_
    refine x_iload (dT U_Lc66 29 rfl) rfl ?_
    refine x_icmp_eq (tgt := 5293) (dT U_Lc66 30 rfl) (by decide) (by unfold xr; omega) (by unfold xr; omega) (fun c5288 => ?_) (fun c5288 => (by exfalso; omega))
    refine x_iload (dT U_Lc66 33 rfl) rfl ?_
    refine x_if_nen (tgt := 5310) (dT U_Lc66 34 rfl) (by decide) (by decide) ?_
    refine x_aload_n (dT U_Lc66 35 rfl) rfl ?_
    refine x_iconst (dT U_Lc66 36 rfl) ?_
    refine x_laload 0 (dT U_Lc66 37 rfl) (ag.get (hset_eq (fc.get ho (by omega))) (by omega)) (Nat.le_of_ble_eq_true rfl) rfl (Nat.le_of_ble_eq_true rfl) (Nat.le_of_ble_eq_true rfl) ?_
    refine x_iload (dT U_Lc66 38 rfl) rfl ?_
    refine x_i2l (dT U_Lc66 39 rfl) hz9 ?_
    refine x_lcmp (dT U_Lc66 40 rfl) (xr_l hz9) (xr_l hz9) ?_
    refine x_if_eqj (tgt := 5310) (dT U_Lc66 41 rfl) (by decide) (xcmp_rf _) ?_
    refine x_goto (tgt := 5554) (dT U_Lc66 44 rfl) (by decide) ?_
    refine x_drop ?_ (M _ _ _ _ _ _ _ _ (IV_merge v c1 c2 c3) ((w2.out ((Ag.rf 143 143 h2).set (by omega)) (by omega)).out ag (by omega)) wx (ag.get (hset_eq (fc.get ho (by omega))) (by omega)) (ag.get (hset_ne (by omega) (fc.get hod (by omega))) (by omega)))
    repeat (first | exact trivial | refine ⟨rfl, ?_⟩ | refine ⟨trivial, ?_⟩)

def B_Lc67 : ByteArray := .mk #[0x2b, 0x2a, 0x15, 0x05, 0x04, 0x60, 0x2e, 0x2d, 0xb8, 0x01, 0xc6, 0x36, 0x06, 0x2c, 0x2a, 0x15, 0x05, 0x04, 0x60, 0x2e, 0xb6, 0x01, 0xc8, 0x36, 0x07, 0x2c, 0xb6, 0x00, 0xf2, 0x15, 0x06, 0x9f, 0x00, 0x05, 0x03, 0xac, 0x15, 0x06, 0x9a, 0x00, 0x0f, 0x2d, 0x03, 0x2f, 0x15, 0x07, 0x85, 0x94, 0x99, 0x00, 0x05, 0x03, 0xac, 0xa7, 0x00, 0xbc]
theorem W_Lc67 : sameFrom m_L_law.2.1 B_Lc67 5313 := sameFrom_of (by decide +kernel)
def t_Lc67 : List (Nat × Instr × Nat) := [(5313, .aload_n 1, 1), (5314, .aload_n 0, 1), (5315, .iload 5, 2), (5317, .iconst 1, 1), (5318, .iadd, 1), (5319, .iaload, 1), (5320, .aload_n 3, 1), (5321, .invokestatic 454, 3), (5324, .istore 6, 2), (5326, .aload_n 2, 1), (5327, .aload_n 0, 1), (5328, .iload 5, 2), (5330, .iconst 1, 1), (5331, .iadd, 1), (5332, .iaload, 1), (5333, .invokevirtual 456, 3), (5336, .istore 7, 2), (5338, .aload_n 2, 1), (5339, .invokevirtual 242, 3), (5342, .iload 6, 2), (5344, .if_icmp .eq 5, 3), (5347, .iconst 0, 1), (5348, .ireturn, 1), (5349, .iload 6, 2), (5351, .ifCond .ne 15, 3), (5354, .aload_n 3, 1), (5355, .iconst 0, 1), (5356, .laload, 1), (5357, .iload 7, 2), (5359, .i2l, 1), (5360, .lcmp, 1), (5361, .ifCond .eq 5, 3), (5364, .iconst 0, 1), (5365, .ireturn, 1), (5366, .goto 188, 3)]
set_option maxRecDepth 20000 in
theorem U_Lc67 : okT m_L_law.2.1 t_Lc67 = true := dSt [(0, .aload_n 1, 1), (1, .aload_n 0, 1), (2, .iload 5, 2), (4, .iconst 1, 1), (5, .iadd, 1), (6, .iaload, 1), (7, .aload_n 3, 1), (8, .invokestatic 454, 3), (11, .istore 6, 2), (13, .aload_n 2, 1), (14, .aload_n 0, 1), (15, .iload 5, 2), (17, .iconst 1, 1), (18, .iadd, 1), (19, .iaload, 1), (20, .invokevirtual 456, 3), (23, .istore 7, 2), (25, .aload_n 2, 1), (26, .invokevirtual 242, 3), (29, .iload 6, 2), (31, .if_icmp .eq 5, 3), (34, .iconst 0, 1), (35, .ireturn, 1), (36, .iload 6, 2), (38, .ifCond .ne 15, 3), (41, .aload_n 3, 1), (42, .iconst 0, 1), (43, .laload, 1), (44, .iload 7, 2), (46, .i2l, 1), (47, .lcmp, 1), (48, .ifCond .eq 5, 3), (51, .iconst 0, 1), (52, .ireturn, 1), (53, .goto 188, 3)] W_Lc67 (by decide +kernel) (by decide +kernel)
set_option maxRecDepth 20000 in
set_option maxHeartbeats 1000000 in
theorem LC_67 {G : xG} {d rc rs : Nat} {ex : Bool} {h : xH} {Q : xQ} {σ : St} {c0 : Int} {rr : Nat} {ss : Int} {l0 : Int} {d0 : UInt64} {i : Nat} (hL : G.2.2.2.2.2.1 < 2147483648) (hi : i + 10 ≤ G.2.2.2.2.2.1) (w : CW σ h) (wm : MX σ c0 rr ss h) (v : INV σ) (ho : h[143]? = some (cJ [l0])) (hod : h[144]? = some (cD [d0]))
    (M : ∀ (σ9 : St) (h9 : xH) (e9 : Bool) (c9 : Int) (r9 : Nat) (s9 : Int) (l9 : Int) (d9 : UInt64), INV σ9 → CW σ9 h9 → MX σ9 c9 r9 s9 h9 → h9[143]? = some (cJ [l9]) → h9[144]? = some (cD [d9]) → X G m_L_law (d + 10) rc rs e9 5554 [some (.ref 0), some (.ref 3), some (.ref 70), some (.ref 143), some (.ref 144), some (vi (i : Int)), none, none, none] [] h9 Q) : X G m_L_law (d + 10) (rc + 1) (rs + 6) ex 5313 [some (.ref 0), some (.ref 3), some (.ref 70), some (.ref 143), some (.ref 144), some (vi (i : Int)), none, none, none] [] h Q := by
  refine x_aload_n (dT U_Lc67 0 rfl) rfl ?_
  refine x_aload_n (dT U_Lc67 1 rfl) rfl ?_
  refine x_iload (dT U_Lc67 2 rfl) rfl ?_
  refine x_iconst (dT U_Lc67 3 rfl) ?_
  refine x_iadd (dT U_Lc67 4 rfl) ?_
  refine x_sld (i + 1) hL (dT U_Lc67 5 rfl) (by omega) (by omega) ?_
  refine x_aload_n (dT U_Lc67 6 rfl) rfl ?_
  refine x_invokestaticT (rc' := rc) (rs' := rs) (rc2 := 0 + 1) (rs2 := 0 + 6) (As := [_, _, _]) (st := _) M_L_note K_L_454 (dT U_Lc67 7 rfl) rfl (by decide) rfl rfl (Nat.le_of_ble_eq_true rfl) rfl (by decide) (Nat.le_of_ble_eq_true rfl) (by omega) (by omega) ?_
  refine S_L_note w v (xr_s _) ho (fun c1 => ?_) (fun c1 z9 hz9 ez9 => ?_)
  · refine xRet_some ?_
    refine x_istore (ls' := [some (.ref _), some (.ref _), some (.ref _), some (.ref _), some (.ref _), some (vi _), some (vi _), none, none]) (dT U_Lc67 8 rfl) (by decide) rfl ?_
    refine x_aload_n (dT U_Lc67 9 rfl) rfl ?_
    refine x_aload_n (dT U_Lc67 10 rfl) rfl ?_
    refine x_iload (dT U_Lc67 11 rfl) rfl ?_
    refine x_iconst (dT U_Lc67 12 rfl) ?_
    refine x_iadd (dT U_Lc67 13 rfl) ?_
    refine x_sld (i + 1) hL (dT U_Lc67 14 rfl) (by omega) (by omega) ?_
    refine x_invokevirtual (rc' := rc) (rs' := rs) (rc2 := 0) (rs2 := 0) (As := [_]) (st := _) M_X11_note K_L_456 (dT U_Lc67 15 rfl) rfl rfl (by decide) rfl rfl wm.c70 (Nat.le_of_ble_eq_true rfl) (by decide) rfl (Nat.le_of_ble_eq_true rfl) rfl (by decide) (Nat.le_of_ble_eq_true rfl) rfl rfl ?_
    refine S_X11_note wm v (xr_s _) (fun m1 h3 z ag wx xz => ?_) (fun m1 _ _ _ _ _ => absurd m1 c1)
    refine xRet_some ?_
    refine x_istore (ls' := [some (.ref _), some (.ref _), some (.ref _), some (.ref _), some (.ref _), some (vi _), some (vi _), some (vi _), none]) (dT U_Lc67 16 rfl) (by decide) rfl ?_
    refine x_aload_n (dT U_Lc67 17 rfl) rfl ?_
    refine x_invokevirtual (rc' := rc) (rs' := rs) (rc2 := 0) (rs2 := 0) (As := []) (st := _) M_X11_thrown K_L_242 (dT U_Lc67 18 rfl) rfl rfl (by decide) rfl rfl wx.c70 (Nat.le_of_ble_eq_true rfl) (by decide) rfl (Nat.le_of_ble_eq_true rfl) rfl (by decide) (Nat.le_of_ble_eq_true rfl) rfl rfl ?_
    refine S_X11_thrown wx ?_
    refine xRet_some ?_
    refine x_iload (dT U_Lc67 19 rfl) rfl ?_
    refine x_icmp_eq (tgt := 5349) (dT U_Lc67 20 rfl) (by decide) (by unfold xr; omega) (by unfold xr; omega) (fun c5344 => ?_) (fun c5344 => (by exfalso; omega))
    refine x_iload (dT U_Lc67 23 rfl) rfl ?_
    refine x_if_nej (tgt := 5366) (dT U_Lc67 24 rfl) (by decide) (by decide) ?_
    refine x_goto (tgt := 5554) (dT U_Lc67 34 rfl) (by decide) ?_
    refine x_drop ?_ (M _ _ _ _ _ _ _ _ v (w.out ag (by omega)) wx (ag.get ho (by omega)) (ag.get hod (by omega)))
    repeat (first | exact trivial | refine ⟨rfl, ?_⟩ | refine ⟨trivial, ?_⟩)
  · refine xRet_some ?_
    have wmx := wm.out (h2 := (h.set 143 (cJ [z9]))) (fun a ha => by rw [hset_fr (by omega)])
    refine x_istore (ls' := [some (.ref _), some (.ref _), some (.ref _), some (.ref _), some (.ref _), some (vi _), some (vi _), none, none]) (dT U_Lc67 8 rfl) (by decide) rfl ?_
    refine x_aload_n (dT U_Lc67 9 rfl) rfl ?_
    refine x_aload_n (dT U_Lc67 10 rfl) rfl ?_
    refine x_iload (dT U_Lc67 11 rfl) rfl ?_
    refine x_iconst (dT U_Lc67 12 rfl) ?_
    refine x_iadd (dT U_Lc67 13 rfl) ?_
    refine x_sld (i + 1) hL (dT U_Lc67 14 rfl) (by omega) (by omega) ?_
    refine x_invokevirtual (rc' := rc) (rs' := rs) (rc2 := 0) (rs2 := 0) (As := [_]) (st := _) M_X11_note K_L_456 (dT U_Lc67 15 rfl) rfl rfl (by decide) rfl rfl wmx.c70 (Nat.le_of_ble_eq_true rfl) (by decide) rfl (Nat.le_of_ble_eq_true rfl) rfl (by decide) (Nat.le_of_ble_eq_true rfl) rfl rfl ?_
    refine S_X11_note wmx v (xr_s _) (fun m1 _ _ _ _ _ => absurd c1 m1) (fun m1 h3 r3 s3 ag wx => ?_)
    refine xRet_some ?_
    rw [ez9]
    refine x_istore (ls' := [some (.ref _), some (.ref _), some (.ref _), some (.ref _), some (.ref _), some (vi _), some (vi _), some (vi _), none]) (dT U_Lc67 16 rfl) (by decide) rfl ?_
    refine x_aload_n (dT U_Lc67 17 rfl) rfl ?_
    refine x_invokevirtual (rc' := rc) (rs' := rs) (rc2 := 0) (rs2 := 0) (As := []) (st := _) M_X11_thrown K_L_242 (dT U_Lc67 18 rfl) rfl rfl (by decide) rfl rfl wx.c70 (Nat.le_of_ble_eq_true rfl) (by decide) rfl (Nat.le_of_ble_eq_true rfl) rfl (by decide) (Nat.le_of_ble_eq_true rfl) rfl rfl ?_
    refine S_X11_thrown wx ?_
    refine xRet_some ?_
    refine x_iload (dT U_Lc67 19 rfl) rfl ?_
    refine x_icmp_eq (tgt := 5349) (dT U_Lc67 20 rfl) (by decide) (by unfold xr; omega) (by unfold xr; omega) (fun c5344 => ?_) (fun c5344 => (by exfalso; omega))
    refine x_iload (dT U_Lc67 23 rfl) rfl ?_
    refine x_if_nen (tgt := 5366) (dT U_Lc67 24 rfl) (by decide) (by decide) ?_
    refine x_aload_n (dT U_Lc67 25 rfl) rfl ?_
    refine x_iconst (dT U_Lc67 26 rfl) ?_
    refine x_laload 0 (dT U_Lc67 27 rfl) (ag.get (hset_eq ho) (by omega)) (Nat.le_of_ble_eq_true rfl) rfl (Nat.le_of_ble_eq_true rfl) (Nat.le_of_ble_eq_true rfl) ?_
    refine x_iload (dT U_Lc67 28 rfl) rfl ?_
    refine x_i2l (dT U_Lc67 29 rfl) hz9 ?_
    refine x_lcmp (dT U_Lc67 30 rfl) (xr_l hz9) (xr_l hz9) ?_
    refine x_if_eqj (tgt := 5366) (dT U_Lc67 31 rfl) (by decide) (xcmp_rf _) ?_
    refine x_goto (tgt := 5554) (dT U_Lc67 34 rfl) (by decide) ?_
    refine x_drop ?_ (M _ _ _ _ _ _ _ _ v ((w.out ((Ag.rf 143 143 h).set (by omega)) (by omega)).out ag (by omega)) wx (ag.get (hset_eq ho) (by omega)) (ag.get (hset_ne (by omega) hod) (by omega)))
    repeat (first | exact trivial | refine ⟨rfl, ?_⟩ | refine ⟨trivial, ?_⟩)

def B_Lc68 : ByteArray := .mk #[0x2b, 0x2a, 0x15, 0x05, 0x04, 0x60, 0x2e, 0x2a, 0x15, 0x05, 0x05, 0x60, 0x2e, 0x2d, 0xb8, 0x01, 0xc9, 0x36, 0x06, 0x2c, 0x2a, 0x15, 0x05, 0x04, 0x60, 0x2e, 0x2a, 0x15, 0x05, 0x05, 0x60, 0x2e, 0xb6, 0x01, 0xcb, 0x36, 0x07, 0x2c, 0xb6, 0x00, 0xf2, 0x15, 0x06, 0x9f, 0x00, 0x05, 0x03, 0xac, 0x15, 0x06, 0x9a, 0x00, 0x0f, 0x2d, 0x03, 0x2f, 0x15, 0x07, 0x85, 0x94, 0x99, 0x00, 0x05, 0x03, 0xac, 0xa7, 0x00, 0x78]
theorem W_Lc68 : sameFrom m_L_law.2.1 B_Lc68 5369 := sameFrom_of (by decide +kernel)
def t_Lc68 : List (Nat × Instr × Nat) := [(5369, .aload_n 1, 1), (5370, .aload_n 0, 1), (5371, .iload 5, 2), (5373, .iconst 1, 1), (5374, .iadd, 1), (5375, .iaload, 1), (5376, .aload_n 0, 1), (5377, .iload 5, 2), (5379, .iconst 2, 1), (5380, .iadd, 1), (5381, .iaload, 1), (5382, .aload_n 3, 1), (5383, .invokestatic 457, 3), (5386, .istore 6, 2), (5388, .aload_n 2, 1), (5389, .aload_n 0, 1), (5390, .iload 5, 2), (5392, .iconst 1, 1), (5393, .iadd, 1), (5394, .iaload, 1), (5395, .aload_n 0, 1), (5396, .iload 5, 2), (5398, .iconst 2, 1), (5399, .iadd, 1), (5400, .iaload, 1), (5401, .invokevirtual 459, 3), (5404, .istore 7, 2), (5406, .aload_n 2, 1), (5407, .invokevirtual 242, 3), (5410, .iload 6, 2), (5412, .if_icmp .eq 5, 3), (5415, .iconst 0, 1), (5416, .ireturn, 1), (5417, .iload 6, 2), (5419, .ifCond .ne 15, 3), (5422, .aload_n 3, 1), (5423, .iconst 0, 1), (5424, .laload, 1), (5425, .iload 7, 2), (5427, .i2l, 1), (5428, .lcmp, 1), (5429, .ifCond .eq 5, 3), (5432, .iconst 0, 1), (5433, .ireturn, 1), (5434, .goto 120, 3)]
set_option maxRecDepth 20000 in
theorem U_Lc68 : okT m_L_law.2.1 t_Lc68 = true := dSt [(0, .aload_n 1, 1), (1, .aload_n 0, 1), (2, .iload 5, 2), (4, .iconst 1, 1), (5, .iadd, 1), (6, .iaload, 1), (7, .aload_n 0, 1), (8, .iload 5, 2), (10, .iconst 2, 1), (11, .iadd, 1), (12, .iaload, 1), (13, .aload_n 3, 1), (14, .invokestatic 457, 3), (17, .istore 6, 2), (19, .aload_n 2, 1), (20, .aload_n 0, 1), (21, .iload 5, 2), (23, .iconst 1, 1), (24, .iadd, 1), (25, .iaload, 1), (26, .aload_n 0, 1), (27, .iload 5, 2), (29, .iconst 2, 1), (30, .iadd, 1), (31, .iaload, 1), (32, .invokevirtual 459, 3), (35, .istore 7, 2), (37, .aload_n 2, 1), (38, .invokevirtual 242, 3), (41, .iload 6, 2), (43, .if_icmp .eq 5, 3), (46, .iconst 0, 1), (47, .ireturn, 1), (48, .iload 6, 2), (50, .ifCond .ne 15, 3), (53, .aload_n 3, 1), (54, .iconst 0, 1), (55, .laload, 1), (56, .iload 7, 2), (58, .i2l, 1), (59, .lcmp, 1), (60, .ifCond .eq 5, 3), (63, .iconst 0, 1), (64, .ireturn, 1), (65, .goto 120, 3)] W_Lc68 (by decide +kernel) (by decide +kernel)
set_option maxRecDepth 20000 in
set_option maxHeartbeats 1000000 in
theorem LC_68 {G : xG} {d rc rs : Nat} {ex : Bool} {h : xH} {Q : xQ} {σ : St} {c0 : Int} {rr : Nat} {ss : Int} {l0 : Int} {d0 : UInt64} {i : Nat} (hL : G.2.2.2.2.2.1 < 2147483648) (hi : i + 10 ≤ G.2.2.2.2.2.1) (w : CW σ h) (wm : MX σ c0 rr ss h) (v : INV σ) (ho : h[143]? = some (cJ [l0])) (hod : h[144]? = some (cD [d0]))
    (M : ∀ (σ9 : St) (h9 : xH) (e9 : Bool) (c9 : Int) (r9 : Nat) (s9 : Int) (l9 : Int) (d9 : UInt64), INV σ9 → CW σ9 h9 → MX σ9 c9 r9 s9 h9 → h9[143]? = some (cJ [l9]) → h9[144]? = some (cD [d9]) → X G m_L_law (d + 10) rc rs e9 5554 [some (.ref 0), some (.ref 3), some (.ref 70), some (.ref 143), some (.ref 144), some (vi (i : Int)), none, none, none] [] h9 Q) : X G m_L_law (d + 10) (rc + 4) (rs + 24) ex 5369 [some (.ref 0), some (.ref 3), some (.ref 70), some (.ref 143), some (.ref 144), some (vi (i : Int)), none, none, none] [] h Q := by
  refine x_aload_n (dT U_Lc68 0 rfl) rfl ?_
  refine x_aload_n (dT U_Lc68 1 rfl) rfl ?_
  refine x_iload (dT U_Lc68 2 rfl) rfl ?_
  refine x_iconst (dT U_Lc68 3 rfl) ?_
  refine x_iadd (dT U_Lc68 4 rfl) ?_
  refine x_sld (i + 1) hL (dT U_Lc68 5 rfl) (by omega) (by omega) ?_
  refine x_aload_n (dT U_Lc68 6 rfl) rfl ?_
  refine x_iload (dT U_Lc68 7 rfl) rfl ?_
  refine x_iconst (dT U_Lc68 8 rfl) ?_
  refine x_iadd (dT U_Lc68 9 rfl) ?_
  refine x_sld (i + 2) hL (dT U_Lc68 10 rfl) (by omega) (by omega) ?_
  refine x_aload_n (dT U_Lc68 11 rfl) rfl ?_
  refine x_invokestaticT (rc' := rc) (rs' := rs) (rc2 := 0 + 4) (rs2 := 0 + 24) (As := [_, _, _, _]) (st := _) M_L_pay K_L_457 (dT U_Lc68 12 rfl) rfl (by decide) rfl rfl (Nat.le_of_ble_eq_true rfl) rfl (by decide) (Nat.le_of_ble_eq_true rfl) (by omega) (by omega) ?_
  refine S_L_pay w v (xr_s _) (xr_s _) ho (fun c1 => ?_) (fun c1 c2 => ?_) (fun c1 c2 h2 fc w2 z9 hz9 ez9 => ?_)
  · refine xRet_some ?_
    refine x_istore (ls' := [some (.ref _), some (.ref _), some (.ref _), some (.ref _), some (.ref _), some (vi _), some (vi _), none, none]) (dT U_Lc68 13 rfl) (by decide) rfl ?_
    refine x_aload_n (dT U_Lc68 14 rfl) rfl ?_
    refine x_aload_n (dT U_Lc68 15 rfl) rfl ?_
    refine x_iload (dT U_Lc68 16 rfl) rfl ?_
    refine x_iconst (dT U_Lc68 17 rfl) ?_
    refine x_iadd (dT U_Lc68 18 rfl) ?_
    refine x_sld (i + 1) hL (dT U_Lc68 19 rfl) (by omega) (by omega) ?_
    refine x_aload_n (dT U_Lc68 20 rfl) rfl ?_
    refine x_iload (dT U_Lc68 21 rfl) rfl ?_
    refine x_iconst (dT U_Lc68 22 rfl) ?_
    refine x_iadd (dT U_Lc68 23 rfl) ?_
    refine x_sld (i + 2) hL (dT U_Lc68 24 rfl) (by omega) (by omega) ?_
    refine x_invokevirtual (rc' := rc) (rs' := rs) (rc2 := 0) (rs2 := 0) (As := [_, _]) (st := _) M_X11_pay K_L_459 (dT U_Lc68 25 rfl) rfl rfl (by decide) rfl rfl wm.c70 (Nat.le_of_ble_eq_true rfl) (by decide) rfl (Nat.le_of_ble_eq_true rfl) rfl (by decide) (Nat.le_of_ble_eq_true rfl) rfl rfl ?_
    refine S_X11_pay wm v (xr_s _) (xr_s _) (fun m1 h3 z ag wx xz => ?_) (fun m1 m2 _ _ _ _ _ => absurd m1 c1) (fun m1 m2 _ _ _ _ _ => absurd m1 c1)
    refine xRet_some ?_
    refine x_istore (ls' := [some (.ref _), some (.ref _), some (.ref _), some (.ref _), some (.ref _), some (vi _), some (vi _), some (vi _), none]) (dT U_Lc68 26 rfl) (by decide) rfl ?_
    refine x_aload_n (dT U_Lc68 27 rfl) rfl ?_
    refine x_invokevirtual (rc' := rc) (rs' := rs) (rc2 := 0) (rs2 := 0) (As := []) (st := _) M_X11_thrown K_L_242 (dT U_Lc68 28 rfl) rfl rfl (by decide) rfl rfl wx.c70 (Nat.le_of_ble_eq_true rfl) (by decide) rfl (Nat.le_of_ble_eq_true rfl) rfl (by decide) (Nat.le_of_ble_eq_true rfl) rfl rfl ?_
    refine S_X11_thrown wx ?_
    refine xRet_some ?_
    refine x_iload (dT U_Lc68 29 rfl) rfl ?_
    refine x_icmp_eq (tgt := 5417) (dT U_Lc68 30 rfl) (by decide) (by unfold xr; omega) (by unfold xr; omega) (fun c5412 => ?_) (fun c5412 => (by exfalso; omega))
    refine x_iload (dT U_Lc68 33 rfl) rfl ?_
    refine x_if_nej (tgt := 5434) (dT U_Lc68 34 rfl) (by decide) (by decide) ?_
    refine x_goto (tgt := 5554) (dT U_Lc68 44 rfl) (by decide) ?_
    refine x_drop ?_ (M _ _ _ _ _ _ _ _ v (w.out ag (by omega)) wx (ag.get ho (by omega)) (ag.get hod (by omega)))
    repeat (first | exact trivial | refine ⟨rfl, ?_⟩ | refine ⟨trivial, ?_⟩)
  · refine xRet_some ?_
    refine x_istore (ls' := [some (.ref _), some (.ref _), some (.ref _), some (.ref _), some (.ref _), some (vi _), some (vi _), none, none]) (dT U_Lc68 13 rfl) (by decide) rfl ?_
    refine x_aload_n (dT U_Lc68 14 rfl) rfl ?_
    refine x_aload_n (dT U_Lc68 15 rfl) rfl ?_
    refine x_iload (dT U_Lc68 16 rfl) rfl ?_
    refine x_iconst (dT U_Lc68 17 rfl) ?_
    refine x_iadd (dT U_Lc68 18 rfl) ?_
    refine x_sld (i + 1) hL (dT U_Lc68 19 rfl) (by omega) (by omega) ?_
    refine x_aload_n (dT U_Lc68 20 rfl) rfl ?_
    refine x_iload (dT U_Lc68 21 rfl) rfl ?_
    refine x_iconst (dT U_Lc68 22 rfl) ?_
    refine x_iadd (dT U_Lc68 23 rfl) ?_
    refine x_sld (i + 2) hL (dT U_Lc68 24 rfl) (by omega) (by omega) ?_
    refine x_invokevirtual (rc' := rc) (rs' := rs) (rc2 := 0) (rs2 := 0) (As := [_, _]) (st := _) M_X11_pay K_L_459 (dT U_Lc68 25 rfl) rfl rfl (by decide) rfl rfl wm.c70 (Nat.le_of_ble_eq_true rfl) (by decide) rfl (Nat.le_of_ble_eq_true rfl) rfl (by decide) (Nat.le_of_ble_eq_true rfl) rfl rfl ?_
    refine S_X11_pay wm v (xr_s _) (xr_s _) (fun m1 _ _ _ _ _ => absurd c1 m1) (fun m1 m2 h3 z ag wx xz => ?_) (fun m1 m2 _ _ _ _ _ => absurd m2 c2)
    refine xRet_some ?_
    refine x_istore (ls' := [some (.ref _), some (.ref _), some (.ref _), some (.ref _), some (.ref _), some (vi _), some (vi _), some (vi _), none]) (dT U_Lc68 26 rfl) (by decide) rfl ?_
    refine x_aload_n (dT U_Lc68 27 rfl) rfl ?_
    refine x_invokevirtual (rc' := rc) (rs' := rs) (rc2 := 0) (rs2 := 0) (As := []) (st := _) M_X11_thrown K_L_242 (dT U_Lc68 28 rfl) rfl rfl (by decide) rfl rfl wx.c70 (Nat.le_of_ble_eq_true rfl) (by decide) rfl (Nat.le_of_ble_eq_true rfl) rfl (by decide) (Nat.le_of_ble_eq_true rfl) rfl rfl ?_
    refine S_X11_thrown wx ?_
    refine xRet_some ?_
    refine x_iload (dT U_Lc68 29 rfl) rfl ?_
    refine x_icmp_eq (tgt := 5417) (dT U_Lc68 30 rfl) (by decide) (by unfold xr; omega) (by unfold xr; omega) (fun c5412 => ?_) (fun c5412 => (by exfalso; omega))
    refine x_iload (dT U_Lc68 33 rfl) rfl ?_
    refine x_if_ne (tgt := 5434) (dT U_Lc68 34 rfl) (by decide) (by unfold xr; omega) (fun c5419 => ?_) (fun c5419 => (by exfalso; omega))
    refine x_goto (tgt := 5554) (dT U_Lc68 44 rfl) (by decide) ?_
    refine x_drop ?_ (M _ _ _ _ _ _ _ _ v (w.out ag (by omega)) wx (ag.get ho (by omega)) (ag.get hod (by omega)))
    repeat (first | exact trivial | refine ⟨rfl, ?_⟩ | refine ⟨trivial, ?_⟩)
  · refine xRet_some ?_
    have wmx := wm.out (h2 := (h2.set 143 (cJ [z9]))) (fun a ha => by rw [hset_fr (by omega)]; exact fc.2 a (by omega))
    refine x_istore (ls' := [some (.ref _), some (.ref _), some (.ref _), some (.ref _), some (.ref _), some (vi _), some (vi _), none, none]) (dT U_Lc68 13 rfl) (by decide) rfl ?_
    refine x_aload_n (dT U_Lc68 14 rfl) rfl ?_
    refine x_aload_n (dT U_Lc68 15 rfl) rfl ?_
    refine x_iload (dT U_Lc68 16 rfl) rfl ?_
    refine x_iconst (dT U_Lc68 17 rfl) ?_
    refine x_iadd (dT U_Lc68 18 rfl) ?_
    refine x_sld (i + 1) hL (dT U_Lc68 19 rfl) (by omega) (by omega) ?_
    refine x_aload_n (dT U_Lc68 20 rfl) rfl ?_
    refine x_iload (dT U_Lc68 21 rfl) rfl ?_
    refine x_iconst (dT U_Lc68 22 rfl) ?_
    refine x_iadd (dT U_Lc68 23 rfl) ?_
    refine x_sld (i + 2) hL (dT U_Lc68 24 rfl) (by omega) (by omega) ?_
    refine x_invokevirtual (rc' := rc) (rs' := rs) (rc2 := 0) (rs2 := 0) (As := [_, _]) (st := _) M_X11_pay K_L_459 (dT U_Lc68 25 rfl) rfl rfl (by decide) rfl rfl wmx.c70 (Nat.le_of_ble_eq_true rfl) (by decide) rfl (Nat.le_of_ble_eq_true rfl) rfl (by decide) (Nat.le_of_ble_eq_true rfl) rfl rfl ?_
    refine S_X11_pay wmx v (xr_s _) (xr_s _) (fun m1 _ _ _ _ _ => absurd c1 m1) (fun m1 m2 _ _ _ _ _ => absurd c2 m2) (fun m1 m2 h3 r3 s3 ag wx => ?_)
    refine xRet_some ?_
    rw [ez9]
    refine x_istore (ls' := [some (.ref _), some (.ref _), some (.ref _), some (.ref _), some (.ref _), some (vi _), some (vi _), some (vi _), none]) (dT U_Lc68 26 rfl) (by decide) rfl ?_
    refine x_aload_n (dT U_Lc68 27 rfl) rfl ?_
    refine x_invokevirtual (rc' := rc) (rs' := rs) (rc2 := 0) (rs2 := 0) (As := []) (st := _) M_X11_thrown K_L_242 (dT U_Lc68 28 rfl) rfl rfl (by decide) rfl rfl wx.c70 (Nat.le_of_ble_eq_true rfl) (by decide) rfl (Nat.le_of_ble_eq_true rfl) rfl (by decide) (Nat.le_of_ble_eq_true rfl) rfl rfl ?_
    refine S_X11_thrown wx ?_
    refine xRet_some ?_
    refine x_iload (dT U_Lc68 29 rfl) rfl ?_
    refine x_icmp_eq (tgt := 5417) (dT U_Lc68 30 rfl) (by decide) (by unfold xr; omega) (by unfold xr; omega) (fun c5412 => ?_) (fun c5412 => (by exfalso; omega))
    refine x_iload (dT U_Lc68 33 rfl) rfl ?_
    refine x_if_nen (tgt := 5434) (dT U_Lc68 34 rfl) (by decide) (by decide) ?_
    refine x_aload_n (dT U_Lc68 35 rfl) rfl ?_
    refine x_iconst (dT U_Lc68 36 rfl) ?_
    refine x_laload 0 (dT U_Lc68 37 rfl) (ag.get (hset_eq (fc.get ho (by omega))) (by omega)) (Nat.le_of_ble_eq_true rfl) rfl (Nat.le_of_ble_eq_true rfl) (Nat.le_of_ble_eq_true rfl) ?_
    refine x_iload (dT U_Lc68 38 rfl) rfl ?_
    refine x_i2l (dT U_Lc68 39 rfl) hz9 ?_
    refine x_lcmp (dT U_Lc68 40 rfl) (xr_l hz9) (xr_l hz9) ?_
    refine x_if_eqj (tgt := 5434) (dT U_Lc68 41 rfl) (by decide) (xcmp_rf _) ?_
    refine x_goto (tgt := 5554) (dT U_Lc68 44 rfl) (by decide) ?_
    refine x_drop ?_ (M _ _ _ _ _ _ _ _ (IV_pay v c1 c2) ((w2.out ((Ag.rf 143 143 h2).set (by omega)) (by omega)).out ag (by omega)) wx (ag.get (hset_eq (fc.get ho (by omega))) (by omega)) (ag.get (hset_ne (by omega) (fc.get hod (by omega))) (by omega)))
    repeat (first | exact trivial | refine ⟨rfl, ?_⟩ | refine ⟨trivial, ?_⟩)

def B_Lc69 : ByteArray := .mk #[0x2b, 0xb6, 0x01, 0xcc, 0x2c, 0xb6, 0x01, 0xcf, 0x9f, 0x00, 0x6d, 0x03, 0xac]
theorem W_Lc69 : sameFrom m_L_law.2.1 B_Lc69 5437 := sameFrom_of (by decide +kernel)
def t_Lc69 : List (Nat × Instr × Nat) := [(5437, .aload_n 1, 1), (5438, .invokevirtual 460, 3), (5441, .aload_n 2, 1), (5442, .invokevirtual 463, 3), (5445, .if_icmp .eq 109, 3), (5448, .iconst 0, 1), (5449, .ireturn, 1)]
set_option maxRecDepth 20000 in
theorem U_Lc69 : okT m_L_law.2.1 t_Lc69 = true := dSt [(0, .aload_n 1, 1), (1, .invokevirtual 460, 3), (4, .aload_n 2, 1), (5, .invokevirtual 463, 3), (8, .if_icmp .eq 109, 3), (11, .iconst 0, 1), (12, .ireturn, 1)] W_Lc69 (by decide +kernel) (by decide +kernel)
set_option maxRecDepth 20000 in
set_option maxHeartbeats 1000000 in
theorem LC_69 {G : xG} {d rc rs : Nat} {ex : Bool} {h : xH} {Q : xQ} {σ : St} {c0 : Int} {rr : Nat} {ss : Int} {l0 : Int} {d0 : UInt64} {i : Nat} (hL : G.2.2.2.2.2.1 < 2147483648) (hi : i + 10 ≤ G.2.2.2.2.2.1) (w : CW σ h) (wm : MX σ c0 rr ss h) (v : INV σ) (ho : h[143]? = some (cJ [l0])) (hod : h[144]? = some (cD [d0]))
    (M : ∀ (σ9 : St) (h9 : xH) (e9 : Bool) (c9 : Int) (r9 : Nat) (s9 : Int) (l9 : Int) (d9 : UInt64), INV σ9 → CW σ9 h9 → MX σ9 c9 r9 s9 h9 → h9[143]? = some (cJ [l9]) → h9[144]? = some (cD [d9]) → X G m_L_law (d + 10) rc rs e9 5554 [some (.ref 0), some (.ref 3), some (.ref 70), some (.ref 143), some (.ref 144), some (vi (i : Int)), none, none, none] [] h9 Q) : X G m_L_law (d + 10) (rc + 0) (rs + 0) ex 5437 [some (.ref 0), some (.ref 3), some (.ref 70), some (.ref 143), some (.ref 144), some (vi (i : Int)), none, none, none] [] h Q := by
  refine x_aload_n (dT U_Lc69 0 rfl) rfl ?_
  refine x_invokevirtual (rc' := rc) (rs' := rs) (rc2 := 0 + 0) (rs2 := 0 + 0) (As := []) (st := _) M_X10_standing K_L_460 (dT U_Lc69 1 rfl) rfl rfl (by decide) rfl rfl w.c3 (Nat.le_of_ble_eq_true rfl) (by decide) rfl (Nat.le_of_ble_eq_true rfl) rfl (by decide) (Nat.le_of_ble_eq_true rfl) (by omega) (by omega) ?_
  refine S_X10_standing w v  ?_
  · refine xRet_some ?_
    have wmx := wm
    refine x_nf (fun z9 hz9 ez9 => ?_)
    refine x_aload_n (dT U_Lc69 2 rfl) rfl ?_
    refine x_invokevirtual (rc' := rc) (rs' := rs) (rc2 := 0) (rs2 := 0) (As := []) (st := _) M_X11_standing K_L_463 (dT U_Lc69 3 rfl) rfl rfl (by decide) rfl rfl wmx.c70 (Nat.le_of_ble_eq_true rfl) (by decide) rfl (Nat.le_of_ble_eq_true rfl) rfl (by decide) (Nat.le_of_ble_eq_true rfl) rfl rfl ?_
    refine S_X11_standing wmx v  (fun  h3 r3 s3 ag wx => ?_)
    refine xRet_some ?_
    rw [ez9]
    refine x_icmp_eq (tgt := 5554) (dT U_Lc69 4 rfl) (by decide) hz9 hz9 (fun _ => ?_) (fun z => absurd rfl z)
    refine x_drop ?_ (M _ _ _ _ _ _ _ _ v (w.out ag (by omega)) wx (ag.get ho (by omega)) (ag.get hod (by omega)))
    repeat (first | exact trivial | refine ⟨rfl, ?_⟩ | refine ⟨trivial, ?_⟩)

def B_Lc70 : ByteArray := .mk #[0x2b, 0x2a, 0x15, 0x05, 0x04, 0x60, 0x2e, 0x19, 0x04, 0xb8, 0x01, 0xd0, 0x36, 0x06, 0x2c, 0x2a, 0x15, 0x05, 0x04, 0x60, 0x2e, 0xb6, 0x01, 0xd3, 0x39, 0x07, 0x2c, 0xb6, 0x00, 0xf2, 0x15, 0x06, 0x9f, 0x00, 0x05, 0x03, 0xac, 0x15, 0x06, 0x9a, 0x00, 0x23, 0x19, 0x04, 0x03, 0x31, 0x18, 0x07, 0x97, 0x99, 0x00, 0x19, 0x19, 0x04, 0x03, 0x31, 0x19, 0x04, 0x03, 0x31, 0x97, 0x99, 0x00, 0x0b, 0x18, 0x07, 0x18, 0x07, 0x97, 0x9a, 0x00, 0x05, 0x03, 0xac, 0xa7, 0x00, 0x1e]
theorem W_Lc70 : sameFrom m_L_law.2.1 B_Lc70 5450 := sameFrom_of (by decide +kernel)
def t_Lc70 : List (Nat × Instr × Nat) := [(5450, .aload_n 1, 1), (5451, .aload_n 0, 1), (5452, .iload 5, 2), (5454, .iconst 1, 1), (5455, .iadd, 1), (5456, .iaload, 1), (5457, .aload 4, 2), (5459, .invokestatic 464, 3), (5462, .istore 6, 2), (5464, .aload_n 2, 1), (5465, .aload_n 0, 1), (5466, .iload 5, 2), (5468, .iconst 1, 1), (5469, .iadd, 1), (5470, .iaload, 1), (5471, .invokevirtual 467, 3), (5474, .dstore 7, 2), (5476, .aload_n 2, 1), (5477, .invokevirtual 242, 3), (5480, .iload 6, 2), (5482, .if_icmp .eq 5, 3), (5485, .iconst 0, 1), (5486, .ireturn, 1), (5487, .iload 6, 2), (5489, .ifCond .ne 35, 3), (5492, .aload 4, 2), (5494, .iconst 0, 1), (5495, .daload, 1), (5496, .dload 7, 2), (5498, .dcmp .l, 1), (5499, .ifCond .eq 25, 3), (5502, .aload 4, 2), (5504, .iconst 0, 1), (5505, .daload, 1), (5506, .aload 4, 2), (5508, .iconst 0, 1), (5509, .daload, 1), (5510, .dcmp .l, 1), (5511, .ifCond .eq 11, 3), (5514, .dload 7, 2), (5516, .dload 7, 2), (5518, .dcmp .l, 1), (5519, .ifCond .ne 5, 3), (5522, .iconst 0, 1), (5523, .ireturn, 1), (5524, .goto 30, 3)]
set_option maxRecDepth 20000 in
theorem U_Lc70 : okT m_L_law.2.1 t_Lc70 = true := dSt [(0, .aload_n 1, 1), (1, .aload_n 0, 1), (2, .iload 5, 2), (4, .iconst 1, 1), (5, .iadd, 1), (6, .iaload, 1), (7, .aload 4, 2), (9, .invokestatic 464, 3), (12, .istore 6, 2), (14, .aload_n 2, 1), (15, .aload_n 0, 1), (16, .iload 5, 2), (18, .iconst 1, 1), (19, .iadd, 1), (20, .iaload, 1), (21, .invokevirtual 467, 3), (24, .dstore 7, 2), (26, .aload_n 2, 1), (27, .invokevirtual 242, 3), (30, .iload 6, 2), (32, .if_icmp .eq 5, 3), (35, .iconst 0, 1), (36, .ireturn, 1), (37, .iload 6, 2), (39, .ifCond .ne 35, 3), (42, .aload 4, 2), (44, .iconst 0, 1), (45, .daload, 1), (46, .dload 7, 2), (48, .dcmp .l, 1), (49, .ifCond .eq 25, 3), (52, .aload 4, 2), (54, .iconst 0, 1), (55, .daload, 1), (56, .aload 4, 2), (58, .iconst 0, 1), (59, .daload, 1), (60, .dcmp .l, 1), (61, .ifCond .eq 11, 3), (64, .dload 7, 2), (66, .dload 7, 2), (68, .dcmp .l, 1), (69, .ifCond .ne 5, 3), (72, .iconst 0, 1), (73, .ireturn, 1), (74, .goto 30, 3)] W_Lc70 (by decide +kernel) (by decide +kernel)
set_option maxRecDepth 20000 in
set_option maxHeartbeats 1000000 in
theorem LC_70 {G : xG} {d rc rs : Nat} {ex : Bool} {h : xH} {Q : xQ} {σ : St} {c0 : Int} {rr : Nat} {ss : Int} {l0 : Int} {d0 : UInt64} {i : Nat} (hL : G.2.2.2.2.2.1 < 2147483648) (hi : i + 10 ≤ G.2.2.2.2.2.1) (w : CW σ h) (wm : MX σ c0 rr ss h) (v : INV σ) (ho : h[143]? = some (cJ [l0])) (hod : h[144]? = some (cD [d0]))
    (M : ∀ (σ9 : St) (h9 : xH) (e9 : Bool) (c9 : Int) (r9 : Nat) (s9 : Int) (l9 : Int) (d9 : UInt64), INV σ9 → CW σ9 h9 → MX σ9 c9 r9 s9 h9 → h9[143]? = some (cJ [l9]) → h9[144]? = some (cD [d9]) → X G m_L_law (d + 10) rc rs e9 5554 [some (.ref 0), some (.ref 3), some (.ref 70), some (.ref 143), some (.ref 144), some (vi (i : Int)), none, none, none] [] h9 Q) : X G m_L_law (d + 10) (rc + 1) (rs + 6) ex 5450 [some (.ref 0), some (.ref 3), some (.ref 70), some (.ref 143), some (.ref 144), some (vi (i : Int)), none, none, none] [] h Q := by
  refine x_aload_n (dT U_Lc70 0 rfl) rfl ?_
  refine x_aload_n (dT U_Lc70 1 rfl) rfl ?_
  refine x_iload (dT U_Lc70 2 rfl) rfl ?_
  refine x_iconst (dT U_Lc70 3 rfl) ?_
  refine x_iadd (dT U_Lc70 4 rfl) ?_
  refine x_sld (i + 1) hL (dT U_Lc70 5 rfl) (by omega) (by omega) ?_
  refine x_aload (dT U_Lc70 6 rfl) rfl ?_
  refine x_invokestaticT (rc' := rc) (rs' := rs) (rc2 := 0 + 1) (rs2 := 0 + 6) (As := [_, _, _]) (st := _) M_L_risk K_L_464 (dT U_Lc70 7 rfl) rfl (by decide) rfl rfl (Nat.le_of_ble_eq_true rfl) rfl (by decide) (Nat.le_of_ble_eq_true rfl) (by omega) (by omega) ?_
  refine S_L_risk w v (xr_s _) hod (fun c1 => ?_) (fun c1 => ?_)
  · refine xRet_some ?_
    refine x_istore (ls' := [some (.ref _), some (.ref _), some (.ref _), some (.ref _), some (.ref _), some (vi _), some (vi _), none, none]) (dT U_Lc70 8 rfl) (by decide) rfl ?_
    refine x_aload_n (dT U_Lc70 9 rfl) rfl ?_
    refine x_aload_n (dT U_Lc70 10 rfl) rfl ?_
    refine x_iload (dT U_Lc70 11 rfl) rfl ?_
    refine x_iconst (dT U_Lc70 12 rfl) ?_
    refine x_iadd (dT U_Lc70 13 rfl) ?_
    refine x_sld (i + 1) hL (dT U_Lc70 14 rfl) (by omega) (by omega) ?_
    refine x_invokevirtual (rc' := rc) (rs' := rs) (rc2 := 0) (rs2 := 0) (As := [_]) (st := _) M_X11_risk K_L_467 (dT U_Lc70 15 rfl) rfl rfl (by decide) rfl rfl wm.c70 (Nat.le_of_ble_eq_true rfl) (by decide) rfl (Nat.le_of_ble_eq_true rfl) rfl (by decide) (Nat.le_of_ble_eq_true rfl) rfl rfl ?_
    refine S_X11_risk wm v (xr_s _) (fun m1 h3 z ag wx => ?_) (fun m1 _ _ _ _ _ => absurd m1 c1)
    refine xRet_some ?_
    refine x_dstore (ls' := [some (.ref _), some (.ref _), some (.ref _), some (.ref _), some (.ref _), some (vi _), some (vi _), some (.double _), none]) (dT U_Lc70 16 rfl) (by decide) rfl ?_
    refine x_aload_n (dT U_Lc70 17 rfl) rfl ?_
    refine x_invokevirtual (rc' := rc) (rs' := rs) (rc2 := 0) (rs2 := 0) (As := []) (st := _) M_X11_thrown K_L_242 (dT U_Lc70 18 rfl) rfl rfl (by decide) rfl rfl wx.c70 (Nat.le_of_ble_eq_true rfl) (by decide) rfl (Nat.le_of_ble_eq_true rfl) rfl (by decide) (Nat.le_of_ble_eq_true rfl) rfl rfl ?_
    refine S_X11_thrown wx ?_
    refine xRet_some ?_
    refine x_iload (dT U_Lc70 19 rfl) rfl ?_
    refine x_icmp_eq (tgt := 5487) (dT U_Lc70 20 rfl) (by decide) (by unfold xr; omega) (by unfold xr; omega) (fun c5482 => ?_) (fun c5482 => (by exfalso; omega))
    refine x_iload (dT U_Lc70 23 rfl) rfl ?_
    refine x_if_nej (tgt := 5524) (dT U_Lc70 24 rfl) (by decide) (by decide) ?_
    refine x_goto (tgt := 5554) (dT U_Lc70 45 rfl) (by decide) ?_
    refine x_drop ?_ (M _ _ _ _ _ _ _ _ v (w.out ag (by omega)) wx (ag.get ho (by omega)) (ag.get hod (by omega)))
    repeat (first | exact trivial | refine ⟨rfl, ?_⟩ | refine ⟨trivial, ?_⟩)
  · refine xRet_some ?_
    have wmx := wm.out (h2 := (h.set 144 (cD [rkP σ.p (G.2.2.2.2.2.2 (i + 1)).toInt.toNat]))) (fun a ha => by rw [hset_fr (by omega)])
    refine x_istore (ls' := [some (.ref _), some (.ref _), some (.ref _), some (.ref _), some (.ref _), some (vi _), some (vi _), none, none]) (dT U_Lc70 8 rfl) (by decide) rfl ?_
    refine x_aload_n (dT U_Lc70 9 rfl) rfl ?_
    refine x_aload_n (dT U_Lc70 10 rfl) rfl ?_
    refine x_iload (dT U_Lc70 11 rfl) rfl ?_
    refine x_iconst (dT U_Lc70 12 rfl) ?_
    refine x_iadd (dT U_Lc70 13 rfl) ?_
    refine x_sld (i + 1) hL (dT U_Lc70 14 rfl) (by omega) (by omega) ?_
    refine x_invokevirtual (rc' := rc) (rs' := rs) (rc2 := 0) (rs2 := 0) (As := [_]) (st := _) M_X11_risk K_L_467 (dT U_Lc70 15 rfl) rfl rfl (by decide) rfl rfl wmx.c70 (Nat.le_of_ble_eq_true rfl) (by decide) rfl (Nat.le_of_ble_eq_true rfl) rfl (by decide) (Nat.le_of_ble_eq_true rfl) rfl rfl ?_
    refine S_X11_risk wmx v (xr_s _) (fun m1 _ _ _ _ => absurd c1 m1) (fun m1 h3 r3 s3 ag wx => ?_)
    refine xRet_some ?_
    refine x_dstore (ls' := [some (.ref _), some (.ref _), some (.ref _), some (.ref _), some (.ref _), some (vi _), some (vi _), some (.double _), none]) (dT U_Lc70 16 rfl) (by decide) rfl ?_
    refine x_aload_n (dT U_Lc70 17 rfl) rfl ?_
    refine x_invokevirtual (rc' := rc) (rs' := rs) (rc2 := 0) (rs2 := 0) (As := []) (st := _) M_X11_thrown K_L_242 (dT U_Lc70 18 rfl) rfl rfl (by decide) rfl rfl wx.c70 (Nat.le_of_ble_eq_true rfl) (by decide) rfl (Nat.le_of_ble_eq_true rfl) rfl (by decide) (Nat.le_of_ble_eq_true rfl) rfl rfl ?_
    refine S_X11_thrown wx ?_
    refine xRet_some ?_
    refine x_iload (dT U_Lc70 19 rfl) rfl ?_
    refine x_icmp_eq (tgt := 5487) (dT U_Lc70 20 rfl) (by decide) (by unfold xr; omega) (by unfold xr; omega) (fun c5482 => ?_) (fun c5482 => (by exfalso; omega))
    refine x_iload (dT U_Lc70 23 rfl) rfl ?_
    refine x_if_nen (tgt := 5524) (dT U_Lc70 24 rfl) (by decide) (by decide) ?_
    refine x_aload (dT U_Lc70 25 rfl) rfl ?_
    refine x_iconst (dT U_Lc70 26 rfl) ?_
    refine x_daload 0 (dT U_Lc70 27 rfl) (ag.get (hset_eq hod) (by omega)) (Nat.le_of_ble_eq_true rfl) rfl (Nat.le_of_ble_eq_true rfl) (Nat.le_of_ble_eq_true rfl) ?_
    refine x_dload (dT U_Lc70 28 rfl) rfl ?_
    refine x_dcmp (z := 0) (dT U_Lc70 29 rfl) (rk_ok1 σ.p v.p (G.2.2.2.2.2.2 (i + 1)).toInt.toNat (List.mem_range.mpr (by omega))).2 ?_
    refine x_if_eqj (tgt := 5524) (dT U_Lc70 30 rfl) (by decide) (by decide) ?_
    refine x_goto (tgt := 5554) (dT U_Lc70 45 rfl) (by decide) ?_
    refine x_drop ?_ (M _ _ _ _ _ _ _ _ v ((w.out ((Ag.rf 144 144 h).set (by omega)) (by omega)).out ag (by omega)) wx (ag.get (hset_ne (by omega) ho) (by omega)) (ag.get (hset_eq hod) (by omega)))
    repeat (first | exact trivial | refine ⟨rfl, ?_⟩ | refine ⟨trivial, ?_⟩)

def B_Lc71 : ByteArray := .mk #[0x2b, 0xb6, 0x01, 0xd4, 0x2c, 0xb6, 0x01, 0xd8, 0x94, 0x99, 0x00, 0x12, 0x03, 0xac]
theorem W_Lc71 : sameFrom m_L_law.2.1 B_Lc71 5527 := sameFrom_of (by decide +kernel)
def t_Lc71 : List (Nat × Instr × Nat) := [(5527, .aload_n 1, 1), (5528, .invokevirtual 468, 3), (5531, .aload_n 2, 1), (5532, .invokevirtual 472, 3), (5535, .lcmp, 1), (5536, .ifCond .eq 18, 3), (5539, .iconst 0, 1), (5540, .ireturn, 1)]
set_option maxRecDepth 20000 in
theorem U_Lc71 : okT m_L_law.2.1 t_Lc71 = true := dSt [(0, .aload_n 1, 1), (1, .invokevirtual 468, 3), (4, .aload_n 2, 1), (5, .invokevirtual 472, 3), (8, .lcmp, 1), (9, .ifCond .eq 18, 3), (12, .iconst 0, 1), (13, .ireturn, 1)] W_Lc71 (by decide +kernel) (by decide +kernel)
set_option maxRecDepth 20000 in
set_option maxHeartbeats 1000000 in
theorem LC_71 {G : xG} {d rc rs : Nat} {ex : Bool} {h : xH} {Q : xQ} {σ : St} {c0 : Int} {rr : Nat} {ss : Int} {l0 : Int} {d0 : UInt64} {i : Nat} (hL : G.2.2.2.2.2.1 < 2147483648) (hi : i + 10 ≤ G.2.2.2.2.2.1) (w : CW σ h) (wm : MX σ c0 rr ss h) (v : INV σ) (ho : h[143]? = some (cJ [l0])) (hod : h[144]? = some (cD [d0]))
    (M : ∀ (σ9 : St) (h9 : xH) (e9 : Bool) (c9 : Int) (r9 : Nat) (s9 : Int) (l9 : Int) (d9 : UInt64), INV σ9 → CW σ9 h9 → MX σ9 c9 r9 s9 h9 → h9[143]? = some (cJ [l9]) → h9[144]? = some (cD [d9]) → X G m_L_law (d + 10) rc rs e9 5554 [some (.ref 0), some (.ref 3), some (.ref 70), some (.ref 143), some (.ref 144), some (vi (i : Int)), none, none, none] [] h9 Q) : X G m_L_law (d + 10) (rc + 0) (rs + 0) ex 5527 [some (.ref 0), some (.ref 3), some (.ref 70), some (.ref 143), some (.ref 144), some (vi (i : Int)), none, none, none] [] h Q := by
  refine x_aload_n (dT U_Lc71 0 rfl) rfl ?_
  refine x_invokevirtual (rc' := rc) (rs' := rs) (rc2 := 0 + 0) (rs2 := 0 + 0) (As := []) (st := _) M_X10_checksum K_L_468 (dT U_Lc71 1 rfl) rfl rfl (by decide) rfl rfl w.c3 (Nat.le_of_ble_eq_true rfl) (by decide) rfl (Nat.le_of_ble_eq_true rfl) rfl (by decide) (Nat.le_of_ble_eq_true rfl) (by omega) (by omega) ?_
  refine S_X10_checksum w v  ?_
  · refine xRet_some ?_
    have wmx := wm
    refine x_nfl (fun z9 hz9 ez9 => ?_)
    refine x_aload_n (dT U_Lc71 2 rfl) rfl ?_
    refine x_invokevirtual (rc' := rc) (rs' := rs) (rc2 := 0) (rs2 := 0) (As := []) (st := _) M_X11_checksum K_L_472 (dT U_Lc71 3 rfl) rfl rfl (by decide) rfl rfl wmx.c70 (Nat.le_of_ble_eq_true rfl) (by decide) rfl (Nat.le_of_ble_eq_true rfl) rfl (by decide) (Nat.le_of_ble_eq_true rfl) rfl rfl ?_
    refine S_X11_checksum wmx v  (fun  h3 r3 s3 ag wx => ?_)
    refine xRet_some ?_
    rw [ez9]
    refine x_lcmp (dT U_Lc71 4 rfl) hz9 hz9 ?_
    refine x_if_eqj (tgt := 5554) (dT U_Lc71 5 rfl) (by decide) (xcmp_rf _) ?_
    refine x_drop ?_ (M _ _ _ _ _ _ _ _ v (w.out ag (by omega)) wx (ag.get ho (by omega)) (ag.get hod (by omega)))
    repeat (first | exact trivial | refine ⟨rfl, ?_⟩ | refine ⟨trivial, ?_⟩)

def B_Lc72 : ByteArray := .mk #[0x2b, 0xb6, 0x01, 0xd9, 0x2c, 0xb6, 0x01, 0xdc, 0x9f, 0x00, 0x05, 0x03, 0xac]
theorem W_Lc72 : sameFrom m_L_law.2.1 B_Lc72 5541 := sameFrom_of (by decide +kernel)
def t_Lc72 : List (Nat × Instr × Nat) := [(5541, .aload_n 1, 1), (5542, .invokevirtual 473, 3), (5545, .aload_n 2, 1), (5546, .invokevirtual 476, 3), (5549, .if_icmp .eq 5, 3), (5552, .iconst 0, 1), (5553, .ireturn, 1)]
set_option maxRecDepth 20000 in
theorem U_Lc72 : okT m_L_law.2.1 t_Lc72 = true := dSt [(0, .aload_n 1, 1), (1, .invokevirtual 473, 3), (4, .aload_n 2, 1), (5, .invokevirtual 476, 3), (8, .if_icmp .eq 5, 3), (11, .iconst 0, 1), (12, .ireturn, 1)] W_Lc72 (by decide +kernel) (by decide +kernel)
set_option maxRecDepth 20000 in
set_option maxHeartbeats 1000000 in
theorem LC_72 {G : xG} {d rc rs : Nat} {ex : Bool} {h : xH} {Q : xQ} {σ : St} {c0 : Int} {rr : Nat} {ss : Int} {l0 : Int} {d0 : UInt64} {i : Nat} (hL : G.2.2.2.2.2.1 < 2147483648) (hi : i + 10 ≤ G.2.2.2.2.2.1) (w : CW σ h) (wm : MX σ c0 rr ss h) (v : INV σ) (ho : h[143]? = some (cJ [l0])) (hod : h[144]? = some (cD [d0]))
    (M : ∀ (σ9 : St) (h9 : xH) (e9 : Bool) (c9 : Int) (r9 : Nat) (s9 : Int) (l9 : Int) (d9 : UInt64), INV σ9 → CW σ9 h9 → MX σ9 c9 r9 s9 h9 → h9[143]? = some (cJ [l9]) → h9[144]? = some (cD [d9]) → X G m_L_law (d + 10) rc rs e9 5554 [some (.ref 0), some (.ref 3), some (.ref 70), some (.ref 143), some (.ref 144), some (vi (i : Int)), none, none, none] [] h9 Q) : X G m_L_law (d + 10) (rc + 0) (rs + 0) ex 5541 [some (.ref 0), some (.ref 3), some (.ref 70), some (.ref 143), some (.ref 144), some (vi (i : Int)), none, none, none] [] h Q := by
  refine x_aload_n (dT U_Lc72 0 rfl) rfl ?_
  refine x_invokevirtual (rc' := rc) (rs' := rs) (rc2 := 0 + 0) (rs2 := 0 + 0) (As := []) (st := _) M_X10_isTrue K_L_473 (dT U_Lc72 1 rfl) rfl rfl (by decide) rfl rfl w.c3 (Nat.le_of_ble_eq_true rfl) (by decide) rfl (Nat.le_of_ble_eq_true rfl) rfl (by decide) (Nat.le_of_ble_eq_true rfl) (by omega) (by omega) ?_
  refine S_X10_isTrue w v  (fun h2 fc w2 => ?_)
  · refine xRet_some ?_
    have wmx := wm.out (h2 := h2) (fun a ha => fc.2 a (by omega))
    refine x_aload_n (dT U_Lc72 2 rfl) rfl ?_
    refine x_invokevirtual (rc' := rc) (rs' := rs) (rc2 := 0) (rs2 := 0) (As := []) (st := _) M_X11_isTrue K_L_476 (dT U_Lc72 3 rfl) rfl rfl (by decide) rfl rfl wmx.c70 (Nat.le_of_ble_eq_true rfl) (by decide) rfl (Nat.le_of_ble_eq_true rfl) rfl (by decide) (Nat.le_of_ble_eq_true rfl) rfl rfl ?_
    refine S_X11_isTrue wmx v  (fun  h3 r3 s3 ag wx => ?_)
    refine xRet_some ?_
    refine x_icmp_eq (tgt := 5554) (dT U_Lc72 4 rfl) (by decide) (by unfold xr; omega) (by unfold xr; omega) (fun c5549 => ?_) (fun c5549 => (by exfalso; omega))
    refine x_drop ?_ (M _ _ _ _ _ _ _ _ v (w2.out ag (by omega)) wx (ag.get (fc.get ho (by omega)) (by omega)) (ag.get (fc.get hod (by omega)) (by omega)))
    repeat (first | exact trivial | refine ⟨rfl, ?_⟩ | refine ⟨trivial, ?_⟩)
