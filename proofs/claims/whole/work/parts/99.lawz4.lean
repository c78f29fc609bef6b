def B_Lc36 : ByteArray := .mk #[0x2b, 0x2a, 0x15, 0x05, 0x04, 0x60, 0x2e, 0x2a, 0x15, 0x05, 0x05, 0x60, 0x2e, 0x2a, 0x15, 0x05, 0x06, 0x60, 0x2e, 0x2d, 0xb8, 0x01, 0x65, 0x36, 0x06, 0x2c, 0x2a, 0x15, 0x05, 0x04, 0x60, 0x2e, 0x2a, 0x15, 0x05, 0x05, 0x60, 0x2e, 0x2a, 0x15, 0x05, 0x06, 0x60, 0x2e, 0xb6, 0x01, 0x67, 0x36, 0x07, 0x2c, 0xb6, 0x00, 0xf2, 0x15, 0x06, 0x9f, 0x00, 0x05, 0x03, 0xac, 0x15, 0x06, 0x9a, 0x00, 0x0f, 0x2d, 0x03, 0x2f, 0x15, 0x07, 0x85, 0x94, 0x99, 0x00, 0x05, 0x03, 0xac, 0xa7, 0x09, 0x4a]
theorem W_Lc36 : sameFrom m_L_law.2.1 B_Lc36 3099 := sameFrom_of (by decide +kernel)
def t_Lc36 : List (Nat × Instr × Nat) := [(3099, .aload_n 1, 1), (3100, .aload_n 0, 1), (3101, .iload 5, 2), (3103, .iconst 1, 1), (3104, .iadd, 1), (3105, .iaload, 1), (3106, .aload_n 0, 1), (3107, .iload 5, 2), (3109, .iconst 2, 1), (3110, .iadd, 1), (3111, .iaload, 1), (3112, .aload_n 0, 1), (3113, .iload 5, 2), (3115, .iconst 3, 1), (3116, .iadd, 1), (3117, .iaload, 1), (3118, .aload_n 3, 1), (3119, .invokestatic 357, 3), (3122, .istore 6, 2), (3124, .aload_n 2, 1), (3125, .aload_n 0, 1), (3126, .iload 5, 2), (3128, .iconst 1, 1), (3129, .iadd, 1), (3130, .iaload, 1), (3131, .aload_n 0, 1), (3132, .iload 5, 2), (3134, .iconst 2, 1), (3135, .iadd, 1), (3136, .iaload, 1), (3137, .aload_n 0, 1), (3138, .iload 5, 2), (3140, .iconst 3, 1), (3141, .iadd, 1), (3142, .iaload, 1), (3143, .invokevirtual 359, 3), (3146, .istore 7, 2), (3148, .aload_n 2, 1), (3149, .invokevirtual 242, 3), (3152, .iload 6, 2), (3154, .if_icmp .eq 5, 3), (3157, .iconst 0, 1), (3158, .ireturn, 1), (3159, .iload 6, 2), (3161, .ifCond .ne 15, 3), (3164, .aload_n 3, 1), (3165, .iconst 0, 1), (3166, .laload, 1), (3167, .iload 7, 2), (3169, .i2l, 1), (3170, .lcmp, 1), (3171, .ifCond .eq 5, 3), (3174, .iconst 0, 1), (3175, .ireturn, 1), (3176, .goto 2378, 3)]
set_option maxRecDepth 20000 in
theorem U_Lc36 : okT m_L_law.2.1 t_Lc36 = true := dSt [(0, .aload_n 1, 1), (1, .aload_n 0, 1), (2, .iload 5, 2), (4, .iconst 1, 1), (5, .iadd, 1), (6, .iaload, 1), (7, .aload_n 0, 1), (8, .iload 5, 2), (10, .iconst 2, 1), (11, .iadd, 1), (12, .iaload, 1), (13, .aload_n 0, 1), (14, .iload 5, 2), (16, .iconst 3, 1), (17, .iadd, 1), (18, .iaload, 1), (19, .aload_n 3, 1), (20, .invokestatic 357, 3), (23, .istore 6, 2), (25, .aload_n 2, 1), (26, .aload_n 0, 1), (27, .iload 5, 2), (29, .iconst 1, 1), (30, .iadd, 1), (31, .iaload, 1), (32, .aload_n 0, 1), (33, .iload 5, 2), (35, .iconst 2, 1), (36, .iadd, 1), (37, .iaload, 1), (38, .aload_n 0, 1), (39, .iload 5, 2), (41, .iconst 3, 1), (42, .iadd, 1), (43, .iaload, 1), (44, .invokevirtual 359, 3), (47, .istore 7, 2), (49, .aload_n 2, 1), (50, .invokevirtual 242, 3), (53, .iload 6, 2), (55, .if_icmp .eq 5, 3), (58, .iconst 0, 1), (59, .ireturn, 1), (60, .iload 6, 2), (62, .ifCond .ne 15, 3), (65, .aload_n 3, 1), (66, .iconst 0, 1), (67, .laload, 1), (68, .iload 7, 2), (70, .i2l, 1), (71, .lcmp, 1), (72, .ifCond .eq 5, 3), (75, .iconst 0, 1), (76, .ireturn, 1), (77, .goto 2378, 3)] W_Lc36 (by decide +kernel) (by decide +kernel)
set_option maxRecDepth 20000 in
set_option maxHeartbeats 1000000 in
theorem LC_36 {G : xG} {d rc rs : Nat} {ex : Bool} {h : xH} {Q : xQ} {σ : St} {c0 : Int} {rr : Nat} {ss : Int} {l0 : Int} {d0 : UInt64} {i : Nat} (hL : G.2.2.2.2.2.1 < 2147483648) (hi : i + 10 ≤ G.2.2.2.2.2.1) (w : CW σ h) (wm : MX σ c0 rr ss h) (v : INV σ) (ho : h[143]? = some (cJ [l0])) (hod : h[144]? = some (cD [d0]))
    (M : ∀ (σ9 : St) (h9 : xH) (e9 : Bool) (c9 : Int) (r9 : Nat) (s9 : Int) (l9 : Int) (d9 : UInt64), INV σ9 → CW σ9 h9 → MX σ9 c9 r9 s9 h9 → h9[143]? = some (cJ [l9]) → h9[144]? = some (cD [d9]) → X G m_L_law (d + 10) rc rs e9 5554 [some (.ref 0), some (.ref 3), some (.ref 70), some (.ref 143), some (.ref 144), some (vi (i : Int)), none, none, none] [] h9 Q) : X G m_L_law (d + 10) (rc + 4) (rs + 24) ex 3099 [some (.ref 0), some (.ref 3), some (.ref 70), some (.ref 143), some (.ref 144), some (vi (i : Int)), none, none, none] [] h Q := by
  refine x_aload_n (dT U_Lc36 0 rfl) rfl ?_
  refine x_aload_n (dT U_Lc36 1 rfl) rfl ?_
  refine x_iload (dT U_Lc36 2 rfl) rfl ?_
  refine x_iconst (dT U_Lc36 3 rfl) ?_
  refine x_iadd (dT U_Lc36 4 rfl) ?_
  refine x_sld (i + 1) hL (dT U_Lc36 5 rfl) (by omega) (by omega) ?_
  refine x_aload_n (dT U_Lc36 6 rfl) rfl ?_
  refine x_iload (dT U_Lc36 7 rfl) rfl ?_
  refine x_iconst (dT U_Lc36 8 rfl) ?_
  refine x_iadd (dT U_Lc36 9 rfl) ?_
  refine x_sld (i + 2) hL (dT U_Lc36 10 rfl) (by omega) (by omega) ?_
  refine x_aload_n (dT U_Lc36 11 rfl) rfl ?_
  refine x_iload (dT U_Lc36 12 rfl) rfl ?_
  refine x_iconst (dT U_Lc36 13 rfl) ?_
  refine x_iadd (dT U_Lc36 14 rfl) ?_
  refine x_sld (i + 3) hL (dT U_Lc36 15 rfl) (by omega) (by omega) ?_
  refine x_aload_n (dT U_Lc36 16 rfl) rfl ?_
  refine x_invokestaticT (rc' := rc) (rs' := rs) (rc2 := 0 + 4) (rs2 := 0 + 24) (As := [_, _, _, _, _]) (st := _) M_L_extract K_L_357 (dT U_Lc36 17 rfl) rfl (by decide) rfl rfl (Nat.le_of_ble_eq_true rfl) rfl (by decide) (Nat.le_of_ble_eq_true rfl) (by omega) (by omega) ?_
  refine S_L_extract w v (xr_s _) (xr_s _) (xr_s _) ho (fun c1 => ?_) (fun c1 c2 => ?_) (fun c1 c2 h2 fc w2 z9 hz9 ez9 => ?_)
  · refine xRet_some ?_
    refine x_istore (ls' := [some (.ref _), some (.ref _), some (.ref _), some (.ref _), some (.ref _), some (vi _), some (vi _), none, none]) (dT U_Lc36 18 rfl) (by decide) rfl ?_
    refine x_aload_n (dT U_Lc36 19 rfl) rfl ?_
    refine x_aload_n (dT U_Lc36 20 rfl) rfl ?_
    refine x_iload (dT U_Lc36 21 rfl) rfl ?_
    refine x_iconst (dT U_Lc36 22 rfl) ?_
    refine x_iadd (dT U_Lc36 23 rfl) ?_
    refine x_sld (i + 1) hL (dT U_Lc36 24 rfl) (by omega) (by omega) ?_
    refine x_aload_n (dT U_Lc36 25 rfl) rfl ?_
    refine x_iload (dT U_Lc36 26 rfl) rfl ?_
    refine x_iconst (dT U_Lc36 27 rfl) ?_
    refine x_iadd (dT U_Lc36 28 rfl) ?_
    refine x_sld (i + 2) hL (dT U_Lc36 29 rfl) (by omega) (by omega) ?_
    refine x_aload_n (dT U_Lc36 30 rfl) rfl ?_
    refine x_iload (dT U_Lc36 31 rfl) rfl ?_
    refine x_iconst (dT U_Lc36 32 rfl) ?_
    refine x_iadd (dT U_Lc36 33 rfl) ?_
    refine x_sld (i + 3) hL (dT U_Lc36 34 rfl) (by omega) (by omega) ?_
    refine x_invokevirtual (rc' := rc) (rs' := rs) (rc2 := 0) (rs2 := 0) (As := [_, _, _]) (st := _) M_X11_extract K_L_359 (dT U_Lc36 35 rfl) rfl rfl (by decide) rfl rfl wm.c70 (Nat.le_of_ble_eq_true rfl) (by decide) rfl (Nat.le_of_ble_eq_true rfl) rfl (by decide) (Nat.le_of_ble_eq_true rfl) rfl rfl ?_
    refine S_X11_extract wm v (xr_s _) (xr_s _) (xr_s _) (fun m1 h3 z ag wx xz => ?_) (fun m1 m2 _ _ _ _ _ => absurd m1 c1) (fun m1 m2 _ _ _ _ _ => absurd m1 c1)
    refine xRet_some ?_
    refine x_istore (ls' := [some (.ref _), some (.ref _), some (.ref _), some (.ref _), some (.ref _), some (vi _), some (vi _), some (vi _), none]) (dT U_Lc36 36 rfl) (by decide) rfl ?_
    refine x_aload_n (dT U_Lc36 37 rfl) rfl ?_
    refine x_invokevirtual (rc' := rc) (rs' := rs) (rc2 := 0) (rs2 := 0) (As := []) (st := _) M_X11_thrown K_L_242 (dT U_Lc36 38 rfl) rfl rfl (by decide) rfl rfl wx.c70 (Nat.le_of_ble_eq_true rfl) (by decide) rfl (Nat.le_of_ble_eq_true rfl) rfl (by decide) (Nat.le_of_ble_eq_true rfl) rfl rfl ?_
    refine S_X11_thrown wx ?_
    refine xRet_some ?_
    refine x_iload (dT U_Lc36 39 rfl) rfl ?_
    refine x_icmp_eq (tgt := 3159) (dT U_Lc36 40 rfl) (by decide) (by unfold xr; omega) (by unfold xr; omega) (fun c3154 => ?_) (fun c3154 => (by exfalso; omega))
    refine x_iload (dT U_Lc36 43 rfl) rfl ?_
    refine x_if_nej (tgt := 3176) (dT U_Lc36 44 rfl) (by decide) (by decide) ?_
    refine x_goto (tgt := 5554) (dT U_Lc36 54 rfl) (by decide) ?_
    refine x_drop ?_ (M _ _ _ _ _ _ _ _ v (w.out ag (by omega)) wx (ag.get ho (by omega)) (ag.get hod (by omega)))
    repeat (first | exact trivial | refine ⟨rfl, ?_⟩ | refine ⟨trivial, ?_⟩)
  · refine xRet_some ?_
    refine x_istore (ls' := [some (.ref _), some (.ref _), some (.ref _), some (.ref _), some (.ref _), some (vi _), some (vi _), none, none]) (dT U_Lc36 18 rfl) (by decide) rfl ?_
    refine x_aload_n (dT U_Lc36 19 rfl) rfl ?_
    refine x_aload_n (dT U_Lc36 20 rfl) rfl ?_
    refine x_iload (dT U_Lc36 21 rfl) rfl ?_
    refine x_iconst (dT U_Lc36 22 rfl) ?_
    refine x_iadd (dT U_Lc36 23 rfl) ?_
    refine x_sld (i + 1) hL (dT U_Lc36 24 rfl) (by omega) (by omega) ?_
    refine x_aload_n (dT U_Lc36 25 rfl) rfl ?_
    refine x_iload (dT U_Lc36 26 rfl) rfl ?_
    refine x_iconst (dT U_Lc36 27 rfl) ?_
    refine x_iadd (dT U_Lc36 28 rfl) ?_
    refine x_sld (i + 2) hL (dT U_Lc36 29 rfl) (by omega) (by omega) ?_
    refine x_aload_n (dT U_Lc36 30 rfl) rfl ?_
    refine x_iload (dT U_Lc36 31 rfl) rfl ?_
    refine x_iconst (dT U_Lc36 32 rfl) ?_
    refine x_iadd (dT U_Lc36 33 rfl) ?_
    refine x_sld (i + 3) hL (dT U_Lc36 34 rfl) (by omega) (by omega) ?_
    refine x_invokevirtual (rc' := rc) (rs' := rs) (rc2 := 0) (rs2 := 0) (As := [_, _, _]) (st := _) M_X11_extract K_L_359 (dT U_Lc36 35 rfl) rfl rfl (by decide) rfl rfl wm.c70 (Nat.le_of_ble_eq_true rfl) (by decide) rfl (Nat.le_of_ble_eq_true rfl) rfl (by decide) (Nat.le_of_ble_eq_true rfl) rfl rfl ?_
    refine S_X11_extract wm v (xr_s _) (xr_s _) (xr_s _) (fun m1 _ _ _ _ _ => absurd c1 m1) (fun m1 m2 h3 z ag wx xz => ?_) (fun m1 m2 _ _ _ _ _ => absurd m2 c2)
    refine xRet_some ?_
    refine x_istore (ls' := [some (.ref _), some (.ref _), some (.ref _), some (.ref _), some (.ref _), some (vi _), some (vi _), some (vi _), none]) (dT U_Lc36 36 rfl) (by decide) rfl ?_
    refine x_aload_n (dT U_Lc36 37 rfl) rfl ?_
    refine x_invokevirtual (rc' := rc) (rs' := rs) (rc2 := 0) (rs2 := 0) (As := []) (st := _) M_X11_thrown K_L_242 (dT U_Lc36 38 rfl) rfl rfl (by decide) rfl rfl wx.c70 (Nat.le_of_ble_eq_true rfl) (by decide) rfl (Nat.le_of_ble_eq_true rfl) rfl (by decide) (Nat.le_of_ble_eq_true rfl) rfl rfl ?_
    refine S_X11_thrown wx ?_
    refine xRet_some ?_
    refine x_iload (dT U_Lc36 39 rfl) rfl ?_
    refine x_icmp_eq (tgt := 3159) (dT U_Lc36 40 rfl) (by decide) (by unfold xr; omega) (by unfold xr; omega) (fun c3154 => ?_) (fun c3154 => (by exfalso; omega))
    refine x_iload (dT U_Lc36 43 rfl) rfl ?_
    refine x_if_ne (tgt := 3176) (dT U_Lc36 44 rfl) (by decide) (by unfold xr; omega) (fun c3161 => ?_) (fun c3161 => (by exfalso; omega))
    refine x_goto (tgt := 5554) (dT U_Lc36 54 rfl) (by decide) ?_
    refine x_drop ?_ (M _ _ _ _ _ _ _ _ v (w.out ag (by omega)) wx (ag.get ho (by omega)) (ag.get hod (by omega)))
    repeat (first | exact trivial | refine ⟨rfl, ?_⟩ | refine ⟨trivial, ?_⟩)
  · refine xRet_some ?_
    have wmx := wm.out (h2 := (h2.set 143 (cJ [z9]))) (fun a ha => by rw [hset_fr (by omega)]; exact fc.2 a (by omega))
    refine x_istore (ls' := [some (.ref _), some (.ref _), some (.ref _), some (.ref _), some (.ref _), some (vi _), some (vi _), none, none]) (dT U_Lc36 18 rfl) (by decide) rfl ?_
    refine x_aload_n (dT U_Lc36 19 rfl) rfl ?_
    refine x_aload_n (dT U_Lc36 20 rfl) rfl ?_
    refine x_iload (dT U_Lc36 21 rfl) rfl ?_
    refine x_iconst (dT U_Lc36 22 rfl) ?_
    refine x_iadd (dT U_Lc36 23 rfl) ?_
    refine x_sld (i + 1) hL (dT U_Lc36 24 rfl) (by omega) (by omega) ?_
    refine x_aload_n (dT U_Lc36 25 rfl) rfl ?_
    refine x_iload (dT U_Lc36 26 rfl) rfl ?_
    refine x_iconst (dT U_Lc36 27 rfl) ?_
    refine x_iadd (dT U_Lc36 28 rfl) ?_
    refine x_sld (i + 2) hL (dT U_Lc36 29 rfl) (by omega) (by omega) ?_
    refine x_aload_n (dT U_Lc36 30 rfl) rfl ?_
    refine x_iload (dT U_Lc36 31 rfl) rfl ?_
    refine x_iconst (dT U_Lc36 32 rfl) ?_
    refine x_iadd (dT U_Lc36 33 rfl) ?_
    refine x_sld (i + 3) hL (dT U_Lc36 34 rfl) (by omega) (by omega) ?_
    refine x_invokevirtual (rc' := rc) (rs' := rs) (rc2 := 0) (rs2 := 0) (As := [_, _, _]) (st := _) M_X11_extract K_L_359 (dT U_Lc36 35 rfl) rfl rfl (by decide) rfl rfl wmx.c70 (Nat.le_of_ble_eq_true rfl) (by decide) rfl (Nat.le_of_ble_eq_true rfl) rfl (by decide) (Nat.le_of_ble_eq_true rfl) rfl rfl ?_
    refine S_X11_extract wmx v (xr_s _) (xr_s _) (xr_s _) (fun m1 _ _ _ _ _ => absurd c1 m1) (fun m1 m2 _ _ _ _ _ => absurd c2 m2) (fun m1 m2 h3 r3 s3 ag wx => ?_)
    refine xRet_some ?_
    rw [ez9]
    refine x_istore (ls' := [some (.ref _), some (.ref _), some (.ref _), some (.ref _), some (.ref _), some (vi _), some (vi _), some (vi _), none]) (dT U_Lc36 36 rfl) (by decide) rfl ?_
    refine x_aload_n (dT U_Lc36 37 rfl) rfl ?_
    refine x_invokevirtual (rc' := rc) (rs' := rs) (rc2 := 0) (rs2 := 0) (As := []) (st := _) M_X11_thrown K_L_242 (dT U_Lc36 38 rfl) rfl rfl (by decide) rfl rfl wx.c70 (Nat.le_of_ble_eq_true rfl) (by decide) rfl (Nat.le_of_ble_eq_true rfl) rfl (by decide) (Nat.le_of_ble_eq_true rfl) rfl rfl ?_
    refine S_X11_thrown wx ?_
    refine xRet_some ?_
    refine x_iload (dT U_Lc36 39 rfl) rfl ?_
    refine x_icmp_eq (tgt := 3159) (dT U_Lc36 40 rfl) (by decide) (by unfold xr; omega) (by unfold xr; omega) (fun c3154 => ?_) (fun c3154 => (by exfalso; omega))
    refine x_iload (dT U_Lc36 43 rfl) rfl ?_
    refine x_if_nen (tgt := 3176) (dT U_Lc36 44 rfl) (by decide) (by decide) ?_
    refine x_aload_n (dT U_Lc36 45 rfl) rfl ?_
    refine x_iconst (dT U_Lc36 46 rfl) ?_
    refine x_laload 0 (dT U_Lc36 47 rfl) (ag.get (hset_eq (fc.get ho (by omega))) (by omega)) (Nat.le_of_ble_eq_true rfl) rfl (Nat.le_of_ble_eq_true rfl) (Nat.le_of_ble_eq_true rfl) ?_
    refine x_iload (dT U_Lc36 48 rfl) rfl ?_
    refine x_i2l (dT U_Lc36 49 rfl) hz9 ?_
    refine x_lcmp (dT U_Lc36 50 rfl) (xr_l hz9) (xr_l hz9) ?_
    refine x_if_eqj (tgt := 3176) (dT U_Lc36 51 rfl) (by decide) (xcmp_rf _) ?_
    refine x_goto (tgt := 5554) (dT U_Lc36 54 rfl) (by decide) ?_
    refine x_drop ?_ (M _ _ _ _ _ _ _ _ (IV_extract v c1 c2) ((w2.out ((Ag.rf 143 143 h2).set (by omega)) (by omega)).out ag (by omega)) wx (ag.get (hset_eq (fc.get ho (by omega))) (by omega)) (ag.get (hset_ne (by omega) (fc.get hod (by omega))) (by omega)))
    repeat (first | exact trivial | refine ⟨rfl, ?_⟩ | refine ⟨trivial, ?_⟩)

def B_Lc37 : ByteArray := .mk #[0x2b, 0x2a, 0x15, 0x05, 0x04, 0x60, 0x2e, 0x2a, 0x15, 0x05, 0x05, 0x60, 0x2e, 0x2a, 0x15, 0x05, 0x06, 0x60, 0x2e, 0x2a, 0x15, 0x05, 0x07, 0x60, 0x2e, 0x2d, 0xb8, 0x01, 0x68, 0x36, 0x06, 0x2c, 0x2a, 0x15, 0x05, 0x04, 0x60, 0x2e, 0x2a, 0x15, 0x05, 0x05, 0x60, 0x2e, 0x2a, 0x15, 0x05, 0x06, 0x60, 0x2e, 0x2a, 0x15, 0x05, 0x07, 0x60, 0x2e, 0xb6, 0x01, 0x6a, 0x36, 0x07, 0x2c, 0xb6, 0x00, 0xf2, 0x15, 0x06, 0x9f, 0x00, 0x05, 0x03, 0xac, 0x15, 0x06, 0x9a, 0x00, 0x0f, 0x2d, 0x03, 0x2f, 0x15, 0x07, 0x85, 0x94, 0x99, 0x00, 0x05, 0x03, 0xac, 0xa7, 0x08, 0xee]
theorem W_Lc37 : sameFrom m_L_law.2.1 B_Lc37 3179 := sameFrom_of (by decide +kernel)
def t_Lc37 : List (Nat × Instr × Nat) := [(3179, .aload_n 1, 1), (3180, .aload_n 0, 1), (3181, .iload 5, 2), (3183, .iconst 1, 1), (3184, .iadd, 1), (3185, .iaload, 1), (3186, .aload_n 0, 1), (3187, .iload 5, 2), (3189, .iconst 2, 1), (3190, .iadd, 1), (3191, .iaload, 1), (3192, .aload_n 0, 1), (3193, .iload 5, 2), (3195, .iconst 3, 1), (3196, .iadd, 1), (3197, .iaload, 1), (3198, .aload_n 0, 1), (3199, .iload 5, 2), (3201, .iconst 4, 1), (3202, .iadd, 1), (3203, .iaload, 1), (3204, .aload_n 3, 1), (3205, .invokestatic 360, 3), (3208, .istore 6, 2), (3210, .aload_n 2, 1), (3211, .aload_n 0, 1), (3212, .iload 5, 2), (3214, .iconst 1, 1), (3215, .iadd, 1), (3216, .iaload, 1), (3217, .aload_n 0, 1), (3218, .iload 5, 2), (3220, .iconst 2, 1), (3221, .iadd, 1), (3222, .iaload, 1), (3223, .aload_n 0, 1), (3224, .iload 5, 2), (3226, .iconst 3, 1), (3227, .iadd, 1), (3228, .iaload, 1), (3229, .aload_n 0, 1), (3230, .iload 5, 2), (3232, .iconst 4, 1), (3233, .iadd, 1), (3234, .iaload, 1), (3235, .invokevirtual 362, 3), (3238, .istore 7, 2), (3240, .aload_n 2, 1), (3241, .invokevirtual 242, 3), (3244, .iload 6, 2), (3246, .if_icmp .eq 5, 3), (3249, .iconst 0, 1), (3250, .ireturn, 1), (3251, .iload 6, 2), (3253, .ifCond .ne 15, 3), (3256, .aload_n 3, 1), (3257, .iconst 0, 1), (3258, .laload, 1), (3259, .iload 7, 2), (3261, .i2l, 1), (3262, .lcmp, 1), (3263, .ifCond .eq 5, 3), (3266, .iconst 0, 1), (3267, .ireturn, 1), (3268, .goto 2286, 3)]
set_option maxRecDepth 20000 in
theorem U_Lc37 : okT m_L_law.2.1 t_Lc37 = true := dSt [(0, .aload_n 1, 1), (1, .aload_n 0, 1), (2, .iload 5, 2), (4, .iconst 1, 1), (5, .iadd, 1), (6, .iaload, 1), (7, .aload_n 0, 1), (8, .iload 5, 2), (10, .iconst 2, 1), (11, .iadd, 1), (12, .iaload, 1), (13, .aload_n 0, 1), (14, .iload 5, 2), (16, .iconst 3, 1), (17, .iadd, 1), (18, .iaload, 1), (19, .aload_n 0, 1), (20, .iload 5, 2), (22, .iconst 4, 1), (23, .iadd, 1), (24, .iaload, 1), (25, .aload_n 3, 1), (26, .invokestatic 360, 3), (29, .istore 6, 2), (31, .aload_n 2, 1), (32, .aload_n 0, 1), (33, .iload 5, 2), (35, .iconst 1, 1), (36, .iadd, 1), (37, .iaload, 1), (38, .aload_n 0, 1), (39, .iload 5, 2), (41, .iconst 2, 1), (42, .iadd, 1), (43, .iaload, 1), (44, .aload_n 0, 1), (45, .iload 5, 2), (47, .iconst 3, 1), (48, .iadd, 1), (49, .iaload, 1), (50, .aload_n 0, 1), (51, .iload 5, 2), (53, .iconst 4, 1), (54, .iadd, 1), (55, .iaload, 1), (56, .invokevirtual 362, 3), (59, .istore 7, 2), (61, .aload_n 2, 1), (62, .invokevirtual 242, 3), (65, .iload 6, 2), (67, .if_icmp .eq 5, 3), (70, .iconst 0, 1), (71, .ireturn, 1), (72, .iload 6, 2), (74, .ifCond .ne 15, 3), (77, .aload_n 3, 1), (78, .iconst 0, 1), (79, .laload, 1), (80, .iload 7, 2), (82, .i2l, 1), (83, .lcmp, 1), (84, .ifCond .eq 5, 3), (87, .iconst 0, 1), (88, .ireturn, 1), (89, .goto 2286, 3)] W_Lc37 (by decide +kernel) (by decide +kernel)
set_option maxRecDepth 20000 in
set_option maxHeartbeats 1000000 in
theorem LC_37 {G : xG} {d rc rs : Nat} {ex : Bool} {h : xH} {Q : xQ} {σ : St} {c0 : Int} {rr : Nat} {ss : Int} {l0 : Int} {d0 : UInt64} {i : Nat} (hL : G.2.2.2.2.2.1 < 2147483648) (hi : i + 10 ≤ G.2.2.2.2.2.1) (w : CW σ h) (wm : MX σ c0 rr ss h) (v : INV σ) (ho : h[143]? = some (cJ [l0])) (hod : h[144]? = some (cD [d0]))
    (M : ∀ (σ9 : St) (h9 : xH) (e9 : Bool) (c9 : Int) (r9 : Nat) (s9 : Int) (l9 : Int) (d9 : UInt64), INV σ9 → CW σ9 h9 → MX σ9 c9 r9 s9 h9 → h9[143]? = some (cJ [l9]) → h9[144]? = some (cD [d9]) → X G m_L_law (d + 10) rc rs e9 5554 [some (.ref 0), some (.ref 3), some (.ref 70), some (.ref 143), some (.ref 144), some (vi (i : Int)), none, none, none] [] h9 Q) : X G m_L_law (d + 10) (rc + 5) (rs + 30) ex 3179 [some (.ref 0), some (.ref 3), some (.ref 70), some (.ref 143), some (.ref 144), some (vi (i : Int)), none, none, none] [] h Q := by
  refine x_aload_n (dT U_Lc37 0 rfl) rfl ?_
  refine x_aload_n (dT U_Lc37 1 rfl) rfl ?_
  refine x_iload (dT U_Lc37 2 rfl) rfl ?_
  refine x_iconst (dT U_Lc37 3 rfl) ?_
  refine x_iadd (dT U_Lc37 4 rfl) ?_
  refine x_sld (i + 1) hL (dT U_Lc37 5 rfl) (by omega) (by omega) ?_
  refine x_aload_n (dT U_Lc37 6 rfl) rfl ?_
  refine x_iload (dT U_Lc37 7 rfl) rfl ?_
  refine x_iconst (dT U_Lc37 8 rfl) ?_
  refine x_iadd (dT U_Lc37 9 rfl) ?_
  refine x_sld (i + 2) hL (dT U_Lc37 10 rfl) (by omega) (by omega) ?_
  refine x_aload_n (dT U_Lc37 11 rfl) rfl ?_
  refine x_iload (dT U_Lc37 12 rfl) rfl ?_
  refine x_iconst (dT U_Lc37 13 rfl) ?_
  refine x_iadd (dT U_Lc37 14 rfl) ?_
  refine x_sld (i + 3) hL (dT U_Lc37 15 rfl) (by omega) (by omega) ?_
  refine x_aload_n (dT U_Lc37 16 rfl) rfl ?_
  refine x_iload (dT U_Lc37 17 rfl) rfl ?_
  refine x_iconst (dT U_Lc37 18 rfl) ?_
  refine x_iadd (dT U_Lc37 19 rfl) ?_
  refine x_sld (i + 4) hL (dT U_Lc37 20 rfl) (by omega) (by omega) ?_
  refine x_aload_n (dT U_Lc37 21 rfl) rfl ?_
  refine x_invokestaticT (rc' := rc) (rs' := rs) (rc2 := 0 + 5) (rs2 := 0 + 30) (As := [_, _, _, _, _, _]) (st := _) M_L_maskFor K_L_360 (dT U_Lc37 22 rfl) rfl (by decide) rfl rfl (Nat.le_of_ble_eq_true rfl) rfl (by decide) (Nat.le_of_ble_eq_true rfl) (by omega) (by omega) ?_
  refine S_L_maskFor w v (xr_s _) (xr_s _) (xr_s _) (xr_s _) ho (fun c1 => ?_) (fun c1 c2 => ?_) (fun c1 c2 c3 => ?_) (fun c1 c2 c3 h2 fc w2 z9 hz9 ez9 => ?_)
  · refine xRet_some ?_
    refine x_istore (ls' := [some (.ref _), some (.ref _), some (.ref _), some (.ref _), some (.ref _), some (vi _), some (vi _), none, none]) (dT U_Lc37 23 rfl) (by decide) rfl ?_
    refine x_aload_n (dT U_Lc37 24 rfl) rfl ?_
    refine x_aload_n (dT U_Lc37 25 rfl) rfl ?_
    refine x_iload (dT U_Lc37 26 rfl) rfl ?_
    refine x_iconst (dT U_Lc37 27 rfl) ?_
    refine x_iadd (dT U_Lc37 28 rfl) ?_
    refine x_sld (i + 1) hL (dT U_Lc37 29 rfl) (by omega) (by omega) ?_
    refine x_aload_n (dT U_Lc37 30 rfl) rfl ?_
    refine x_iload (dT U_Lc37 31 rfl) rfl ?_
    refine x_iconst (dT U_Lc37 32 rfl) ?_
    refine x_iadd (dT U_Lc37 33 rfl) ?_
    refine x_sld (i + 2) hL (dT U_Lc37 34 rfl) (by omega) (by omega) ?_
    refine x_aload_n (dT U_Lc37 35 rfl) rfl ?_
    refine x_iload (dT U_Lc37 36 rfl) rfl ?_
    refine x_iconst (dT U_Lc37 37 rfl) ?_
    refine x_iadd (dT U_Lc37 38 rfl) ?_
    refine x_sld (i + 3) hL (dT U_Lc37 39 rfl) (by omega) (by omega) ?_
    refine x_aload_n (dT U_Lc37 40 rfl) rfl ?_
    refine x_iload (dT U_Lc37 41 rfl) rfl ?_
    refine x_iconst (dT U_Lc37 42 rfl) ?_
    refine x_iadd (dT U_Lc37 43 rfl) ?_
    refine x_sld (i + 4) hL (dT U_Lc37 44 rfl) (by omega) (by omega) ?_
    refine x_invokevirtual (rc' := rc) (rs' := rs) (rc2 := 0) (rs2 := 0) (As := [_, _, _, _]) (st := _) M_X11_maskFor K_L_362 (dT U_Lc37 45 rfl) rfl rfl (by decide) rfl rfl wm.c70 (Nat.le_of_ble_eq_true rfl) (by decide) rfl (Nat.le_of_ble_eq_true rfl) rfl (by decide) (Nat.le_of_ble_eq_true rfl) rfl rfl ?_
    refine S_X11_maskFor wm v (xr_s _) (xr_s _) (xr_s _) (xr_s _) (fun m1 h3 z ag wx xz => ?_) (fun m1 m2 _ _ _ _ _ => absurd m1 c1) (fun m1 m2 m3 _ _ _ _ _ => absurd m1 c1) (fun m1 m2 m3 _ _ _ _ _ => absurd m1 c1)
    refine xRet_some ?_
    refine x_istore (ls' := [some (.ref _), some (.ref _), some (.ref _), some (.ref _), some (.ref _), some (vi _), some (vi _), some (vi _), none]) (dT U_Lc37 46 rfl) (by decide) rfl ?_
    refine x_aload_n (dT U_Lc37 47 rfl) rfl ?_
    refine x_invokevirtual (rc' := rc) (rs' := rs) (rc2 := 0) (rs2 := 0) (As := []) (st := _) M_X11_thrown K_L_242 (dT U_Lc37 48 rfl) rfl rfl (by decide) rfl rfl wx.c70 (Nat.le_of_ble_eq_true rfl) (by decide) rfl (Nat.le_of_ble_eq_true rfl) rfl (by decide) (Nat.le_of_ble_eq_true rfl) rfl rfl ?_
    refine S_X11_thrown wx ?_
    refine xRet_some ?_
    refine x_iload (dT U_Lc37 49 rfl) rfl ?_
    refine x_icmp_eq (tgt := 3251) (dT U_Lc37 50 rfl) (by decide) (by unfold xr; omega) (by unfold xr; omega) (fun c3246 => ?_) (fun c3246 => (by exfalso; omega))
    refine x_iload (dT U_Lc37 53 rfl) rfl ?_
    refine x_if_nej (tgt := 3268) (dT U_Lc37 54 rfl) (by decide) (by decide) ?_
    refine x_goto (tgt := 5554) (dT U_Lc37 64 rfl) (by decide) ?_
    refine x_drop ?_ (M _ _ _ _ _ _ _ _ v (w.out ag (by omega)) wx (ag.get ho (by omega)) (ag.get hod (by omega)))
    repeat (first | exact trivial | refine ⟨rfl, ?_⟩ | refine ⟨trivial, ?_⟩)
  · refine xRet_some ?_
    refine x_istore (ls' := [some (.ref _), some (.ref _), some (.ref _), some (.ref _), some (.ref _), some (vi _), some (vi _), none, none]) (dT U_Lc37 23 rfl) (by decide) rfl ?_
    refine x_aload_n (dT U_Lc37 24 rfl) rfl ?_
    refine x_aload_n (dT U_Lc37 25 rfl) rfl ?_
    refine x_iload (dT U_Lc37 26 rfl) rfl ?_
    refine x_iconst (dT U_Lc37 27 rfl) ?_
    refine x_iadd (dT U_Lc37 28 rfl) ?_
    refine x_sld (i + 1) hL (dT U_Lc37 29 rfl) (by omega) (by omega) ?_
    refine x_aload_n (dT U_Lc37 30 rfl) rfl ?_
    refine x_iload (dT U_Lc37 31 rfl) rfl ?_
    refine x_iconst (dT U_Lc37 32 rfl) ?_
    refine x_iadd (dT U_Lc37 33 rfl) ?_
    refine x_sld (i + 2) hL (dT U_Lc37 34 rfl) (by omega) (by omega) ?_
    refine x_aload_n (dT U_Lc37 35 rfl) rfl ?_
    refine x_iload (dT U_Lc37 36 rfl) rfl ?_
    refine x_iconst (dT U_Lc37 37 rfl) ?_
    refine x_iadd (dT U_Lc37 38 rfl) ?_
    refine x_sld (i + 3) hL (dT U_Lc37 39 rfl) (by omega) (by omega) ?_
    refine x_aload_n (dT U_Lc37 40 rfl) rfl ?_
    refine x_iload (dT U_Lc37 41 rfl) rfl ?_
    refine x_iconst (dT U_Lc37 42 rfl) ?_
    refine x_iadd (dT U_Lc37 43 rfl) ?_
    refine x_sld (i + 4) hL (dT U_Lc37 44 rfl) (by omega) (by omega) ?_
    refine x_invokevirtual (rc' := rc) (rs' := rs) (rc2 := 0) (rs2 := 0) (As := [_, _, _, _]) (st := _) M_X11_maskFor K_L_362 (dT U_Lc37 45 rfl) rfl rfl (by decide) rfl rfl wm.c70 (Nat.le_of_ble_eq_true rfl) (by decide) rfl (Nat.le_of_ble_eq_true rfl) rfl (by decide) (Nat.le_of_ble_eq_true rfl) rfl rfl ?_
    refine S_X11_maskFor wm v (xr_s _) (xr_s _) (xr_s _) (xr_s _) (fun m1 _ _ _ _ _ => absurd c1 m1) (fun m1 m2 h3 z ag wx xz => ?_) (fun m1 m2 m3 _ _ _ _ _ => absurd m2 c2) (fun m1 m2 m3 _ _ _ _ _ => absurd m2 c2)
    refine xRet_some ?_
    refine x_istore (ls' := [some (.ref _), some (.ref _), some (.ref _), some (.ref _), some (.ref _), some (vi _), some (vi _), some (vi _), none]) (dT U_Lc37 46 rfl) (by decide) rfl ?_
    refine x_aload_n (dT U_Lc37 47 rfl) rfl ?_
    refine x_invokevirtual (rc' := rc) (rs' := rs) (rc2 := 0) (rs2 := 0) (As := []) (st := _) M_X11_thrown K_L_242 (dT U_Lc37 48 rfl) rfl rfl (by decide) rfl rfl wx.c70 (Nat.le_of_ble_eq_true rfl) (by decide) rfl (Nat.le_of_ble_eq_true rfl) rfl (by decide) (Nat.le_of_ble_eq_true rfl) rfl rfl ?_
    refine S_X11_thrown wx ?_
    refine xRet_some ?_
    refine x_iload (dT U_Lc37 49 rfl) rfl ?_
    refine x_icmp_eq (tgt := 3251) (dT U_Lc37 50 rfl) (by decide) (by unfold xr; omega) (by unfold xr; omega) (fun c3246 => ?_) (fun c3246 => (by exfalso; omega))
    refine x_iload (dT U_Lc37 53 rfl) rfl ?_
    refine x_if_ne (tgt := 3268) (dT U_Lc37 54 rfl) (by decide) (by unfold xr; omega) (fun c3253 => ?_) (fun c3253 => (by exfalso; omega))
    refine x_goto (tgt := 5554) (dT U_Lc37 64 rfl) (by decide) ?_
    refine x_drop ?_ (M _ _ _ _ _ _ _ _ v (w.out ag (by omega)) wx (ag.get ho (by omega)) (ag.get hod (by omega)))
    repeat (first | exact trivial | refine ⟨rfl, ?_⟩ | refine ⟨trivial, ?_⟩)
  · refine xRet_some ?_
    refine x_istore (ls' := [some (.ref _), some (.ref _), some (.ref _), some (.ref _), some (.ref _), some (vi _), some (vi _), none, none]) (dT U_Lc37 23 rfl) (by decide) rfl ?_
    refine x_aload_n (dT U_Lc37 24 rfl) rfl ?_
    refine x_aload_n (dT U_Lc37 25 rfl) rfl ?_
    refine x_iload (dT U_Lc37 26 rfl) rfl ?_
    refine x_iconst (dT U_Lc37 27 rfl) ?_
    refine x_iadd (dT U_Lc37 28 rfl) ?_
    refine x_sld (i + 1) hL (dT U_Lc37 29 rfl) (by omega) (by omega) ?_
    refine x_aload_n (dT U_Lc37 30 rfl) rfl ?_
    refine x_iload (dT U_Lc37 31 rfl) rfl ?_
    refine x_iconst (dT U_Lc37 32 rfl) ?_
    refine x_iadd (dT U_Lc37 33 rfl) ?_
    refine x_sld (i + 2) hL (dT U_Lc37 34 rfl) (by omega) (by omega) ?_
    refine x_aload_n (dT U_Lc37 35 rfl) rfl ?_
    refine x_iload (dT U_Lc37 36 rfl) rfl ?_
    refine x_iconst (dT U_Lc37 37 rfl) ?_
    refine x_iadd (dT U_Lc37 38 rfl) ?_
    refine x_sld (i + 3) hL (dT U_Lc37 39 rfl) (by omega) (by omega) ?_
    refine x_aload_n (dT U_Lc37 40 rfl) rfl ?_
    refine x_iload (dT U_Lc37 41 rfl) rfl ?_
    refine x_iconst (dT U_Lc37 42 rfl) ?_
    refine x_iadd (dT U_Lc37 43 rfl) ?_
    refine x_sld (i + 4) hL (dT U_Lc37 44 rfl) (by omega) (by omega) ?_
    refine x_invokevirtual (rc' := rc) (rs' := rs) (rc2 := 0) (rs2 := 0) (As := [_, _, _, _]) (st := _) M_X11_maskFor K_L_362 (dT U_Lc37 45 rfl) rfl rfl (by decide) rfl rfl wm.c70 (Nat.le_of_ble_eq_true rfl) (by decide) rfl (Nat.le_of_ble_eq_true rfl) rfl (by decide) (Nat.le_of_ble_eq_true rfl) rfl rfl ?_
    refine S_X11_maskFor wm v (xr_s _) (xr_s _) (xr_s _) (xr_s _) (fun m1 _ _ _ _ _ => absurd c1 m1) (fun m1 m2 _ _ _ _ _ => absurd c2 m2) (fun m1 m2 m3 h3 z ag wx xz => ?_) (fun m1 m2 m3 _ _ _ _ _ => absurd m3 c3)
    refine xRet_some ?_
    refine x_istore (ls' := [some (.ref _), some (.ref _), some (.ref _), some (.ref _), some (.ref _), some (vi _), some (vi _), some (vi _), none]) (dT U_Lc37 46 rfl) (by decide) rfl ?_
    refine x_aload_n (dT U_Lc37 47 rfl) rfl ?_
    refine x_invokevirtual (rc' := rc) (rs' := rs) (rc2 := 0) (rs2 := 0) (As := []) (st := _) M_X11_thrown K_L_242 (dT U_Lc37 48 rfl) rfl rfl (by decide) rfl rfl wx.c70 (Nat.le_of_ble_eq_true rfl) (by decide) rfl (Nat.le_of_ble_eq_true rfl) rfl (by decide) (Nat.le_of_ble_eq_true rfl) rfl rfl ?_
    refine S_X11_thrown wx ?_
    refine xRet_some ?_
    refine x_iload (dT U_Lc37 49 rfl) rfl ?_
    refine x_icmp_eq (tgt := 3251) (dT U_Lc37 50 rfl) (by decide) (by unfold xr; omega) (by unfold xr; omega) (fun c3246 => ?_) (fun c3246 => (by exfalso; omega))
    refine x_iload (dT U_Lc37 53 rfl) rfl ?_
    refine x_if_ne (tgt := 3268) (dT U_Lc37 54 rfl) (by decide) (by unfold xr; omega) (fun c3253 => ?_) (fun c3253 => (by exfalso; omega))
    refine x_goto (tgt := 5554) (dT U_Lc37 64 rfl) (by decide) ?_
    refine x_drop ?_ (M _ _ _ _ _ _ _ _ v (w.out ag (by omega)) wx (ag.get ho (by omega)) (ag.get hod (by omega)))
    repeat (first | exact trivial | refine ⟨rfl, ?_⟩ | refine ⟨trivial, ?_⟩)
  · refine xRet_some ?_
    have wmx := wm.out (h2 := (h2.set 143 (cJ [z9]))) (fun a ha => by rw [hset_fr (by omega)]; exact fc.2 a (by omega))
    refine x_istore (ls' := [some (.ref _), some (.ref _), some (.ref _), some (.ref _), some (.ref _), some (vi _), some (vi _), none, none]) (dT U_Lc37 23 rfl) (by decide) rfl ?_
    refine x_aload_n (dT U_Lc37 24 rfl) rfl ?_
    refine x_aload_n (dT U_Lc37 25 rfl) rfl ?_
    refine x_iload (dT U_Lc37 26 rfl) rfl ?_
    refine x_iconst (dT U_Lc37 27 rfl) ?_
    refine x_iadd (dT U_Lc37 28 rfl) ?_
    refine x_sld (i + 1) hL (dT U_Lc37 29 rfl) (by omega) (by omega) ?_
    refine x_aload_n (dT U_Lc37 30 rfl) rfl ?_
    refine x_iload (dT U_Lc37 31 rfl) rfl ?_
    refine x_iconst (dT U_Lc37 32 rfl) ?_
    refine x_iadd (dT U_Lc37 33 rfl) ?_
    refine x_sld (i + 2) hL (dT U_Lc37 34 rfl) (by omega) (by omega) ?_
    refine x_aload_n (dT U_Lc37 35 rfl) rfl ?_
    refine x_iload (dT U_Lc37 36 rfl) rfl ?_
    refine x_iconst (dT U_Lc37 37 rfl) ?_
    refine x_iadd (dT U_Lc37 38 rfl) ?_
    refine x_sld (i + 3) hL (dT U_Lc37 39 rfl) (by omega) (by omega) ?_
    refine x_aload_n (dT U_Lc37 40 rfl) rfl ?_
    refine x_iload (dT U_Lc37 41 rfl) rfl ?_
    refine x_iconst (dT U_Lc37 42 rfl) ?_
    refine x_iadd (dT U_Lc37 43 rfl) ?_
    refine x_sld (i + 4) hL (dT U_Lc37 44 rfl) (by omega) (by omega) ?_
    refine x_invokevirtual (rc' := rc) (rs' := rs) (rc2 := 0) (rs2 := 0) (As := [_, _, _, _]) (st := _) M_X11_maskFor K_L_362 (dT U_Lc37 45 rfl) rfl rfl (by decide) rfl rfl wmx.c70 (Nat.le_of_ble_eq_true rfl) (by decide) rfl (Nat.le_of_ble_eq_true rfl) rfl (by decide) (Nat.le_of_ble_eq_true rfl) rfl rfl ?_
    refine S_X11_maskFor wmx v (xr_s _) (xr_s _) (xr_s _) (xr_s _) (fun m1 _ _ _ _ _ => absurd c1 m1) (fun m1 m2 _ _ _ _ _ => absurd c2 m2) (fun m1 m2 m3 _ _ _ _ _ => absurd c3 m3) (fun m1 m2 m3 h3 r3 s3 ag wx => ?_)
    refine xRet_some ?_
    rw [ez9]
    refine x_istore (ls' := [some (.ref _), some (.ref _), some (.ref _), some (.ref _), some (.ref _), some (vi _), some (vi _), some (vi _), none]) (dT U_Lc37 46 rfl) (by decide) rfl ?_
    refine x_aload_n (dT U_Lc37 47 rfl) rfl ?_
    refine x_invokevirtual (rc' := rc) (rs' := rs) (rc2 := 0) (rs2 := 0) (As := []) (st := _) M_X11_thrown K_L_242 (dT U_Lc37 48 rfl) rfl rfl (by decide) rfl rfl wx.c70 (Nat.le_of_ble_eq_true rfl) (by decide) rfl (Nat.le_of_ble_eq_true rfl) rfl (by decide) (Nat.le_of_ble_eq_true rfl) rfl rfl ?_
    refine S_X11_thrown wx ?_
    refine xRet_some ?_
    refine x_iload (dT U_Lc37 49 rfl) rfl ?_
    refine x_icmp_eq (tgt := 3251) (dT U_Lc37 50 rfl) (by decide) (by unfold xr; omega) (by unfold xr; omega) (fun c3246 => ?_) (fun c3246 => (by exfalso; omega))
    refine x_iload (dT U_Lc37 53 rfl) rfl ?_
    refine x_if_nen (tgt := 3268) (dT U_Lc37 54 rfl) (by decide) (by decide) ?_
    refine x_aload_n (dT U_Lc37 55 rfl) rfl ?_
    refine x_iconst (dT U_Lc37 56 rfl) ?_
    refine x_laload 0 (dT U_Lc37 57 rfl) (ag.get (hset_eq (fc.get ho (by omega))) (by omega)) (Nat.le_of_ble_eq_true rfl) rfl (Nat.le_of_ble_eq_true rfl) (Nat.le_of_ble_eq_true rfl) ?_
    refine x_iload (dT U_Lc37 58 rfl) rfl ?_
    refine x_i2l (dT U_Lc37 59 rfl) hz9 ?_
    refine x_lcmp (dT U_Lc37 60 rfl) (xr_l hz9) (xr_l hz9) ?_
    refine x_if_eqj (tgt := 3268) (dT U_Lc37 61 rfl) (by decide) (xcmp_rf _) ?_
    refine x_goto (tgt := 5554) (dT U_Lc37 64 rfl) (by decide) ?_
    refine x_drop ?_ (M _ _ _ _ _ _ _ _ (IV_maskFor v c1 c2 c3) ((w2.out ((Ag.rf 143 143 h2).set (by omega)) (by omega)).out ag (by omega)) wx (ag.get (hset_eq (fc.get ho (by omega))) (by omega)) (ag.get (hset_ne (by omega) (fc.get hod (by omega))) (by omega)))
    repeat (first | exact trivial | refine ⟨rfl, ?_⟩ | refine ⟨trivial, ?_⟩)

def B_Lc38 : ByteArray := .mk #[0x2b, 0x2a, 0x15, 0x05, 0x04, 0x60, 0x2e, 0x2a, 0x15, 0x05, 0x05, 0x60, 0x2e, 0x2a, 0x15, 0x05, 0x06, 0x60, 0x2e, 0x2d, 0xb8, 0x01, 0x6b, 0x36, 0x06, 0x2c, 0x2a, 0x15, 0x05, 0x04, 0x60, 0x2e, 0x2a, 0x15, 0x05, 0x05, 0x60, 0x2e, 0x2a, 0x15, 0x05, 0x06, 0x60, 0x2e, 0xb6, 0x01, 0x6d, 0x36, 0x07, 0x2c, 0xb6, 0x00, 0xf2, 0x15, 0x06, 0x9f, 0x00, 0x05, 0x03, 0xac, 0x15, 0x06, 0x9a, 0x00, 0x16, 0x2d, 0x03, 0x2f, 0x15, 0x07, 0x99, 0x00, 0x07, 0x0a, 0xa7, 0x00, 0x04, 0x09, 0x94, 0x99, 0x00, 0x05, 0x03, 0xac, 0xa7, 0x08, 0x97]
theorem W_Lc38 : sameFrom m_L_law.2.1 B_Lc38 3271 := sameFrom_of (by decide +kernel)
def t_Lc38 : List (Nat × Instr × Nat) := [(3271, .aload_n 1, 1), (3272, .aload_n 0, 1), (3273, .iload 5, 2), (3275, .iconst 1, 1), (3276, .iadd, 1), (3277, .iaload, 1), (3278, .aload_n 0, 1), (3279, .iload 5, 2), (3281, .iconst 2, 1), (3282, .iadd, 1), (3283, .iaload, 1), (3284, .aload_n 0, 1), (3285, .iload 5, 2), (3287, .iconst 3, 1), (3288, .iadd, 1), (3289, .iaload, 1), (3290, .aload_n 3, 1), (3291, .invokestatic 363, 3), (3294, .istore 6, 2), (3296, .aload_n 2, 1), (3297, .aload_n 0, 1), (3298, .iload 5, 2), (3300, .iconst 1, 1), (3301, .iadd, 1), (3302, .iaload, 1), (3303, .aload_n 0, 1), (3304, .iload 5, 2), (3306, .iconst 2, 1), (3307, .iadd, 1), (3308, .iaload, 1), (3309, .aload_n 0, 1), (3310, .iload 5, 2), (3312, .iconst 3, 1), (3313, .iadd, 1), (3314, .iaload, 1), (3315, .invokevirtual 365, 3), (3318, .istore 7, 2), (3320, .aload_n 2, 1), (3321, .invokevirtual 242, 3), (3324, .iload 6, 2), (3326, .if_icmp .eq 5, 3), (3329, .iconst 0, 1), (3330, .ireturn, 1), (3331, .iload 6, 2), (3333, .ifCond .ne 22, 3), (3336, .aload_n 3, 1), (3337, .iconst 0, 1), (3338, .laload, 1), (3339, .iload 7, 2), (3341, .ifCond .eq 7, 3), (3344, .lconst 1, 1), (3345, .goto 4, 3), (3348, .lconst 0, 1), (3349, .lcmp, 1), (3350, .ifCond .eq 5, 3), (3353, .iconst 0, 1), (3354, .ireturn, 1), (3355, .goto 2199, 3)]
set_option maxRecDepth 20000 in
theorem U_Lc38 : okT m_L_law.2.1 t_Lc38 = true := dSt [(0, .aload_n 1, 1), (1, .aload_n 0, 1), (2, .iload 5, 2), (4, .iconst 1, 1), (5, .iadd, 1), (6, .iaload, 1), (7, .aload_n 0, 1), (8, .iload 5, 2), (10, .iconst 2, 1), (11, .iadd, 1), (12, .iaload, 1), (13, .aload_n 0, 1), (14, .iload 5, 2), (16, .iconst 3, 1), (17, .iadd, 1), (18, .iaload, 1), (19, .aload_n 3, 1), (20, .invokestatic 363, 3), (23, .istore 6, 2), (25, .aload_n 2, 1), (26, .aload_n 0, 1), (27, .iload 5, 2), (29, .iconst 1, 1), (30, .iadd, 1), (31, .iaload, 1), (32, .aload_n 0, 1), (33, .iload 5, 2), (35, .iconst 2, 1), (36, .iadd, 1), (37, .iaload, 1), (38, .aload_n 0, 1), (39, .iload 5, 2), (41, .iconst 3, 1), (42, .iadd, 1), (43, .iaload, 1), (44, .invokevirtual 365, 3), (47, .istore 7, 2), (49, .aload_n 2, 1), (50, .invokevirtual 242, 3), (53, .iload 6, 2), (55, .if_icmp .eq 5, 3), (58, .iconst 0, 1), (59, .ireturn, 1), (60, .iload 6, 2), (62, .ifCond .ne 22, 3), (65, .aload_n 3, 1), (66, .iconst 0, 1), (67, .laload, 1), (68, .iload 7, 2), (70, .ifCond .eq 7, 3), (73, .lconst 1, 1), (74, .goto 4, 3), (77, .lconst 0, 1), (78, .lcmp, 1), (79, .ifCond .eq 5, 3), (82, .iconst 0, 1), (83, .ireturn, 1), (84, .goto 2199, 3)] W_Lc38 (by decide +kernel) (by decide +kernel)
set_option maxRecDepth 20000 in
set_option maxHeartbeats 1000000 in
theorem LC_38 {G : xG} {d rc rs : Nat} {ex : Bool} {h : xH} {Q : xQ} {σ : St} {c0 : Int} {rr : Nat} {ss : Int} {l0 : Int} {d0 : UInt64} {i : Nat} (hL : G.2.2.2.2.2.1 < 2147483648) (hi : i + 10 ≤ G.2.2.2.2.2.1) (w : CW σ h) (wm : MX σ c0 rr ss h) (v : INV σ) (ho : h[143]? = some (cJ [l0])) (hod : h[144]? = some (cD [d0]))
    (M : ∀ (σ9 : St) (h9 : xH) (e9 : Bool) (c9 : Int) (r9 : Nat) (s9 : Int) (l9 : Int) (d9 : UInt64), INV σ9 → CW σ9 h9 → MX σ9 c9 r9 s9 h9 → h9[143]? = some (cJ [l9]) → h9[144]? = some (cD [d9]) → X G m_L_law (d + 10) rc rs e9 5554 [some (.ref 0), some (.ref 3), some (.ref 70), some (.ref 143), some (.ref 144), some (vi (i : Int)), none, none, none] [] h9 Q) : X G m_L_law (d + 10) (rc + 4) (rs + 24) ex 3271 [some (.ref 0), some (.ref 3), some (.ref 70), some (.ref 143), some (.ref 144), some (vi (i : Int)), none, none, none] [] h Q := by
  refine x_aload_n (dT U_Lc38 0 rfl) rfl ?_
  refine x_aload_n (dT U_Lc38 1 rfl) rfl ?_
  refine x_iload (dT U_Lc38 2 rfl) rfl ?_
  refine x_iconst (dT U_Lc38 3 rfl) ?_
  refine x_iadd (dT U_Lc38 4 rfl) ?_
  refine x_sld (i + 1) hL (dT U_Lc38 5 rfl) (by omega) (by omega) ?_
  refine x_aload_n (dT U_Lc38 6 rfl) rfl ?_
  refine x_iload (dT U_Lc38 7 rfl) rfl ?_
  refine x_iconst (dT U_Lc38 8 rfl) ?_
  refine x_iadd (dT U_Lc38 9 rfl) ?_
  refine x_sld (i + 2) hL (dT U_Lc38 10 rfl) (by omega) (by omega) ?_
  refine x_aload_n (dT U_Lc38 11 rfl) rfl ?_
  refine x_iload (dT U_Lc38 12 rfl) rfl ?_
  refine x_iconst (dT U_Lc38 13 rfl) ?_
  refine x_iadd (dT U_Lc38 14 rfl) ?_
  refine x_sld (i + 3) hL (dT U_Lc38 15 rfl) (by omega) (by omega) ?_
  refine x_aload_n (dT U_Lc38 16 rfl) rfl ?_
  refine x_invokestaticT (rc' := rc) (rs' := rs) (rc2 := 0 + 4) (rs2 := 0 + 24) (As := [_, _, _, _, _]) (st := _) M_L_fits K_L_363 (dT U_Lc38 17 rfl) rfl (by decide) rfl rfl (Nat.le_of_ble_eq_true rfl) rfl (by decide) (Nat.le_of_ble_eq_true rfl) (by omega) (by omega) ?_
  refine S_L_fits w v (xr_s _) (xr_s _) (xr_s _) ho (fun c1 => ?_) (fun c1 c2 => ?_) (fun c1 c2 c3 => ?_) (fun c1 c2 c3 c4 => ?_) (fun c1 c2 c3 c4 => ?_)
  · refine xRet_some ?_
    refine x_istore (ls' := [some (.ref _), some (.ref _), some (.ref _), some (.ref _), some (.ref _), some (vi _), some (vi _), none, none]) (dT U_Lc38 18 rfl) (by decide) rfl ?_
    refine x_aload_n (dT U_Lc38 19 rfl) rfl ?_
    refine x_aload_n (dT U_Lc38 20 rfl) rfl ?_
    refine x_iload (dT U_Lc38 21 rfl) rfl ?_
    refine x_iconst (dT U_Lc38 22 rfl) ?_
    refine x_iadd (dT U_Lc38 23 rfl) ?_
    refine x_sld (i + 1) hL (dT U_Lc38 24 rfl) (by omega) (by omega) ?_
    refine x_aload_n (dT U_Lc38 25 rfl) rfl ?_
    refine x_iload (dT U_Lc38 26 rfl) rfl ?_
    refine x_iconst (dT U_Lc38 27 rfl) ?_
    refine x_iadd (dT U_Lc38 28 rfl) ?_
    refine x_sld (i + 2) hL (dT U_Lc38 29 rfl) (by omega) (by omega) ?_
    refine x_aload_n (dT U_Lc38 30 rfl) rfl ?_
    refine x_iload (dT U_Lc38 31 rfl) rfl ?_
    refine x_iconst (dT U_Lc38 32 rfl) ?_
    refine x_iadd (dT U_Lc38 33 rfl) ?_
    refine x_sld (i + 3) hL (dT U_Lc38 34 rfl) (by omega) (by omega) ?_
    refine x_invokevirtual (rc' := rc) (rs' := rs) (rc2 := 0) (rs2 := 0) (As := [_, _, _]) (st := _) M_X11_fits K_L_365 (dT U_Lc38 35 rfl) rfl rfl (by decide) rfl rfl wm.c70 (Nat.le_of_ble_eq_true rfl) (by decide) rfl (Nat.le_of_ble_eq_true rfl) rfl (by decide) (Nat.le_of_ble_eq_true rfl) rfl rfl ?_
    refine S_X11_fits wm v (xr_s _) (xr_s _) (xr_s _) (fun m1 h3 z ag wx xz => ?_) (fun m1 m2 _ _ _ _ _ => absurd m1 c1) (fun m1 m2 m3 _ _ _ _ _ => absurd m1 c1) (fun m1 m2 m3 m4 _ _ _ _ _ => absurd m1 c1) (fun m1 m2 m3 m4 _ _ _ _ _ => absurd m1 c1)
    refine xRet_some ?_
    refine x_istore (ls' := [some (.ref _), some (.ref _), some (.ref _), some (.ref _), some (.ref _), some (vi _), some (vi _), some (vi _), none]) (dT U_Lc38 36 rfl) (by decide) rfl ?_
    refine x_aload_n (dT U_Lc38 37 rfl) rfl ?_
    refine x_invokevirtual (rc' := rc) (rs' := rs) (rc2 := 0) (rs2 := 0) (As := []) (st := _) M_X11_thrown K_L_242 (dT U_Lc38 38 rfl) rfl rfl (by decide) rfl rfl wx.c70 (Nat.le_of_ble_eq_true rfl) (by decide) rfl (Nat.le_of_ble_eq_true rfl) rfl (by decide) (Nat.le_of_ble_eq_true rfl) rfl rfl ?_
    refine S_X11_thrown wx ?_
    refine xRet_some ?_
    refine x_iload (dT U_Lc38 39 rfl) rfl ?_
    refine x_icmp_eq (tgt := 3331) (dT U_Lc38 40 rfl) (by decide) (by unfold xr; omega) (by unfold xr; omega) (fun c3326 => ?_) (fun c3326 => (by exfalso; omega))
    refine x_iload (dT U_Lc38 43 rfl) rfl ?_
    refine x_if_nej (tgt := 3355) (dT U_Lc38 44 rfl) (by decide) (by decide) ?_
    refine x_goto (tgt := 5554) (dT U_Lc38 57 rfl) (by decide) ?_
    refine x_drop ?_ (M _ _ _ _ _ _ _ _ v (w.out ag (by omega)) wx (ag.get ho (by omega)) (ag.get hod (by omega)))
    repeat (first | exact trivial | refine ⟨rfl, ?_⟩ | refine ⟨trivial, ?_⟩)
  · refine xRet_some ?_
    refine x_istore (ls' := [some (.ref _), some (.ref _), some (.ref _), some (.ref _), some (.ref _), some (vi _), some (vi _), none, none]) (dT U_Lc38 18 rfl) (by decide) rfl ?_
    refine x_aload_n (dT U_Lc38 19 rfl) rfl ?_
    refine x_aload_n (dT U_Lc38 20 rfl) rfl ?_
    refine x_iload (dT U_Lc38 21 rfl) rfl ?_
    refine x_iconst (dT U_Lc38 22 rfl) ?_
    refine x_iadd (dT U_Lc38 23 rfl) ?_
    refine x_sld (i + 1) hL (dT U_Lc38 24 rfl) (by omega) (by omega) ?_
    refine x_aload_n (dT U_Lc38 25 rfl) rfl ?_
    refine x_iload (dT U_Lc38 26 rfl) rfl ?_
    refine x_iconst (dT U_Lc38 27 rfl) ?_
    refine x_iadd (dT U_Lc38 28 rfl) ?_
    refine x_sld (i + 2) hL (dT U_Lc38 29 rfl) (by omega) (by omega) ?_
    refine x_aload_n (dT U_Lc38 30 rfl) rfl ?_
    refine x_iload (dT U_Lc38 31 rfl) rfl ?_
    refine x_iconst (dT U_Lc38 32 rfl) ?_
    refine x_iadd (dT U_Lc38 33 rfl) ?_
    refine x_sld (i + 3) hL (dT U_Lc38 34 rfl) (by omega) (by omega) ?_
    refine x_invokevirtual (rc' := rc) (rs' := rs) (rc2 := 0) (rs2 := 0) (As := [_, _, _]) (st := _) M_X11_fits K_L_365 (dT U_Lc38 35 rfl) rfl rfl (by decide) rfl rfl wm.c70 (Nat.le_of_ble_eq_true rfl) (by decide) rfl (Nat.le_of_ble_eq_true rfl) rfl (by decide) (Nat.le_of_ble_eq_true rfl) rfl rfl ?_
    refine S_X11_fits wm v (xr_s _) (xr_s _) (xr_s _) (fun m1 _ _ _ _ _ => absurd c1 m1) (fun m1 m2 h3 z ag wx xz => ?_) (fun m1 m2 m3 _ _ _ _ _ => absurd m2 c2) (fun m1 m2 m3 m4 _ _ _ _ _ => absurd m2 c2) (fun m1 m2 m3 m4 _ _ _ _ _ => absurd m2 c2)
    refine xRet_some ?_
    refine x_istore (ls' := [some (.ref _), some (.ref _), some (.ref _), some (.ref _), some (.ref _), some (vi _), some (vi _), some (vi _), none]) (dT U_Lc38 36 rfl) (by decide) rfl ?_
    refine x_aload_n (dT U_Lc38 37 rfl) rfl ?_
    refine x_invokevirtual (rc' := rc) (rs' := rs) (rc2 := 0) (rs2 := 0) (As := []) (st := _) M_X11_thrown K_L_242 (dT U_Lc38 38 rfl) rfl rfl (by decide) rfl rfl wx.c70 (Nat.le_of_ble_eq_true rfl) (by decide) rfl (Nat.le_of_ble_eq_true rfl) rfl (by decide) (Nat.le_of_ble_eq_true rfl) rfl rfl ?_
    refine S_X11_thrown wx ?_
    refine xRet_some ?_
    refine x_iload (dT U_Lc38 39 rfl) rfl ?_
    refine x_icmp_eq (tgt := 3331) (dT U_Lc38 40 rfl) (by decide) (by unfold xr; omega) (by unfold xr; omega) (fun c3326 => ?_) (fun c3326 => (by exfalso; omega))
    refine x_iload (dT U_Lc38 43 rfl) rfl ?_
    refine x_if_ne (tgt := 3355) (dT U_Lc38 44 rfl) (by decide) (by unfold xr; omega) (fun c3333 => ?_) (fun c3333 => (by exfalso; omega))
    refine x_goto (tgt := 5554) (dT U_Lc38 57 rfl) (by decide) ?_
    refine x_drop ?_ (M _ _ _ _ _ _ _ _ v (w.out ag (by omega)) wx (ag.get ho (by omega)) (ag.get hod (by omega)))
    repeat (first | exact trivial | refine ⟨rfl, ?_⟩ | refine ⟨trivial, ?_⟩)
  · refine xRet_some ?_
    refine x_istore (ls' := [some (.ref _), some (.ref _), some (.ref _), some (.ref _), some (.ref _), some (vi _), some (vi _), none, none]) (dT U_Lc38 18 rfl) (by decide) rfl ?_
    refine x_aload_n (dT U_Lc38 19 rfl) rfl ?_
    refine x_aload_n (dT U_Lc38 20 rfl) rfl ?_
    refine x_iload (dT U_Lc38 21 rfl) rfl ?_
    refine x_iconst (dT U_Lc38 22 rfl) ?_
    refine x_iadd (dT U_Lc38 23 rfl) ?_
    refine x_sld (i + 1) hL (dT U_Lc38 24 rfl) (by omega) (by omega) ?_
    refine x_aload_n (dT U_Lc38 25 rfl) rfl ?_
    refine x_iload (dT U_Lc38 26 rfl) rfl ?_
    refine x_iconst (dT U_Lc38 27 rfl) ?_
    refine x_iadd (dT U_Lc38 28 rfl) ?_
    refine x_sld (i + 2) hL (dT U_Lc38 29 rfl) (by omega) (by omega) ?_
    refine x_aload_n (dT U_Lc38 30 rfl) rfl ?_
    refine x_iload (dT U_Lc38 31 rfl) rfl ?_
    refine x_iconst (dT U_Lc38 32 rfl) ?_
    refine x_iadd (dT U_Lc38 33 rfl) ?_
    refine x_sld (i + 3) hL (dT U_Lc38 34 rfl) (by omega) (by omega) ?_
    refine x_invokevirtual (rc' := rc) (rs' := rs) (rc2 := 0) (rs2 := 0) (As := [_, _, _]) (st := _) M_X11_fits K_L_365 (dT U_Lc38 35 rfl) rfl rfl (by decide) rfl rfl wm.c70 (Nat.le_of_ble_eq_true rfl) (by decide) rfl (Nat.le_of_ble_eq_true rfl) rfl (by decide) (Nat.le_of_ble_eq_true rfl) rfl rfl ?_
    refine S_X11_fits wm v (xr_s _) (xr_s _) (xr_s _) (fun m1 _ _ _ _ _ => absurd c1 m1) (fun m1 m2 _ _ _ _ _ => absurd c2 m2) (fun m1 m2 m3 h3 z ag wx xz => ?_) (fun m1 m2 m3 m4 _ _ _ _ _ => absurd m3 c3) (fun m1 m2 m3 m4 _ _ _ _ _ => absurd m3 c3)
    refine xRet_some ?_
    refine x_istore (ls' := [some (.ref _), some (.ref _), some (.ref _), some (.ref _), some (.ref _), some (vi _), some (vi _), some (vi _), none]) (dT U_Lc38 36 rfl) (by decide) rfl ?_
    refine x_aload_n (dT U_Lc38 37 rfl) rfl ?_
    refine x_invokevirtual (rc' := rc) (rs' := rs) (rc2 := 0) (rs2 := 0) (As := []) (st := _) M_X11_thrown K_L_242 (dT U_Lc38 38 rfl) rfl rfl (by decide) rfl rfl wx.c70 (Nat.le_of_ble_eq_true rfl) (by decide) rfl (Nat.le_of_ble_eq_true rfl) rfl (by decide) (Nat.le_of_ble_eq_true rfl) rfl rfl ?_
    refine S_X11_thrown wx ?_
    refine xRet_some ?_
    refine x_iload (dT U_Lc38 39 rfl) rfl ?_
    refine x_icmp_eq (tgt := 3331) (dT U_Lc38 40 rfl) (by decide) (by unfold xr; omega) (by unfold xr; omega) (fun c3326 => ?_) (fun c3326 => (by exfalso; omega))
    refine x_iload (dT U_Lc38 43 rfl) rfl ?_
    refine x_if_ne (tgt := 3355) (dT U_Lc38 44 rfl) (by decide) (by unfold xr; omega) (fun c3333 => ?_) (fun c3333 => (by exfalso; omega))
    refine x_goto (tgt := 5554) (dT U_Lc38 57 rfl) (by decide) ?_
    refine x_drop ?_ (M _ _ _ _ _ _ _ _ v (w.out ag (by omega)) wx (ag.get ho (by omega)) (ag.get hod (by omega)))
    repeat (first | exact trivial | refine ⟨rfl, ?_⟩ | refine ⟨trivial, ?_⟩)
  · refine xRet_some ?_
    have wmx := wm.out (h2 := (h.set 143 (cJ [1]))) (fun a ha => by rw [hset_fr (by omega)])
    refine x_istore (ls' := [some (.ref _), some (.ref _), some (.ref _), some (.ref _), some (.ref _), some (vi _), some (vi _), none, none]) (dT U_Lc38 18 rfl) (by decide) rfl ?_
    refine x_aload_n (dT U_Lc38 19 rfl) rfl ?_
    refine x_aload_n (dT U_Lc38 20 rfl) rfl ?_
    refine x_iload (dT U_Lc38 21 rfl) rfl ?_
    refine x_iconst (dT U_Lc38 22 rfl) ?_
    refine x_iadd (dT U_Lc38 23 rfl) ?_
    refine x_sld (i + 1) hL (dT U_Lc38 24 rfl) (by omega) (by omega) ?_
    refine x_aload_n (dT U_Lc38 25 rfl) rfl ?_
    refine x_iload (dT U_Lc38 26 rfl) rfl ?_
    refine x_iconst (dT U_Lc38 27 rfl) ?_
    refine x_iadd (dT U_Lc38 28 rfl) ?_
    refine x_sld (i + 2) hL (dT U_Lc38 29 rfl) (by omega) (by omega) ?_
    refine x_aload_n (dT U_Lc38 30 rfl) rfl ?_
    refine x_iload (dT U_Lc38 31 rfl) rfl ?_
    refine x_iconst (dT U_Lc38 32 rfl) ?_
    refine x_iadd (dT U_Lc38 33 rfl) ?_
    refine x_sld (i + 3) hL (dT U_Lc38 34 rfl) (by omega) (by omega) ?_
    refine x_invokevirtual (rc' := rc) (rs' := rs) (rc2 := 0) (rs2 := 0) (As := [_, _, _]) (st := _) M_X11_fits K_L_365 (dT U_Lc38 35 rfl) rfl rfl (by decide) rfl rfl wmx.c70 (Nat.le_of_ble_eq_true rfl) (by decide) rfl (Nat.le_of_ble_eq_true rfl) rfl (by decide) (Nat.le_of_ble_eq_true rfl) rfl rfl ?_
    refine S_X11_fits wmx v (xr_s _) (xr_s _) (xr_s _) (fun m1 _ _ _ _ _ => absurd c1 m1) (fun m1 m2 _ _ _ _ _ => absurd c2 m2) (fun m1 m2 m3 _ _ _ _ _ => absurd c3 m3) (fun m1 m2 m3 m4 h3 r3 s3 ag wx => ?_) (fun m1 m2 m3 m4 _ _ _ _ _ => absurd c4 m4)
    refine xRet_some ?_
    refine x_istore (ls' := [some (.ref _), some (.ref _), some (.ref _), some (.ref _), some (.ref _), some (vi _), some (vi _), some (vi _), none]) (dT U_Lc38 36 rfl) (by decide) rfl ?_
    refine x_aload_n (dT U_Lc38 37 rfl) rfl ?_
    refine x_invokevirtual (rc' := rc) (rs' := rs) (rc2 := 0) (rs2 := 0) (As := []) (st := _) M_X11_thrown K_L_242 (dT U_Lc38 38 rfl) rfl rfl (by decide) rfl rfl wx.c70 (Nat.le_of_ble_eq_true rfl) (by decide) rfl (Nat.le_of_ble_eq_true rfl) rfl (by decide) (Nat.le_of_ble_eq_true rfl) rfl rfl ?_
    refine S_X11_thrown wx ?_
    refine xRet_some ?_
    refine x_iload (dT U_Lc38 39 rfl) rfl ?_
    refine x_icmp_eq (tgt := 3331) (dT U_Lc38 40 rfl) (by decide) (by unfold xr; omega) (by unfold xr; omega) (fun c3326 => ?_) (fun c3326 => (by exfalso; omega))
    refine x_iload (dT U_Lc38 43 rfl) rfl ?_
    refine x_if_nen (tgt := 3355) (dT U_Lc38 44 rfl) (by decide) (by decide) ?_
    refine x_aload_n (dT U_Lc38 45 rfl) rfl ?_
    refine x_iconst (dT U_Lc38 46 rfl) ?_
    refine x_laload 0 (dT U_Lc38 47 rfl) (ag.get (hset_eq ho) (by omega)) (Nat.le_of_ble_eq_true rfl) rfl (Nat.le_of_ble_eq_true rfl) (Nat.le_of_ble_eq_true rfl) ?_
    refine x_iload (dT U_Lc38 48 rfl) rfl ?_
    refine x_if_eqn (tgt := 3348) (dT U_Lc38 49 rfl) (by decide) (by decide) ?_
    refine x_lconst (z := 1) (dT U_Lc38 50 rfl) rfl ?_
    refine x_goto (tgt := 3349) (dT U_Lc38 51 rfl) (by decide) ?_
    refine x_lcmp (dT U_Lc38 53 rfl) (by unfold xrl; decide) (by unfold xrl; decide) ?_
    refine x_if_eqj (tgt := 3355) (dT U_Lc38 54 rfl) (by decide) (xcmp_rf _) ?_
    refine x_goto (tgt := 5554) (dT U_Lc38 57 rfl) (by decide) ?_
    refine x_drop ?_ (M _ _ _ _ _ _ _ _ v ((w.out ((Ag.rf 143 143 h).set (by omega)) (by omega)).out ag (by omega)) wx (ag.get (hset_eq ho) (by omega)) (ag.get (hset_ne (by omega) hod) (by omega)))
    repeat (first | exact trivial | refine ⟨rfl, ?_⟩ | refine ⟨trivial, ?_⟩)
  · refine xRet_some ?_
    have wmx := wm.out (h2 := (h.set 143 (cJ [0]))) (fun a ha => by rw [hset_fr (by omega)])
    refine x_istore (ls' := [some (.ref _), some (.ref _), some (.ref _), some (.ref _), some (.ref _), some (vi _), some (vi _), none, none]) (dT U_Lc38 18 rfl) (by decide) rfl ?_
    refine x_aload_n (dT U_Lc38 19 rfl) rfl ?_
    refine x_aload_n (dT U_Lc38 20 rfl) rfl ?_
    refine x_iload (dT U_Lc38 21 rfl) rfl ?_
    refine x_iconst (dT U_Lc38 22 rfl) ?_
    refine x_iadd (dT U_Lc38 23 rfl) ?_
    refine x_sld (i + 1) hL (dT U_Lc38 24 rfl) (by omega) (by omega) ?_
    refine x_aload_n (dT U_Lc38 25 rfl) rfl ?_
    refine x_iload (dT U_Lc38 26 rfl) rfl ?_
    refine x_iconst (dT U_Lc38 27 rfl) ?_
    refine x_iadd (dT U_Lc38 28 rfl) ?_
    refine x_sld (i + 2) hL (dT U_Lc38 29 rfl) (by omega) (by omega) ?_
    refine x_aload_n (dT U_Lc38 30 rfl) rfl ?_
    refine x_iload (dT U_Lc38 31 rfl) rfl ?_
    refine x_iconst (dT U_Lc38 32 rfl) ?_
    refine x_iadd (dT U_Lc38 33 rfl) ?_
    refine x_sld (i + 3) hL (dT U_Lc38 34 rfl) (by omega) (by omega) ?_
    refine x_invokevirtual (rc' := rc) (rs' := rs) (rc2 := 0) (rs2 := 0) (As := [_, _, _]) (st := _) M_X11_fits K_L_365 (dT U_Lc38 35 rfl) rfl rfl (by decide) rfl rfl wmx.c70 (Nat.le_of_ble_eq_true rfl) (by decide) rfl (Nat.le_of_ble_eq_true rfl) rfl (by decide) (Nat.le_of_ble_eq_true rfl) rfl rfl ?_
    refine S_X11_fits wmx v (xr_s _) (xr_s _) (xr_s _) (fun m1 _ _ _ _ _ => absurd c1 m1) (fun m1 m2 _ _ _ _ _ => absurd c2 m2) (fun m1 m2 m3 _ _ _ _ _ => absurd c3 m3) (fun m1 m2 m3 m4 _ _ _ _ _ => absurd m4 c4) (fun m1 m2 m3 m4 h3 r3 s3 ag wx => ?_)
    refine xRet_some ?_
    refine x_istore (ls' := [some (.ref _), some (.ref _), some (.ref _), some (.ref _), some (.ref _), some (vi _), some (vi _), some (vi _), none]) (dT U_Lc38 36 rfl) (by decide) rfl ?_
    refine x_aload_n (dT U_Lc38 37 rfl) rfl ?_
    refine x_invokevirtual (rc' := rc) (rs' := rs) (rc2 := 0) (rs2 := 0) (As := []) (st := _) M_X11_thrown K_L_242 (dT U_Lc38 38 rfl) rfl rfl (by decide) rfl rfl wx.c70 (Nat.le_of_ble_eq_true rfl) (by decide) rfl (Nat.le_of_ble_eq_true rfl) rfl (by decide) (Nat.le_of_ble_eq_true rfl) rfl rfl ?_
    refine S_X11_thrown wx ?_
    refine xRet_some ?_
    refine x_iload (dT U_Lc38 39 rfl) rfl ?_
    refine x_icmp_eq (tgt := 3331) (dT U_Lc38 40 rfl) (by decide) (by unfold xr; omega) (by unfold xr; omega) (fun c3326 => ?_) (fun c3326 => (by exfalso; omega))
    refine x_iload (dT U_Lc38 43 rfl) rfl ?_
    refine x_if_nen (tgt := 3355) (dT U_Lc38 44 rfl) (by decide) (by decide) ?_
    refine x_aload_n (dT U_Lc38 45 rfl) rfl ?_
    refine x_iconst (dT U_Lc38 46 rfl) ?_
    refine x_laload 0 (dT U_Lc38 47 rfl) (ag.get (hset_eq ho) (by omega)) (Nat.le_of_ble_eq_true rfl) rfl (Nat.le_of_ble_eq_true rfl) (Nat.le_of_ble_eq_true rfl) ?_
    refine x_iload (dT U_Lc38 48 rfl) rfl ?_
    refine x_if_eqj (tgt := 3348) (dT U_Lc38 49 rfl) (by decide) (by decide) ?_
    refine x_lconst (z := 0) (dT U_Lc38 52 rfl) rfl ?_
    refine x_lcmp (dT U_Lc38 53 rfl) (by unfold xrl; decide) (by unfold xrl; decide) ?_
    refine x_if_eqj (tgt := 3355) (dT U_Lc38 54 rfl) (by decide) (xcmp_rf _) ?_
    refine x_goto (tgt := 5554) (dT U_Lc38 57 rfl) (by decide) ?_
    refine x_drop ?_ (M _ _ _ _ _ _ _ _ v ((w.out ((Ag.rf 143 143 h).set (by omega)) (by omega)).out ag (by omega)) wx (ag.get (hset_eq ho) (by omega)) (ag.get (hset_ne (by omega) hod) (by omega)))
    repeat (first | exact trivial | refine ⟨rfl, ?_⟩ | refine ⟨trivial, ?_⟩)

def B_Lc39 : ByteArray := .mk #[0x2b, 0x2a, 0x15, 0x05, 0x04, 0x60, 0x2e, 0x2d, 0xb8, 0x01, 0x6e, 0x36, 0x06, 0x2c, 0x2a, 0x15, 0x05, 0x04, 0x60, 0x2e, 0xb6, 0x01, 0x70, 0x36, 0x07, 0x2c, 0xb6, 0x00, 0xf2, 0x15, 0x06, 0x9f, 0x00, 0x05, 0x03, 0xac, 0x15, 0x06, 0x9a, 0x00, 0x0f, 0x2d, 0x03, 0x2f, 0x15, 0x07, 0x85, 0x94, 0x99, 0x00, 0x05, 0x03, 0xac, 0xa7, 0x08, 0x5f]
theorem W_Lc39 : sameFrom m_L_law.2.1 B_Lc39 3358 := sameFrom_of (by decide +kernel)
def t_Lc39 : List (Nat × Instr × Nat) := [(3358, .aload_n 1, 1), (3359, .aload_n 0, 1), (3360, .iload 5, 2), (3362, .iconst 1, 1), (3363, .iadd, 1), (3364, .iaload, 1), (3365, .aload_n 3, 1), (3366, .invokestatic 366, 3), (3369, .istore 6, 2), (3371, .aload_n 2, 1), (3372, .aload_n 0, 1), (3373, .iload 5, 2), (3375, .iconst 1, 1), (3376, .iadd, 1), (3377, .iaload, 1), (3378, .invokevirtual 368, 3), (3381, .istore 7, 2), (3383, .aload_n 2, 1), (3384, .invokevirtual 242, 3), (3387, .iload 6, 2), (3389, .if_icmp .eq 5, 3), (3392, .iconst 0, 1), (3393, .ireturn, 1), (3394, .iload 6, 2), (3396, .ifCond .ne 15, 3), (3399, .aload_n 3, 1), (3400, .iconst 0, 1), (3401, .laload, 1), (3402, .iload 7, 2), (3404, .i2l, 1), (3405, .lcmp, 1), (3406, .ifCond .eq 5, 3), (3409, .iconst 0, 1), (3410, .ireturn, 1), (3411, .goto 2143, 3)]
set_option maxRecDepth 20000 in
theorem U_Lc39 : okT m_L_law.2.1 t_Lc39 = true := dSt [(0, .aload_n 1, 1), (1, .aload_n 0, 1), (2, .iload 5, 2), (4, .iconst 1, 1), (5, .iadd, 1), (6, .iaload, 1), (7, .aload_n 3, 1), (8, .invokestatic 366, 3), (11, .istore 6, 2), (13, .aload_n 2, 1), (14, .aload_n 0, 1), (15, .iload 5, 2), (17, .iconst 1, 1), (18, .iadd, 1), (19, .iaload, 1), (20, .invokevirtual 368, 3), (23, .istore 7, 2), (25, .aload_n 2, 1), (26, .invokevirtual 242, 3), (29, .iload 6, 2), (31, .if_icmp .eq 5, 3), (34, .iconst 0, 1), (35, .ireturn, 1), (36, .iload 6, 2), (38, .ifCond .ne 15, 3), (41, .aload_n 3, 1), (42, .iconst 0, 1), (43, .laload, 1), (44, .iload 7, 2), (46, .i2l, 1), (47, .lcmp, 1), (48, .ifCond .eq 5, 3), (51, .iconst 0, 1), (52, .ireturn, 1), (53, .goto 2143, 3)] W_Lc39 (by decide +kernel) (by decide +kernel)
set_option maxRecDepth 20000 in
set_option maxHeartbeats 1000000 in
theorem LC_39 {G : xG} {d rc rs : Nat} {ex : Bool} {h : xH} {Q : xQ} {σ : St} {c0 : Int} {rr : Nat} {ss : Int} {l0 : Int} {d0 : UInt64} {i : Nat} (hL : G.2.2.2.2.2.1 < 2147483648) (hi : i + 10 ≤ G.2.2.2.2.2.1) (w : CW σ h) (wm : MX σ c0 rr ss h) (v : INV σ) (ho : h[143]? = some (cJ [l0])) (hod : h[144]? = some (cD [d0]))
    (M : ∀ (σ9 : St) (h9 : xH) (e9 : Bool) (c9 : Int) (r9 : Nat) (s9 : Int) (l9 : Int) (d9 : UInt64), INV σ9 → CW σ9 h9 → MX σ9 c9 r9 s9 h9 → h9[143]? = some (cJ [l9]) → h9[144]? = some (cD [d9]) → X G m_L_law (d + 10) rc rs e9 5554 [some (.ref 0), some (.ref 3), some (.ref 70), some (.ref 143), some (.ref 144), some (vi (i : Int)), none, none, none] [] h9 Q) : X G m_L_law (d + 10) (rc + 2) (rs + 12) ex 3358 [some (.ref 0), some (.ref 3), some (.ref 70), some (.ref 143), some (.ref 144), some (vi (i : Int)), none, none, none] [] h Q := by
  refine x_aload_n (dT U_Lc39 0 rfl) rfl ?_
  refine x_aload_n (dT U_Lc39 1 rfl) rfl ?_
  refine x_iload (dT U_Lc39 2 rfl) rfl ?_
  refine x_iconst (dT U_Lc39 3 rfl) ?_
  refine x_iadd (dT U_Lc39 4 rfl) ?_
  refine x_sld (i + 1) hL (dT U_Lc39 5 rfl) (by omega) (by omega) ?_
  refine x_aload_n (dT U_Lc39 6 rfl) rfl ?_
  refine x_invokestaticT (rc' := rc) (rs' := rs) (rc2 := 0 + 2) (rs2 := 0 + 12) (As := [_, _, _]) (st := _) M_L_challenges K_L_366 (dT U_Lc39 7 rfl) rfl (by decide) rfl rfl (Nat.le_of_ble_eq_true rfl) rfl (by decide) (Nat.le_of_ble_eq_true rfl) (by omega) (by omega) ?_
  refine S_L_challenges w v (xr_s _) ho (fun c1 => ?_) (fun c1 c2 => ?_) (fun c1 c2 z9 hz9 ez9 => ?_)
  · refine xRet_some ?_
    refine x_istore (ls' := [some (.ref _), some (.ref _), some (.ref _), some (.ref _), some (.ref _), some (vi _), some (vi _), none, none]) (dT U_Lc39 8 rfl) (by decide) rfl ?_
    refine x_aload_n (dT U_Lc39 9 rfl) rfl ?_
    refine x_aload_n (dT U_Lc39 10 rfl) rfl ?_
    refine x_iload (dT U_Lc39 11 rfl) rfl ?_
    refine x_iconst (dT U_Lc39 12 rfl) ?_
    refine x_iadd (dT U_Lc39 13 rfl) ?_
    refine x_sld (i + 1) hL (dT U_Lc39 14 rfl) (by omega) (by omega) ?_
    refine x_invokevirtual (rc' := rc) (rs' := rs) (rc2 := 0) (rs2 := 0) (As := [_]) (st := _) M_X11_challenges K_L_368 (dT U_Lc39 15 rfl) rfl rfl (by decide) rfl rfl wm.c70 (Nat.le_of_ble_eq_true rfl) (by decide) rfl (Nat.le_of_ble_eq_true rfl) rfl (by decide) (Nat.le_of_ble_eq_true rfl) rfl rfl ?_
    refine S_X11_challenges wm v (xr_s _) (fun m1 h3 z ag wx xz => ?_) (fun m1 m2 _ _ _ _ _ => absurd m1 c1) (fun m1 m2 _ _ _ _ _ => absurd m1 c1)
    refine xRet_some ?_
    refine x_istore (ls' := [some (.ref _), some (.ref _), some (.ref _), some (.ref _), some (.ref _), some (vi _), some (vi _), some (vi _), none]) (dT U_Lc39 16 rfl) (by decide) rfl ?_
    refine x_aload_n (dT U_Lc39 17 rfl) rfl ?_
    refine x_invokevirtual (rc' := rc) (rs' := rs) (rc2 := 0) (rs2 := 0) (As := []) (st := _) M_X11_thrown K_L_242 (dT U_Lc39 18 rfl) rfl rfl (by decide) rfl rfl wx.c70 (Nat.le_of_ble_eq_true rfl) (by decide) rfl (Nat.le_of_ble_eq_true rfl) rfl (by decide) (Nat.le_of_ble_eq_true rfl) rfl rfl ?_
    refine S_X11_thrown wx ?_
    refine xRet_some ?_
    refine x_iload (dT U_Lc39 19 rfl) rfl ?_
    refine x_icmp_eq (tgt := 3394) (dT U_Lc39 20 rfl) (by decide) (by unfold xr; omega) (by unfold xr; omega) (fun c3389 => ?_) (fun c3389 => (by exfalso; omega))
    refine x_iload (dT U_Lc39 23 rfl) rfl ?_
    refine x_if_nej (tgt := 3411) (dT U_Lc39 24 rfl) (by decide) (by decide) ?_
    refine x_goto (tgt := 5554) (dT U_Lc39 34 rfl) (by decide) ?_
    refine x_drop ?_ (M _ _ _ _ _ _ _ _ v (w.out ag (by omega)) wx (ag.get ho (by omega)) (ag.get hod (by omega)))
    repeat (first | exact trivial | refine ⟨rfl, ?_⟩ | refine ⟨trivial, ?_⟩)
  · refine xRet_some ?_
    refine x_istore (ls' := [some (.ref _), some (.ref _), some (.ref _), some (.ref _), some (.ref _), some (vi _), some (vi _), none, none]) (dT U_Lc39 8 rfl) (by decide) rfl ?_
    refine x_aload_n (dT U_Lc39 9 rfl) rfl ?_
    refine x_aload_n (dT U_Lc39 10 rfl) rfl ?_
    refine x_iload (dT U_Lc39 11 rfl) rfl ?_
    refine x_iconst (dT U_Lc39 12 rfl) ?_
    refine x_iadd (dT U_Lc39 13 rfl) ?_
    refine x_sld (i + 1) hL (dT U_Lc39 14 rfl) (by omega) (by omega) ?_
    refine x_invokevirtual (rc' := rc) (rs' := rs) (rc2 := 0) (rs2 := 0) (As := [_]) (st := _) M_X11_challenges K_L_368 (dT U_Lc39 15 rfl) rfl rfl (by decide) rfl rfl wm.c70 (Nat.le_of_ble_eq_true rfl) (by decide) rfl (Nat.le_of_ble_eq_true rfl) rfl (by decide) (Nat.le_of_ble_eq_true rfl) rfl rfl ?_
    refine S_X11_challenges wm v (xr_s _) (fun m1 _ _ _ _ _ => absurd c1 m1) (fun m1 m2 h3 z ag wx xz => ?_) (fun m1 m2 _ _ _ _ _ => absurd m2 c2)
    refine xRet_some ?_
    refine x_istore (ls' := [some (.ref _), some (.ref _), some (.ref _), some (.ref _), some (.ref _), some (vi _), some (vi _), some (vi _), none]) (dT U_Lc39 16 rfl) (by decide) rfl ?_
    refine x_aload_n (dT U_Lc39 17 rfl) rfl ?_
    refine x_invokevirtual (rc' := rc) (rs' := rs) (rc2 := 0) (rs2 := 0) (As := []) (st := _) M_X11_thrown K_L_242 (dT U_Lc39 18 rfl) rfl rfl (by decide) rfl rfl wx.c70 (Nat.le_of_ble_eq_true rfl) (by decide) rfl (Nat.le_of_ble_eq_true rfl) rfl (by decide) (Nat.le_of_ble_eq_true rfl) rfl rfl ?_
    refine S_X11_thrown wx ?_
    refine xRet_some ?_
    refine x_iload (dT U_Lc39 19 rfl) rfl ?_
    refine x_icmp_eq (tgt := 3394) (dT U_Lc39 20 rfl) (by decide) (by unfold xr; omega) (by unfold xr; omega) (fun c3389 => ?_) (fun c3389 => (by exfalso; omega))
    refine x_iload (dT U_Lc39 23 rfl) rfl ?_
    refine x_if_ne (tgt := 3411) (dT U_Lc39 24 rfl) (by decide) (by unfold xr; omega) (fun c3396 => ?_) (fun c3396 => (by exfalso; omega))
    refine x_goto (tgt := 5554) (dT U_Lc39 34 rfl) (by decide) ?_
    refine x_drop ?_ (M _ _ _ _ _ _ _ _ v (w.out ag (by omega)) wx (ag.get ho (by omega)) (ag.get hod (by omega)))
    repeat (first | exact trivial | refine ⟨rfl, ?_⟩ | refine ⟨trivial, ?_⟩)
  · refine xRet_some ?_
    have wmx := wm.out (h2 := (h.set 143 (cJ [z9]))) (fun a ha => by rw [hset_fr (by omega)])
    refine x_istore (ls' := [some (.ref _), some (.ref _), some (.ref _), some (.ref _), some (.ref _), some (vi _), some (vi _), none, none]) (dT U_Lc39 8 rfl) (by decide) rfl ?_
    refine x_aload_n (dT U_Lc39 9 rfl) rfl ?_
    refine x_aload_n (dT U_Lc39 10 rfl) rfl ?_
    refine x_iload (dT U_Lc39 11 rfl) rfl ?_
    refine x_iconst (dT U_Lc39 12 rfl) ?_
    refine x_iadd (dT U_Lc39 13 rfl) ?_
    refine x_sld (i + 1) hL (dT U_Lc39 14 rfl) (by omega) (by omega) ?_
    refine x_invokevirtual (rc' := rc) (rs' := rs) (rc2 := 0) (rs2 := 0) (As := [_]) (st := _) M_X11_challenges K_L_368 (dT U_Lc39 15 rfl) rfl rfl (by decide) rfl rfl wmx.c70 (Nat.le_of_ble_eq_true rfl) (by decide) rfl (Nat.le_of_ble_eq_true rfl) rfl (by decide) (Nat.le_of_ble_eq_true rfl) rfl rfl ?_
    refine S_X11_challenges wmx v (xr_s _) (fun m1 _ _ _ _ _ => absurd c1 m1) (fun m1 m2 _ _ _ _ _ => absurd c2 m2) (fun m1 m2 h3 r3 s3 ag wx => ?_)
    refine xRet_some ?_
    rw [ez9]
    refine x_istore (ls' := [some (.ref _), some (.ref _), some (.ref _), some (.ref _), some (.ref _), some (vi _), some (vi _), some (vi _), none]) (dT U_Lc39 16 rfl) (by decide) rfl ?_
    refine x_aload_n (dT U_Lc39 17 rfl) rfl ?_
    refine x_invokevirtual (rc' := rc) (rs' := rs) (rc2 := 0) (rs2 := 0) (As := []) (st := _) M_X11_thrown K_L_242 (dT U_Lc39 18 rfl) rfl rfl (by decide) rfl rfl wx.c70 (Nat.le_of_ble_eq_true rfl) (by decide) rfl (Nat.le_of_ble_eq_true rfl) rfl (by decide) (Nat.le_of_ble_eq_true rfl) rfl rfl ?_
    refine S_X11_thrown wx ?_
    refine xRet_some ?_
    refine x_iload (dT U_Lc39 19 rfl) rfl ?_
    refine x_icmp_eq (tgt := 3394) (dT U_Lc39 20 rfl) (by decide) (by unfold xr; omega) (by unfold xr; omega) (fun c3389 => ?_) (fun c3389 => (by exfalso; omega))
    refine x_iload (dT U_Lc39 23 rfl) rfl ?_
    refine x_if_nen (tgt := 3411) (dT U_Lc39 24 rfl) (by decide) (by decide) ?_
    refine x_aload_n (dT U_Lc39 25 rfl) rfl ?_
    refine x_iconst (dT U_Lc39 26 rfl) ?_
    refine x_laload 0 (dT U_Lc39 27 rfl) (ag.get (hset_eq ho) (by omega)) (Nat.le_of_ble_eq_true rfl) rfl (Nat.le_of_ble_eq_true rfl) (Nat.le_of_ble_eq_true rfl) ?_
    refine x_iload (dT U_Lc39 28 rfl) rfl ?_
    refine x_i2l (dT U_Lc39 29 rfl) hz9 ?_
    refine x_lcmp (dT U_Lc39 30 rfl) (xr_l hz9) (xr_l hz9) ?_
    refine x_if_eqj (tgt := 3411) (dT U_Lc39 31 rfl) (by decide) (xcmp_rf _) ?_
    refine x_goto (tgt := 5554) (dT U_Lc39 34 rfl) (by decide) ?_
    refine x_drop ?_ (M _ _ _ _ _ _ _ _ v ((w.out ((Ag.rf 143 143 h).set (by omega)) (by omega)).out ag (by omega)) wx (ag.get (hset_eq ho) (by omega)) (ag.get (hset_ne (by omega) hod) (by omega)))
    repeat (first | exact trivial | refine ⟨rfl, ?_⟩ | refine ⟨trivial, ?_⟩)

def B_Lc40 : ByteArray := .mk #[0x2b, 0x2a, 0x15, 0x05, 0x04, 0x60, 0x2e, 0x2a, 0x15, 0x05, 0x05, 0x60, 0x2e, 0x2d, 0xb8, 0x01, 0x71, 0x36, 0x06, 0x2c, 0x2a, 0x15, 0x05, 0x04, 0x60, 0x2e, 0x2a, 0x15, 0x05, 0x05, 0x60, 0x2e, 0xb6, 0x01, 0x73, 0x36, 0x07, 0x2c, 0xb6, 0x00, 0xf2, 0x15, 0x06, 0x9f, 0x00, 0x05, 0x03, 0xac, 0x15, 0x06, 0x9a, 0x00, 0x0f, 0x2d, 0x03, 0x2f, 0x15, 0x07, 0x85, 0x94, 0x99, 0x00, 0x05, 0x03, 0xac, 0xa7, 0x08, 0x1b]
theorem W_Lc40 : sameFrom m_L_law.2.1 B_Lc40 3414 := sameFrom_of (by decide +kernel)
def t_Lc40 : List (Nat × Instr × Nat) := [(3414, .aload_n 1, 1), (3415, .aload_n 0, 1), (3416, .iload 5, 2), (3418, .iconst 1, 1), (3419, .iadd, 1), (3420, .iaload, 1), (3421, .aload_n 0, 1), (3422, .iload 5, 2), (3424, .iconst 2, 1), (3425, .iadd, 1), (3426, .iaload, 1), (3427, .aload_n 3, 1), (3428, .invokestatic 369, 3), (3431, .istore 6, 2), (3433, .aload_n 2, 1), (3434, .aload_n 0, 1), (3435, .iload 5, 2), (3437, .iconst 1, 1), (3438, .iadd, 1), (3439, .iaload, 1), (3440, .aload_n 0, 1), (3441, .iload 5, 2), (3443, .iconst 2, 1), (3444, .iadd, 1), (3445, .iaload, 1), (3446, .invokevirtual 371, 3), (3449, .istore 7, 2), (3451, .aload_n 2, 1), (3452, .invokevirtual 242, 3), (3455, .iload 6, 2), (3457, .if_icmp .eq 5, 3), (3460, .iconst 0, 1), (3461, .ireturn, 1), (3462, .iload 6, 2), (3464, .ifCond .ne 15, 3), (3467, .aload_n 3, 1), (3468, .iconst 0, 1), (3469, .laload, 1), (3470, .iload 7, 2), (3472, .i2l, 1), (3473, .lcmp, 1), (3474, .ifCond .eq 5, 3), (3477, .iconst 0, 1), (3478, .ireturn, 1), (3479, .goto 2075, 3)]
set_option maxRecDepth 20000 in
theorem U_Lc40 : okT m_L_law.2.1 t_Lc40 = true := dSt [(0, .aload_n 1, 1), (1, .aload_n 0, 1), (2, .iload 5, 2), (4, .iconst 1, 1), (5, .iadd, 1), (6, .iaload, 1), (7, .aload_n 0, 1), (8, .iload 5, 2), (10, .iconst 2, 1), (11, .iadd, 1), (12, .iaload, 1), (13, .aload_n 3, 1), (14, .invokestatic 369, 3), (17, .istore 6, 2), (19, .aload_n 2, 1), (20, .aload_n 0, 1), (21, .iload 5, 2), (23, .iconst 1, 1), (24, .iadd, 1), (25, .iaload, 1), (26, .aload_n 0, 1), (27, .iload 5, 2), (29, .iconst 2, 1), (30, .iadd, 1), (31, .iaload, 1), (32, .invokevirtual 371, 3), (35, .istore 7, 2), (37, .aload_n 2, 1), (38, .invokevirtual 242, 3), (41, .iload 6, 2), (43, .if_icmp .eq 5, 3), (46, .iconst 0, 1), (47, .ireturn, 1), (48, .iload 6, 2), (50, .ifCond .ne 15, 3), (53, .aload_n 3, 1), (54, .iconst 0, 1), (55, .laload, 1), (56, .iload 7, 2), (58, .i2l, 1), (59, .lcmp, 1), (60, .ifCond .eq 5, 3), (63, .iconst 0, 1), (64, .ireturn, 1), (65, .goto 2075, 3)] W_Lc40 (by decide +kernel) (by decide +kernel)
set_option maxRecDepth 20000 in
set_option maxHeartbeats 1000000 in
theorem LC_40 {G : xG} {d rc rs : Nat} {ex : Bool} {h : xH} {Q : xQ} {σ : St} {c0 : Int} {rr : Nat} {ss : Int} {l0 : Int} {d0 : UInt64} {i : Nat} (hL : G.2.2.2.2.2.1 < 2147483648) (hi : i + 10 ≤ G.2.2.2.2.2.1) (w : CW σ h) (wm : MX σ c0 rr ss h) (v : INV σ) (ho : h[143]? = some (cJ [l0])) (hod : h[144]? = some (cD [d0]))
    (M : ∀ (σ9 : St) (h9 : xH) (e9 : Bool) (c9 : Int) (r9 : Nat) (s9 : Int) (l9 : Int) (d9 : UInt64), INV σ9 → CW σ9 h9 → MX σ9 c9 r9 s9 h9 → h9[143]? = some (cJ [l9]) → h9[144]? = some (cD [d9]) → X G m_L_law (d + 10) rc rs e9 5554 [some (.ref 0), some (.ref 3), some (.ref 70), some (.ref 143), some (.ref 144), some (vi (i : Int)), none, none, none] [] h9 Q) : X G m_L_law (d + 10) (rc + 2) (rs + 12) ex 3414 [some (.ref 0), some (.ref 3), some (.ref 70), some (.ref 143), some (.ref 144), some (vi (i : Int)), none, none, none] [] h Q := by
  refine x_aload_n (dT U_Lc40 0 rfl) rfl ?_
  refine x_aload_n (dT U_Lc40 1 rfl) rfl ?_
  refine x_iload (dT U_Lc40 2 rfl) rfl ?_
  refine x_iconst (dT U_Lc40 3 rfl) ?_
  refine x_iadd (dT U_Lc40 4 rfl) ?_
  refine x_sld (i + 1) hL (dT U_Lc40 5 rfl) (by omega) (by omega) ?_
  refine x_aload_n (dT U_Lc40 6 rfl) rfl ?_
  refine x_iload (dT U_Lc40 7 rfl) rfl ?_
  refine x_iconst (dT U_Lc40 8 rfl) ?_
  refine x_iadd (dT U_Lc40 9 rfl) ?_
  refine x_sld (i + 2) hL (dT U_Lc40 10 rfl) (by omega) (by omega) ?_
  refine x_aload_n (dT U_Lc40 11 rfl) rfl ?_
  refine x_invokestaticT (rc' := rc) (rs' := rs) (rc2 := 0 + 2) (rs2 := 0 + 12) (As := [_, _, _, _]) (st := _) M_L_told K_L_369 (dT U_Lc40 12 rfl) rfl (by decide) rfl rfl (Nat.le_of_ble_eq_true rfl) rfl (by decide) (Nat.le_of_ble_eq_true rfl) (by omega) (by omega) ?_
  refine S_L_told w v (xr_s _) (xr_s _) ho (fun c1 => ?_) (fun c1 c2 => ?_) (fun c1 c2 z9 hz9 ez9 => ?_)
  · refine xRet_some ?_
    refine x_istore (ls' := [some (.ref _), some (.ref _), some (.ref _), some (.ref _), some (.ref _), some (vi _), some (vi _), none, none]) (dT U_Lc40 13 rfl) (by decide) rfl ?_
    refine x_aload_n (dT U_Lc40 14 rfl) rfl ?_
    refine x_aload_n (dT U_Lc40 15 rfl) rfl ?_
    refine x_iload (dT U_Lc40 16 rfl) rfl ?_
    refine x_iconst (dT U_Lc40 17 rfl) ?_
    refine x_iadd (dT U_Lc40 18 rfl) ?_
    refine x_sld (i + 1) hL (dT U_Lc40 19 rfl) (by omega) (by omega) ?_
    refine x_aload_n (dT U_Lc40 20 rfl) rfl ?_
    refine x_iload (dT U_Lc40 21 rfl) rfl ?_
    refine x_iconst (dT U_Lc40 22 rfl) ?_
    refine x_iadd (dT U_Lc40 23 rfl) ?_
    refine x_sld (i + 2) hL (dT U_Lc40 24 rfl) (by omega) (by omega) ?_
    refine x_invokevirtual (rc' := rc) (rs' := rs) (rc2 := 0) (rs2 := 0) (As := [_, _]) (st := _) M_X11_told K_L_371 (dT U_Lc40 25 rfl) rfl rfl (by decide) rfl rfl wm.c70 (Nat.le_of_ble_eq_true rfl) (by decide) rfl (Nat.le_of_ble_eq_true rfl) rfl (by decide) (Nat.le_of_ble_eq_true rfl) rfl rfl ?_
    refine S_X11_told wm v (xr_s _) (xr_s _) (fun m1 h3 z ag wx xz => ?_) (fun m1 m2 _ _ _ _ _ => absurd m1 c1) (fun m1 m2 _ _ _ _ _ => absurd m1 c1)
    refine xRet_some ?_
    refine x_istore (ls' := [some (.ref _), some (.ref _), some (.ref _), some (.ref _), some (.ref _), some (vi _), some (vi _), some (vi _), none]) (dT U_Lc40 26 rfl) (by decide) rfl ?_
    refine x_aload_n (dT U_Lc40 27 rfl) rfl ?_
    refine x_invokevirtual (rc' := rc) (rs' := rs) (rc2 := 0) (rs2 := 0) (As := []) (st := _) M_X11_thrown K_L_242 (dT U_Lc40 28 rfl) rfl rfl (by decide) rfl rfl wx.c70 (Nat.le_of_ble_eq_true rfl) (by decide) rfl (Nat.le_of_ble_eq_true rfl) rfl (by decide) (Nat.le_of_ble_eq_true rfl) rfl rfl ?_
    refine S_X11_thrown wx ?_
    refine xRet_some ?_
    refine x_iload (dT U_Lc40 29 rfl) rfl ?_
    refine x_icmp_eq (tgt := 3462) (dT U_Lc40 30 rfl) (by decide) (by unfold xr; omega) (by unfold xr; omega) (fun c3457 => ?_) (fun c3457 => (by exfalso; omega))
    refine x_iload (dT U_Lc40 33 rfl) rfl ?_
    refine x_if_nej (tgt := 3479) (dT U_Lc40 34 rfl) (by decide) (by decide) ?_
    refine x_goto (tgt := 5554) (dT U_Lc40 44 rfl) (by decide) ?_
    refine x_drop ?_ (M _ _ _ _ _ _ _ _ v (w.out ag (by omega)) wx (ag.get ho (by omega)) (ag.get hod (by omega)))
    repeat (first | exact trivial | refine ⟨rfl, ?_⟩ | refine ⟨trivial, ?_⟩)
  · refine xRet_some ?_
    refine x_istore (ls' := [some (.ref _), some (.ref _), some (.ref _), some (.ref _), some (.ref _), some (vi _), some (vi _), none, none]) (dT U_Lc40 13 rfl) (by decide) rfl ?_
    refine x_aload_n (dT U_Lc40 14 rfl) rfl ?_
    refine x_aload_n (dT U_Lc40 15 rfl) rfl ?_
    refine x_iload (dT U_Lc40 16 rfl) rfl ?_
    refine x_iconst (dT U_Lc40 17 rfl) ?_
    refine x_iadd (dT U_Lc40 18 rfl) ?_
    refine x_sld (i + 1) hL (dT U_Lc40 19 rfl) (by omega) (by omega) ?_
    refine x_aload_n (dT U_Lc40 20 rfl) rfl ?_
    refine x_iload (dT U_Lc40 21 rfl) rfl ?_
    refine x_iconst (dT U_Lc40 22 rfl) ?_
    refine x_iadd (dT U_Lc40 23 rfl) ?_
    refine x_sld (i + 2) hL (dT U_Lc40 24 rfl) (by omega) (by omega) ?_
    refine x_invokevirtual (rc' := rc) (rs' := rs) (rc2 := 0) (rs2 := 0) (As := [_, _]) (st := _) M_X11_told K_L_371 (dT U_Lc40 25 rfl) rfl rfl (by decide) rfl rfl wm.c70 (Nat.le_of_ble_eq_true rfl) (by decide) rfl (Nat.le_of_ble_eq_true rfl) rfl (by decide) (Nat.le_of_ble_eq_true rfl) rfl rfl ?_
    refine S_X11_told wm v (xr_s _) (xr_s _) (fun m1 _ _ _ _ _ => absurd c1 m1) (fun m1 m2 h3 z ag wx xz => ?_) (fun m1 m2 _ _ _ _ _ => absurd m2 c2)
    refine xRet_some ?_
    refine x_istore (ls' := [some (.ref _), some (.ref _), some (.ref _), some (.ref _), some (.ref _), some (vi _), some (vi _), some (vi _), none]) (dT U_Lc40 26 rfl) (by decide) rfl ?_
    refine x_aload_n (dT U_Lc40 27 rfl) rfl ?_
    refine x_invokevirtual (rc' := rc) (rs' := rs) (rc2 := 0) (rs2 := 0) (As := []) (st := _) M_X11_thrown K_L_242 (dT U_Lc40 28 rfl) rfl rfl (by decide) rfl rfl wx.c70 (Nat.le_of_ble_eq_true rfl) (by decide) rfl (Nat.le_of_ble_eq_true rfl) rfl (by decide) (Nat.le_of_ble_eq_true rfl) rfl rfl ?_
    refine S_X11_thrown wx ?_
    refine xRet_some ?_
    refine x_iload (dT U_Lc40 29 rfl) rfl ?_
    refine x_icmp_eq (tgt := 3462) (dT U_Lc40 30 rfl) (by decide) (by unfold xr; omega) (by unfold xr; omega) (fun c3457 => ?_) (fun c3457 => (by exfalso; omega))
    refine x_iload (dT U_Lc40 33 rfl) rfl ?_
    refine x_if_ne (tgt := 3479) (dT U_Lc40 34 rfl) (by decide) (by unfold xr; omega) (fun c3464 => ?_) (fun c3464 => (by exfalso; omega))
    refine x_goto (tgt := 5554) (dT U_Lc40 44 rfl) (by decide) ?_
    refine x_drop ?_ (M _ _ _ _ _ _ _ _ v (w.out ag (by omega)) wx (ag.get ho (by omega)) (ag.get hod (by omega)))
    repeat (first | exact trivial | refine ⟨rfl, ?_⟩ | refine ⟨trivial, ?_⟩)
  · refine xRet_some ?_
    have wmx := wm.out (h2 := (h.set 143 (cJ [z9]))) (fun a ha => by rw [hset_fr (by omega)])
    refine x_istore (ls' := [some (.ref _), some (.ref _), some (.ref _), some (.ref _), some (.ref _), some (vi _), some (vi _), none, none]) (dT U_Lc40 13 rfl) (by decide) rfl ?_
    refine x_aload_n (dT U_Lc40 14 rfl) rfl ?_
    refine x_aload_n (dT U_Lc40 15 rfl) rfl ?_
    refine x_iload (dT U_Lc40 16 rfl) rfl ?_
    refine x_iconst (dT U_Lc40 17 rfl) ?_
    refine x_iadd (dT U_Lc40 18 rfl) ?_
    refine x_sld (i + 1) hL (dT U_Lc40 19 rfl) (by omega) (by omega) ?_
    refine x_aload_n (dT U_Lc40 20 rfl) rfl ?_
    refine x_iload (dT U_Lc40 21 rfl) rfl ?_
    refine x_iconst (dT U_Lc40 22 rfl) ?_
    refine x_iadd (dT U_Lc40 23 rfl) ?_
    refine x_sld (i + 2) hL (dT U_Lc40 24 rfl) (by omega) (by omega) ?_
    refine x_invokevirtual (rc' := rc) (rs' := rs) (rc2 := 0) (rs2 := 0) (As := [_, _]) (st := _) M_X11_told K_L_371 (dT U_Lc40 25 rfl) rfl rfl (by decide) rfl rfl wmx.c70 (Nat.le_of_ble_eq_true rfl) (by decide) rfl (Nat.le_of_ble_eq_true rfl) rfl (by decide) (Nat.le_of_ble_eq_true rfl) rfl rfl ?_
    refine S_X11_told wmx v (xr_s _) (xr_s _) (fun m1 _ _ _ _ _ => absurd c1 m1) (fun m1 m2 _ _ _ _ _ => absurd c2 m2) (fun m1 m2 h3 r3 s3 ag wx => ?_)
    refine xRet_some ?_
    rw [ez9]
    refine x_istore (ls' := [some (.ref _), some (.ref _), some (.ref _), some (.ref _), some (.ref _), some (vi _), some (vi _), some (vi _), none]) (dT U_Lc40 26 rfl) (by decide) rfl ?_
    refine x_aload_n (dT U_Lc40 27 rfl) rfl ?_
    refine x_invokevirtual (rc' := rc) (rs' := rs) (rc2 := 0) (rs2 := 0) (As := []) (st := _) M_X11_thrown K_L_242 (dT U_Lc40 28 rfl) rfl rfl (by decide) rfl rfl wx.c70 (Nat.le_of_ble_eq_true rfl) (by decide) rfl (Nat.le_of_ble_eq_true rfl) rfl (by decide) (Nat.le_of_ble_eq_true rfl) rfl rfl ?_
    refine S_X11_thrown wx ?_
    refine xRet_some ?_
    refine x_iload (dT U_Lc40 29 rfl) rfl ?_
    refine x_icmp_eq (tgt := 3462) (dT U_Lc40 30 rfl) (by decide) (by unfold xr; omega) (by unfold xr; omega) (fun c3457 => ?_) (fun c3457 => (by exfalso; omega))
    refine x_iload (dT U_Lc40 33 rfl) rfl ?_
    refine x_if_nen (tgt := 3479) (dT U_Lc40 34 rfl) (by decide) (by decide) ?_
    refine x_aload_n (dT U_Lc40 35 rfl) rfl ?_
    refine x_iconst (dT U_Lc40 36 rfl) ?_
    refine x_laload 0 (dT U_Lc40 37 rfl) (ag.get (hset_eq ho) (by omega)) (Nat.le_of_ble_eq_true rfl) rfl (Nat.le_of_ble_eq_true rfl) (Nat.le_of_ble_eq_true rfl) ?_
    refine x_iload (dT U_Lc40 38 rfl) rfl ?_
    refine x_i2l (dT U_Lc40 39 rfl) hz9 ?_
    refine x_lcmp (dT U_Lc40 40 rfl) (xr_l hz9) (xr_l hz9) ?_
    refine x_if_eqj (tgt := 3479) (dT U_Lc40 41 rfl) (by decide) (xcmp_rf _) ?_
    refine x_goto (tgt := 5554) (dT U_Lc40 44 rfl) (by decide) ?_
    refine x_drop ?_ (M _ _ _ _ _ _ _ _ v ((w.out ((Ag.rf 143 143 h).set (by omega)) (by omega)).out ag (by omega)) wx (ag.get (hset_eq ho) (by omega)) (ag.get (hset_ne (by omega) hod) (by omega)))
    repeat (first | exact trivial | refine ⟨rfl, ?_⟩ | refine ⟨trivial, ?_⟩)

def B_Lc41 : ByteArray := .mk #[0x2b, 0x2a, 0x15, 0x05, 0x04, 0x60, 0x2e, 0x2a, 0x15, 0x05, 0x05, 0x60, 0x2e, 0x2a, 0x15, 0x05, 0x06, 0x60, 0x2e, 0x99, 0x00, 0x07, 0x04, 0xa7, 0x00, 0x04, 0x03, 0x2d, 0xb8, 0x01, 0x74, 0x36, 0x06, 0x2c, 0x2a, 0x15, 0x05, 0x04, 0x60, 0x2e, 0x2a, 0x15, 0x05, 0x05, 0x60, 0x2e, 0x2a, 0x15, 0x05, 0x06, 0x60, 0x2e, 0x99, 0x00, 0x07, 0x04, 0xa7, 0x00, 0x04, 0x03, 0xb6, 0x01, 0x77, 0x36, 0x07, 0x2c, 0xb6, 0x00, 0xf2, 0x15, 0x06, 0x9f, 0x00, 0x05, 0x03, 0xac, 0x15, 0x06, 0x9a, 0x00, 0x0f, 0x2d, 0x03, 0x2f, 0x15, 0x07, 0x85, 0x94, 0x99, 0x00, 0x05, 0x03, 0xac, 0xa7, 0x07, 0xbb]
theorem W_Lc41 : sameFrom m_L_law.2.1 B_Lc41 3482 := sameFrom_of (by decide +kernel)
def t_Lc41 : List (Nat × Instr × Nat) := [(3482, .aload_n 1, 1), (3483, .aload_n 0, 1), (3484, .iload 5, 2), (3486, .iconst 1, 1), (3487, .iadd, 1), (3488, .iaload, 1), (3489, .aload_n 0, 1), (3490, .iload 5, 2), (3492, .iconst 2, 1), (3493, .iadd, 1), (3494, .iaload, 1), (3495, .aload_n 0, 1), (3496, .iload 5, 2), (3498, .iconst 3, 1), (3499, .iadd, 1), (3500, .iaload, 1), (3501, .ifCond .eq 7, 3), (3504, .iconst 1, 1), (3505, .goto 4, 3), (3508, .iconst 0, 1), (3509, .aload_n 3, 1), (3510, .invokestatic 372, 3), (3513, .istore 6, 2), (3515, .aload_n 2, 1), (3516, .aload_n 0, 1), (3517, .iload 5, 2), (3519, .iconst 1, 1), (3520, .iadd, 1), (3521, .iaload, 1), (3522, .aload_n 0, 1), (3523, .iload 5, 2), (3525, .iconst 2, 1), (3526, .iadd, 1), (3527, .iaload, 1), (3528, .aload_n 0, 1), (3529, .iload 5, 2), (3531, .iconst 3, 1), (3532, .iadd, 1), (3533, .iaload, 1), (3534, .ifCond .eq 7, 3), (3537, .iconst 1, 1), (3538, .goto 4, 3), (3541, .iconst 0, 1), (3542, .invokevirtual 375, 3), (3545, .istore 7, 2), (3547, .aload_n 2, 1), (3548, .invokevirtual 242, 3), (3551, .iload 6, 2), (3553, .if_icmp .eq 5, 3), (3556, .iconst 0, 1), (3557, .ireturn, 1), (3558, .iload 6, 2), (3560, .ifCond .ne 15, 3), (3563, .aload_n 3, 1), (3564, .iconst 0, 1), (3565, .laload, 1), (3566, .iload 7, 2), (3568, .i2l, 1), (3569, .lcmp, 1), (3570, .ifCond .eq 5, 3), (3573, .iconst 0, 1), (3574, .ireturn, 1), (3575, .goto 1979, 3)]
set_option maxRecDepth 20000 in
theorem U_Lc41 : okT m_L_law.2.1 t_Lc41 = true := dSt [(0, .aload_n 1, 1), (1, .aload_n 0, 1), (2, .iload 5, 2), (4, .iconst 1, 1), (5, .iadd, 1), (6, .iaload, 1), (7, .aload_n 0, 1), (8, .iload 5, 2), (10, .iconst 2, 1), (11, .iadd, 1), (12, .iaload, 1), (13, .aload_n 0, 1), (14, .iload 5, 2), (16, .iconst 3, 1), (17, .iadd, 1), (18, .iaload, 1), (19, .ifCond .eq 7, 3), (22, .iconst 1, 1), (23, .goto 4, 3), (26, .iconst 0, 1), (27, .aload_n 3, 1), (28, .invokestatic 372, 3), (31, .istore 6, 2), (33, .aload_n 2, 1), (34, .aload_n 0, 1), (35, .iload 5, 2), (37, .iconst 1, 1), (38, .iadd, 1), (39, .iaload, 1), (40, .aload_n 0, 1), (41, .iload 5, 2), (43, .iconst 2, 1), (44, .iadd, 1), (45, .iaload, 1), (46, .aload_n 0, 1), (47, .iload 5, 2), (49, .iconst 3, 1), (50, .iadd, 1), (51, .iaload, 1), (52, .ifCond .eq 7, 3), (55, .iconst 1, 1), (56, .goto 4, 3), (59, .iconst 0, 1), (60, .invokevirtual 375, 3), (63, .istore 7, 2), (65, .aload_n 2, 1), (66, .invokevirtual 242, 3), (69, .iload 6, 2), (71, .if_icmp .eq 5, 3), (74, .iconst 0, 1), (75, .ireturn, 1), (76, .iload 6, 2), (78, .ifCond .ne 15, 3), (81, .aload_n 3, 1), (82, .iconst 0, 1), (83, .laload, 1), (84, .iload 7, 2), (86, .i2l, 1), (87, .lcmp, 1), (88, .ifCond .eq 5, 3), (91, .iconst 0, 1), (92, .ireturn, 1), (93, .goto 1979, 3)] W_Lc41 (by decide +kernel) (by decide +kernel)
set_option maxRecDepth 20000 in
set_option maxHeartbeats 1000000 in
theorem LC_41 {G : xG} {d rc rs : Nat} {ex : Bool} {h : xH} {Q : xQ} {σ : St} {c0 : Int} {rr : Nat} {ss : Int} {l0 : Int} {d0 : UInt64} {i : Nat} (hL : G.2.2.2.2.2.1 < 2147483648) (hi : i + 10 ≤ G.2.2.2.2.2.1) (w : CW σ h) (wm : MX σ c0 rr ss h) (v : INV σ) (ho : h[143]? = some (cJ [l0])) (hod : h[144]? = some (cD [d0]))
    (M : ∀ (σ9 : St) (h9 : xH) (e9 : Bool) (c9 : Int) (r9 : Nat) (s9 : Int) (l9 : Int) (d9 : UInt64), INV σ9 → CW σ9 h9 → MX σ9 c9 r9 s9 h9 → h9[143]? = some (cJ [l9]) → h9[144]? = some (cD [d9]) → X G m_L_law (d + 10) rc rs e9 5554 [some (.ref 0), some (.ref 3), some (.ref 70), some (.ref 143), some (.ref 144), some (vi (i : Int)), none, none, none] [] h9 Q) : X G m_L_law (d + 10) (rc + 4) (rs + 24) ex 3482 [some (.ref 0), some (.ref 3), some (.ref 70), some (.ref 143), some (.ref 144), some (vi (i : Int)), none, none, none] [] h Q := by
  refine x_aload_n (dT U_Lc41 0 rfl) rfl ?_
  refine x_aload_n (dT U_Lc41 1 rfl) rfl ?_
  refine x_iload (dT U_Lc41 2 rfl) rfl ?_
  refine x_iconst (dT U_Lc41 3 rfl) ?_
  refine x_iadd (dT U_Lc41 4 rfl) ?_
  refine x_sld (i + 1) hL (dT U_Lc41 5 rfl) (by omega) (by omega) ?_
  refine x_aload_n (dT U_Lc41 6 rfl) rfl ?_
  refine x_iload (dT U_Lc41 7 rfl) rfl ?_
  refine x_iconst (dT U_Lc41 8 rfl) ?_
  refine x_iadd (dT U_Lc41 9 rfl) ?_
  refine x_sld (i + 2) hL (dT U_Lc41 10 rfl) (by omega) (by omega) ?_
  refine x_aload_n (dT U_Lc41 11 rfl) rfl ?_
  refine x_iload (dT U_Lc41 12 rfl) rfl ?_
  refine x_iconst (dT U_Lc41 13 rfl) ?_
  refine x_iadd (dT U_Lc41 14 rfl) ?_
  refine x_sld (i + 3) hL (dT U_Lc41 15 rfl) (by omega) (by omega) ?_
  refine x_if_eq (tgt := 3508) (dT U_Lc41 16 rfl) (by decide) (xr_s _) (fun cA => ?_) (fun cA => ?_)
  · skip
    refine x_iconst (dT U_Lc41 19 rfl) ?_
    refine x_aload_n (dT U_Lc41 20 rfl) rfl ?_
    refine x_invokestaticT (rc' := rc) (rs' := rs) (rc2 := 0 + 4) (rs2 := 0 + 24) (As := [_, _, _, _, _]) (st := _) M_L_form K_L_372 (dT U_Lc41 21 rfl) rfl (by decide) rfl rfl (Nat.le_of_ble_eq_true rfl) rfl (by decide) (Nat.le_of_ble_eq_true rfl) (by omega) (by omega) ?_
    refine S_L_form w v (xr_s _) (xr_s _) (by decide) ho (fun c1 => ?_) (fun c1 c2 => ?_) (fun c1 c2 z9 hz9 ez9 => ?_)
    · refine xRet_some ?_
      refine x_istore (ls' := [some (.ref _), some (.ref _), some (.ref _), some (.ref _), some (.ref _), some (vi _), some (vi _), none, none]) (dT U_Lc41 22 rfl) (by decide) rfl ?_
      refine x_aload_n (dT U_Lc41 23 rfl) rfl ?_
      refine x_aload_n (dT U_Lc41 24 rfl) rfl ?_
      refine x_iload (dT U_Lc41 25 rfl) rfl ?_
      refine x_iconst (dT U_Lc41 26 rfl) ?_
      refine x_iadd (dT U_Lc41 27 rfl) ?_
      refine x_sld (i + 1) hL (dT U_Lc41 28 rfl) (by omega) (by omega) ?_
      refine x_aload_n (dT U_Lc41 29 rfl) rfl ?_
      refine x_iload (dT U_Lc41 30 rfl) rfl ?_
      refine x_iconst (dT U_Lc41 31 rfl) ?_
      refine x_iadd (dT U_Lc41 32 rfl) ?_
      refine x_sld (i + 2) hL (dT U_Lc41 33 rfl) (by omega) (by omega) ?_
      refine x_aload_n (dT U_Lc41 34 rfl) rfl ?_
      refine x_iload (dT U_Lc41 35 rfl) rfl ?_
      refine x_iconst (dT U_Lc41 36 rfl) ?_
      refine x_iadd (dT U_Lc41 37 rfl) ?_
      refine x_sld (i + 3) hL (dT U_Lc41 38 rfl) (by omega) (by omega) ?_
      refine x_if_eq (tgt := 3541) (dT U_Lc41 39 rfl) (by decide) (xr_s _) (fun _ => ?_) (fun z => absurd cA z)
      refine x_iconst (dT U_Lc41 42 rfl) ?_
      refine x_invokevirtual (rc' := rc) (rs' := rs) (rc2 := 0) (rs2 := 0) (As := [_, _, _]) (st := _) M_X11_form K_L_375 (dT U_Lc41 43 rfl) rfl rfl (by decide) rfl rfl wm.c70 (Nat.le_of_ble_eq_true rfl) (by decide) rfl (Nat.le_of_ble_eq_true rfl) rfl (by decide) (Nat.le_of_ble_eq_true rfl) rfl rfl ?_
      refine S_X11_form wm v (xr_s _) (xr_s _) (by decide) (fun m1 h3 z ag wx xz => ?_) (fun m1 m2 _ _ _ _ _ => absurd m1 c1) (fun m1 m2 _ _ _ _ _ => absurd m1 c1)
      refine xRet_some ?_
      refine x_istore (ls' := [some (.ref _), some (.ref _), some (.ref _), some (.ref _), some (.ref _), some (vi _), some (vi _), some (vi _), none]) (dT U_Lc41 44 rfl) (by decide) rfl ?_
      refine x_aload_n (dT U_Lc41 45 rfl) rfl ?_
      refine x_invokevirtual (rc' := rc) (rs' := rs) (rc2 := 0) (rs2 := 0) (As := []) (st := _) M_X11_thrown K_L_242 (dT U_Lc41 46 rfl) rfl rfl (by decide) rfl rfl wx.c70 (Nat.le_of_ble_eq_true rfl) (by decide) rfl (Nat.le_of_ble_eq_true rfl) rfl (by decide) (Nat.le_of_ble_eq_true rfl) rfl rfl ?_
      refine S_X11_thrown wx ?_
      refine xRet_some ?_
      refine x_iload (dT U_Lc41 47 rfl) rfl ?_
      refine x_icmp_eq (tgt := 3558) (dT U_Lc41 48 rfl) (by decide) (by unfold xr; omega) (by unfold xr; omega) (fun c3553 => ?_) (fun c3553 => (by exfalso; omega))
      refine x_iload (dT U_Lc41 51 rfl) rfl ?_
      refine x_if_nej (tgt := 3575) (dT U_Lc41 52 rfl) (by decide) (by decide) ?_
      refine x_goto (tgt := 5554) (dT U_Lc41 62 rfl) (by decide) ?_
      refine x_drop ?_ (M _ _ _ _ _ _ _ _ v (w.out ag (by omega)) wx (ag.get ho (by omega)) (ag.get hod (by omega)))
      repeat (first | exact trivial | refine ⟨rfl, ?_⟩ | refine ⟨trivial, ?_⟩)
    · refine xRet_some ?_
      refine x_istore (ls' := [some (.ref _), some (.ref _), some (.ref _), some (.ref _), some (.ref _), some (vi _), some (vi _), none, none]) (dT U_Lc41 22 rfl) (by decide) rfl ?_
      refine x_aload_n (dT U_Lc41 23 rfl) rfl ?_
      refine x_aload_n (dT U_Lc41 24 rfl) rfl ?_
      refine x_iload (dT U_Lc41 25 rfl) rfl ?_
      refine x_iconst (dT U_Lc41 26 rfl) ?_
      refine x_iadd (dT U_Lc41 27 rfl) ?_
      refine x_sld (i + 1) hL (dT U_Lc41 28 rfl) (by omega) (by omega) ?_
      refine x_aload_n (dT U_Lc41 29 rfl) rfl ?_
      refine x_iload (dT U_Lc41 30 rfl) rfl ?_
      refine x_iconst (dT U_Lc41 31 rfl) ?_
      refine x_iadd (dT U_Lc41 32 rfl) ?_
      refine x_sld (i + 2) hL (dT U_Lc41 33 rfl) (by omega) (by omega) ?_
      refine x_aload_n (dT U_Lc41 34 rfl) rfl ?_
      refine x_iload (dT U_Lc41 35 rfl) rfl ?_
      refine x_iconst (dT U_Lc41 36 rfl) ?_
      refine x_iadd (dT U_Lc41 37 rfl) ?_
      refine x_sld (i + 3) hL (dT U_Lc41 38 rfl) (by omega) (by omega) ?_
      refine x_if_eq (tgt := 3541) (dT U_Lc41 39 rfl) (by decide) (xr_s _) (fun _ => ?_) (fun z => absurd cA z)
      refine x_iconst (dT U_Lc41 42 rfl) ?_
      refine x_invokevirtual (rc' := rc) (rs' := rs) (rc2 := 0) (rs2 := 0) (As := [_, _, _]) (st := _) M_X11_form K_L_375 (dT U_Lc41 43 rfl) rfl rfl (by decide) rfl rfl wm.c70 (Nat.le_of_ble_eq_true rfl) (by decide) rfl (Nat.le_of_ble_eq_true rfl) rfl (by decide) (Nat.le_of_ble_eq_true rfl) rfl rfl ?_
      refine S_X11_form wm v (xr_s _) (xr_s _) (by decide) (fun m1 _ _ _ _ _ => absurd c1 m1) (fun m1 m2 h3 z ag wx xz => ?_) (fun m1 m2 _ _ _ _ _ => absurd m2 c2)
      refine xRet_some ?_
      refine x_istore (ls' := [some (.ref _), some (.ref _), some (.ref _), some (.ref _), some (.ref _), some (vi _), some (vi _), some (vi _), none]) (dT U_Lc41 44 rfl) (by decide) rfl ?_
      refine x_aload_n (dT U_Lc41 45 rfl) rfl ?_
      refine x_invokevirtual (rc' := rc) (rs' := rs) (rc2 := 0) (rs2 := 0) (As := []) (st := _) M_X11_thrown K_L_242 (dT U_Lc41 46 rfl) rfl rfl (by decide) rfl rfl wx.c70 (Nat.le_of_ble_eq_true rfl) (by decide) rfl (Nat.le_of_ble_eq_true rfl) rfl (by decide) (Nat.le_of_ble_eq_true rfl) rfl rfl ?_
      refine S_X11_thrown wx ?_
      refine xRet_some ?_
      refine x_iload (dT U_Lc41 47 rfl) rfl ?_
      refine x_icmp_eq (tgt := 3558) (dT U_Lc41 48 rfl) (by decide) (by unfold xr; omega) (by unfold xr; omega) (fun c3553 => ?_) (fun c3553 => (by exfalso; omega))
      refine x_iload (dT U_Lc41 51 rfl) rfl ?_
      refine x_if_ne (tgt := 3575) (dT U_Lc41 52 rfl) (by decide) (by unfold xr; omega) (fun c3560 => ?_) (fun c3560 => (by exfalso; omega))
      refine x_goto (tgt := 5554) (dT U_Lc41 62 rfl) (by decide) ?_
      refine x_drop ?_ (M _ _ _ _ _ _ _ _ v (w.out ag (by omega)) wx (ag.get ho (by omega)) (ag.get hod (by omega)))
      repeat (first | exact trivial | refine ⟨rfl, ?_⟩ | refine ⟨trivial, ?_⟩)
    · refine xRet_some ?_
      have wmx := wm.out (h2 := (h.set 143 (cJ [z9]))) (fun a ha => by rw [hset_fr (by omega)])
      refine x_istore (ls' := [some (.ref _), some (.ref _), some (.ref _), some (.ref _), some (.ref _), some (vi _), some (vi _), none, none]) (dT U_Lc41 22 rfl) (by decide) rfl ?_
      refine x_aload_n (dT U_Lc41 23 rfl) rfl ?_
      refine x_aload_n (dT U_Lc41 24 rfl) rfl ?_
      refine x_iload (dT U_Lc41 25 rfl) rfl ?_
      refine x_iconst (dT U_Lc41 26 rfl) ?_
      refine x_iadd (dT U_Lc41 27 rfl) ?_
      refine x_sld (i + 1) hL (dT U_Lc41 28 rfl) (by omega) (by omega) ?_
      refine x_aload_n (dT U_Lc41 29 rfl) rfl ?_
      refine x_iload (dT U_Lc41 30 rfl) rfl ?_
      refine x_iconst (dT U_Lc41 31 rfl) ?_
      refine x_iadd (dT U_Lc41 32 rfl) ?_
      refine x_sld (i + 2) hL (dT U_Lc41 33 rfl) (by omega) (by omega) ?_
      refine x_aload_n (dT U_Lc41 34 rfl) rfl ?_
      refine x_iload (dT U_Lc41 35 rfl) rfl ?_
      refine x_iconst (dT U_Lc41 36 rfl) ?_
      refine x_iadd (dT U_Lc41 37 rfl) ?_
      refine x_sld (i + 3) hL (dT U_Lc41 38 rfl) (by omega) (by omega) ?_
      refine x_if_eq (tgt := 3541) (dT U_Lc41 39 rfl) (by decide) (xr_s _) (fun _ => ?_) (fun z => absurd cA z)
      refine x_iconst (dT U_Lc41 42 rfl) ?_
      refine x_invokevirtual (rc' := rc) (rs' := rs) (rc2 := 0) (rs2 := 0) (As := [_, _, _]) (st := _) M_X11_form K_L_375 (dT U_Lc41 43 rfl) rfl rfl (by decide) rfl rfl wmx.c70 (Nat.le_of_ble_eq_true rfl) (by decide) rfl (Nat.le_of_ble_eq_true rfl) rfl (by decide) (Nat.le_of_ble_eq_true rfl) rfl rfl ?_
      refine S_X11_form wmx v (xr_s _) (xr_s _) (by decide) (fun m1 _ _ _ _ _ => absurd c1 m1) (fun m1 m2 _ _ _ _ _ => absurd c2 m2) (fun m1 m2 h3 r3 s3 ag wx => ?_)
      refine xRet_some ?_
      rw [ez9]
      refine x_istore (ls' := [some (.ref _), some (.ref _), some (.ref _), some (.ref _), some (.ref _), some (vi _), some (vi _), some (vi _), none]) (dT U_Lc41 44 rfl) (by decide) rfl ?_
      refine x_aload_n (dT U_Lc41 45 rfl) rfl ?_
      refine x_invokevirtual (rc' := rc) (rs' := rs) (rc2 := 0) (rs2 := 0) (As := []) (st := _) M_X11_thrown K_L_242 (dT U_Lc41 46 rfl) rfl rfl (by decide) rfl rfl wx.c70 (Nat.le_of_ble_eq_true rfl) (by decide) rfl (Nat.le_of_ble_eq_true rfl) rfl (by decide) (Nat.le_of_ble_eq_true rfl) rfl rfl ?_
      refine S_X11_thrown wx ?_
      refine xRet_some ?_
      refine x_iload (dT U_Lc41 47 rfl) rfl ?_
      refine x_icmp_eq (tgt := 3558) (dT U_Lc41 48 rfl) (by decide) (by unfold xr; omega) (by unfold xr; omega) (fun c3553 => ?_) (fun c3553 => (by exfalso; omega))
      refine x_iload (dT U_Lc41 51 rfl) rfl ?_
      refine x_if_nen (tgt := 3575) (dT U_Lc41 52 rfl) (by decide) (by decide) ?_
      refine x_aload_n (dT U_Lc41 53 rfl) rfl ?_
      refine x_iconst (dT U_Lc41 54 rfl) ?_
      refine x_laload 0 (dT U_Lc41 55 rfl) (ag.get (hset_eq ho) (by omega)) (Nat.le_of_ble_eq_true rfl) rfl (Nat.le_of_ble_eq_true rfl) (Nat.le_of_ble_eq_true rfl) ?_
      refine x_iload (dT U_Lc41 56 rfl) rfl ?_
      refine x_i2l (dT U_Lc41 57 rfl) hz9 ?_
      refine x_lcmp (dT U_Lc41 58 rfl) (xr_l hz9) (xr_l hz9) ?_
      refine x_if_eqj (tgt := 3575) (dT U_Lc41 59 rfl) (by decide) (xcmp_rf _) ?_
      refine x_goto (tgt := 5554) (dT U_Lc41 62 rfl) (by decide) ?_
      refine x_drop ?_ (M _ _ _ _ _ _ _ _ v ((w.out ((Ag.rf 143 143 h).set (by omega)) (by omega)).out ag (by omega)) wx (ag.get (hset_eq ho) (by omega)) (ag.get (hset_ne (by omega) hod) (by omega)))
      repeat (first | exact trivial | refine ⟨rfl, ?_⟩ | refine ⟨trivial, ?_⟩)
  · skip
    refine x_iconst (dT U_Lc41 17 rfl) ?_
    refine x_goto (tgt := 3509) (dT U_Lc41 18 rfl) (by decide) ?_
    refine x_aload_n (dT U_Lc41 20 rfl) rfl ?_
    refine x_invokestaticT (rc' := rc) (rs' := rs) (rc2 := 0 + 4) (rs2 := 0 + 24) (As := [_, _, _, _, _]) (st := _) M_L_form K_L_372 (dT U_Lc41 21 rfl) rfl (by decide) rfl rfl (Nat.le_of_ble_eq_true rfl) rfl (by decide) (Nat.le_of_ble_eq_true rfl) (by omega) (by omega) ?_
    refine S_L_form w v (xr_s _) (xr_s _) (by decide) ho (fun c1 => ?_) (fun c1 c2 => ?_) (fun c1 c2 z9 hz9 ez9 => ?_)
    · refine xRet_some ?_
      refine x_istore (ls' := [some (.ref _), some (.ref _), some (.ref _), some (.ref _), some (.ref _), some (vi _), some (vi _), none, none]) (dT U_Lc41 22 rfl) (by decide) rfl ?_
      refine x_aload_n (dT U_Lc41 23 rfl) rfl ?_
      refine x_aload_n (dT U_Lc41 24 rfl) rfl ?_
      refine x_iload (dT U_Lc41 25 rfl) rfl ?_
      refine x_iconst (dT U_Lc41 26 rfl) ?_
      refine x_iadd (dT U_Lc41 27 rfl) ?_
      refine x_sld (i + 1) hL (dT U_Lc41 28 rfl) (by omega) (by omega) ?_
      refine x_aload_n (dT U_Lc41 29 rfl) rfl ?_
      refine x_iload (dT U_Lc41 30 rfl) rfl ?_
      refine x_iconst (dT U_Lc41 31 rfl) ?_
      refine x_iadd (dT U_Lc41 32 rfl) ?_
      refine x_sld (i + 2) hL (dT U_Lc41 33 rfl) (by omega) (by omega) ?_
      refine x_aload_n (dT U_Lc41 34 rfl) rfl ?_
      refine x_iload (dT U_Lc41 35 rfl) rfl ?_
      refine x_iconst (dT U_Lc41 36 rfl) ?_
      refine x_iadd (dT U_Lc41 37 rfl) ?_
      refine x_sld (i + 3) hL (dT U_Lc41 38 rfl) (by omega) (by omega) ?_
      refine x_if_eq (tgt := 3541) (dT U_Lc41 39 rfl) (by decide) (xr_s _) (fun z => absurd z cA) (fun _ => ?_)
      refine x_iconst (dT U_Lc41 40 rfl) ?_
      refine x_goto (tgt := 3542) (dT U_Lc41 41 rfl) (by decide) ?_
      refine x_invokevirtual (rc' := rc) (rs' := rs) (rc2 := 0) (rs2 := 0) (As := [_, _, _]) (st := _) M_X11_form K_L_375 (dT U_Lc41 43 rfl) rfl rfl (by decide) rfl rfl wm.c70 (Nat.le_of_ble_eq_true rfl) (by decide) rfl (Nat.le_of_ble_eq_true rfl) rfl (by decide) (Nat.le_of_ble_eq_true rfl) rfl rfl ?_
      refine S_X11_form wm v (xr_s _) (xr_s _) (by decide) (fun m1 h3 z ag wx xz => ?_) (fun m1 m2 _ _ _ _ _ => absurd m1 c1) (fun m1 m2 _ _ _ _ _ => absurd m1 c1)
      refine xRet_some ?_
      refine x_istore (ls' := [some (.ref _), some (.ref _), some (.ref _), some (.ref _), some (.ref _), some (vi _), some (vi _), some (vi _), none]) (dT U_Lc41 44 rfl) (by decide) rfl ?_
      refine x_aload_n (dT U_Lc41 45 rfl) rfl ?_
      refine x_invokevirtual (rc' := rc) (rs' := rs) (rc2 := 0) (rs2 := 0) (As := []) (st := _) M_X11_thrown K_L_242 (dT U_Lc41 46 rfl) rfl rfl (by decide) rfl rfl wx.c70 (Nat.le_of_ble_eq_true rfl) (by decide) rfl (Nat.le_of_ble_eq_true rfl) rfl (by decide) (Nat.le_of_ble_eq_true rfl) rfl rfl ?_
      refine S_X11_thrown wx ?_
      refine xRet_some ?_
      refine x_iload (dT U_Lc41 47 rfl) rfl ?_
      refine x_icmp_eq (tgt := 3558) (dT U_Lc41 48 rfl) (by decide) (by unfold xr; omega) (by unfold xr; omega) (fun c3553 => ?_) (fun c3553 => (by exfalso; omega))
      refine x_iload (dT U_Lc41 51 rfl) rfl ?_
      refine x_if_nej (tgt := 3575) (dT U_Lc41 52 rfl) (by decide) (by decide) ?_
      refine x_goto (tgt := 5554) (dT U_Lc41 62 rfl) (by decide) ?_
      refine x_drop ?_ (M _ _ _ _ _ _ _ _ v (w.out ag (by omega)) wx (ag.get ho (by omega)) (ag.get hod (by omega)))
      repeat (first | exact trivial | refine ⟨rfl, ?_⟩ | refine ⟨trivial, ?_⟩)
    · refine xRet_some ?_
      refine x_istore (ls' := [some (.ref _), some (.ref _), some (.ref _), some (.ref _), some (.ref _), some (vi _), some (vi _), none, none]) (dT U_Lc41 22 rfl) (by decide) rfl ?_
      refine x_aload_n (dT U_Lc41 23 rfl) rfl ?_
      refine x_aload_n (dT U_Lc41 24 rfl) rfl ?_
      refine x_iload (dT U_Lc41 25 rfl) rfl ?_
      refine x_iconst (dT U_Lc41 26 rfl) ?_
      refine x_iadd (dT U_Lc41 27 rfl) ?_
      refine x_sld (i + 1) hL (dT U_Lc41 28 rfl) (by omega) (by omega) ?_
      refine x_aload_n (dT U_Lc41 29 rfl) rfl ?_
      refine x_iload (dT U_Lc41 30 rfl) rfl ?_
      refine x_iconst (dT U_Lc41 31 rfl) ?_
      refine x_iadd (dT U_Lc41 32 rfl) ?_
      refine x_sld (i + 2) hL (dT U_Lc41 33 rfl) (by omega) (by omega) ?_
      refine x_aload_n (dT U_Lc41 34 rfl) rfl ?_
      refine x_iload (dT U_Lc41 35 rfl) rfl ?_
      refine x_iconst (dT U_Lc41 36 rfl) ?_
      refine x_iadd (dT U_Lc41 37 rfl) ?_
      refine x_sld (i + 3) hL (dT U_Lc41 38 rfl) (by omega) (by omega) ?_
      refine x_if_eq (tgt := 3541) (dT U_Lc41 39 rfl) (by decide) (xr_s _) (fun z => absurd z cA) (fun _ => ?_)
      refine x_iconst (dT U_Lc41 40 rfl) ?_
      refine x_goto (tgt := 3542) (dT U_Lc41 41 rfl) (by decide) ?_
      refine x_invokevirtual (rc' := rc) (rs' := rs) (rc2 := 0) (rs2 := 0) (As := [_, _, _]) (st := _) M_X11_form K_L_375 (dT U_Lc41 43 rfl) rfl rfl (by decide) rfl rfl wm.c70 (Nat.le_of_ble_eq_true rfl) (by decide) rfl (Nat.le_of_ble_eq_true rfl) rfl (by decide) (Nat.le_of_ble_eq_true rfl) rfl rfl ?_
      refine S_X11_form wm v (xr_s _) (xr_s _) (by decide) (fun m1 _ _ _ _ _ => absurd c1 m1) (fun m1 m2 h3 z ag wx xz => ?_) (fun m1 m2 _ _ _ _ _ => absurd m2 c2)
      refine xRet_some ?_
      refine x_istore (ls' := [some (.ref _), some (.ref _), some (.ref _), some (.ref _), some (.ref _), some (vi _), some (vi _), some (vi _), none]) (dT U_Lc41 44 rfl) (by decide) rfl ?_
      refine x_aload_n (dT U_Lc41 45 rfl) rfl ?_
      refine x_invokevirtual (rc' := rc) (rs' := rs) (rc2 := 0) (rs2 := 0) (As := []) (st := _) M_X11_thrown K_L_242 (dT U_Lc41 46 rfl) rfl rfl (by decide) rfl rfl wx.c70 (Nat.le_of_ble_eq_true rfl) (by decide) rfl (Nat.le_of_ble_eq_true rfl) rfl (by decide) (Nat.le_of_ble_eq_true rfl) rfl rfl ?_
      refine S_X11_thrown wx ?_
      refine xRet_some ?_
      refine x_iload (dT U_Lc41 47 rfl) rfl ?_
      refine x_icmp_eq (tgt := 3558) (dT U_Lc41 48 rfl) (by decide) (by unfold xr; omega) (by unfold xr; omega) (fun c3553 => ?_) (fun c3553 => (by exfalso; omega))
      refine x_iload (dT U_Lc41 51 rfl) rfl ?_
      refine x_if_ne (tgt := 3575) (dT U_Lc41 52 rfl) (by decide) (by unfold xr; omega) (fun c3560 => ?_) (fun c3560 => (by exfalso; omega))
      refine x_goto (tgt := 5554) (dT U_Lc41 62 rfl) (by decide) ?_
      refine x_drop ?_ (M _ _ _ _ _ _ _ _ v (w.out ag (by omega)) wx (ag.get ho (by omega)) (ag.get hod (by omega)))
      repeat (first | exact trivial | refine ⟨rfl, ?_⟩ | refine ⟨trivial, ?_⟩)
    · refine xRet_some ?_
      have wmx := wm.out (h2 := (h.set 143 (cJ [z9]))) (fun a ha => by rw [hset_fr (by omega)])
      refine x_istore (ls' := [some (.ref _), some (.ref _), some (.ref _), some (.ref _), some (.ref _), some (vi _), some (vi _), none, none]) (dT U_Lc41 22 rfl) (by decide) rfl ?_
      refine x_aload_n (dT U_Lc41 23 rfl) rfl ?_
      refine x_aload_n (dT U_Lc41 24 rfl) rfl ?_
      refine x_iload (dT U_Lc41 25 rfl) rfl ?_
      refine x_iconst (dT U_Lc41 26 rfl) ?_
      refine x_iadd (dT U_Lc41 27 rfl) ?_
      refine x_sld (i + 1) hL (dT U_Lc41 28 rfl) (by omega) (by omega) ?_
      refine x_aload_n (dT U_Lc41 29 rfl) rfl ?_
      refine x_iload (dT U_Lc41 30 rfl) rfl ?_
      refine x_iconst (dT U_Lc41 31 rfl) ?_
      refine x_iadd (dT U_Lc41 32 rfl) ?_
      refine x_sld (i + 2) hL (dT U_Lc41 33 rfl) (by omega) (by omega) ?_
      refine x_aload_n (dT U_Lc41 34 rfl) rfl ?_
      refine x_iload (dT U_Lc41 35 rfl) rfl ?_
      refine x_iconst (dT U_Lc41 36 rfl) ?_
      refine x_iadd (dT U_Lc41 37 rfl) ?_
      refine x_sld (i + 3) hL (dT U_Lc41 38 rfl) (by omega) (by omega) ?_
      refine x_if_eq (tgt := 3541) (dT U_Lc41 39 rfl) (by decide) (xr_s _) (fun z => absurd z cA) (fun _ => ?_)
      refine x_iconst (dT U_Lc41 40 rfl) ?_
      refine x_goto (tgt := 3542) (dT U_Lc41 41 rfl) (by decide) ?_
      refine x_invokevirtual (rc' := rc) (rs' := rs) (rc2 := 0) (rs2 := 0) (As := [_, _, _]) (st := _) M_X11_form K_L_375 (dT U_Lc41 43 rfl) rfl rfl (by decide) rfl rfl wmx.c70 (Nat.le_of_ble_eq_true rfl) (by decide) rfl (Nat.le_of_ble_eq_true rfl) rfl (by decide) (Nat.le_of_ble_eq_true rfl) rfl rfl ?_
      refine S_X11_form wmx v (xr_s _) (xr_s _) (by decide) (fun m1 _ _ _ _ _ => absurd c1 m1) (fun m1 m2 _ _ _ _ _ => absurd c2 m2) (fun m1 m2 h3 r3 s3 ag wx => ?_)
      refine xRet_some ?_
      rw [ez9]
      refine x_istore (ls' := [some (.ref _), some (.ref _), some (.ref _), some (.ref _), some (.ref _), some (vi _), some (vi _), some (vi _), none]) (dT U_Lc41 44 rfl) (by decide) rfl ?_
      refine x_aload_n (dT U_Lc41 45 rfl) rfl ?_
      refine x_invokevirtual (rc' := rc) (rs' := rs) (rc2 := 0) (rs2 := 0) (As := []) (st := _) M_X11_thrown K_L_242 (dT U_Lc41 46 rfl) rfl rfl (by decide) rfl rfl wx.c70 (Nat.le_of_ble_eq_true rfl) (by decide) rfl (Nat.le_of_ble_eq_true rfl) rfl (by decide) (Nat.le_of_ble_eq_true rfl) rfl rfl ?_
      refine S_X11_thrown wx ?_
      refine xRet_some ?_
      refine x_iload (dT U_Lc41 47 rfl) rfl ?_
      refine x_icmp_eq (tgt := 3558) (dT U_Lc41 48 rfl) (by decide) (by unfold xr; omega) (by unfold xr; omega) (fun c3553 => ?_) (fun c3553 => (by exfalso; omega))
      refine x_iload (dT U_Lc41 51 rfl) rfl ?_
      refine x_if_nen (tgt := 3575) (dT U_Lc41 52 rfl) (by decide) (by decide) ?_
      refine x_aload_n (dT U_Lc41 53 rfl) rfl ?_
      refine x_iconst (dT U_Lc41 54 rfl) ?_
      refine x_laload 0 (dT U_Lc41 55 rfl) (ag.get (hset_eq ho) (by omega)) (Nat.le_of_ble_eq_true rfl) rfl (Nat.le_of_ble_eq_true rfl) (Nat.le_of_ble_eq_true rfl) ?_
      refine x_iload (dT U_Lc41 56 rfl) rfl ?_
      refine x_i2l (dT U_Lc41 57 rfl) hz9 ?_
      refine x_lcmp (dT U_Lc41 58 rfl) (xr_l hz9) (xr_l hz9) ?_
      refine x_if_eqj (tgt := 3575) (dT U_Lc41 59 rfl) (by decide) (xcmp_rf _) ?_
      refine x_goto (tgt := 5554) (dT U_Lc41 62 rfl) (by decide) ?_
      refine x_drop ?_ (M _ _ _ _ _ _ _ _ v ((w.out ((Ag.rf 143 143 h).set (by omega)) (by omega)).out ag (by omega)) wx (ag.get (hset_eq ho) (by omega)) (ag.get (hset_ne (by omega) hod) (by omega)))
      repeat (first | exact trivial | refine ⟨rfl, ?_⟩ | refine ⟨trivial, ?_⟩)

def B_Lc42 : ByteArray := .mk #[0x2b, 0x2a, 0x15, 0x05, 0x04, 0x60, 0x2e, 0x2a, 0x15, 0x05, 0x05, 0x60, 0x2e, 0x2a, 0x15, 0x05, 0x06, 0x60, 0x2e, 0x2a, 0x15, 0x05, 0x07, 0x60, 0x2e, 0x2d, 0xb8, 0x01, 0x78, 0x36, 0x06, 0x2c, 0x2a, 0x15, 0x05, 0x04, 0x60, 0x2e, 0x2a, 0x15, 0x05, 0x05, 0x60, 0x2e, 0x2a, 0x15, 0x05, 0x06, 0x60, 0x2e, 0x2a, 0x15, 0x05, 0x07, 0x60, 0x2e, 0xb6, 0x01, 0x7a, 0x36, 0x07, 0x2c, 0xb6, 0x00, 0xf2, 0x15, 0x06, 0x9f, 0x00, 0x05, 0x03, 0xac, 0x15, 0x06, 0x9a, 0x00, 0x0f, 0x2d, 0x03, 0x2f, 0x15, 0x07, 0x85, 0x94, 0x99, 0x00, 0x05, 0x03, 0xac, 0xa7, 0x07, 0x5f]
theorem W_Lc42 : sameFrom m_L_law.2.1 B_Lc42 3578 := sameFrom_of (by decide +kernel)
def t_Lc42 : List (Nat × Instr × Nat) := [(3578, .aload_n 1, 1), (3579, .aload_n 0, 1), (3580, .iload 5, 2), (3582, .iconst 1, 1), (3583, .iadd, 1), (3584, .iaload, 1), (3585, .aload_n 0, 1), (3586, .iload 5, 2), (3588, .iconst 2, 1), (3589, .iadd, 1), (3590, .iaload, 1), (3591, .aload_n 0, 1), (3592, .iload 5, 2), (3594, .iconst 3, 1), (3595, .iadd, 1), (3596, .iaload, 1), (3597, .aload_n 0, 1), (3598, .iload 5, 2), (3600, .iconst 4, 1), (3601, .iadd, 1), (3602, .iaload, 1), (3603, .aload_n 3, 1), (3604, .invokestatic 376, 3), (3607, .istore 6, 2), (3609, .aload_n 2, 1), (3610, .aload_n 0, 1), (3611, .iload 5, 2), (3613, .iconst 1, 1), (3614, .iadd, 1), (3615, .iaload, 1), (3616, .aload_n 0, 1), (3617, .iload 5, 2), (3619, .iconst 2, 1), (3620, .iadd, 1), (3621, .iaload, 1), (3622, .aload_n 0, 1), (3623, .iload 5, 2), (3625, .iconst 3, 1), (3626, .iadd, 1), (3627, .iaload, 1), (3628, .aload_n 0, 1), (3629, .iload 5, 2), (3631, .iconst 4, 1), (3632, .iadd, 1), (3633, .iaload, 1), (3634, .invokevirtual 378, 3), (3637, .istore 7, 2), (3639, .aload_n 2, 1), (3640, .invokevirtual 242, 3), (3643, .iload 6, 2), (3645, .if_icmp .eq 5, 3), (3648, .iconst 0, 1), (3649, .ireturn, 1), (3650, .iload 6, 2), (3652, .ifCond .ne 15, 3), (3655, .aload_n 3, 1), (3656, .iconst 0, 1), (3657, .laload, 1), (3658, .iload 7, 2), (3660, .i2l, 1), (3661, .lcmp, 1), (3662, .ifCond .eq 5, 3), (3665, .iconst 0, 1), (3666, .ireturn, 1), (3667, .goto 1887, 3)]
set_option maxRecDepth 20000 in
theorem U_Lc42 : okT m_L_law.2.1 t_Lc42 = true := dSt [(0, .aload_n 1, 1), (1, .aload_n 0, 1), (2, .iload 5, 2), (4, .iconst 1, 1), (5, .iadd, 1), (6, .iaload, 1), (7, .aload_n 0, 1), (8, .iload 5, 2), (10, .iconst 2, 1), (11, .iadd, 1), (12, .iaload, 1), (13, .aload_n 0, 1), (14, .iload 5, 2), (16, .iconst 3, 1), (17, .iadd, 1), (18, .iaload, 1), (19, .aload_n 0, 1), (20, .iload 5, 2), (22, .iconst 4, 1), (23, .iadd, 1), (24, .iaload, 1), (25, .aload_n 3, 1), (26, .invokestatic 376, 3), (29, .istore 6, 2), (31, .aload_n 2, 1), (32, .aload_n 0, 1), (33, .iload 5, 2), (35, .iconst 1, 1), (36, .iadd, 1), (37, .iaload, 1), (38, .aload_n 0, 1), (39, .iload 5, 2), (41, .iconst 2, 1), (42, .iadd, 1), (43, .iaload, 1), (44, .aload_n 0, 1), (45, .iload 5, 2), (47, .iconst 3, 1), (48, .iadd, 1), (49, .iaload, 1), (50, .aload_n 0, 1), (51, .iload 5, 2), (53, .iconst 4, 1), (54, .iadd, 1), (55, .iaload, 1), (56, .invokevirtual 378, 3), (59, .istore 7, 2), (61, .aload_n 2, 1), (62, .invokevirtual 242, 3), (65, .iload 6, 2), (67, .if_icmp .eq 5, 3), (70, .iconst 0, 1), (71, .ireturn, 1), (72, .iload 6, 2), (74, .ifCond .ne 15, 3), (77, .aload_n 3, 1), (78, .iconst 0, 1), (79, .laload, 1), (80, .iload 7, 2), (82, .i2l, 1), (83, .lcmp, 1), (84, .ifCond .eq 5, 3), (87, .iconst 0, 1), (88, .ireturn, 1), (89, .goto 1887, 3)] W_Lc42 (by decide +kernel) (by decide +kernel)
set_option maxRecDepth 20000 in
set_option maxHeartbeats 1000000 in
theorem LC_42 {G : xG} {d rc rs : Nat} {ex : Bool} {h : xH} {Q : xQ} {σ : St} {c0 : Int} {rr : Nat} {ss : Int} {l0 : Int} {d0 : UInt64} {i : Nat} (hL : G.2.2.2.2.2.1 < 2147483648) (hi : i + 10 ≤ G.2.2.2.2.2.1) (w : CW σ h) (wm : MX σ c0 rr ss h) (v : INV σ) (ho : h[143]? = some (cJ [l0])) (hod : h[144]? = some (cD [d0]))
    (M : ∀ (σ9 : St) (h9 : xH) (e9 : Bool) (c9 : Int) (r9 : Nat) (s9 : Int) (l9 : Int) (d9 : UInt64), INV σ9 → CW σ9 h9 → MX σ9 c9 r9 s9 h9 → h9[143]? = some (cJ [l9]) → h9[144]? = some (cD [d9]) → X G m_L_law (d + 10) rc rs e9 5554 [some (.ref 0), some (.ref 3), some (.ref 70), some (.ref 143), some (.ref 144), some (vi (i : Int)), none, none, none] [] h9 Q) : X G m_L_law (d + 10) (rc + 5) (rs + 30) ex 3578 [some (.ref 0), some (.ref 3), some (.ref 70), some (.ref 143), some (.ref 144), some (vi (i : Int)), none, none, none] [] h Q := by
  refine x_aload_n (dT U_Lc42 0 rfl) rfl ?_
  refine x_aload_n (dT U_Lc42 1 rfl) rfl ?_
  refine x_iload (dT U_Lc42 2 rfl) rfl ?_
  refine x_iconst (dT U_Lc42 3 rfl) ?_
  refine x_iadd (dT U_Lc42 4 rfl) ?_
  refine x_sld (i + 1) hL (dT U_Lc42 5 rfl) (by omega) (by omega) ?_
  refine x_aload_n (dT U_Lc42 6 rfl) rfl ?_
  refine x_iload (dT U_Lc42 7 rfl) rfl ?_
  refine x_iconst (dT U_Lc42 8 rfl) ?_
  refine x_iadd (dT U_Lc42 9 rfl) ?_
  refine x_sld (i + 2) hL (dT U_Lc42 10 rfl) (by omega) (by omega) ?_
  refine x_aload_n (dT U_Lc42 11 rfl) rfl ?_
  refine x_iload (dT U_Lc42 12 rfl) rfl ?_
  refine x_iconst (dT U_Lc42 13 rfl) ?_
  refine x_iadd (dT U_Lc42 14 rfl) ?_
  refine x_sld (i + 3) hL (dT U_Lc42 15 rfl) (by omega) (by omega) ?_
  refine x_aload_n (dT U_Lc42 16 rfl) rfl ?_
  refine x_iload (dT U_Lc42 17 rfl) rfl ?_
  refine x_iconst (dT U_Lc42 18 rfl) ?_
  refine x_iadd (dT U_Lc42 19 rfl) ?_
  refine x_sld (i + 4) hL (dT U_Lc42 20 rfl) (by omega) (by omega) ?_
  refine x_aload_n (dT U_Lc42 21 rfl) rfl ?_
  refine x_invokestaticT (rc' := rc) (rs' := rs) (rc2 := 0 + 5) (rs2 := 0 + 30) (As := [_, _, _, _, _, _]) (st := _) M_L_fold K_L_376 (dT U_Lc42 22 rfl) rfl (by decide) rfl rfl (Nat.le_of_ble_eq_true rfl) rfl (by decide) (Nat.le_of_ble_eq_true rfl) (by omega) (by omega) ?_
  refine S_L_fold w v (xr_s _) (xr_s _) (xr_s _) (xr_s _) ho (fun c1 => ?_) (fun c1 c2 => ?_) (fun c1 c2 c3 => ?_) (fun c1 c2 c3 h2 fc w2 z9 hz9 ez9 => ?_)
  · refine xRet_some ?_
    refine x_istore (ls' := [some (.ref _), some (.ref _), some (.ref _), some (.ref _), some (.ref _), some (vi _), some (vi _), none, none]) (dT U_Lc42 23 rfl) (by decide) rfl ?_
    refine x_aload_n (dT U_Lc42 24 rfl) rfl ?_
    refine x_aload_n (dT U_Lc42 25 rfl) rfl ?_
    refine x_iload (dT U_Lc42 26 rfl) rfl ?_
    refine x_iconst (dT U_Lc42 27 rfl) ?_
    refine x_iadd (dT U_Lc42 28 rfl) ?_
    refine x_sld (i + 1) hL (dT U_Lc42 29 rfl) (by omega) (by omega) ?_
    refine x_aload_n (dT U_Lc42 30 rfl) rfl ?_
    refine x_iload (dT U_Lc42 31 rfl) rfl ?_
    refine x_iconst (dT U_Lc42 32 rfl) ?_
    refine x_iadd (dT U_Lc42 33 rfl) ?_
    refine x_sld (i + 2) hL (dT U_Lc42 34 rfl) (by omega) (by omega) ?_
    refine x_aload_n (dT U_Lc42 35 rfl) rfl ?_
    refine x_iload (dT U_Lc42 36 rfl) rfl ?_
    refine x_iconst (dT U_Lc42 37 rfl) ?_
    refine x_iadd (dT U_Lc42 38 rfl) ?_
    refine x_sld (i + 3) hL (dT U_Lc42 39 rfl) (by omega) (by omega) ?_
    refine x_aload_n (dT U_Lc42 40 rfl) rfl ?_
    refine x_iload (dT U_Lc42 41 rfl) rfl ?_
    refine x_iconst (dT U_Lc42 42 rfl) ?_
    refine x_iadd (dT U_Lc42 43 rfl) ?_
    refine x_sld (i + 4) hL (dT U_Lc42 44 rfl) (by omega) (by omega) ?_
    refine x_invokevirtual (rc' := rc) (rs' := rs) (rc2 := 0) (rs2 := 0) (As := [_, _, _, _]) (st := _) M_X11_fold K_L_378 (dT U_Lc42 45 rfl) rfl rfl (by decide) rfl rfl wm.c70 (Nat.le_of_ble_eq_true rfl) (by decide) rfl (Nat.le_of_ble_eq_true rfl) rfl (by decide) (Nat.le_of_ble_eq_true rfl) rfl rfl ?_
    refine S_X11_fold wm v (xr_s _) (xr_s _) (xr_s _) (xr_s _) (fun m1 h3 z ag wx xz => ?_) (fun m1 m2 _ _ _ _ _ => absurd m1 c1) (fun m1 m2 m3 _ _ _ _ _ => absurd m1 c1) (fun m1 m2 m3 _ _ _ _ _ => absurd m1 c1)
    refine xRet_some ?_
    refine x_istore (ls' := [some (.ref _), some (.ref _), some (.ref _), some (.ref _), some (.ref _), some (vi _), some (vi _), some (vi _), none]) (dT U_Lc42 46 rfl) (by decide) rfl ?_
    refine x_aload_n (dT U_Lc42 47 rfl) rfl ?_
    refine x_invokevirtual (rc' := rc) (rs' := rs) (rc2 := 0) (rs2 := 0) (As := []) (st := _) M_X11_thrown K_L_242 (dT U_Lc42 48 rfl) rfl rfl (by decide) rfl rfl wx.c70 (Nat.le_of_ble_eq_true rfl) (by decide) rfl (Nat.le_of_ble_eq_true rfl) rfl (by decide) (Nat.le_of_ble_eq_true rfl) rfl rfl ?_
    refine S_X11_thrown wx ?_
    refine xRet_some ?_
    refine x_iload (dT U_Lc42 49 rfl) rfl ?_
    refine x_icmp_eq (tgt := 3650) (dT U_Lc42 50 rfl) (by decide) (by unfold xr; omega) (by unfold xr; omega) (fun c3645 => ?_) (fun c3645 => (by exfalso; omega))
    refine x_iload (dT U_Lc42 53 rfl) rfl ?_
    refine x_if_nej (tgt := 3667) (dT U_Lc42 54 rfl) (by decide) (by decide) ?_
    refine x_goto (tgt := 5554) (dT U_Lc42 64 rfl) (by decide) ?_
    refine x_drop ?_ (M _ _ _ _ _ _ _ _ v (w.out ag (by omega)) wx (ag.get ho (by omega)) (ag.get hod (by omega)))
    repeat (first | exact trivial | refine ⟨rfl, ?_⟩ | refine ⟨trivial, ?_⟩)
  · refine xRet_some ?_
    refine x_istore (ls' := [some (.ref _), some (.ref _), some (.ref _), some (.ref _), some (.ref _), some (vi _), some (vi _), none, none]) (dT U_Lc42 23 rfl) (by decide) rfl ?_
    refine x_aload_n (dT U_Lc42 24 rfl) rfl ?_
    refine x_aload_n (dT U_Lc42 25 rfl) rfl ?_
    refine x_iload (dT U_Lc42 26 rfl) rfl ?_
    refine x_iconst (dT U_Lc42 27 rfl) ?_
    refine x_iadd (dT U_Lc42 28 rfl) ?_
    refine x_sld (i + 1) hL (dT U_Lc42 29 rfl) (by omega) (by omega) ?_
    refine x_aload_n (dT U_Lc42 30 rfl) rfl ?_
    refine x_iload (dT U_Lc42 31 rfl) rfl ?_
    refine x_iconst (dT U_Lc42 32 rfl) ?_
    refine x_iadd (dT U_Lc42 33 rfl) ?_
    refine x_sld (i + 2) hL (dT U_Lc42 34 rfl) (by omega) (by omega) ?_
    refine x_aload_n (dT U_Lc42 35 rfl) rfl ?_
    refine x_iload (dT U_Lc42 36 rfl) rfl ?_
    refine x_iconst (dT U_Lc42 37 rfl) ?_
    refine x_iadd (dT U_Lc42 38 rfl) ?_
    refine x_sld (i + 3) hL (dT U_Lc42 39 rfl) (by omega) (by omega) ?_
    refine x_aload_n (dT U_Lc42 40 rfl) rfl ?_
    refine x_iload (dT U_Lc42 41 rfl) rfl ?_
    refine x_iconst (dT U_Lc42 42 rfl) ?_
    refine x_iadd (dT U_Lc42 43 rfl) ?_
    refine x_sld (i + 4) hL (dT U_Lc42 44 rfl) (by omega) (by omega) ?_
    refine x_invokevirtual (rc' := rc) (rs' := rs) (rc2 := 0) (rs2 := 0) (As := [_, _, _, _]) (st := _) M_X11_fold K_L_378 (dT U_Lc42 45 rfl) rfl rfl (by decide) rfl rfl wm.c70 (Nat.le_of_ble_eq_true rfl) (by decide) rfl (Nat.le_of_ble_eq_true rfl) rfl (by decide) (Nat.le_of_ble_eq_true rfl) rfl rfl ?_
    refine S_X11_fold wm v (xr_s _) (xr_s _) (xr_s _) (xr_s _) (fun m1 _ _ _ _ _ => absurd c1 m1) (fun m1 m2 h3 z ag wx xz => ?_) (fun m1 m2 m3 _ _ _ _ _ => absurd m2 c2) (fun m1 m2 m3 _ _ _ _ _ => absurd m2 c2)
    refine xRet_some ?_
    refine x_istore (ls' := [some (.ref _), some (.ref _), some (.ref _), some (.ref _), some (.ref _), some (vi _), some (vi _), some (vi _), none]) (dT U_Lc42 46 rfl) (by decide) rfl ?_
    refine x_aload_n (dT U_Lc42 47 rfl) rfl ?_
    refine x_invokevirtual (rc' := rc) (rs' := rs) (rc2 := 0) (rs2 := 0) (As := []) (st := _) M_X11_thrown K_L_242 (dT U_Lc42 48 rfl) rfl rfl (by decide) rfl rfl wx.c70 (Nat.le_of_ble_eq_true rfl) (by decide) rfl (Nat.le_of_ble_eq_true rfl) rfl (by decide) (Nat.le_of_ble_eq_true rfl) rfl rfl ?_
    refine S_X11_thrown wx ?_
    refine xRet_some ?_
    refine x_iload (dT U_Lc42 49 rfl) rfl ?_
    refine x_icmp_eq (tgt := 3650) (dT U_Lc42 50 rfl) (by decide) (by unfold xr; omega) (by unfold xr; omega) (fun c3645 => ?_) (fun c3645 => (by exfalso; omega))
    refine x_iload (dT U_Lc42 53 rfl) rfl ?_
    refine x_if_ne (tgt := 3667) (dT U_Lc42 54 rfl) (by decide) (by unfold xr; omega) (fun c3652 => ?_) (fun c3652 => (by exfalso; omega))
    refine x_goto (tgt := 5554) (dT U_Lc42 64 rfl) (by decide) ?_
    refine x_drop ?_ (M _ _ _ _ _ _ _ _ v (w.out ag (by omega)) wx (ag.get ho (by omega)) (ag.get hod (by omega)))
    repeat (first | exact trivial | refine ⟨rfl, ?_⟩ | refine ⟨trivial, ?_⟩)
  · refine xRet_some ?_
    refine x_istore (ls' := [some (.ref _), some (.ref _), some (.ref _), some (.ref _), some (.ref _), some (vi _), some (vi _), none, none]) (dT U_Lc42 23 rfl) (by decide) rfl ?_
    refine x_aload_n (dT U_Lc42 24 rfl) rfl ?_
    refine x_aload_n (dT U_Lc42 25 rfl) rfl ?_
    refine x_iload (dT U_Lc42 26 rfl) rfl ?_
    refine x_iconst (dT U_Lc42 27 rfl) ?_
    refine x_iadd (dT U_Lc42 28 rfl) ?_
    refine x_sld (i + 1) hL (dT U_Lc42 29 rfl) (by omega) (by omega) ?_
    refine x_aload_n (dT U_Lc42 30 rfl) rfl ?_
    refine x_iload (dT U_Lc42 31 rfl) rfl ?_
    refine x_iconst (dT U_Lc42 32 rfl) ?_
    refine x_iadd (dT U_Lc42 33 rfl) ?_
    refine x_sld (i + 2) hL (dT U_Lc42 34 rfl) (by omega) (by omega) ?_
    refine x_aload_n (dT U_Lc42 35 rfl) rfl ?_
    refine x_iload (dT U_Lc42 36 rfl) rfl ?_
    refine x_iconst (dT U_Lc42 37 rfl) ?_
    refine x_iadd (dT U_Lc42 38 rfl) ?_
    refine x_sld (i + 3) hL (dT U_Lc42 39 rfl) (by omega) (by omega) ?_
    refine x_aload_n (dT U_Lc42 40 rfl) rfl ?_
    refine x_iload (dT U_Lc42 41 rfl) rfl ?_
    refine x_iconst (dT U_Lc42 42 rfl) ?_
    refine x_iadd (dT U_Lc42 43 rfl) ?_
    refine x_sld (i + 4) hL (dT U_Lc42 44 rfl) (by omega) (by omega) ?_
    refine x_invokevirtual (rc' := rc) (rs' := rs) (rc2 := 0) (rs2 := 0) (As := [_, _, _, _]) (st := _) M_X11_fold K_L_378 (dT U_Lc42 45 rfl) rfl rfl (by decide) rfl rfl wm.c70 (Nat.le_of_ble_eq_true rfl) (by decide) rfl (Nat.le_of_ble_eq_true rfl) rfl (by decide) (Nat.le_of_ble_eq_true rfl) rfl rfl ?_
    refine S_X11_fold wm v (xr_s _) (xr_s _) (xr_s _) (xr_s _) (fun m1 _ _ _ _ _ => absurd c1 m1) (fun m1 m2 _ _ _ _ _ => absurd c2 m2) (fun m1 m2 m3 h3 z ag wx xz => ?_) (fun m1 m2 m3 _ _ _ _ _ => absurd m3 c3)
    refine xRet_some ?_
    refine x_istore (ls' := [some (.ref _), some (.ref _), some (.ref _), some (.ref _), some (.ref _), some (vi _), some (vi _), some (vi _), none]) (dT U_Lc42 46 rfl) (by decide) rfl ?_
    refine x_aload_n (dT U_Lc42 47 rfl) rfl ?_
    refine x_invokevirtual (rc' := rc) (rs' := rs) (rc2 := 0) (rs2 := 0) (As := []) (st := _) M_X11_thrown K_L_242 (dT U_Lc42 48 rfl) rfl rfl (by decide) rfl rfl wx.c70 (Nat.le_of_ble_eq_true rfl) (by decide) rfl (Nat.le_of_ble_eq_true rfl) rfl (by decide) (Nat.le_of_ble_eq_true rfl) rfl rfl ?_
    refine S_X11_thrown wx ?_
    refine xRet_some ?_
    refine x_iload (dT U_Lc42 49 rfl) rfl ?_
    refine x_icmp_eq (tgt := 3650) (dT U_Lc42 50 rfl) (by decide) (by unfold xr; omega) (by unfold xr; omega) (fun c3645 => ?_) (fun c3645 => (by exfalso; omega))
    refine x_iload (dT U_Lc42 53 rfl) rfl ?_
    refine x_if_ne (tgt := 3667) (dT U_Lc42 54 rfl) (by decide) (by unfold xr; omega) (fun c3652 => ?_) (fun c3652 => (by exfalso; omega))
    refine x_goto (tgt := 5554) (dT U_Lc42 64 rfl) (by decide) ?_
    refine x_drop ?_ (M _ _ _ _ _ _ _ _ v (w.out ag (by omega)) wx (ag.get ho (by omega)) (ag.get hod (by omega)))
    repeat (first | exact trivial | refine ⟨rfl, ?_⟩ | refine ⟨trivial, ?_⟩)
  · refine xRet_some ?_
    have wmx := wm.out (h2 := (h2.set 143 (cJ [z9]))) (fun a ha => by rw [hset_fr (by omega)]; exact fc.2 a (by omega))
    refine x_istore (ls' := [some (.ref _), some (.ref _), some (.ref _), some (.ref _), some (.ref _), some (vi _), some (vi _), none, none]) (dT U_Lc42 23 rfl) (by decide) rfl ?_
    refine x_aload_n (dT U_Lc42 24 rfl) rfl ?_
    refine x_aload_n (dT U_Lc42 25 rfl) rfl ?_
    refine x_iload (dT U_Lc42 26 rfl) rfl ?_
    refine x_iconst (dT U_Lc42 27 rfl) ?_
    refine x_iadd (dT U_Lc42 28 rfl) ?_
    refine x_sld (i + 1) hL (dT U_Lc42 29 rfl) (by omega) (by omega) ?_
    refine x_aload_n (dT U_Lc42 30 rfl) rfl ?_
    refine x_iload (dT U_Lc42 31 rfl) rfl ?_
    refine x_iconst (dT U_Lc42 32 rfl) ?_
    refine x_iadd (dT U_Lc42 33 rfl) ?_
    refine x_sld (i + 2) hL (dT U_Lc42 34 rfl) (by omega) (by omega) ?_
    refine x_aload_n (dT U_Lc42 35 rfl) rfl ?_
    refine x_iload (dT U_Lc42 36 rfl) rfl ?_
    refine x_iconst (dT U_Lc42 37 rfl) ?_
    refine x_iadd (dT U_Lc42 38 rfl) ?_
    refine x_sld (i + 3) hL (dT U_Lc42 39 rfl) (by omega) (by omega) ?_
    refine x_aload_n (dT U_Lc42 40 rfl) rfl ?_
    refine x_iload (dT U_Lc42 41 rfl) rfl ?_
    refine x_iconst (dT U_Lc42 42 rfl) ?_
    refine x_iadd (dT U_Lc42 43 rfl) ?_
    refine x_sld (i + 4) hL (dT U_Lc42 44 rfl) (by omega) (by omega) ?_
    refine x_invokevirtual (rc' := rc) (rs' := rs) (rc2 := 0) (rs2 := 0) (As := [_, _, _, _]) (st := _) M_X11_fold K_L_378 (dT U_Lc42 45 rfl) rfl rfl (by decide) rfl rfl wmx.c70 (Nat.le_of_ble_eq_true rfl) (by decide) rfl (Nat.le_of_ble_eq_true rfl) rfl (by decide) (Nat.le_of_ble_eq_true rfl) rfl rfl ?_
    refine S_X11_fold wmx v (xr_s _) (xr_s _) (xr_s _) (xr_s _) (fun m1 _ _ _ _ _ => absurd c1 m1) (fun m1 m2 _ _ _ _ _ => absurd c2 m2) (fun m1 m2 m3 _ _ _ _ _ => absurd c3 m3) (fun m1 m2 m3 h3 r3 s3 ag wx => ?_)
    refine xRet_some ?_
    rw [ez9]
    refine x_istore (ls' := [some (.ref _), some (.ref _), some (.ref _), some (.ref _), some (.ref _), some (vi _), some (vi _), some (vi _), none]) (dT U_Lc42 46 rfl) (by decide) rfl ?_
    refine x_aload_n (dT U_Lc42 47 rfl) rfl ?_
    refine x_invokevirtual (rc' := rc) (rs' := rs) (rc2 := 0) (rs2 := 0) (As := []) (st := _) M_X11_thrown K_L_242 (dT U_Lc42 48 rfl) rfl rfl (by decide) rfl rfl wx.c70 (Nat.le_of_ble_eq_true rfl) (by decide) rfl (Nat.le_of_ble_eq_true rfl) rfl (by decide) (Nat.le_of_ble_eq_true rfl) rfl rfl ?_
    refine S_X11_thrown wx ?_
    refine xRet_some ?_
    refine x_iload (dT U_Lc42 49 rfl) rfl ?_
    refine x_icmp_eq (tgt := 3650) (dT U_Lc42 50 rfl) (by decide) (by unfold xr; omega) (by unfold xr; omega) (fun c3645 => ?_) (fun c3645 => (by exfalso; omega))
    refine x_iload (dT U_Lc42 53 rfl) rfl ?_
    refine x_if_nen (tgt := 3667) (dT U_Lc42 54 rfl) (by decide) (by decide) ?_
    refine x_aload_n (dT U_Lc42 55 rfl) rfl ?_
    refine x_iconst (dT U_Lc42 56 rfl) ?_
    refine x_laload 0 (dT U_Lc42 57 rfl) (ag.get (hset_eq (fc.get ho (by omega))) (by omega)) (Nat.le_of_ble_eq_true rfl) rfl (Nat.le_of_ble_eq_true rfl) (Nat.le_of_ble_eq_true rfl) ?_
    refine x_iload (dT U_Lc42 58 rfl) rfl ?_
    refine x_i2l (dT U_Lc42 59 rfl) hz9 ?_
    refine x_lcmp (dT U_Lc42 60 rfl) (xr_l hz9) (xr_l hz9) ?_
    refine x_if_eqj (tgt := 3667) (dT U_Lc42 61 rfl) (by decide) (xcmp_rf _) ?_
    refine x_goto (tgt := 5554) (dT U_Lc42 64 rfl) (by decide) ?_
    refine x_drop ?_ (M _ _ _ _ _ _ _ _ (IV_fold v c1 c2 c3) ((w2.out ((Ag.rf 143 143 h2).set (by omega)) (by omega)).out ag (by omega)) wx (ag.get (hset_eq (fc.get ho (by omega))) (by omega)) (ag.get (hset_ne (by omega) (fc.get hod (by omega))) (by omega)))
    repeat (first | exact trivial | refine ⟨rfl, ?_⟩ | refine ⟨trivial, ?_⟩)
