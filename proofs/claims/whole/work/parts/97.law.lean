def B_Lc19 : ByteArray := .mk #[0x2b, 0x2a, 0x15, 0x05, 0x04, 0x60, 0x2e, 0x2a, 0x15, 0x05, 0x05, 0x60, 0x2e, 0x2a, 0x15, 0x05, 0x06, 0x60, 0x2e, 0x2d, 0xb8, 0x01, 0x31, 0x36, 0x06, 0x2c, 0x2a, 0x15, 0x05, 0x04, 0x60, 0x2e, 0x2a, 0x15, 0x05, 0x05, 0x60, 0x2e, 0x2a, 0x15, 0x05, 0x06, 0x60, 0x2e, 0xb6, 0x01, 0x33, 0x36, 0x07, 0x2c, 0xb6, 0x00, 0xf2, 0x15, 0x06, 0x9f, 0x00, 0x05, 0x03, 0xac, 0x15, 0x06, 0x9a, 0x00, 0x16, 0x2d, 0x03, 0x2f, 0x15, 0x07, 0x99, 0x00, 0x07, 0x0a, 0xa7, 0x00, 0x04, 0x09, 0x94, 0x99, 0x00, 0x05, 0x03, 0xac, 0xa7, 0x0e, 0xc1]
theorem W_Lc19 : sameFrom m_L_law.2.1 B_Lc19 1693 := sameFrom_of (by decide +kernel)
def t_Lc19 : List (Nat × Instr × Nat) := [(1693, .aload_n 1, 1), (1694, .aload_n 0, 1), (1695, .iload 5, 2), (1697, .iconst 1, 1), (1698, .iadd, 1), (1699, .iaload, 1), (1700, .aload_n 0, 1), (1701, .iload 5, 2), (1703, .iconst 2, 1), (1704, .iadd, 1), (1705, .iaload, 1), (1706, .aload_n 0, 1), (1707, .iload 5, 2), (1709, .iconst 3, 1), (1710, .iadd, 1), (1711, .iaload, 1), (1712, .aload_n 3, 1), (1713, .invokestatic 305, 3), (1716, .istore 6, 2), (1718, .aload_n 2, 1), (1719, .aload_n 0, 1), (1720, .iload 5, 2), (1722, .iconst 1, 1), (1723, .iadd, 1), (1724, .iaload, 1), (1725, .aload_n 0, 1), (1726, .iload 5, 2), (1728, .iconst 2, 1), (1729, .iadd, 1), (1730, .iaload, 1), (1731, .aload_n 0, 1), (1732, .iload 5, 2), (1734, .iconst 3, 1), (1735, .iadd, 1), (1736, .iaload, 1), (1737, .invokevirtual 307, 3), (1740, .istore 7, 2), (1742, .aload_n 2, 1), (1743, .invokevirtual 242, 3), (1746, .iload 6, 2), (1748, .if_icmp .eq 5, 3), (1751, .iconst 0, 1), (1752, .ireturn, 1), (1753, .iload 6, 2), (1755, .ifCond .ne 22, 3), (1758, .aload_n 3, 1), (1759, .iconst 0, 1), (1760, .laload, 1), (1761, .iload 7, 2), (1763, .ifCond .eq 7, 3), (1766, .lconst 1, 1), (1767, .goto 4, 3), (1770, .lconst 0, 1), (1771, .lcmp, 1), (1772, .ifCond .eq 5, 3), (1775, .iconst 0, 1), (1776, .ireturn, 1), (1777, .goto 3777, 3)]
set_option maxRecDepth 20000 in
theorem U_Lc19 : okT m_L_law.2.1 t_Lc19 = true := dSt [(0, .aload_n 1, 1), (1, .aload_n 0, 1), (2, .iload 5, 2), (4, .iconst 1, 1), (5, .iadd, 1), (6, .iaload, 1), (7, .aload_n 0, 1), (8, .iload 5, 2), (10, .iconst 2, 1), (11, .iadd, 1), (12, .iaload, 1), (13, .aload_n 0, 1), (14, .iload 5, 2), (16, .iconst 3, 1), (17, .iadd, 1), (18, .iaload, 1), (19, .aload_n 3, 1), (20, .invokestatic 305, 3), (23, .istore 6, 2), (25, .aload_n 2, 1), (26, .aload_n 0, 1), (27, .iload 5, 2), (29, .iconst 1, 1), (30, .iadd, 1), (31, .iaload, 1), (32, .aload_n 0, 1), (33, .iload 5, 2), (35, .iconst 2, 1), (36, .iadd, 1), (37, .iaload, 1), (38, .aload_n 0, 1), (39, .iload 5, 2), (41, .iconst 3, 1), (42, .iadd, 1), (43, .iaload, 1), (44, .invokevirtual 307, 3), (47, .istore 7, 2), (49, .aload_n 2, 1), (50, .invokevirtual 242, 3), (53, .iload 6, 2), (55, .if_icmp .eq 5, 3), (58, .iconst 0, 1), (59, .ireturn, 1), (60, .iload 6, 2), (62, .ifCond .ne 22, 3), (65, .aload_n 3, 1), (66, .iconst 0, 1), (67, .laload, 1), (68, .iload 7, 2), (70, .ifCond .eq 7, 3), (73, .lconst 1, 1), (74, .goto 4, 3), (77, .lconst 0, 1), (78, .lcmp, 1), (79, .ifCond .eq 5, 3), (82, .iconst 0, 1), (83, .ireturn, 1), (84, .goto 3777, 3)] W_Lc19 (by decide +kernel) (by decide +kernel)
set_option maxRecDepth 20000 in
set_option maxHeartbeats 1000000 in
theorem LC_19 {G : xG} {d rc rs : Nat} {ex : Bool} {h : xH} {Q : xQ} {σ : St} {c0 : Int} {rr : Nat} {ss : Int} {l0 : Int} {d0 : UInt64} {i : Nat} (hL : G.2.2.2.2.2.1 < 2147483648) (hi : i + 10 ≤ G.2.2.2.2.2.1) (w : CW σ h) (wm : MX σ c0 rr ss h) (v : INV σ) (ho : h[143]? = some (cJ [l0])) (hod : h[144]? = some (cD [d0]))
    (M : ∀ (σ9 : St) (h9 : xH) (e9 : Bool) (c9 : Int) (r9 : Nat) (s9 : Int) (l9 : Int) (d9 : UInt64), INV σ9 → CW σ9 h9 → MX σ9 c9 r9 s9 h9 → h9[143]? = some (cJ [l9]) → h9[144]? = some (cD [d9]) → X G m_L_law (d + 10) rc rs e9 5554 [some (.ref 0), some (.ref 3), some (.ref 70), some (.ref 143), some (.ref 144), some (vi (i : Int)), none, none, none] [] h9 Q) : X G m_L_law (d + 10) (rc + 3) (rs + 18) ex 1693 [some (.ref 0), some (.ref 3), some (.ref 70), some (.ref 143), some (.ref 144), some (vi (i : Int)), none, none, none] [] h Q := by
  refine x_aload_n (dT U_Lc19 0 rfl) rfl ?_
  refine x_aload_n (dT U_Lc19 1 rfl) rfl ?_
  refine x_iload (dT U_Lc19 2 rfl) rfl ?_
  refine x_iconst (dT U_Lc19 3 rfl) ?_
  refine x_iadd (dT U_Lc19 4 rfl) ?_
  refine x_sld (i + 1) hL (dT U_Lc19 5 rfl) (by omega) (by omega) ?_
  refine x_aload_n (dT U_Lc19 6 rfl) rfl ?_
  refine x_iload (dT U_Lc19 7 rfl) rfl ?_
  refine x_iconst (dT U_Lc19 8 rfl) ?_
  refine x_iadd (dT U_Lc19 9 rfl) ?_
  refine x_sld (i + 2) hL (dT U_Lc19 10 rfl) (by omega) (by omega) ?_
  refine x_aload_n (dT U_Lc19 11 rfl) rfl ?_
  refine x_iload (dT U_Lc19 12 rfl) rfl ?_
  refine x_iconst (dT U_Lc19 13 rfl) ?_
  refine x_iadd (dT U_Lc19 14 rfl) ?_
  refine x_sld (i + 3) hL (dT U_Lc19 15 rfl) (by omega) (by omega) ?_
  refine x_aload_n (dT U_Lc19 16 rfl) rfl ?_
  refine x_invokestaticT (rc' := rc) (rs' := rs) (rc2 := 0 + 3) (rs2 := 0 + 18) (As := [_, _, _, _, _]) (st := _) M_L_isOpened K_L_305 (dT U_Lc19 17 rfl) rfl (by decide) rfl rfl (Nat.le_of_ble_eq_true rfl) rfl (by decide) (Nat.le_of_ble_eq_true rfl) (by omega) (by omega) ?_
  refine S_L_isOpened w v (xr_s _) (xr_s _) (xr_s _) ho (fun c1 => ?_) (fun c1 c2 => ?_) (fun c1 c2 c3 => ?_) (fun c1 c2 c3 => ?_)
  · refine xRet_some ?_
    refine x_istore (ls' := [some (.ref _), some (.ref _), some (.ref _), some (.ref _), some (.ref _), some (vi _), some (vi _), none, none]) (dT U_Lc19 18 rfl) (by decide) rfl ?_
    refine x_aload_n (dT U_Lc19 19 rfl) rfl ?_
    refine x_aload_n (dT U_Lc19 20 rfl) rfl ?_
    refine x_iload (dT U_Lc19 21 rfl) rfl ?_
    refine x_iconst (dT U_Lc19 22 rfl) ?_
    refine x_iadd (dT U_Lc19 23 rfl) ?_
    refine x_sld (i + 1) hL (dT U_Lc19 24 rfl) (by omega) (by omega) ?_
    refine x_aload_n (dT U_Lc19 25 rfl) rfl ?_
    refine x_iload (dT U_Lc19 26 rfl) rfl ?_
    refine x_iconst (dT U_Lc19 27 rfl) ?_
    refine x_iadd (dT U_Lc19 28 rfl) ?_
    refine x_sld (i + 2) hL (dT U_Lc19 29 rfl) (by omega) (by omega) ?_
    refine x_aload_n (dT U_Lc19 30 rfl) rfl ?_
    refine x_iload (dT U_Lc19 31 rfl) rfl ?_
    refine x_iconst (dT U_Lc19 32 rfl) ?_
    refine x_iadd (dT U_Lc19 33 rfl) ?_
    refine x_sld (i + 3) hL (dT U_Lc19 34 rfl) (by omega) (by omega) ?_
    refine x_invokevirtual (rc' := rc) (rs' := rs) (rc2 := 0) (rs2 := 0) (As := [_, _, _]) (st := _) M_X11_isOpened K_L_307 (dT U_Lc19 35 rfl) rfl rfl (by decide) rfl rfl wm.c70 (Nat.le_of_ble_eq_true rfl) (by decide) rfl (Nat.le_of_ble_eq_true rfl) rfl (by decide) (Nat.le_of_ble_eq_true rfl) rfl rfl ?_
    refine S_X11_isOpened wm v (xr_s _) (xr_s _) (xr_s _) (fun m1 h3 z ag wx xz => ?_) (fun m1 m2 _ _ _ _ _ => absurd m1 c1) (fun m1 m2 m3 _ _ _ _ _ => absurd m1 c1) (fun m1 m2 m3 _ _ _ _ _ => absurd m1 c1)
    refine xRet_some ?_
    refine x_istore (ls' := [some (.ref _), some (.ref _), some (.ref _), some (.ref _), some (.ref _), some (vi _), some (vi _), some (vi _), none]) (dT U_Lc19 36 rfl) (by decide) rfl ?_
    refine x_aload_n (dT U_Lc19 37 rfl) rfl ?_
    refine x_invokevirtual (rc' := rc) (rs' := rs) (rc2 := 0) (rs2 := 0) (As := []) (st := _) M_X11_thrown K_L_242 (dT U_Lc19 38 rfl) rfl rfl (by decide) rfl rfl wx.c70 (Nat.le_of_ble_eq_true rfl) (by decide) rfl (Nat.le_of_ble_eq_true rfl) rfl (by decide) (Nat.le_of_ble_eq_true rfl) rfl rfl ?_
    refine S_X11_thrown wx ?_
    refine xRet_some ?_
    refine x_iload (dT U_Lc19 39 rfl) rfl ?_
    refine x_icmp_eq (tgt := 1753) (dT U_Lc19 40 rfl) (by decide) (by unfold xr; omega) (by unfold xr; omega) (fun c1748 => ?_) (fun c1748 => (by exfalso; omega))
    refine x_iload (dT U_Lc19 43 rfl) rfl ?_
    refine x_if_nej (tgt := 1777) (dT U_Lc19 44 rfl) (by decide) (by decide) ?_
    refine x_goto (tgt := 5554) (dT U_Lc19 57 rfl) (by decide) ?_
    refine x_drop ?_ (M _ _ _ _ _ _ _ _ v (w.out ag (by omega)) wx (ag.get ho (by omega)) (ag.get hod (by omega)))
    repeat (first | exact trivial | refine ⟨rfl, ?_⟩ | refine ⟨trivial, ?_⟩)
  · refine xRet_some ?_
    refine x_istore (ls' := [some (.ref _), some (.ref _), some (.ref _), some (.ref _), some (.ref _), some (vi _), some (vi _), none, none]) (dT U_Lc19 18 rfl) (by decide) rfl ?_
    refine x_aload_n (dT U_Lc19 19 rfl) rfl ?_
    refine x_aload_n (dT U_Lc19 20 rfl) rfl ?_
    refine x_iload (dT U_Lc19 21 rfl) rfl ?_
    refine x_iconst (dT U_Lc19 22 rfl) ?_
    refine x_iadd (dT U_Lc19 23 rfl) ?_
    refine x_sld (i + 1) hL (dT U_Lc19 24 rfl) (by omega) (by omega) ?_
    refine x_aload_n (dT U_Lc19 25 rfl) rfl ?_
    refine x_iload (dT U_Lc19 26 rfl) rfl ?_
    refine x_iconst (dT U_Lc19 27 rfl) ?_
    refine x_iadd (dT U_Lc19 28 rfl) ?_
    refine x_sld (i + 2) hL (dT U_Lc19 29 rfl) (by omega) (by omega) ?_
    refine x_aload_n (dT U_Lc19 30 rfl) rfl ?_
    refine x_iload (dT U_Lc19 31 rfl) rfl ?_
    refine x_iconst (dT U_Lc19 32 rfl) ?_
    refine x_iadd (dT U_Lc19 33 rfl) ?_
    refine x_sld (i + 3) hL (dT U_Lc19 34 rfl) (by omega) (by omega) ?_
    refine x_invokevirtual (rc' := rc) (rs' := rs) (rc2 := 0) (rs2 := 0) (As := [_, _, _]) (st := _) M_X11_isOpened K_L_307 (dT U_Lc19 35 rfl) rfl rfl (by decide) rfl rfl wm.c70 (Nat.le_of_ble_eq_true rfl) (by decide) rfl (Nat.le_of_ble_eq_true rfl) rfl (by decide) (Nat.le_of_ble_eq_true rfl) rfl rfl ?_
    refine S_X11_isOpened wm v (xr_s _) (xr_s _) (xr_s _) (fun m1 _ _ _ _ _ => absurd c1 m1) (fun m1 m2 h3 z ag wx xz => ?_) (fun m1 m2 m3 _ _ _ _ _ => absurd m2 c2) (fun m1 m2 m3 _ _ _ _ _ => absurd m2 c2)
    refine xRet_some ?_
    refine x_istore (ls' := [some (.ref _), some (.ref _), some (.ref _), some (.ref _), some (.ref _), some (vi _), some (vi _), some (vi _), none]) (dT U_Lc19 36 rfl) (by decide) rfl ?_
    refine x_aload_n (dT U_Lc19 37 rfl) rfl ?_
    refine x_invokevirtual (rc' := rc) (rs' := rs) (rc2 := 0) (rs2 := 0) (As := []) (st := _) M_X11_thrown K_L_242 (dT U_Lc19 38 rfl) rfl rfl (by decide) rfl rfl wx.c70 (Nat.le_of_ble_eq_true rfl) (by decide) rfl (Nat.le_of_ble_eq_true rfl) rfl (by decide) (Nat.le_of_ble_eq_true rfl) rfl rfl ?_
    refine S_X11_thrown wx ?_
    refine xRet_some ?_
    refine x_iload (dT U_Lc19 39 rfl) rfl ?_
    refine x_icmp_eq (tgt := 1753) (dT U_Lc19 40 rfl) (by decide) (by unfold xr; omega) (by unfold xr; omega) (fun c1748 => ?_) (fun c1748 => (by exfalso; omega))
    refine x_iload (dT U_Lc19 43 rfl) rfl ?_
    refine x_if_ne (tgt := 1777) (dT U_Lc19 44 rfl) (by decide) (by unfold xr; omega) (fun c1755 => ?_) (fun c1755 => (by exfalso; omega))
    refine x_goto (tgt := 5554) (dT U_Lc19 57 rfl) (by decide) ?_
    refine x_drop ?_ (M _ _ _ _ _ _ _ _ v (w.out ag (by omega)) wx (ag.get ho (by omega)) (ag.get hod (by omega)))
    repeat (first | exact trivial | refine ⟨rfl, ?_⟩ | refine ⟨trivial, ?_⟩)
  · refine xRet_some ?_
    have wmx := wm.out (h2 := (h.set 143 (cJ [1]))) (fun a ha => by rw [hset_fr (by omega)])
    refine x_istore (ls' := [some (.ref _), some (.ref _), some (.ref _), some (.ref _), some (.ref _), some (vi _), some (vi _), none, none]) (dT U_Lc19 18 rfl) (by decide) rfl ?_
    refine x_aload_n (dT U_Lc19 19 rfl) rfl ?_
    refine x_aload_n (dT U_Lc19 20 rfl) rfl ?_
    refine x_iload (dT U_Lc19 21 rfl) rfl ?_
    refine x_iconst (dT U_Lc19 22 rfl) ?_
    refine x_iadd (dT U_Lc19 23 rfl) ?_
    refine x_sld (i + 1) hL (dT U_Lc19 24 rfl) (by omega) (by omega) ?_
    refine x_aload_n (dT U_Lc19 25 rfl) rfl ?_
    refine x_iload (dT U_Lc19 26 rfl) rfl ?_
    refine x_iconst (dT U_Lc19 27 rfl) ?_
    refine x_iadd (dT U_Lc19 28 rfl) ?_
    refine x_sld (i + 2) hL (dT U_Lc19 29 rfl) (by omega) (by omega) ?_
    refine x_aload_n (dT U_Lc19 30 rfl) rfl ?_
    refine x_iload (dT U_Lc19 31 rfl) rfl ?_
    refine x_iconst (dT U_Lc19 32 rfl) ?_
    refine x_iadd (dT U_Lc19 33 rfl) ?_
    refine x_sld (i + 3) hL (dT U_Lc19 34 rfl) (by omega) (by omega) ?_
    refine x_invokevirtual (rc' := rc) (rs' := rs) (rc2 := 0) (rs2 := 0) (As := [_, _, _]) (st := _) M_X11_isOpened K_L_307 (dT U_Lc19 35 rfl) rfl rfl (by decide) rfl rfl wmx.c70 (Nat.le_of_ble_eq_true rfl) (by decide) rfl (Nat.le_of_ble_eq_true rfl) rfl (by decide) (Nat.le_of_ble_eq_true rfl) rfl rfl ?_
    refine S_X11_isOpened wmx v (xr_s _) (xr_s _) (xr_s _) (fun m1 _ _ _ _ _ => absurd c1 m1) (fun m1 m2 _ _ _ _ _ => absurd c2 m2) (fun m1 m2 m3 h3 r3 s3 ag wx => ?_) (fun m1 m2 m3 _ _ _ _ _ => absurd c3 m3)
    refine xRet_some ?_
    refine x_istore (ls' := [some (.ref _), some (.ref _), some (.ref _), some (.ref _), some (.ref _), some (vi _), some (vi _), some (vi _), none]) (dT U_Lc19 36 rfl) (by decide) rfl ?_
    refine x_aload_n (dT U_Lc19 37 rfl) rfl ?_
    refine x_invokevirtual (rc' := rc) (rs' := rs) (rc2 := 0) (rs2 := 0) (As := []) (st := _) M_X11_thrown K_L_242 (dT U_Lc19 38 rfl) rfl rfl (by decide) rfl rfl wx.c70 (Nat.le_of_ble_eq_true rfl) (by decide) rfl (Nat.le_of_ble_eq_true rfl) rfl (by decide) (Nat.le_of_ble_eq_true rfl) rfl rfl ?_
    refine S_X11_thrown wx ?_
    refine xRet_some ?_
    refine x_iload (dT U_Lc19 39 rfl) rfl ?_
    refine x_icmp_eq (tgt := 1753) (dT U_Lc19 40 rfl) (by decide) (by unfold xr; omega) (by unfold xr; omega) (fun c1748 => ?_) (fun c1748 => (by exfalso; omega))
    refine x_iload (dT U_Lc19 43 rfl) rfl ?_
    refine x_if_nen (tgt := 1777) (dT U_Lc19 44 rfl) (by decide) (by decide) ?_
    refine x_aload_n (dT U_Lc19 45 rfl) rfl ?_
    refine x_iconst (dT U_Lc19 46 rfl) ?_
    refine x_laload 0 (dT U_Lc19 47 rfl) (ag.get (hset_eq ho) (by omega)) (Nat.le_of_ble_eq_true rfl) rfl (Nat.le_of_ble_eq_true rfl) (Nat.le_of_ble_eq_true rfl) ?_
    refine x_iload (dT U_Lc19 48 rfl) rfl ?_
    refine x_if_eqn (tgt := 1770) (dT U_Lc19 49 rfl) (by decide) (by decide) ?_
    refine x_lconst (z := 1) (dT U_Lc19 50 rfl) rfl ?_
    refine x_goto (tgt := 1771) (dT U_Lc19 51 rfl) (by decide) ?_
    refine x_lcmp (dT U_Lc19 53 rfl) (by unfold xrl; decide) (by unfold xrl; decide) ?_
    refine x_if_eqj (tgt := 1777) (dT U_Lc19 54 rfl) (by decide) (xcmp_rf _) ?_
    refine x_goto (tgt := 5554) (dT U_Lc19 57 rfl) (by decide) ?_
    refine x_drop ?_ (M _ _ _ _ _ _ _ _ v ((w.out ((Ag.rf 143 143 h).set (by omega)) (by omega)).out ag (by omega)) wx (ag.get (hset_eq ho) (by omega)) (ag.get (hset_ne (by omega) hod) (by omega)))
    repeat (first | exact trivial | refine ⟨rfl, ?_⟩ | refine ⟨trivial, ?_⟩)
  · refine xRet_some ?_
    have wmx := wm.out (h2 := (h.set 143 (cJ [0]))) (fun a ha => by rw [hset_fr (by omega)])
    refine x_istore (ls' := [some (.ref _), some (.ref _), some (.ref _), some (.ref _), some (.ref _), some (vi _), some (vi _), none, none]) (dT U_Lc19 18 rfl) (by decide) rfl ?_
    refine x_aload_n (dT U_Lc19 19 rfl) rfl ?_
    refine x_aload_n (dT U_Lc19 20 rfl) rfl ?_
    refine x_iload (dT U_Lc19 21 rfl) rfl ?_
    refine x_iconst (dT U_Lc19 22 rfl) ?_
    refine x_iadd (dT U_Lc19 23 rfl) ?_
    refine x_sld (i + 1) hL (dT U_Lc19 24 rfl) (by omega) (by omega) ?_
    refine x_aload_n (dT U_Lc19 25 rfl) rfl ?_
    refine x_iload (dT U_Lc19 26 rfl) rfl ?_
    refine x_iconst (dT U_Lc19 27 rfl) ?_
    refine x_iadd (dT U_Lc19 28 rfl) ?_
    refine x_sld (i + 2) hL (dT U_Lc19 29 rfl) (by omega) (by omega) ?_
    refine x_aload_n (dT U_Lc19 30 rfl) rfl ?_
    refine x_iload (dT U_Lc19 31 rfl) rfl ?_
    refine x_iconst (dT U_Lc19 32 rfl) ?_
    refine x_iadd (dT U_Lc19 33 rfl) ?_
    refine x_sld (i + 3) hL (dT U_Lc19 34 rfl) (by omega) (by omega) ?_
    refine x_invokevirtual (rc' := rc) (rs' := rs) (rc2 := 0) (rs2 := 0) (As := [_, _, _]) (st := _) M_X11_isOpened K_L_307 (dT U_Lc19 35 rfl) rfl rfl (by decide) rfl rfl wmx.c70 (Nat.le_of_ble_eq_true rfl) (by decide) rfl (Nat.le_of_ble_eq_true rfl) rfl (by decide) (Nat.le_of_ble_eq_true rfl) rfl rfl ?_
    refine S_X11_isOpened wmx v (xr_s _) (xr_s _) (xr_s _) (fun m1 _ _ _ _ _ => absurd c1 m1) (fun m1 m2 _ _ _ _ _ => absurd c2 m2) (fun m1 m2 m3 _ _ _ _ _ => absurd m3 c3) (fun m1 m2 m3 h3 r3 s3 ag wx => ?_)
    refine xRet_some ?_
    refine x_istore (ls' := [some (.ref _), some (.ref _), some (.ref _), some (.ref _), some (.ref _), some (vi _), some (vi _), some (vi _), none]) (dT U_Lc19 36 rfl) (by decide) rfl ?_
    refine x_aload_n (dT U_Lc19 37 rfl) rfl ?_
    refine x_invokevirtual (rc' := rc) (rs' := rs) (rc2 := 0) (rs2 := 0) (As := []) (st := _) M_X11_thrown K_L_242 (dT U_Lc19 38 rfl) rfl rfl (by decide) rfl rfl wx.c70 (Nat.le_of_ble_eq_true rfl) (by decide) rfl (Nat.le_of_ble_eq_true rfl) rfl (by decide) (Nat.le_of_ble_eq_true rfl) rfl rfl ?_
    refine S_X11_thrown wx ?_
    refine xRet_some ?_
    refine x_iload (dT U_Lc19 39 rfl) rfl ?_
    refine x_icmp_eq (tgt := 1753) (dT U_Lc19 40 rfl) (by decide) (by unfold xr; omega) (by unfold xr; omega) (fun c1748 => ?_) (fun c1748 => (by exfalso; omega))
    refine x_iload (dT U_Lc19 43 rfl) rfl ?_
    refine x_if_nen (tgt := 1777) (dT U_Lc19 44 rfl) (by decide) (by decide) ?_
    refine x_aload_n (dT U_Lc19 45 rfl) rfl ?_
    refine x_iconst (dT U_Lc19 46 rfl) ?_
    refine x_laload 0 (dT U_Lc19 47 rfl) (ag.get (hset_eq ho) (by omega)) (Nat.le_of_ble_eq_true rfl) rfl (Nat.le_of_ble_eq_true rfl) (Nat.le_of_ble_eq_true rfl) ?_
    refine x_iload (dT U_Lc19 48 rfl) rfl ?_
    refine x_if_eqj (tgt := 1770) (dT U_Lc19 49 rfl) (by decide) (by decide) ?_
    refine x_lconst (z := 0) (dT U_Lc19 52 rfl) rfl ?_
    refine x_lcmp (dT U_Lc19 53 rfl) (by unfold xrl; decide) (by unfold xrl; decide) ?_
    refine x_if_eqj (tgt := 1777) (dT U_Lc19 54 rfl) (by decide) (xcmp_rf _) ?_
    refine x_goto (tgt := 5554) (dT U_Lc19 57 rfl) (by decide) ?_
    refine x_drop ?_ (M _ _ _ _ _ _ _ _ v ((w.out ((Ag.rf 143 143 h).set (by omega)) (by omega)).out ag (by omega)) wx (ag.get (hset_eq ho) (by omega)) (ag.get (hset_ne (by omega) hod) (by omega)))
    repeat (first | exact trivial | refine ⟨rfl, ?_⟩ | refine ⟨trivial, ?_⟩)

def B_Lc20 : ByteArray := .mk #[0x2b, 0x2a, 0x15, 0x05, 0x04, 0x60, 0x2e, 0x2a, 0x15, 0x05, 0x05, 0x60, 0x2e, 0x2a, 0x15, 0x05, 0x06, 0x60, 0x2e, 0x2a, 0x15, 0x05, 0x07, 0x60, 0x2e, 0x2d, 0xb8, 0x01, 0x34, 0x36, 0x06, 0x2c, 0x2a, 0x15, 0x05, 0x04, 0x60, 0x2e, 0x2a, 0x15, 0x05, 0x05, 0x60, 0x2e, 0x2a, 0x15, 0x05, 0x06, 0x60, 0x2e, 0x2a, 0x15, 0x05, 0x07, 0x60, 0x2e, 0xb6, 0x01, 0x36, 0x36, 0x07, 0x2c, 0xb6, 0x00, 0xf2, 0x15, 0x06, 0x9f, 0x00, 0x05, 0x03, 0xac, 0x15, 0x06, 0x9a, 0x00, 0x0f, 0x2d, 0x03, 0x2f, 0x15, 0x07, 0x85, 0x94, 0x99, 0x00, 0x05, 0x03, 0xac, 0xa7, 0x0e, 0x65]
theorem W_Lc20 : sameFrom m_L_law.2.1 B_Lc20 1780 := sameFrom_of (by decide +kernel)
def t_Lc20 : List (Nat × Instr × Nat) := [(1780, .aload_n 1, 1), (1781, .aload_n 0, 1), (1782, .iload 5, 2), (1784, .iconst 1, 1), (1785, .iadd, 1), (1786, .iaload, 1), (1787, .aload_n 0, 1), (1788, .iload 5, 2), (1790, .iconst 2, 1), (1791, .iadd, 1), (1792, .iaload, 1), (1793, .aload_n 0, 1), (1794, .iload 5, 2), (1796, .iconst 3, 1), (1797, .iadd, 1), (1798, .iaload, 1), (1799, .aload_n 0, 1), (1800, .iload 5, 2), (1802, .iconst 4, 1), (1803, .iadd, 1), (1804, .iaload, 1), (1805, .aload_n 3, 1), (1806, .invokestatic 308, 3), (1809, .istore 6, 2), (1811, .aload_n 2, 1), (1812, .aload_n 0, 1), (1813, .iload 5, 2), (1815, .iconst 1, 1), (1816, .iadd, 1), (1817, .iaload, 1), (1818, .aload_n 0, 1), (1819, .iload 5, 2), (1821, .iconst 2, 1), (1822, .iadd, 1), (1823, .iaload, 1), (1824, .aload_n 0, 1), (1825, .iload 5, 2), (1827, .iconst 3, 1), (1828, .iadd, 1), (1829, .iaload, 1), (1830, .aload_n 0, 1), (1831, .iload 5, 2), (1833, .iconst 4, 1), (1834, .iadd, 1), (1835, .iaload, 1), (1836, .invokevirtual 310, 3), (1839, .istore 7, 2), (1841, .aload_n 2, 1), (1842, .invokevirtual 242, 3), (1845, .iload 6, 2), (1847, .if_icmp .eq 5, 3), (1850, .iconst 0, 1), (1851, .ireturn, 1), (1852, .iload 6, 2), (1854, .ifCond .ne 15, 3), (1857, .aload_n 3, 1), (1858, .iconst 0, 1), (1859, .laload, 1), (1860, .iload 7, 2), (1862, .i2l, 1), (1863, .lcmp, 1), (1864, .ifCond .eq 5, 3), (1867, .iconst 0, 1), (1868, .ireturn, 1), (1869, .goto 3685, 3)]
set_option maxRecDepth 20000 in
theorem U_Lc20 : okT m_L_law.2.1 t_Lc20 = true := dSt [(0, .aload_n 1, 1), (1, .aload_n 0, 1), (2, .iload 5, 2), (4, .iconst 1, 1), (5, .iadd, 1), (6, .iaload, 1), (7, .aload_n 0, 1), (8, .iload 5, 2), (10, .iconst 2, 1), (11, .iadd, 1), (12, .iaload, 1), (13, .aload_n 0, 1), (14, .iload 5, 2), (16, .iconst 3, 1), (17, .iadd, 1), (18, .iaload, 1), (19, .aload_n 0, 1), (20, .iload 5, 2), (22, .iconst 4, 1), (23, .iadd, 1), (24, .iaload, 1), (25, .aload_n 3, 1), (26, .invokestatic 308, 3), (29, .istore 6, 2), (31, .aload_n 2, 1), (32, .aload_n 0, 1), (33, .iload 5, 2), (35, .iconst 1, 1), (36, .iadd, 1), (37, .iaload, 1), (38, .aload_n 0, 1), (39, .iload 5, 2), (41, .iconst 2, 1), (42, .iadd, 1), (43, .iaload, 1), (44, .aload_n 0, 1), (45, .iload 5, 2), (47, .iconst 3, 1), (48, .iadd, 1), (49, .iaload, 1), (50, .aload_n 0, 1), (51, .iload 5, 2), (53, .iconst 4, 1), (54, .iadd, 1), (55, .iaload, 1), (56, .invokevirtual 310, 3), (59, .istore 7, 2), (61, .aload_n 2, 1), (62, .invokevirtual 242, 3), (65, .iload 6, 2), (67, .if_icmp .eq 5, 3), (70, .iconst 0, 1), (71, .ireturn, 1), (72, .iload 6, 2), (74, .ifCond .ne 15, 3), (77, .aload_n 3, 1), (78, .iconst 0, 1), (79, .laload, 1), (80, .iload 7, 2), (82, .i2l, 1), (83, .lcmp, 1), (84, .ifCond .eq 5, 3), (87, .iconst 0, 1), (88, .ireturn, 1), (89, .goto 3685, 3)] W_Lc20 (by decide +kernel) (by decide +kernel)
set_option maxRecDepth 20000 in
set_option maxHeartbeats 1000000 in
theorem LC_20 {G : xG} {d rc rs : Nat} {ex : Bool} {h : xH} {Q : xQ} {σ : St} {c0 : Int} {rr : Nat} {ss : Int} {l0 : Int} {d0 : UInt64} {i : Nat} (hL : G.2.2.2.2.2.1 < 2147483648) (hi : i + 10 ≤ G.2.2.2.2.2.1) (w : CW σ h) (wm : MX σ c0 rr ss h) (v : INV σ) (ho : h[143]? = some (cJ [l0])) (hod : h[144]? = some (cD [d0]))
    (M : ∀ (σ9 : St) (h9 : xH) (e9 : Bool) (c9 : Int) (r9 : Nat) (s9 : Int) (l9 : Int) (d9 : UInt64), INV σ9 → CW σ9 h9 → MX σ9 c9 r9 s9 h9 → h9[143]? = some (cJ [l9]) → h9[144]? = some (cD [d9]) → X G m_L_law (d + 10) rc rs e9 5554 [some (.ref 0), some (.ref 3), some (.ref 70), some (.ref 143), some (.ref 144), some (vi (i : Int)), none, none, none] [] h9 Q) : X G m_L_law (d + 10) (rc + 4) (rs + 24) ex 1780 [some (.ref 0), some (.ref 3), some (.ref 70), some (.ref 143), some (.ref 144), some (vi (i : Int)), none, none, none] [] h Q := by
  refine x_aload_n (dT U_Lc20 0 rfl) rfl ?_
  refine x_aload_n (dT U_Lc20 1 rfl) rfl ?_
  refine x_iload (dT U_Lc20 2 rfl) rfl ?_
  refine x_iconst (dT U_Lc20 3 rfl) ?_
  refine x_iadd (dT U_Lc20 4 rfl) ?_
  refine x_sld (i + 1) hL (dT U_Lc20 5 rfl) (by omega) (by omega) ?_
  refine x_aload_n (dT U_Lc20 6 rfl) rfl ?_
  refine x_iload (dT U_Lc20 7 rfl) rfl ?_
  refine x_iconst (dT U_Lc20 8 rfl) ?_
  refine x_iadd (dT U_Lc20 9 rfl) ?_
  refine x_sld (i + 2) hL (dT U_Lc20 10 rfl) (by omega) (by omega) ?_
  refine x_aload_n (dT U_Lc20 11 rfl) rfl ?_
  refine x_iload (dT U_Lc20 12 rfl) rfl ?_
  refine x_iconst (dT U_Lc20 13 rfl) ?_
  refine x_iadd (dT U_Lc20 14 rfl) ?_
  refine x_sld (i + 3) hL (dT U_Lc20 15 rfl) (by omega) (by omega) ?_
  refine x_aload_n (dT U_Lc20 16 rfl) rfl ?_
  refine x_iload (dT U_Lc20 17 rfl) rfl ?_
  refine x_iconst (dT U_Lc20 18 rfl) ?_
  refine x_iadd (dT U_Lc20 19 rfl) ?_
  refine x_sld (i + 4) hL (dT U_Lc20 20 rfl) (by omega) (by omega) ?_
  refine x_aload_n (dT U_Lc20 21 rfl) rfl ?_
  refine x_invokestaticT (rc' := rc) (rs' := rs) (rc2 := 0 + 4) (rs2 := 0 + 24) (As := [_, _, _, _, _, _]) (st := _) M_L_breaks K_L_308 (dT U_Lc20 22 rfl) rfl (by decide) rfl rfl (Nat.le_of_ble_eq_true rfl) rfl (by decide) (Nat.le_of_ble_eq_true rfl) (by omega) (by omega) ?_
  refine S_L_breaks w v (xr_s _) (xr_s _) (xr_s _) (xr_s _) ho (fun c1 => ?_) (fun c1 c2 => ?_) (fun c1 c2 h2 fc w2 z9 hz9 ez9 => ?_)
  · refine xRet_some ?_
    refine x_istore (ls' := [some (.ref _), some (.ref _), some (.ref _), some (.ref _), some (.ref _), some (vi _), some (vi _), none, none]) (dT U_Lc20 23 rfl) (by decide) rfl ?_
    refine x_aload_n (dT U_Lc20 24 rfl) rfl ?_
    refine x_aload_n (dT U_Lc20 25 rfl) rfl ?_
    refine x_iload (dT U_Lc20 26 rfl) rfl ?_
    refine x_iconst (dT U_Lc20 27 rfl) ?_
    refine x_iadd (dT U_Lc20 28 rfl) ?_
    refine x_sld (i + 1) hL (dT U_Lc20 29 rfl) (by omega) (by omega) ?_
    refine x_aload_n (dT U_Lc20 30 rfl) rfl ?_
    refine x_iload (dT U_Lc20 31 rfl) rfl ?_
    refine x_iconst (dT U_Lc20 32 rfl) ?_
    refine x_iadd (dT U_Lc20 33 rfl) ?_
    refine x_sld (i + 2) hL (dT U_Lc20 34 rfl) (by omega) (by omega) ?_
    refine x_aload_n (dT U_Lc20 35 rfl) rfl ?_
    refine x_iload (dT U_Lc20 36 rfl) rfl ?_
    refine x_iconst (dT U_Lc20 37 rfl) ?_
    refine x_iadd (dT U_Lc20 38 rfl) ?_
    refine x_sld (i + 3) hL (dT U_Lc20 39 rfl) (by omega) (by omega) ?_
    refine x_aload_n (dT U_Lc20 40 rfl) rfl ?_
    refine x_iload (dT U_Lc20 41 rfl) rfl ?_
    refine x_iconst (dT U_Lc20 42 rfl) ?_
    refine x_iadd (dT U_Lc20 43 rfl) ?_
    refine x_sld (i + 4) hL (dT U_Lc20 44 rfl) (by omega) (by omega) ?_
    refine x_invokevirtual (rc' := rc) (rs' := rs) (rc2 := 0) (rs2 := 0) (As := [_, _, _, _]) (st := _) M_X11_breaks K_L_310 (dT U_Lc20 45 rfl) rfl rfl (by decide) rfl rfl wm.c70 (Nat.le_of_ble_eq_true rfl) (by decide) rfl (Nat.le_of_ble_eq_true rfl) rfl (by decide) (Nat.le_of_ble_eq_true rfl) rfl rfl ?_
    refine S_X11_breaks wm v (xr_s _) (xr_s _) (xr_s _) (xr_s _) (fun m1 h3 z ag wx xz => ?_) (fun m1 m2 _ _ _ _ _ => absurd m1 c1) (fun m1 m2 _ _ _ _ _ => absurd m1 c1)
    refine xRet_some ?_
    refine x_istore (ls' := [some (.ref _), some (.ref _), some (.ref _), some (.ref _), some (.ref _), some (vi _), some (vi _), some (vi _), none]) (dT U_Lc20 46 rfl) (by decide) rfl ?_
    refine x_aload_n (dT U_Lc20 47 rfl) rfl ?_
    refine x_invokevirtual (rc' := rc) (rs' := rs) (rc2 := 0) (rs2 := 0) (As := []) (st := _) M_X11_thrown K_L_242 (dT U_Lc20 48 rfl) rfl rfl (by decide) rfl rfl wx.c70 (Nat.le_of_ble_eq_true rfl) (by decide) rfl (Nat.le_of_ble_eq_true rfl) rfl (by decide) (Nat.le_of_ble_eq_true rfl) rfl rfl ?_
    refine S_X11_thrown wx ?_
    refine xRet_some ?_
    refine x_iload (dT U_Lc20 49 rfl) rfl ?_
    refine x_icmp_eq (tgt := 1852) (dT U_Lc20 50 rfl) (by decide) (by unfold xr; omega) (by unfold xr; omega) (fun c1847 => ?_) (fun c1847 => (by exfalso; omega))
    refine x_iload (dT U_Lc20 53 rfl) rfl ?_
    refine x_if_nej (tgt := 1869) (dT U_Lc20 54 rfl) (by decide) (by decide) ?_
    refine x_goto (tgt := 5554) (dT U_Lc20 64 rfl) (by decide) ?_
    refine x_drop ?_ (M _ _ _ _ _ _ _ _ v (w.out ag (by omega)) wx (ag.get ho (by omega)) (ag.get hod (by omega)))
    repeat (first | exact trivial | refine ⟨rfl, ?_⟩ | refine ⟨trivial, ?_⟩)
  · refine xRet_some ?_
    refine x_istore (ls' := [some (.ref _), some (.ref _), some (.ref _), some (.ref _), some (.ref _), some (vi _), some (vi _), none, none]) (dT U_Lc20 23 rfl) (by decide) rfl ?_
    refine x_aload_n (dT U_Lc20 24 rfl) rfl ?_
    refine x_aload_n (dT U_Lc20 25 rfl) rfl ?_
    refine x_iload (dT U_Lc20 26 rfl) rfl ?_
    refine x_iconst (dT U_Lc20 27 rfl) ?_
    refine x_iadd (dT U_Lc20 28 rfl) ?_
    refine x_sld (i + 1) hL (dT U_Lc20 29 rfl) (by omega) (by omega) ?_
    refine x_aload_n (dT U_Lc20 30 rfl) rfl ?_
    refine x_iload (dT U_Lc20 31 rfl) rfl ?_
    refine x_iconst (dT U_Lc20 32 rfl) ?_
    refine x_iadd (dT U_Lc20 33 rfl) ?_
    refine x_sld (i + 2) hL (dT U_Lc20 34 rfl) (by omega) (by omega) ?_
    refine x_aload_n (dT U_Lc20 35 rfl) rfl ?_
    refine x_iload (dT U_Lc20 36 rfl) rfl ?_
    refine x_iconst (dT U_Lc20 37 rfl) ?_
    refine x_iadd (dT U_Lc20 38 rfl) ?_
    refine x_sld (i + 3) hL (dT U_Lc20 39 rfl) (by omega) (by omega) ?_
    refine x_aload_n (dT U_Lc20 40 rfl) rfl ?_
    refine x_iload (dT U_Lc20 41 rfl) rfl ?_
    refine x_iconst (dT U_Lc20 42 rfl) ?_
    refine x_iadd (dT U_Lc20 43 rfl) ?_
    refine x_sld (i + 4) hL (dT U_Lc20 44 rfl) (by omega) (by omega) ?_
    refine x_invokevirtual (rc' := rc) (rs' := rs) (rc2 := 0) (rs2 := 0) (As := [_, _, _, _]) (st := _) M_X11_breaks K_L_310 (dT U_Lc20 45 rfl) rfl rfl (by decide) rfl rfl wm.c70 (Nat.le_of_ble_eq_true rfl) (by decide) rfl (Nat.le_of_ble_eq_true rfl) rfl (by decide) (Nat.le_of_ble_eq_true rfl) rfl rfl ?_
    refine S_X11_breaks wm v (xr_s _) (xr_s _) (xr_s _) (xr_s _) (fun m1 _ _ _ _ _ => absurd c1 m1) (fun m1 m2 h3 z ag wx xz => ?_) (fun m1 m2 _ _ _ _ _ => absurd m2 c2)
    refine xRet_some ?_
    refine x_istore (ls' := [some (.ref _), some (.ref _), some (.ref _), some (.ref _), some (.ref _), some (vi _), some (vi _), some (vi _), none]) (dT U_Lc20 46 rfl) (by decide) rfl ?_
    refine x_aload_n (dT U_Lc20 47 rfl) rfl ?_
    refine x_invokevirtual (rc' := rc) (rs' := rs) (rc2 := 0) (rs2 := 0) (As := []) (st := _) M_X11_thrown K_L_242 (dT U_Lc20 48 rfl) rfl rfl (by decide) rfl rfl wx.c70 (Nat.le_of_ble_eq_true rfl) (by decide) rfl (Nat.le_of_ble_eq_true rfl) rfl (by decide) (Nat.le_of_ble_eq_true rfl) rfl rfl ?_
    refine S_X11_thrown wx ?_
    refine xRet_some ?_
    refine x_iload (dT U_Lc20 49 rfl) rfl ?_
    refine x_icmp_eq (tgt := 1852) (dT U_Lc20 50 rfl) (by decide) (by unfold xr; omega) (by unfold xr; omega) (fun c1847 => ?_) (fun c1847 => (by exfalso; omega))
    refine x_iload (dT U_Lc20 53 rfl) rfl ?_
    refine x_if_ne (tgt := 1869) (dT U_Lc20 54 rfl) (by decide) (by unfold xr; omega) (fun c1854 => ?_) (fun c1854 => (by exfalso; omega))
    refine x_goto (tgt := 5554) (dT U_Lc20 64 rfl) (by decide) ?_
    refine x_drop ?_ (M _ _ _ _ _ _ _ _ v (w.out ag (by omega)) wx (ag.get ho (by omega)) (ag.get hod (by omega)))
    repeat (first | exact trivial | refine ⟨rfl, ?_⟩ | refine ⟨trivial, ?_⟩)
  · refine xRet_some ?_
    have wmx := wm.out (h2 := (h2.set 143 (cJ [z9]))) (fun a ha => by rw [hset_fr (by omega)]; exact fc.2 a (by omega))
    refine x_istore (ls' := [some (.ref _), some (.ref _), some (.ref _), some (.ref _), some (.ref _), some (vi _), some (vi _), none, none]) (dT U_Lc20 23 rfl) (by decide) rfl ?_
    refine x_aload_n (dT U_Lc20 24 rfl) rfl ?_
    refine x_aload_n (dT U_Lc20 25 rfl) rfl ?_
    refine x_iload (dT U_Lc20 26 rfl) rfl ?_
    refine x_iconst (dT U_Lc20 27 rfl) ?_
    refine x_iadd (dT U_Lc20 28 rfl) ?_
    refine x_sld (i + 1) hL (dT U_Lc20 29 rfl) (by omega) (by omega) ?_
    refine x_aload_n (dT U_Lc20 30 rfl) rfl ?_
    refine x_iload (dT U_Lc20 31 rfl) rfl ?_
    refine x_iconst (dT U_Lc20 32 rfl) ?_
    refine x_iadd (dT U_Lc20 33 rfl) ?_
    refine x_sld (i + 2) hL (dT U_Lc20 34 rfl) (by omega) (by omega) ?_
    refine x_aload_n (dT U_Lc20 35 rfl) rfl ?_
    refine x_iload (dT U_Lc20 36 rfl) rfl ?_
    refine x_iconst (dT U_Lc20 37 rfl) ?_
    refine x_iadd (dT U_Lc20 38 rfl) ?_
    refine x_sld (i + 3) hL (dT U_Lc20 39 rfl) (by omega) (by omega) ?_
    refine x_aload_n (dT U_Lc20 40 rfl) rfl ?_
    refine x_iload (dT U_Lc20 41 rfl) rfl ?_
    refine x_iconst (dT U_Lc20 42 rfl) ?_
    refine x_iadd (dT U_Lc20 43 rfl) ?_
    refine x_sld (i + 4) hL (dT U_Lc20 44 rfl) (by omega) (by omega) ?_
    refine x_invokevirtual (rc' := rc) (rs' := rs) (rc2 := 0) (rs2 := 0) (As := [_, _, _, _]) (st := _) M_X11_breaks K_L_310 (dT U_Lc20 45 rfl) rfl rfl (by decide) rfl rfl wmx.c70 (Nat.le_of_ble_eq_true rfl) (by decide) rfl (Nat.le_of_ble_eq_true rfl) rfl (by decide) (Nat.le_of_ble_eq_true rfl) rfl rfl ?_
    refine S_X11_breaks wmx v (xr_s _) (xr_s _) (xr_s _) (xr_s _) (fun m1 _ _ _ _ _ => absurd c1 m1) (fun m1 m2 _ _ _ _ _ => absurd c2 m2) (fun m1 m2 h3 r3 s3 ag wx => ?_)
    refine xRet_some ?_
    rw [ez9]
    refine x_istore (ls' := [some (.ref _), some (.ref _), some (.ref _), some (.ref _), some (.ref _), some (vi _), some (vi _), some (vi _), none]) (dT U_Lc20 46 rfl) (by decide) rfl ?_
    refine x_aload_n (dT U_Lc20 47 rfl) rfl ?_
    refine x_invokevirtual (rc' := rc) (rs' := rs) (rc2 := 0) (rs2 := 0) (As := []) (st := _) M_X11_thrown K_L_242 (dT U_Lc20 48 rfl) rfl rfl (by decide) rfl rfl wx.c70 (Nat.le_of_ble_eq_true rfl) (by decide) rfl (Nat.le_of_ble_eq_true rfl) rfl (by decide) (Nat.le_of_ble_eq_true rfl) rfl rfl ?_
    refine S_X11_thrown wx ?_
    refine xRet_some ?_
    refine x_iload (dT U_Lc20 49 rfl) rfl ?_
    refine x_icmp_eq (tgt := 1852) (dT U_Lc20 50 rfl) (by decide) (by unfold xr; omega) (by unfold xr; omega) (fun c1847 => ?_) (fun c1847 => (by exfalso; omega))
    refine x_iload (dT U_Lc20 53 rfl) rfl ?_
    refine x_if_nen (tgt := 1869) (dT U_Lc20 54 rfl) (by decide) (by decide) ?_
    refine x_aload_n (dT U_Lc20 55 rfl) rfl ?_
    refine x_iconst (dT U_Lc20 56 rfl) ?_
    refine x_laload 0 (dT U_Lc20 57 rfl) (ag.get (hset_eq (fc.get ho (by omega))) (by omega)) (Nat.le_of_ble_eq_true rfl) rfl (Nat.le_of_ble_eq_true rfl) (Nat.le_of_ble_eq_true rfl) ?_
    refine x_iload (dT U_Lc20 58 rfl) rfl ?_
    refine x_i2l (dT U_Lc20 59 rfl) hz9 ?_
    refine x_lcmp (dT U_Lc20 60 rfl) (xr_l hz9) (xr_l hz9) ?_
    refine x_if_eqj (tgt := 1869) (dT U_Lc20 61 rfl) (by decide) (xcmp_rf _) ?_
    refine x_goto (tgt := 5554) (dT U_Lc20 64 rfl) (by decide) ?_
    refine x_drop ?_ (M _ _ _ _ _ _ _ _ (IV_breaks v c1 c2) ((w2.out ((Ag.rf 143 143 h2).set (by omega)) (by omega)).out ag (by omega)) wx (ag.get (hset_eq (fc.get ho (by omega))) (by omega)) (ag.get (hset_ne (by omega) (fc.get hod (by omega))) (by omega)))
    repeat (first | exact trivial | refine ⟨rfl, ?_⟩ | refine ⟨trivial, ?_⟩)

def B_Lc21 : ByteArray := .mk #[0x2b, 0x2a, 0x15, 0x05, 0x04, 0x60, 0x2e, 0x2a, 0x15, 0x05, 0x05, 0x60, 0x2e, 0x2d, 0xb8, 0x01, 0x37, 0x36, 0x06, 0x2c, 0x2a, 0x15, 0x05, 0x04, 0x60, 0x2e, 0x2a, 0x15, 0x05, 0x05, 0x60, 0x2e, 0xb6, 0x01, 0x39, 0x36, 0x07, 0x2c, 0xb6, 0x00, 0xf2, 0x15, 0x06, 0x9f, 0x00, 0x05, 0x03, 0xac, 0x15, 0x06, 0x9a, 0x00, 0x0f, 0x2d, 0x03, 0x2f, 0x15, 0x07, 0x85, 0x94, 0x99, 0x00, 0x05, 0x03, 0xac, 0xa7, 0x0e, 0x21]
theorem W_Lc21 : sameFrom m_L_law.2.1 B_Lc21 1872 := sameFrom_of (by decide +kernel)
def t_Lc21 : List (Nat × Instr × Nat) := [(1872, .aload_n 1, 1), (1873, .aload_n 0, 1), (1874, .iload 5, 2), (1876, .iconst 1, 1), (1877, .iadd, 1), (1878, .iaload, 1), (1879, .aload_n 0, 1), (1880, .iload 5, 2), (1882, .iconst 2, 1), (1883, .iadd, 1), (1884, .iaload, 1), (1885, .aload_n 3, 1), (1886, .invokestatic 311, 3), (1889, .istore 6, 2), (1891, .aload_n 2, 1), (1892, .aload_n 0, 1), (1893, .iload 5, 2), (1895, .iconst 1, 1), (1896, .iadd, 1), (1897, .iaload, 1), (1898, .aload_n 0, 1), (1899, .iload 5, 2), (1901, .iconst 2, 1), (1902, .iadd, 1), (1903, .iaload, 1), (1904, .invokevirtual 313, 3), (1907, .istore 7, 2), (1909, .aload_n 2, 1), (1910, .invokevirtual 242, 3), (1913, .iload 6, 2), (1915, .if_icmp .eq 5, 3), (1918, .iconst 0, 1), (1919, .ireturn, 1), (1920, .iload 6, 2), (1922, .ifCond .ne 15, 3), (1925, .aload_n 3, 1), (1926, .iconst 0, 1), (1927, .laload, 1), (1928, .iload 7, 2), (1930, .i2l, 1), (1931, .lcmp, 1), (1932, .ifCond .eq 5, 3), (1935, .iconst 0, 1), (1936, .ireturn, 1), (1937, .goto 3617, 3)]
set_option maxRecDepth 20000 in
theorem U_Lc21 : okT m_L_law.2.1 t_Lc21 = true := dSt [(0, .aload_n 1, 1), (1, .aload_n 0, 1), (2, .iload 5, 2), (4, .iconst 1, 1), (5, .iadd, 1), (6, .iaload, 1), (7, .aload_n 0, 1), (8, .iload 5, 2), (10, .iconst 2, 1), (11, .iadd, 1), (12, .iaload, 1), (13, .aload_n 3, 1), (14, .invokestatic 311, 3), (17, .istore 6, 2), (19, .aload_n 2, 1), (20, .aload_n 0, 1), (21, .iload 5, 2), (23, .iconst 1, 1), (24, .iadd, 1), (25, .iaload, 1), (26, .aload_n 0, 1), (27, .iload 5, 2), (29, .iconst 2, 1), (30, .iadd, 1), (31, .iaload, 1), (32, .invokevirtual 313, 3), (35, .istore 7, 2), (37, .aload_n 2, 1), (38, .invokevirtual 242, 3), (41, .iload 6, 2), (43, .if_icmp .eq 5, 3), (46, .iconst 0, 1), (47, .ireturn, 1), (48, .iload 6, 2), (50, .ifCond .ne 15, 3), (53, .aload_n 3, 1), (54, .iconst 0, 1), (55, .laload, 1), (56, .iload 7, 2), (58, .i2l, 1), (59, .lcmp, 1), (60, .ifCond .eq 5, 3), (63, .iconst 0, 1), (64, .ireturn, 1), (65, .goto 3617, 3)] W_Lc21 (by decide +kernel) (by decide +kernel)
set_option maxRecDepth 20000 in
set_option maxHeartbeats 1000000 in
theorem LC_21 {G : xG} {d rc rs : Nat} {ex : Bool} {h : xH} {Q : xQ} {σ : St} {c0 : Int} {rr : Nat} {ss : Int} {l0 : Int} {d0 : UInt64} {i : Nat} (hL : G.2.2.2.2.2.1 < 2147483648) (hi : i + 10 ≤ G.2.2.2.2.2.1) (w : CW σ h) (wm : MX σ c0 rr ss h) (v : INV σ) (ho : h[143]? = some (cJ [l0])) (hod : h[144]? = some (cD [d0]))
    (M : ∀ (σ9 : St) (h9 : xH) (e9 : Bool) (c9 : Int) (r9 : Nat) (s9 : Int) (l9 : Int) (d9 : UInt64), INV σ9 → CW σ9 h9 → MX σ9 c9 r9 s9 h9 → h9[143]? = some (cJ [l9]) → h9[144]? = some (cD [d9]) → X G m_L_law (d + 10) rc rs e9 5554 [some (.ref 0), some (.ref 3), some (.ref 70), some (.ref 143), some (.ref 144), some (vi (i : Int)), none, none, none] [] h9 Q) : X G m_L_law (d + 10) (rc + 2) (rs + 12) ex 1872 [some (.ref 0), some (.ref 3), some (.ref 70), some (.ref 143), some (.ref 144), some (vi (i : Int)), none, none, none] [] h Q := by
  refine x_aload_n (dT U_Lc21 0 rfl) rfl ?_
  refine x_aload_n (dT U_Lc21 1 rfl) rfl ?_
  refine x_iload (dT U_Lc21 2 rfl) rfl ?_
  refine x_iconst (dT U_Lc21 3 rfl) ?_
  refine x_iadd (dT U_Lc21 4 rfl) ?_
  refine x_sld (i + 1) hL (dT U_Lc21 5 rfl) (by omega) (by omega) ?_
  refine x_aload_n (dT U_Lc21 6 rfl) rfl ?_
  refine x_iload (dT U_Lc21 7 rfl) rfl ?_
  refine x_iconst (dT U_Lc21 8 rfl) ?_
  refine x_iadd (dT U_Lc21 9 rfl) ?_
  refine x_sld (i + 2) hL (dT U_Lc21 10 rfl) (by omega) (by omega) ?_
  refine x_aload_n (dT U_Lc21 11 rfl) rfl ?_
  refine x_invokestaticT (rc' := rc) (rs' := rs) (rc2 := 0 + 2) (rs2 := 0 + 12) (As := [_, _, _, _]) (st := _) M_L_seal K_L_311 (dT U_Lc21 12 rfl) rfl (by decide) rfl rfl (Nat.le_of_ble_eq_true rfl) rfl (by decide) (Nat.le_of_ble_eq_true rfl) (by omega) (by omega) ?_
  refine S_L_seal w v (xr_s _) (xr_s _) ho (fun c1 => ?_) (fun c1 z9 hz9 ez9 => ?_)
  · refine xRet_some ?_
    refine x_istore (ls' := [some (.ref _), some (.ref _), some (.ref _), some (.ref _), some (.ref _), some (vi _), some (vi _), none, none]) (dT U_Lc21 13 rfl) (by decide) rfl ?_
    refine x_aload_n (dT U_Lc21 14 rfl) rfl ?_
    refine x_aload_n (dT U_Lc21 15 rfl) rfl ?_
    refine x_iload (dT U_Lc21 16 rfl) rfl ?_
    refine x_iconst (dT U_Lc21 17 rfl) ?_
    refine x_iadd (dT U_Lc21 18 rfl) ?_
    refine x_sld (i + 1) hL (dT U_Lc21 19 rfl) (by omega) (by omega) ?_
    refine x_aload_n (dT U_Lc21 20 rfl) rfl ?_
    refine x_iload (dT U_Lc21 21 rfl) rfl ?_
    refine x_iconst (dT U_Lc21 22 rfl) ?_
    refine x_iadd (dT U_Lc21 23 rfl) ?_
    refine x_sld (i + 2) hL (dT U_Lc21 24 rfl) (by omega) (by omega) ?_
    refine x_invokevirtual (rc' := rc) (rs' := rs) (rc2 := 0) (rs2 := 0) (As := [_, _]) (st := _) M_X11_seal K_L_313 (dT U_Lc21 25 rfl) rfl rfl (by decide) rfl rfl wm.c70 (Nat.le_of_ble_eq_true rfl) (by decide) rfl (Nat.le_of_ble_eq_true rfl) rfl (by decide) (Nat.le_of_ble_eq_true rfl) rfl rfl ?_
    refine S_X11_seal wm v (xr_s _) (xr_s _) (fun m1 h3 z ag wx xz => ?_) (fun m1 _ _ _ _ _ => absurd m1 c1)
    refine xRet_some ?_
    refine x_istore (ls' := [some (.ref _), some (.ref _), some (.ref _), some (.ref _), some (.ref _), some (vi _), some (vi _), some (vi _), none]) (dT U_Lc21 26 rfl) (by decide) rfl ?_
    refine x_aload_n (dT U_Lc21 27 rfl) rfl ?_
    refine x_invokevirtual (rc' := rc) (rs' := rs) (rc2 := 0) (rs2 := 0) (As := []) (st := _) M_X11_thrown K_L_242 (dT U_Lc21 28 rfl) rfl rfl (by decide) rfl rfl wx.c70 (Nat.le_of_ble_eq_true rfl) (by decide) rfl (Nat.le_of_ble_eq_true rfl) rfl (by decide) (Nat.le_of_ble_eq_true rfl) rfl rfl ?_
    refine S_X11_thrown wx ?_
    refine xRet_some ?_
    refine x_iload (dT U_Lc21 29 rfl) rfl ?_
    refine x_icmp_eq (tgt := 1920) (dT U_Lc21 30 rfl) (by decide) (by unfold xr; omega) (by unfold xr; omega) (fun c1915 => ?_) (fun c1915 => (by exfalso; omega))
    refine x_iload (dT U_Lc21 33 rfl) rfl ?_
    refine x_if_nej (tgt := 1937) (dT U_Lc21 34 rfl) (by decide) (by decide) ?_
    refine x_goto (tgt := 5554) (dT U_Lc21 44 rfl) (by decide) ?_
    refine x_drop ?_ (M _ _ _ _ _ _ _ _ v (w.out ag (by omega)) wx (ag.get ho (by omega)) (ag.get hod (by omega)))
    repeat (first | exact trivial | refine ⟨rfl, ?_⟩ | refine ⟨trivial, ?_⟩)
  · refine xRet_some ?_
    have wmx := wm.out (h2 := (h.set 143 (cJ [z9]))) (fun a ha => by rw [hset_fr (by omega)])
    refine x_istore (ls' := [some (.ref _), some (.ref _), some (.ref _), some (.ref _), some (.ref _), some (vi _), some (vi _), none, none]) (dT U_Lc21 13 rfl) (by decide) rfl ?_
    refine x_aload_n (dT U_Lc21 14 rfl) rfl ?_
    refine x_aload_n (dT U_Lc21 15 rfl) rfl ?_
    refine x_iload (dT U_Lc21 16 rfl) rfl ?_
    refine x_iconst (dT U_Lc21 17 rfl) ?_
    refine x_iadd (dT U_Lc21 18 rfl) ?_
    refine x_sld (i + 1) hL (dT U_Lc21 19 rfl) (by omega) (by omega) ?_
    refine x_aload_n (dT U_Lc21 20 rfl) rfl ?_
    refine x_iload (dT U_Lc21 21 rfl) rfl ?_
    refine x_iconst (dT U_Lc21 22 rfl) ?_
    refine x_iadd (dT U_Lc21 23 rfl) ?_
    refine x_sld (i + 2) hL (dT U_Lc21 24 rfl) (by omega) (by omega) ?_
    refine x_invokevirtual (rc' := rc) (rs' := rs) (rc2 := 0) (rs2 := 0) (As := [_, _]) (st := _) M_X11_seal K_L_313 (dT U_Lc21 25 rfl) rfl rfl (by decide) rfl rfl wmx.c70 (Nat.le_of_ble_eq_true rfl) (by decide) rfl (Nat.le_of_ble_eq_true rfl) rfl (by decide) (Nat.le_of_ble_eq_true rfl) rfl rfl ?_
    refine S_X11_seal wmx v (xr_s _) (xr_s _) (fun m1 _ _ _ _ _ => absurd c1 m1) (fun m1 h3 r3 s3 ag wx => ?_)
    refine xRet_some ?_
    rw [ez9]
    refine x_istore (ls' := [some (.ref _), some (.ref _), some (.ref _), some (.ref _), some (.ref _), some (vi _), some (vi _), some (vi _), none]) (dT U_Lc21 26 rfl) (by decide) rfl ?_
    refine x_aload_n (dT U_Lc21 27 rfl) rfl ?_
    refine x_invokevirtual (rc' := rc) (rs' := rs) (rc2 := 0) (rs2 := 0) (As := []) (st := _) M_X11_thrown K_L_242 (dT U_Lc21 28 rfl) rfl rfl (by decide) rfl rfl wx.c70 (Nat.le_of_ble_eq_true rfl) (by decide) rfl (Nat.le_of_ble_eq_true rfl) rfl (by decide) (Nat.le_of_ble_eq_true rfl) rfl rfl ?_
    refine S_X11_thrown wx ?_
    refine xRet_some ?_
    refine x_iload (dT U_Lc21 29 rfl) rfl ?_
    refine x_icmp_eq (tgt := 1920) (dT U_Lc21 30 rfl) (by decide) (by unfold xr; omega) (by unfold xr; omega) (fun c1915 => ?_) (fun c1915 => (by exfalso; omega))
    refine x_iload (dT U_Lc21 33 rfl) rfl ?_
    refine x_if_nen (tgt := 1937) (dT U_Lc21 34 rfl) (by decide) (by decide) ?_
    refine x_aload_n (dT U_Lc21 35 rfl) rfl ?_
    refine x_iconst (dT U_Lc21 36 rfl) ?_
    refine x_laload 0 (dT U_Lc21 37 rfl) (ag.get (hset_eq ho) (by omega)) (Nat.le_of_ble_eq_true rfl) rfl (Nat.le_of_ble_eq_true rfl) (Nat.le_of_ble_eq_true rfl) ?_
    refine x_iload (dT U_Lc21 38 rfl) rfl ?_
    refine x_i2l (dT U_Lc21 39 rfl) hz9 ?_
    refine x_lcmp (dT U_Lc21 40 rfl) (xr_l hz9) (xr_l hz9) ?_
    refine x_if_eqj (tgt := 1937) (dT U_Lc21 41 rfl) (by decide) (xcmp_rf _) ?_
    refine x_goto (tgt := 5554) (dT U_Lc21 44 rfl) (by decide) ?_
    refine x_drop ?_ (M _ _ _ _ _ _ _ _ v ((w.out ((Ag.rf 143 143 h).set (by omega)) (by omega)).out ag (by omega)) wx (ag.get (hset_eq ho) (by omega)) (ag.get (hset_ne (by omega) hod) (by omega)))
    repeat (first | exact trivial | refine ⟨rfl, ?_⟩ | refine ⟨trivial, ?_⟩)

def B_Lc22 : ByteArray := .mk #[0x2b, 0x2a, 0x15, 0x05, 0x04, 0x60, 0x2e, 0x2a, 0x15, 0x05, 0x05, 0x60, 0x2e, 0x2d, 0xb8, 0x01, 0x3a, 0x36, 0x06, 0x2c, 0x2a, 0x15, 0x05, 0x04, 0x60, 0x2e, 0x2a, 0x15, 0x05, 0x05, 0x60, 0x2e, 0xb6, 0x01, 0x3c, 0x36, 0x07, 0x2c, 0xb6, 0x00, 0xf2, 0x15, 0x06, 0x9f, 0x00, 0x05, 0x03, 0xac, 0x15, 0x06, 0x9a, 0x00, 0x0f, 0x2d, 0x03, 0x2f, 0x15, 0x07, 0x85, 0x94, 0x99, 0x00, 0x05, 0x03, 0xac, 0xa7, 0x0d, 0xdd]
theorem W_Lc22 : sameFrom m_L_law.2.1 B_Lc22 1940 := sameFrom_of (by decide +kernel)
def t_Lc22 : List (Nat × Instr × Nat) := [(1940, .aload_n 1, 1), (1941, .aload_n 0, 1), (1942, .iload 5, 2), (1944, .iconst 1, 1), (1945, .iadd, 1), (1946, .iaload, 1), (1947, .aload_n 0, 1), (1948, .iload 5, 2), (1950, .iconst 2, 1), (1951, .iadd, 1), (1952, .iaload, 1), (1953, .aload_n 3, 1), (1954, .invokestatic 314, 3), (1957, .istore 6, 2), (1959, .aload_n 2, 1), (1960, .aload_n 0, 1), (1961, .iload 5, 2), (1963, .iconst 1, 1), (1964, .iadd, 1), (1965, .iaload, 1), (1966, .aload_n 0, 1), (1967, .iload 5, 2), (1969, .iconst 2, 1), (1970, .iadd, 1), (1971, .iaload, 1), (1972, .invokevirtual 316, 3), (1975, .istore 7, 2), (1977, .aload_n 2, 1), (1978, .invokevirtual 242, 3), (1981, .iload 6, 2), (1983, .if_icmp .eq 5, 3), (1986, .iconst 0, 1), (1987, .ireturn, 1), (1988, .iload 6, 2), (1990, .ifCond .ne 15, 3), (1993, .aload_n 3, 1), (1994, .iconst 0, 1), (1995, .laload, 1), (1996, .iload 7, 2), (1998, .i2l, 1), (1999, .lcmp, 1), (2000, .ifCond .eq 5, 3), (2003, .iconst 0, 1), (2004, .ireturn, 1), (2005, .goto 3549, 3)]
set_option maxRecDepth 20000 in
theorem U_Lc22 : okT m_L_law.2.1 t_Lc22 = true := dSt [(0, .aload_n 1, 1), (1, .aload_n 0, 1), (2, .iload 5, 2), (4, .iconst 1, 1), (5, .iadd, 1), (6, .iaload, 1), (7, .aload_n 0, 1), (8, .iload 5, 2), (10, .iconst 2, 1), (11, .iadd, 1), (12, .iaload, 1), (13, .aload_n 3, 1), (14, .invokestatic 314, 3), (17, .istore 6, 2), (19, .aload_n 2, 1), (20, .aload_n 0, 1), (21, .iload 5, 2), (23, .iconst 1, 1), (24, .iadd, 1), (25, .iaload, 1), (26, .aload_n 0, 1), (27, .iload 5, 2), (29, .iconst 2, 1), (30, .iadd, 1), (31, .iaload, 1), (32, .invokevirtual 316, 3), (35, .istore 7, 2), (37, .aload_n 2, 1), (38, .invokevirtual 242, 3), (41, .iload 6, 2), (43, .if_icmp .eq 5, 3), (46, .iconst 0, 1), (47, .ireturn, 1), (48, .iload 6, 2), (50, .ifCond .ne 15, 3), (53, .aload_n 3, 1), (54, .iconst 0, 1), (55, .laload, 1), (56, .iload 7, 2), (58, .i2l, 1), (59, .lcmp, 1), (60, .ifCond .eq 5, 3), (63, .iconst 0, 1), (64, .ireturn, 1), (65, .goto 3549, 3)] W_Lc22 (by decide +kernel) (by decide +kernel)
set_option maxRecDepth 20000 in
set_option maxHeartbeats 1000000 in
theorem LC_22 {G : xG} {d rc rs : Nat} {ex : Bool} {h : xH} {Q : xQ} {σ : St} {c0 : Int} {rr : Nat} {ss : Int} {l0 : Int} {d0 : UInt64} {i : Nat} (hL : G.2.2.2.2.2.1 < 2147483648) (hi : i + 10 ≤ G.2.2.2.2.2.1) (w : CW σ h) (wm : MX σ c0 rr ss h) (v : INV σ) (ho : h[143]? = some (cJ [l0])) (hod : h[144]? = some (cD [d0]))
    (M : ∀ (σ9 : St) (h9 : xH) (e9 : Bool) (c9 : Int) (r9 : Nat) (s9 : Int) (l9 : Int) (d9 : UInt64), INV σ9 → CW σ9 h9 → MX σ9 c9 r9 s9 h9 → h9[143]? = some (cJ [l9]) → h9[144]? = some (cD [d9]) → X G m_L_law (d + 10) rc rs e9 5554 [some (.ref 0), some (.ref 3), some (.ref 70), some (.ref 143), some (.ref 144), some (vi (i : Int)), none, none, none] [] h9 Q) : X G m_L_law (d + 10) (rc + 2) (rs + 12) ex 1940 [some (.ref 0), some (.ref 3), some (.ref 70), some (.ref 143), some (.ref 144), some (vi (i : Int)), none, none, none] [] h Q := by
  refine x_aload_n (dT U_Lc22 0 rfl) rfl ?_
  refine x_aload_n (dT U_Lc22 1 rfl) rfl ?_
  refine x_iload (dT U_Lc22 2 rfl) rfl ?_
  refine x_iconst (dT U_Lc22 3 rfl) ?_
  refine x_iadd (dT U_Lc22 4 rfl) ?_
  refine x_sld (i + 1) hL (dT U_Lc22 5 rfl) (by omega) (by omega) ?_
  refine x_aload_n (dT U_Lc22 6 rfl) rfl ?_
  refine x_iload (dT U_Lc22 7 rfl) rfl ?_
  refine x_iconst (dT U_Lc22 8 rfl) ?_
  refine x_iadd (dT U_Lc22 9 rfl) ?_
  refine x_sld (i + 2) hL (dT U_Lc22 10 rfl) (by omega) (by omega) ?_
  refine x_aload_n (dT U_Lc22 11 rfl) rfl ?_
  refine x_invokestaticT (rc' := rc) (rs' := rs) (rc2 := 0 + 2) (rs2 := 0 + 12) (As := [_, _, _, _]) (st := _) M_L_twin K_L_314 (dT U_Lc22 12 rfl) rfl (by decide) rfl rfl (Nat.le_of_ble_eq_true rfl) rfl (by decide) (Nat.le_of_ble_eq_true rfl) (by omega) (by omega) ?_
  refine S_L_twin w v (xr_s _) (xr_s _) ho (fun c1 => ?_) (fun c1 z9 hz9 ez9 => ?_)
  · refine xRet_some ?_
    refine x_istore (ls' := [some (.ref _), some (.ref _), some (.ref _), some (.ref _), some (.ref _), some (vi _), some (vi _), none, none]) (dT U_Lc22 13 rfl) (by decide) rfl ?_
    refine x_aload_n (dT U_Lc22 14 rfl) rfl ?_
    refine x_aload_n (dT U_Lc22 15 rfl) rfl ?_
    refine x_iload (dT U_Lc22 16 rfl) rfl ?_
    refine x_iconst (dT U_Lc22 17 rfl) ?_
    refine x_iadd (dT U_Lc22 18 rfl) ?_
    refine x_sld (i + 1) hL (dT U_Lc22 19 rfl) (by omega) (by omega) ?_
    refine x_aload_n (dT U_Lc22 20 rfl) rfl ?_
    refine x_iload (dT U_Lc22 21 rfl) rfl ?_
    refine x_iconst (dT U_Lc22 22 rfl) ?_
    refine x_iadd (dT U_Lc22 23 rfl) ?_
    refine x_sld (i + 2) hL (dT U_Lc22 24 rfl) (by omega) (by omega) ?_
    refine x_invokevirtual (rc' := rc) (rs' := rs) (rc2 := 0) (rs2 := 0) (As := [_, _]) (st := _) M_X11_twin K_L_316 (dT U_Lc22 25 rfl) rfl rfl (by decide) rfl rfl wm.c70 (Nat.le_of_ble_eq_true rfl) (by decide) rfl (Nat.le_of_ble_eq_true rfl) rfl (by decide) (Nat.le_of_ble_eq_true rfl) rfl rfl ?_
    refine S_X11_twin wm v (xr_s _) (xr_s _) (fun m1 h3 z ag wx xz => ?_) (fun m1 _ _ _ _ _ => absurd m1 c1)
    refine xRet_some ?_
    refine x_istore (ls' := [some (.ref _), some (.ref _), some (.ref _), some (.ref _), some (.ref _), some (vi _), some (vi _), some (vi _), none]) (dT U_Lc22 26 rfl) (by decide) rfl ?_
    refine x_aload_n (dT U_Lc22 27 rfl) rfl ?_
    refine x_invokevirtual (rc' := rc) (rs' := rs) (rc2 := 0) (rs2 := 0) (As := []) (st := _) M_X11_thrown K_L_242 (dT U_Lc22 28 rfl) rfl rfl (by decide) rfl rfl wx.c70 (Nat.le_of_ble_eq_true rfl) (by decide) rfl (Nat.le_of_ble_eq_true rfl) rfl (by decide) (Nat.le_of_ble_eq_true rfl) rfl rfl ?_
    refine S_X11_thrown wx ?_
    refine xRet_some ?_
    refine x_iload (dT U_Lc22 29 rfl) rfl ?_
    refine x_icmp_eq (tgt := 1988) (dT U_Lc22 30 rfl) (by decide) (by unfold xr; omega) (by unfold xr; omega) (fun c1983 => ?_) (fun c1983 => (by exfalso; omega))
    refine x_iload (dT U_Lc22 33 rfl) rfl ?_
    refine x_if_nej (tgt := 2005) (dT U_Lc22 34 rfl) (by decide) (by decide) ?_
    refine x_goto (tgt := 5554) (dT U_Lc22 44 rfl) (by decide) ?_
    refine x_drop ?_ (M _ _ _ _ _ _ _ _ v (w.out ag (by omega)) wx (ag.get ho (by omega)) (ag.get hod (by omega)))
    repeat (first | exact trivial | refine ⟨rfl, ?_⟩ | refine ⟨trivial, ?_⟩)
  · refine xRet_some ?_
    have wmx := wm.out (h2 := (h.set 143 (cJ [z9]))) (fun a ha => by rw [hset_fr (by omega)])
    refine x_istore (ls' := [some (.ref _), some (.ref _), some (.ref _), some (.ref _), some (.ref _), some (vi _), some (vi _), none, none]) (dT U_Lc22 13 rfl) (by decide) rfl ?_
    refine x_aload_n (dT U_Lc22 14 rfl) rfl ?_
    refine x_aload_n (dT U_Lc22 15 rfl) rfl ?_
    refine x_iload (dT U_Lc22 16 rfl) rfl ?_
    refine x_iconst (dT U_Lc22 17 rfl) ?_
    refine x_iadd (dT U_Lc22 18 rfl) ?_
    refine x_sld (i + 1) hL (dT U_Lc22 19 rfl) (by omega) (by omega) ?_
    refine x_aload_n (dT U_Lc22 20 rfl) rfl ?_
    refine x_iload (dT U_Lc22 21 rfl) rfl ?_
    refine x_iconst (dT U_Lc22 22 rfl) ?_
    refine x_iadd (dT U_Lc22 23 rfl) ?_
    refine x_sld (i + 2) hL (dT U_Lc22 24 rfl) (by omega) (by omega) ?_
    refine x_invokevirtual (rc' := rc) (rs' := rs) (rc2 := 0) (rs2 := 0) (As := [_, _]) (st := _) M_X11_twin K_L_316 (dT U_Lc22 25 rfl) rfl rfl (by decide) rfl rfl wmx.c70 (Nat.le_of_ble_eq_true rfl) (by decide) rfl (Nat.le_of_ble_eq_true rfl) rfl (by decide) (Nat.le_of_ble_eq_true rfl) rfl rfl ?_
    refine S_X11_twin wmx v (xr_s _) (xr_s _) (fun m1 _ _ _ _ _ => absurd c1 m1) (fun m1 h3 r3 s3 ag wx => ?_)
    refine xRet_some ?_
    rw [ez9]
    refine x_istore (ls' := [some (.ref _), some (.ref _), some (.ref _), some (.ref _), some (.ref _), some (vi _), some (vi _), some (vi _), none]) (dT U_Lc22 26 rfl) (by decide) rfl ?_
    refine x_aload_n (dT U_Lc22 27 rfl) rfl ?_
    refine x_invokevirtual (rc' := rc) (rs' := rs) (rc2 := 0) (rs2 := 0) (As := []) (st := _) M_X11_thrown K_L_242 (dT U_Lc22 28 rfl) rfl rfl (by decide) rfl rfl wx.c70 (Nat.le_of_ble_eq_true rfl) (by decide) rfl (Nat.le_of_ble_eq_true rfl) rfl (by decide) (Nat.le_of_ble_eq_true rfl) rfl rfl ?_
    refine S_X11_thrown wx ?_
    refine xRet_some ?_
    refine x_iload (dT U_Lc22 29 rfl) rfl ?_
    refine x_icmp_eq (tgt := 1988) (dT U_Lc22 30 rfl) (by decide) (by unfold xr; omega) (by unfold xr; omega) (fun c1983 => ?_) (fun c1983 => (by exfalso; omega))
    refine x_iload (dT U_Lc22 33 rfl) rfl ?_
    refine x_if_nen (tgt := 2005) (dT U_Lc22 34 rfl) (by decide) (by decide) ?_
    refine x_aload_n (dT U_Lc22 35 rfl) rfl ?_
    refine x_iconst (dT U_Lc22 36 rfl) ?_
    refine x_laload 0 (dT U_Lc22 37 rfl) (ag.get (hset_eq ho) (by omega)) (Nat.le_of_ble_eq_true rfl) rfl (Nat.le_of_ble_eq_true rfl) (Nat.le_of_ble_eq_true rfl) ?_
    refine x_iload (dT U_Lc22 38 rfl) rfl ?_
    refine x_i2l (dT U_Lc22 39 rfl) hz9 ?_
    refine x_lcmp (dT U_Lc22 40 rfl) (xr_l hz9) (xr_l hz9) ?_
    refine x_if_eqj (tgt := 2005) (dT U_Lc22 41 rfl) (by decide) (xcmp_rf _) ?_
    refine x_goto (tgt := 5554) (dT U_Lc22 44 rfl) (by decide) ?_
    refine x_drop ?_ (M _ _ _ _ _ _ _ _ v ((w.out ((Ag.rf 143 143 h).set (by omega)) (by omega)).out ag (by omega)) wx (ag.get (hset_eq ho) (by omega)) (ag.get (hset_ne (by omega) hod) (by omega)))
    repeat (first | exact trivial | refine ⟨rfl, ?_⟩ | refine ⟨trivial, ?_⟩)

def B_Lc23 : ByteArray := .mk #[0x2b, 0x2a, 0x15, 0x05, 0x04, 0x60, 0x2e, 0x2d, 0xb8, 0x01, 0x3d, 0x36, 0x06, 0x2c, 0x2a, 0x15, 0x05, 0x04, 0x60, 0x2e, 0xb6, 0x01, 0x3f, 0x36, 0x07, 0x2c, 0xb6, 0x00, 0xf2, 0x15, 0x06, 0x9f, 0x00, 0x05, 0x03, 0xac, 0x15, 0x06, 0x9a, 0x00, 0x0f, 0x2d, 0x03, 0x2f, 0x15, 0x07, 0x85, 0x94, 0x99, 0x00, 0x05, 0x03, 0xac, 0xa7, 0x0d, 0xa5]
theorem W_Lc23 : sameFrom m_L_law.2.1 B_Lc23 2008 := sameFrom_of (by decide +kernel)
def t_Lc23 : List (Nat × Instr × Nat) := [(2008, .aload_n 1, 1), (2009, .aload_n 0, 1), (2010, .iload 5, 2), (2012, .iconst 1, 1), (2013, .iadd, 1), (2014, .iaload, 1), (2015, .aload_n 3, 1), (2016, .invokestatic 317, 3), (2019, .istore 6, 2), (2021, .aload_n 2, 1), (2022, .aload_n 0, 1), (2023, .iload 5, 2), (2025, .iconst 1, 1), (2026, .iadd, 1), (2027, .iaload, 1), (2028, .invokevirtual 319, 3), (2031, .istore 7, 2), (2033, .aload_n 2, 1), (2034, .invokevirtual 242, 3), (2037, .iload 6, 2), (2039, .if_icmp .eq 5, 3), (2042, .iconst 0, 1), (2043, .ireturn, 1), (2044, .iload 6, 2), (2046, .ifCond .ne 15, 3), (2049, .aload_n 3, 1), (2050, .iconst 0, 1), (2051, .laload, 1), (2052, .iload 7, 2), (2054, .i2l, 1), (2055, .lcmp, 1), (2056, .ifCond .eq 5, 3), (2059, .iconst 0, 1), (2060, .ireturn, 1), (2061, .goto 3493, 3)]
set_option maxRecDepth 20000 in
theorem U_Lc23 : okT m_L_law.2.1 t_Lc23 = true := dSt [(0, .aload_n 1, 1), (1, .aload_n 0, 1), (2, .iload 5, 2), (4, .iconst 1, 1), (5, .iadd, 1), (6, .iaload, 1), (7, .aload_n 3, 1), (8, .invokestatic 317, 3), (11, .istore 6, 2), (13, .aload_n 2, 1), (14, .aload_n 0, 1), (15, .iload 5, 2), (17, .iconst 1, 1), (18, .iadd, 1), (19, .iaload, 1), (20, .invokevirtual 319, 3), (23, .istore 7, 2), (25, .aload_n 2, 1), (26, .invokevirtual 242, 3), (29, .iload 6, 2), (31, .if_icmp .eq 5, 3), (34, .iconst 0, 1), (35, .ireturn, 1), (36, .iload 6, 2), (38, .ifCond .ne 15, 3), (41, .aload_n 3, 1), (42, .iconst 0, 1), (43, .laload, 1), (44, .iload 7, 2), (46, .i2l, 1), (47, .lcmp, 1), (48, .ifCond .eq 5, 3), (51, .iconst 0, 1), (52, .ireturn, 1), (53, .goto 3493, 3)] W_Lc23 (by decide +kernel) (by decide +kernel)
set_option maxRecDepth 20000 in
set_option maxHeartbeats 1000000 in
theorem LC_23 {G : xG} {d rc rs : Nat} {ex : Bool} {h : xH} {Q : xQ} {σ : St} {c0 : Int} {rr : Nat} {ss : Int} {l0 : Int} {d0 : UInt64} {i : Nat} (hL : G.2.2.2.2.2.1 < 2147483648) (hi : i + 10 ≤ G.2.2.2.2.2.1) (w : CW σ h) (wm : MX σ c0 rr ss h) (v : INV σ) (ho : h[143]? = some (cJ [l0])) (hod : h[144]? = some (cD [d0]))
    (M : ∀ (σ9 : St) (h9 : xH) (e9 : Bool) (c9 : Int) (r9 : Nat) (s9 : Int) (l9 : Int) (d9 : UInt64), INV σ9 → CW σ9 h9 → MX σ9 c9 r9 s9 h9 → h9[143]? = some (cJ [l9]) → h9[144]? = some (cD [d9]) → X G m_L_law (d + 10) rc rs e9 5554 [some (.ref 0), some (.ref 3), some (.ref 70), some (.ref 143), some (.ref 144), some (vi (i : Int)), none, none, none] [] h9 Q) : X G m_L_law (d + 10) (rc + 1) (rs + 6) ex 2008 [some (.ref 0), some (.ref 3), some (.ref 70), some (.ref 143), some (.ref 144), some (vi (i : Int)), none, none, none] [] h Q := by
  refine x_aload_n (dT U_Lc23 0 rfl) rfl ?_
  refine x_aload_n (dT U_Lc23 1 rfl) rfl ?_
  refine x_iload (dT U_Lc23 2 rfl) rfl ?_
  refine x_iconst (dT U_Lc23 3 rfl) ?_
  refine x_iadd (dT U_Lc23 4 rfl) ?_
  refine x_sld (i + 1) hL (dT U_Lc23 5 rfl) (by omega) (by omega) ?_
  refine x_aload_n (dT U_Lc23 6 rfl) rfl ?_
  refine x_invokestaticT (rc' := rc) (rs' := rs) (rc2 := 0 + 1) (rs2 := 0 + 6) (As := [_, _, _]) (st := _) M_L_root K_L_317 (dT U_Lc23 7 rfl) rfl (by decide) rfl rfl (Nat.le_of_ble_eq_true rfl) rfl (by decide) (Nat.le_of_ble_eq_true rfl) (by omega) (by omega) ?_
  refine S_L_root w v (xr_s _) ho (fun c1 => ?_) (fun c1 h2 fc w2 z9 hz9 ez9 => ?_)
  · refine xRet_some ?_
    refine x_istore (ls' := [some (.ref _), some (.ref _), some (.ref _), some (.ref _), some (.ref _), some (vi _), some (vi _), none, none]) (dT U_Lc23 8 rfl) (by decide) rfl ?_
    refine x_aload_n (dT U_Lc23 9 rfl) rfl ?_
    refine x_aload_n (dT U_Lc23 10 rfl) rfl ?_
    refine x_iload (dT U_Lc23 11 rfl) rfl ?_
    refine x_iconst (dT U_Lc23 12 rfl) ?_
    refine x_iadd (dT U_Lc23 13 rfl) ?_
    refine x_sld (i + 1) hL (dT U_Lc23 14 rfl) (by omega) (by omega) ?_
    refine x_invokevirtual (rc' := rc) (rs' := rs) (rc2 := 0) (rs2 := 0) (As := [_]) (st := _) M_X11_root K_L_319 (dT U_Lc23 15 rfl) rfl rfl (by decide) rfl rfl wm.c70 (Nat.le_of_ble_eq_true rfl) (by decide) rfl (Nat.le_of_ble_eq_true rfl) rfl (by decide) (Nat.le_of_ble_eq_true rfl) rfl rfl ?_
    refine S_X11_root wm v (xr_s _) (fun m1 h3 z ag wx xz => ?_) (fun m1 _ _ _ _ _ => absurd m1 c1)
    refine xRet_some ?_
    refine x_istore (ls' := [some (.ref _), some (.ref _), some (.ref _), some (.ref _), some (.ref _), some (vi _), some (vi _), some (vi _), none]) (dT U_Lc23 16 rfl) (by decide) rfl ?_
    refine x_aload_n (dT U_Lc23 17 rfl) rfl ?_
    refine x_invokevirtual (rc' := rc) (rs' := rs) (rc2 := 0) (rs2 := 0) (As := []) (st := _) M_X11_thrown K_L_242 (dT U_Lc23 18 rfl) rfl rfl (by decide) rfl rfl wx.c70 (Nat.le_of_ble_eq_true rfl) (by decide) rfl (Nat.le_of_ble_eq_true rfl) rfl (by decide) (Nat.le_of_ble_eq_true rfl) rfl rfl ?_
    refine S_X11_thrown wx ?_
    refine xRet_some ?_
    refine x_iload (dT U_Lc23 19 rfl) rfl ?_
    refine x_icmp_eq (tgt := 2044) (dT U_Lc23 20 rfl) (by decide) (by unfold xr; omega) (by unfold xr; omega) (fun c2039 => ?_) (fun c2039 => (by exfalso; omega))
    refine x_iload (dT U_Lc23 23 rfl) rfl ?_
    refine x_if_nej (tgt := 2061) (dT U_Lc23 24 rfl) (by decide) (by decide) ?_
    refine x_goto (tgt := 5554) (dT U_Lc23 34 rfl) (by decide) ?_
    refine x_drop ?_ (M _ _ _ _ _ _ _ _ v (w.out ag (by omega)) wx (ag.get ho (by omega)) (ag.get hod (by omega)))
    repeat (first | exact trivial | refine ⟨rfl, ?_⟩ | refine ⟨trivial, ?_⟩)
  · refine xRet_some ?_
    have wmx := wm.out (h2 := (h2.set 143 (cJ [z9]))) (fun a ha => by rw [hset_fr (by omega)]; exact fc.2 a (by omega))
    refine x_istore (ls' := [some (.ref _), some (.ref _), some (.ref _), some (.ref _), some (.ref _), some (vi _), some (vi _), none, none]) (dT U_Lc23 8 rfl) (by decide) rfl ?_
    refine x_aload_n (dT U_Lc23 9 rfl) rfl ?_
    refine x_aload_n (dT U_Lc23 10 rfl) rfl ?_
    refine x_iload (dT U_Lc23 11 rfl) rfl ?_
    refine x_iconst (dT U_Lc23 12 rfl) ?_
    refine x_iadd (dT U_Lc23 13 rfl) ?_
    refine x_sld (i + 1) hL (dT U_Lc23 14 rfl) (by omega) (by omega) ?_
    refine x_invokevirtual (rc' := rc) (rs' := rs) (rc2 := 0) (rs2 := 0) (As := [_]) (st := _) M_X11_root K_L_319 (dT U_Lc23 15 rfl) rfl rfl (by decide) rfl rfl wmx.c70 (Nat.le_of_ble_eq_true rfl) (by decide) rfl (Nat.le_of_ble_eq_true rfl) rfl (by decide) (Nat.le_of_ble_eq_true rfl) rfl rfl ?_
    refine S_X11_root wmx v (xr_s _) (fun m1 _ _ _ _ _ => absurd c1 m1) (fun m1 h3 r3 s3 ag wx => ?_)
    refine xRet_some ?_
    rw [ez9]
    refine x_istore (ls' := [some (.ref _), some (.ref _), some (.ref _), some (.ref _), some (.ref _), some (vi _), some (vi _), some (vi _), none]) (dT U_Lc23 16 rfl) (by decide) rfl ?_
    refine x_aload_n (dT U_Lc23 17 rfl) rfl ?_
    refine x_invokevirtual (rc' := rc) (rs' := rs) (rc2 := 0) (rs2 := 0) (As := []) (st := _) M_X11_thrown K_L_242 (dT U_Lc23 18 rfl) rfl rfl (by decide) rfl rfl wx.c70 (Nat.le_of_ble_eq_true rfl) (by decide) rfl (Nat.le_of_ble_eq_true rfl) rfl (by decide) (Nat.le_of_ble_eq_true rfl) rfl rfl ?_
    refine S_X11_thrown wx ?_
    refine xRet_some ?_
    refine x_iload (dT U_Lc23 19 rfl) rfl ?_
    refine x_icmp_eq (tgt := 2044) (dT U_Lc23 20 rfl) (by decide) (by unfold xr; omega) (by unfold xr; omega) (fun c2039 => ?_) (fun c2039 => (by exfalso; omega))
    refine x_iload (dT U_Lc23 23 rfl) rfl ?_
    refine x_if_nen (tgt := 2061) (dT U_Lc23 24 rfl) (by decide) (by decide) ?_
    refine x_aload_n (dT U_Lc23 25 rfl) rfl ?_
    refine x_iconst (dT U_Lc23 26 rfl) ?_
    refine x_laload 0 (dT U_Lc23 27 rfl) (ag.get (hset_eq (fc.get ho (by omega))) (by omega)) (Nat.le_of_ble_eq_true rfl) rfl (Nat.le_of_ble_eq_true rfl) (Nat.le_of_ble_eq_true rfl) ?_
    refine x_iload (dT U_Lc23 28 rfl) rfl ?_
    refine x_i2l (dT U_Lc23 29 rfl) hz9 ?_
    refine x_lcmp (dT U_Lc23 30 rfl) (xr_l hz9) (xr_l hz9) ?_
    refine x_if_eqj (tgt := 2061) (dT U_Lc23 31 rfl) (by decide) (xcmp_rf _) ?_
    refine x_goto (tgt := 5554) (dT U_Lc23 34 rfl) (by decide) ?_
    refine x_drop ?_ (M _ _ _ _ _ _ _ _ v ((w2.out ((Ag.rf 143 143 h2).set (by omega)) (by omega)).out ag (by omega)) wx (ag.get (hset_eq (fc.get ho (by omega))) (by omega)) (ag.get (hset_ne (by omega) (fc.get hod (by omega))) (by omega)))
    repeat (first | exact trivial | refine ⟨rfl, ?_⟩ | refine ⟨trivial, ?_⟩)

def B_Lc24 : ByteArray := .mk #[0x2b, 0x2a, 0x15, 0x05, 0x04, 0x60, 0x2e, 0x2a, 0x15, 0x05, 0x05, 0x60, 0x2e, 0x2a, 0x15, 0x05, 0x06, 0x60, 0x2e, 0x2d, 0xb8, 0x01, 0x40, 0x36, 0x06, 0x2c, 0x2a, 0x15, 0x05, 0x04, 0x60, 0x2e, 0x2a, 0x15, 0x05, 0x05, 0x60, 0x2e, 0x2a, 0x15, 0x05, 0x06, 0x60, 0x2e, 0xb6, 0x01, 0x42, 0x36, 0x07, 0x2c, 0xb6, 0x00, 0xf2, 0x15, 0x06, 0x9f, 0x00, 0x05, 0x03, 0xac, 0x15, 0x06, 0x9a, 0x00, 0x0f, 0x2d, 0x03, 0x2f, 0x15, 0x07, 0x85, 0x94, 0x99, 0x00, 0x05, 0x03, 0xac, 0xa7, 0x0d, 0x55]
theorem W_Lc24 : sameFrom m_L_law.2.1 B_Lc24 2064 := sameFrom_of (by decide +kernel)
def t_Lc24 : List (Nat × Instr × Nat) := [(2064, .aload_n 1, 1), (2065, .aload_n 0, 1), (2066, .iload 5, 2), (2068, .iconst 1, 1), (2069, .iadd, 1), (2070, .iaload, 1), (2071, .aload_n 0, 1), (2072, .iload 5, 2), (2074, .iconst 2, 1), (2075, .iadd, 1), (2076, .iaload, 1), (2077, .aload_n 0, 1), (2078, .iload 5, 2), (2080, .iconst 3, 1), (2081, .iadd, 1), (2082, .iaload, 1), (2083, .aload_n 3, 1), (2084, .invokestatic 320, 3), (2087, .istore 6, 2), (2089, .aload_n 2, 1), (2090, .aload_n 0, 1), (2091, .iload 5, 2), (2093, .iconst 1, 1), (2094, .iadd, 1), (2095, .iaload, 1), (2096, .aload_n 0, 1), (2097, .iload 5, 2), (2099, .iconst 2, 1), (2100, .iadd, 1), (2101, .iaload, 1), (2102, .aload_n 0, 1), (2103, .iload 5, 2), (2105, .iconst 3, 1), (2106, .iadd, 1), (2107, .iaload, 1), (2108, .invokevirtual 322, 3), (2111, .istore 7, 2), (2113, .aload_n 2, 1), (2114, .invokevirtual 242, 3), (2117, .iload 6, 2), (2119, .if_icmp .eq 5, 3), (2122, .iconst 0, 1), (2123, .ireturn, 1), (2124, .iload 6, 2), (2126, .ifCond .ne 15, 3), (2129, .aload_n 3, 1), (2130, .iconst 0, 1), (2131, .laload, 1), (2132, .iload 7, 2), (2134, .i2l, 1), (2135, .lcmp, 1), (2136, .ifCond .eq 5, 3), (2139, .iconst 0, 1), (2140, .ireturn, 1), (2141, .goto 3413, 3)]
set_option maxRecDepth 20000 in
theorem U_Lc24 : okT m_L_law.2.1 t_Lc24 = true := dSt [(0, .aload_n 1, 1), (1, .aload_n 0, 1), (2, .iload 5, 2), (4, .iconst 1, 1), (5, .iadd, 1), (6, .iaload, 1), (7, .aload_n 0, 1), (8, .iload 5, 2), (10, .iconst 2, 1), (11, .iadd, 1), (12, .iaload, 1), (13, .aload_n 0, 1), (14, .iload 5, 2), (16, .iconst 3, 1), (17, .iadd, 1), (18, .iaload, 1), (19, .aload_n 3, 1), (20, .invokestatic 320, 3), (23, .istore 6, 2), (25, .aload_n 2, 1), (26, .aload_n 0, 1), (27, .iload 5, 2), (29, .iconst 1, 1), (30, .iadd, 1), (31, .iaload, 1), (32, .aload_n 0, 1), (33, .iload 5, 2), (35, .iconst 2, 1), (36, .iadd, 1), (37, .iaload, 1), (38, .aload_n 0, 1), (39, .iload 5, 2), (41, .iconst 3, 1), (42, .iadd, 1), (43, .iaload, 1), (44, .invokevirtual 322, 3), (47, .istore 7, 2), (49, .aload_n 2, 1), (50, .invokevirtual 242, 3), (53, .iload 6, 2), (55, .if_icmp .eq 5, 3), (58, .iconst 0, 1), (59, .ireturn, 1), (60, .iload 6, 2), (62, .ifCond .ne 15, 3), (65, .aload_n 3, 1), (66, .iconst 0, 1), (67, .laload, 1), (68, .iload 7, 2), (70, .i2l, 1), (71, .lcmp, 1), (72, .ifCond .eq 5, 3), (75, .iconst 0, 1), (76, .ireturn, 1), (77, .goto 3413, 3)] W_Lc24 (by decide +kernel) (by decide +kernel)
set_option maxRecDepth 20000 in
set_option maxHeartbeats 1000000 in
theorem LC_24 {G : xG} {d rc rs : Nat} {ex : Bool} {h : xH} {Q : xQ} {σ : St} {c0 : Int} {rr : Nat} {ss : Int} {l0 : Int} {d0 : UInt64} {i : Nat} (hL : G.2.2.2.2.2.1 < 2147483648) (hi : i + 10 ≤ G.2.2.2.2.2.1) (w : CW σ h) (wm : MX σ c0 rr ss h) (v : INV σ) (ho : h[143]? = some (cJ [l0])) (hod : h[144]? = some (cD [d0]))
    (M : ∀ (σ9 : St) (h9 : xH) (e9 : Bool) (c9 : Int) (r9 : Nat) (s9 : Int) (l9 : Int) (d9 : UInt64), INV σ9 → CW σ9 h9 → MX σ9 c9 r9 s9 h9 → h9[143]? = some (cJ [l9]) → h9[144]? = some (cD [d9]) → X G m_L_law (d + 10) rc rs e9 5554 [some (.ref 0), some (.ref 3), some (.ref 70), some (.ref 143), some (.ref 144), some (vi (i : Int)), none, none, none] [] h9 Q) : X G m_L_law (d + 10) (rc + 3) (rs + 18) ex 2064 [some (.ref 0), some (.ref 3), some (.ref 70), some (.ref 143), some (.ref 144), some (vi (i : Int)), none, none, none] [] h Q := by
  refine x_aload_n (dT U_Lc24 0 rfl) rfl ?_
  refine x_aload_n (dT U_Lc24 1 rfl) rfl ?_
  refine x_iload (dT U_Lc24 2 rfl) rfl ?_
  refine x_iconst (dT U_Lc24 3 rfl) ?_
  refine x_iadd (dT U_Lc24 4 rfl) ?_
  refine x_sld (i + 1) hL (dT U_Lc24 5 rfl) (by omega) (by omega) ?_
  refine x_aload_n (dT U_Lc24 6 rfl) rfl ?_
  refine x_iload (dT U_Lc24 7 rfl) rfl ?_
  refine x_iconst (dT U_Lc24 8 rfl) ?_
  refine x_iadd (dT U_Lc24 9 rfl) ?_
  refine x_sld (i + 2) hL (dT U_Lc24 10 rfl) (by omega) (by omega) ?_
  refine x_aload_n (dT U_Lc24 11 rfl) rfl ?_
  refine x_iload (dT U_Lc24 12 rfl) rfl ?_
  refine x_iconst (dT U_Lc24 13 rfl) ?_
  refine x_iadd (dT U_Lc24 14 rfl) ?_
  refine x_sld (i + 3) hL (dT U_Lc24 15 rfl) (by omega) (by omega) ?_
  refine x_aload_n (dT U_Lc24 16 rfl) rfl ?_
  refine x_invokestaticT (rc' := rc) (rs' := rs) (rc2 := 0 + 3) (rs2 := 0 + 18) (As := [_, _, _, _, _]) (st := _) M_L_beside K_L_320 (dT U_Lc24 17 rfl) rfl (by decide) rfl rfl (Nat.le_of_ble_eq_true rfl) rfl (by decide) (Nat.le_of_ble_eq_true rfl) (by omega) (by omega) ?_
  refine S_L_beside w v (xr_s _) (xr_s _) (xr_s _) ho (fun c1 => ?_) (fun c1 h2 fc w2 z9 hz9 ez9 => ?_)
  · refine xRet_some ?_
    refine x_istore (ls' := [some (.ref _), some (.ref _), some (.ref _), some (.ref _), some (.ref _), some (vi _), some (vi _), none, none]) (dT U_Lc24 18 rfl) (by decide) rfl ?_
    refine x_aload_n (dT U_Lc24 19 rfl) rfl ?_
    refine x_aload_n (dT U_Lc24 20 rfl) rfl ?_
    refine x_iload (dT U_Lc24 21 rfl) rfl ?_
    refine x_iconst (dT U_Lc24 22 rfl) ?_
    refine x_iadd (dT U_Lc24 23 rfl) ?_
    refine x_sld (i + 1) hL (dT U_Lc24 24 rfl) (by omega) (by omega) ?_
    refine x_aload_n (dT U_Lc24 25 rfl) rfl ?_
    refine x_iload (dT U_Lc24 26 rfl) rfl ?_
    refine x_iconst (dT U_Lc24 27 rfl) ?_
    refine x_iadd (dT U_Lc24 28 rfl) ?_
    refine x_sld (i + 2) hL (dT U_Lc24 29 rfl) (by omega) (by omega) ?_
    refine x_aload_n (dT U_Lc24 30 rfl) rfl ?_
    refine x_iload (dT U_Lc24 31 rfl) rfl ?_
    refine x_iconst (dT U_Lc24 32 rfl) ?_
    refine x_iadd (dT U_Lc24 33 rfl) ?_
    refine x_sld (i + 3) hL (dT U_Lc24 34 rfl) (by omega) (by omega) ?_
    refine x_invokevirtual (rc' := rc) (rs' := rs) (rc2 := 0) (rs2 := 0) (As := [_, _, _]) (st := _) M_X11_beside K_L_322 (dT U_Lc24 35 rfl) rfl rfl (by decide) rfl rfl wm.c70 (Nat.le_of_ble_eq_true rfl) (by decide) rfl (Nat.le_of_ble_eq_true rfl) rfl (by decide) (Nat.le_of_ble_eq_true rfl) rfl rfl ?_
    refine S_X11_beside wm v (xr_s _) (xr_s _) (xr_s _) (fun m1 h3 z ag wx xz => ?_) (fun m1 _ _ _ _ _ => absurd m1 c1)
    refine xRet_some ?_
    refine x_istore (ls' := [some (.ref _), some (.ref _), some (.ref _), some (.ref _), some (.ref _), some (vi _), some (vi _), some (vi _), none]) (dT U_Lc24 36 rfl) (by decide) rfl ?_
    refine x_aload_n (dT U_Lc24 37 rfl) rfl ?_
    refine x_invokevirtual (rc' := rc) (rs' := rs) (rc2 := 0) (rs2 := 0) (As := []) (st := _) M_X11_thrown K_L_242 (dT U_Lc24 38 rfl) rfl rfl (by decide) rfl rfl wx.c70 (Nat.le_of_ble_eq_true rfl) (by decide) rfl (Nat.le_of_ble_eq_true rfl) rfl (by decide) (Nat.le_of_ble_eq_true rfl) rfl rfl ?_
    refine S_X11_thrown wx ?_
    refine xRet_some ?_
    refine x_iload (dT U_Lc24 39 rfl) rfl ?_
    refine x_icmp_eq (tgt := 2124) (dT U_Lc24 40 rfl) (by decide) (by unfold xr; omega) (by unfold xr; omega) (fun c2119 => ?_) (fun c2119 => (by exfalso; omega))
    refine x_iload (dT U_Lc24 43 rfl) rfl ?_
    refine x_if_nej (tgt := 2141) (dT U_Lc24 44 rfl) (by decide) (by decide) ?_
    refine x_goto (tgt := 5554) (dT U_Lc24 54 rfl) (by decide) ?_
    refine x_drop ?_ (M _ _ _ _ _ _ _ _ v (w.out ag (by omega)) wx (ag.get ho (by omega)) (ag.get hod (by omega)))
    repeat (first | exact trivial | refine ⟨rfl, ?_⟩ | refine ⟨trivial, ?_⟩)
  · refine xRet_some ?_
    have wmx := wm.out (h2 := (h2.set 143 (cJ [z9]))) (fun a ha => by rw [hset_fr (by omega)]; exact fc.2 a (by omega))
    refine x_istore (ls' := [some (.ref _), some (.ref _), some (.ref _), some (.ref _), some (.ref _), some (vi _), some (vi _), none, none]) (dT U_Lc24 18 rfl) (by decide) rfl ?_
    refine x_aload_n (dT U_Lc24 19 rfl) rfl ?_
    refine x_aload_n (dT U_Lc24 20 rfl) rfl ?_
    refine x_iload (dT U_Lc24 21 rfl) rfl ?_
    refine x_iconst (dT U_Lc24 22 rfl) ?_
    refine x_iadd (dT U_Lc24 23 rfl) ?_
    refine x_sld (i + 1) hL (dT U_Lc24 24 rfl) (by omega) (by omega) ?_
    refine x_aload_n (dT U_Lc24 25 rfl) rfl ?_
    refine x_iload (dT U_Lc24 26 rfl) rfl ?_
    refine x_iconst (dT U_Lc24 27 rfl) ?_
    refine x_iadd (dT U_Lc24 28 rfl) ?_
    refine x_sld (i + 2) hL (dT U_Lc24 29 rfl) (by omega) (by omega) ?_
    refine x_aload_n (dT U_Lc24 30 rfl) rfl ?_
    refine x_iload (dT U_Lc24 31 rfl) rfl ?_
    refine x_iconst (dT U_Lc24 32 rfl) ?_
    refine x_iadd (dT U_Lc24 33 rfl) ?_
    refine x_sld (i + 3) hL (dT U_Lc24 34 rfl) (by omega) (by omega) ?_
    refine x_invokevirtual (rc' := rc) (rs' := rs) (rc2 := 0) (rs2 := 0) (As := [_, _, _]) (st := _) M_X11_beside K_L_322 (dT U_Lc24 35 rfl) rfl rfl (by decide) rfl rfl wmx.c70 (Nat.le_of_ble_eq_true rfl) (by decide) rfl (Nat.le_of_ble_eq_true rfl) rfl (by decide) (Nat.le_of_ble_eq_true rfl) rfl rfl ?_
    refine S_X11_beside wmx v (xr_s _) (xr_s _) (xr_s _) (fun m1 _ _ _ _ _ => absurd c1 m1) (fun m1 h3 r3 s3 ag wx => ?_)
    refine xRet_some ?_
    rw [ez9]
    refine x_istore (ls' := [some (.ref _), some (.ref _), some (.ref _), some (.ref _), some (.ref _), some (vi _), some (vi _), some (vi _), none]) (dT U_Lc24 36 rfl) (by decide) rfl ?_
    refine x_aload_n (dT U_Lc24 37 rfl) rfl ?_
    refine x_invokevirtual (rc' := rc) (rs' := rs) (rc2 := 0) (rs2 := 0) (As := []) (st := _) M_X11_thrown K_L_242 (dT U_Lc24 38 rfl) rfl rfl (by decide) rfl rfl wx.c70 (Nat.le_of_ble_eq_true rfl) (by decide) rfl (Nat.le_of_ble_eq_true rfl) rfl (by decide) (Nat.le_of_ble_eq_true rfl) rfl rfl ?_
    refine S_X11_thrown wx ?_
    refine xRet_some ?_
    refine x_iload (dT U_Lc24 39 rfl) rfl ?_
    refine x_icmp_eq (tgt := 2124) (dT U_Lc24 40 rfl) (by decide) (by unfold xr; omega) (by unfold xr; omega) (fun c2119 => ?_) (fun c2119 => (by exfalso; omega))
    refine x_iload (dT U_Lc24 43 rfl) rfl ?_
    refine x_if_nen (tgt := 2141) (dT U_Lc24 44 rfl) (by decide) (by decide) ?_
    refine x_aload_n (dT U_Lc24 45 rfl) rfl ?_
    refine x_iconst (dT U_Lc24 46 rfl) ?_
    refine x_laload 0 (dT U_Lc24 47 rfl) (ag.get (hset_eq (fc.get ho (by omega))) (by omega)) (Nat.le_of_ble_eq_true rfl) rfl (Nat.le_of_ble_eq_true rfl) (Nat.le_of_ble_eq_true rfl) ?_
    refine x_iload (dT U_Lc24 48 rfl) rfl ?_
    refine x_i2l (dT U_Lc24 49 rfl) hz9 ?_
    refine x_lcmp (dT U_Lc24 50 rfl) (xr_l hz9) (xr_l hz9) ?_
    refine x_if_eqj (tgt := 2141) (dT U_Lc24 51 rfl) (by decide) (xcmp_rf _) ?_
    refine x_goto (tgt := 5554) (dT U_Lc24 54 rfl) (by decide) ?_
    refine x_drop ?_ (M _ _ _ _ _ _ _ _ v ((w2.out ((Ag.rf 143 143 h2).set (by omega)) (by omega)).out ag (by omega)) wx (ag.get (hset_eq (fc.get ho (by omega))) (by omega)) (ag.get (hset_ne (by omega) (fc.get hod (by omega))) (by omega)))
    repeat (first | exact trivial | refine ⟨rfl, ?_⟩ | refine ⟨trivial, ?_⟩)

def B_Lc25 : ByteArray := .mk #[0x2b, 0x2a, 0x15, 0x05, 0x04, 0x60, 0x2e, 0x2a, 0x15, 0x05, 0x05, 0x60, 0x2e, 0x2a, 0x15, 0x05, 0x06, 0x60, 0x2e, 0x2a, 0x15, 0x05, 0x07, 0x60, 0x2e, 0x2a, 0x15, 0x05, 0x08, 0x60, 0x2e, 0x2d, 0xb8, 0x01, 0x43, 0x36, 0x06, 0x2c, 0x2a, 0x15, 0x05, 0x04, 0x60, 0x2e, 0x2a, 0x15, 0x05, 0x05, 0x60, 0x2e, 0x2a, 0x15, 0x05, 0x06, 0x60, 0x2e, 0x2a, 0x15, 0x05, 0x07, 0x60, 0x2e, 0x2a, 0x15, 0x05, 0x08, 0x60, 0x2e, 0xb6, 0x01, 0x46, 0x36, 0x07, 0x2c, 0xb6, 0x00, 0xf2, 0x15, 0x06, 0x9f, 0x00, 0x05, 0x03, 0xac, 0x15, 0x06, 0x9a, 0x00, 0x0f, 0x2d, 0x03, 0x2f, 0x15, 0x07, 0x85, 0x94, 0x99, 0x00, 0x05, 0x03, 0xac, 0xa7, 0x0c, 0xed]
theorem W_Lc25 : sameFrom m_L_law.2.1 B_Lc25 2144 := sameFrom_of (by decide +kernel)
def t_Lc25 : List (Nat × Instr × Nat) := [(2144, .aload_n 1, 1), (2145, .aload_n 0, 1), (2146, .iload 5, 2), (2148, .iconst 1, 1), (2149, .iadd, 1), (2150, .iaload, 1), (2151, .aload_n 0, 1), (2152, .iload 5, 2), (2154, .iconst 2, 1), (2155, .iadd, 1), (2156, .iaload, 1), (2157, .aload_n 0, 1), (2158, .iload 5, 2), (2160, .iconst 3, 1), (2161, .iadd, 1), (2162, .iaload, 1), (2163, .aload_n 0, 1), (2164, .iload 5, 2), (2166, .iconst 4, 1), (2167, .iadd, 1), (2168, .iaload, 1), (2169, .aload_n 0, 1), (2170, .iload 5, 2), (2172, .iconst 5, 1), (2173, .iadd, 1), (2174, .iaload, 1), (2175, .aload_n 3, 1), (2176, .invokestatic 323, 3), (2179, .istore 6, 2), (2181, .aload_n 2, 1), (2182, .aload_n 0, 1), (2183, .iload 5, 2), (2185, .iconst 1, 1), (2186, .iadd, 1), (2187, .iaload, 1), (2188, .aload_n 0, 1), (2189, .iload 5, 2), (2191, .iconst 2, 1), (2192, .iadd, 1), (2193, .iaload, 1), (2194, .aload_n 0, 1), (2195, .iload 5, 2), (2197, .iconst 3, 1), (2198, .iadd, 1), (2199, .iaload, 1), (2200, .aload_n 0, 1), (2201, .iload 5, 2), (2203, .iconst 4, 1), (2204, .iadd, 1), (2205, .iaload, 1), (2206, .aload_n 0, 1), (2207, .iload 5, 2), (2209, .iconst 5, 1), (2210, .iadd, 1), (2211, .iaload, 1), (2212, .invokevirtual 326, 3), (2215, .istore 7, 2), (2217, .aload_n 2, 1), (2218, .invokevirtual 242, 3), (2221, .iload 6, 2), (2223, .if_icmp .eq 5, 3), (2226, .iconst 0, 1), (2227, .ireturn, 1), (2228, .iload 6, 2), (2230, .ifCond .ne 15, 3), (2233, .aload_n 3, 1), (2234, .iconst 0, 1), (2235, .laload, 1), (2236, .iload 7, 2), (2238, .i2l, 1), (2239, .lcmp, 1), (2240, .ifCond .eq 5, 3), (2243, .iconst 0, 1), (2244, .ireturn, 1), (2245, .goto 3309, 3)]
set_option maxRecDepth 20000 in
theorem U_Lc25 : okT m_L_law.2.1 t_Lc25 = true := dSt [(0, .aload_n 1, 1), (1, .aload_n 0, 1), (2, .iload 5, 2), (4, .iconst 1, 1), (5, .iadd, 1), (6, .iaload, 1), (7, .aload_n 0, 1), (8, .iload 5, 2), (10, .iconst 2, 1), (11, .iadd, 1), (12, .iaload, 1), (13, .aload_n 0, 1), (14, .iload 5, 2), (16, .iconst 3, 1), (17, .iadd, 1), (18, .iaload, 1), (19, .aload_n 0, 1), (20, .iload 5, 2), (22, .iconst 4, 1), (23, .iadd, 1), (24, .iaload, 1), (25, .aload_n 0, 1), (26, .iload 5, 2), (28, .iconst 5, 1), (29, .iadd, 1), (30, .iaload, 1), (31, .aload_n 3, 1), (32, .invokestatic 323, 3), (35, .istore 6, 2), (37, .aload_n 2, 1), (38, .aload_n 0, 1), (39, .iload 5, 2), (41, .iconst 1, 1), (42, .iadd, 1), (43, .iaload, 1), (44, .aload_n 0, 1), (45, .iload 5, 2), (47, .iconst 2, 1), (48, .iadd, 1), (49, .iaload, 1), (50, .aload_n 0, 1), (51, .iload 5, 2), (53, .iconst 3, 1), (54, .iadd, 1), (55, .iaload, 1), (56, .aload_n 0, 1), (57, .iload 5, 2), (59, .iconst 4, 1), (60, .iadd, 1), (61, .iaload, 1), (62, .aload_n 0, 1), (63, .iload 5, 2), (65, .iconst 5, 1), (66, .iadd, 1), (67, .iaload, 1), (68, .invokevirtual 326, 3), (71, .istore 7, 2), (73, .aload_n 2, 1), (74, .invokevirtual 242, 3), (77, .iload 6, 2), (79, .if_icmp .eq 5, 3), (82, .iconst 0, 1), (83, .ireturn, 1), (84, .iload 6, 2), (86, .ifCond .ne 15, 3), (89, .aload_n 3, 1), (90, .iconst 0, 1), (91, .laload, 1), (92, .iload 7, 2), (94, .i2l, 1), (95, .lcmp, 1), (96, .ifCond .eq 5, 3), (99, .iconst 0, 1), (100, .ireturn, 1), (101, .goto 3309, 3)] W_Lc25 (by decide +kernel) (by decide +kernel)
set_option maxRecDepth 20000 in
set_option maxHeartbeats 1000000 in
theorem LC_25 {G : xG} {d rc rs : Nat} {ex : Bool} {h : xH} {Q : xQ} {σ : St} {c0 : Int} {rr : Nat} {ss : Int} {l0 : Int} {d0 : UInt64} {i : Nat} (hL : G.2.2.2.2.2.1 < 2147483648) (hi : i + 10 ≤ G.2.2.2.2.2.1) (w : CW σ h) (wm : MX σ c0 rr ss h) (v : INV σ) (ho : h[143]? = some (cJ [l0])) (hod : h[144]? = some (cD [d0]))
    (M : ∀ (σ9 : St) (h9 : xH) (e9 : Bool) (c9 : Int) (r9 : Nat) (s9 : Int) (l9 : Int) (d9 : UInt64), INV σ9 → CW σ9 h9 → MX σ9 c9 r9 s9 h9 → h9[143]? = some (cJ [l9]) → h9[144]? = some (cD [d9]) → X G m_L_law (d + 10) rc rs e9 5554 [some (.ref 0), some (.ref 3), some (.ref 70), some (.ref 143), some (.ref 144), some (vi (i : Int)), none, none, none] [] h9 Q) : X G m_L_law (d + 10) (rc + 5) (rs + 30) ex 2144 [some (.ref 0), some (.ref 3), some (.ref 70), some (.ref 143), some (.ref 144), some (vi (i : Int)), none, none, none] [] h Q := by
  refine x_aload_n (dT U_Lc25 0 rfl) rfl ?_
  refine x_aload_n (dT U_Lc25 1 rfl) rfl ?_
  refine x_iload (dT U_Lc25 2 rfl) rfl ?_
  refine x_iconst (dT U_Lc25 3 rfl) ?_
  refine x_iadd (dT U_Lc25 4 rfl) ?_
  refine x_sld (i + 1) hL (dT U_Lc25 5 rfl) (by omega) (by omega) ?_
  refine x_aload_n (dT U_Lc25 6 rfl) rfl ?_
  refine x_iload (dT U_Lc25 7 rfl) rfl ?_
  refine x_iconst (dT U_Lc25 8 rfl) ?_
  refine x_iadd (dT U_Lc25 9 rfl) ?_
  refine x_sld (i + 2) hL (dT U_Lc25 10 rfl) (by omega) (by omega) ?_
  refine x_aload_n (dT U_Lc25 11 rfl) rfl ?_
  refine x_iload (dT U_Lc25 12 rfl) rfl ?_
  refine x_iconst (dT U_Lc25 13 rfl) ?_
  refine x_iadd (dT U_Lc25 14 rfl) ?_
  refine x_sld (i + 3) hL (dT U_Lc25 15 rfl) (by omega) (by omega) ?_
  refine x_aload_n (dT U_Lc25 16 rfl) rfl ?_
  refine x_iload (dT U_Lc25 17 rfl) rfl ?_
  refine x_iconst (dT U_Lc25 18 rfl) ?_
  refine x_iadd (dT U_Lc25 19 rfl) ?_
  refine x_sld (i + 4) hL (dT U_Lc25 20 rfl) (by omega) (by omega) ?_
  refine x_aload_n (dT U_Lc25 21 rfl) rfl ?_
  refine x_iload (dT U_Lc25 22 rfl) rfl ?_
  refine x_iconst (dT U_Lc25 23 rfl) ?_
  refine x_iadd (dT U_Lc25 24 rfl) ?_
  refine x_sld (i + 5) hL (dT U_Lc25 25 rfl) (by omega) (by omega) ?_
  refine x_aload_n (dT U_Lc25 26 rfl) rfl ?_
  refine x_invokestaticT (rc' := rc) (rs' := rs) (rc2 := 0 + 5) (rs2 := 0 + 30) (As := [_, _, _, _, _, _, _]) (st := _) M_L_climb K_L_323 (dT U_Lc25 27 rfl) rfl (by decide) rfl rfl (Nat.le_of_ble_eq_true rfl) rfl (by decide) (Nat.le_of_ble_eq_true rfl) (by omega) (by omega) ?_
  refine S_L_climb w v (xr_s _) (xr_s _) (xr_s _) (xr_s _) (xr_s _) ho (fun c1 => ?_) (fun c1 c2 => ?_) (fun c1 c2 h2 fc w2 z9 hz9 ez9 => ?_)
  · refine xRet_some ?_
    refine x_istore (ls' := [some (.ref _), some (.ref _), some (.ref _), some (.ref _), some (.ref _), some (vi _), some (vi _), none, none]) (dT U_Lc25 28 rfl) (by decide) rfl ?_
    refine x_aload_n (dT U_Lc25 29 rfl) rfl ?_
    refine x_aload_n (dT U_Lc25 30 rfl) rfl ?_
    refine x_iload (dT U_Lc25 31 rfl) rfl ?_
    refine x_iconst (dT U_Lc25 32 rfl) ?_
    refine x_iadd (dT U_Lc25 33 rfl) ?_
    refine x_sld (i + 1) hL (dT U_Lc25 34 rfl) (by omega) (by omega) ?_
    refine x_aload_n (dT U_Lc25 35 rfl) rfl ?_
    refine x_iload (dT U_Lc25 36 rfl) rfl ?_
    refine x_iconst (dT U_Lc25 37 rfl) ?_
    refine x_iadd (dT U_Lc25 38 rfl) ?_
    refine x_sld (i + 2) hL (dT U_Lc25 39 rfl) (by omega) (by omega) ?_
    refine x_aload_n (dT U_Lc25 40 rfl) rfl ?_
    refine x_iload (dT U_Lc25 41 rfl) rfl ?_
    refine x_iconst (dT U_Lc25 42 rfl) ?_
    refine x_iadd (dT U_Lc25 43 rfl) ?_
    refine x_sld (i + 3) hL (dT U_Lc25 44 rfl) (by omega) (by omega) ?_
    refine x_aload_n (dT U_Lc25 45 rfl) rfl ?_
    refine x_iload (dT U_Lc25 46 rfl) rfl ?_
    refine x_iconst (dT U_Lc25 47 rfl) ?_
    refine x_iadd (dT U_Lc25 48 rfl) ?_
    refine x_sld (i + 4) hL (dT U_Lc25 49 rfl) (by omega) (by omega) ?_
    refine x_aload_n (dT U_Lc25 50 rfl) rfl ?_
    refine x_iload (dT U_Lc25 51 rfl) rfl ?_
    refine x_iconst (dT U_Lc25 52 rfl) ?_
    refine x_iadd (dT U_Lc25 53 rfl) ?_
    refine x_sld (i + 5) hL (dT U_Lc25 54 rfl) (by omega) (by omega) ?_
    refine x_invokevirtual (rc' := rc) (rs' := rs) (rc2 := 0) (rs2 := 0) (As := [_, _, _, _, _]) (st := _) M_X11_climb K_L_326 (dT U_Lc25 55 rfl) rfl rfl (by decide) rfl rfl wm.c70 (Nat.le_of_ble_eq_true rfl) (by decide) rfl (Nat.le_of_ble_eq_true rfl) rfl (by decide) (Nat.le_of_ble_eq_true rfl) rfl rfl ?_
    refine S_X11_climb wm v (xr_s _) (xr_s _) (xr_s _) (xr_s _) (xr_s _) (fun m1 h3 z ag wx xz => ?_) (fun m1 m2 _ _ _ _ _ => absurd m1 c1) (fun m1 m2 _ _ _ _ _ => absurd m1 c1)
    refine xRet_some ?_
    refine x_istore (ls' := [some (.ref _), some (.ref _), some (.ref _), some (.ref _), some (.ref _), some (vi _), some (vi _), some (vi _), none]) (dT U_Lc25 56 rfl) (by decide) rfl ?_
    refine x_aload_n (dT U_Lc25 57 rfl) rfl ?_
    refine x_invokevirtual (rc' := rc) (rs' := rs) (rc2 := 0) (rs2 := 0) (As := []) (st := _) M_X11_thrown K_L_242 (dT U_Lc25 58 rfl) rfl rfl (by decide) rfl rfl wx.c70 (Nat.le_of_ble_eq_true rfl) (by decide) rfl (Nat.le_of_ble_eq_true rfl) rfl (by decide) (Nat.le_of_ble_eq_true rfl) rfl rfl ?_
    refine S_X11_thrown wx ?_
    refine xRet_some ?_
    refine x_iload (dT U_Lc25 59 rfl) rfl ?_
    refine x_icmp_eq (tgt := 2228) (dT U_Lc25 60 rfl) (by decide) (by unfold xr; omega) (by unfold xr; omega) (fun c2223 => ?_) (fun c2223 => (by exfalso; omega))
    refine x_iload (dT U_Lc25 63 rfl) rfl ?_
    refine x_if_nej (tgt := 2245) (dT U_Lc25 64 rfl) (by decide) (by decide) ?_
    refine x_goto (tgt := 5554) (dT U_Lc25 74 rfl) (by decide) ?_
    refine x_drop ?_ (M _ _ _ _ _ _ _ _ v (w.out ag (by omega)) wx (ag.get ho (by omega)) (ag.get hod (by omega)))
    repeat (first | exact trivial | refine ⟨rfl, ?_⟩ | refine ⟨trivial, ?_⟩)
  · refine xRet_some ?_
    refine x_istore (ls' := [some (.ref _), some (.ref _), some (.ref _), some (.ref _), some (.ref _), some (vi _), some (vi _), none, none]) (dT U_Lc25 28 rfl) (by decide) rfl ?_
    refine x_aload_n (dT U_Lc25 29 rfl) rfl ?_
    refine x_aload_n (dT U_Lc25 30 rfl) rfl ?_
    refine x_iload (dT U_Lc25 31 rfl) rfl ?_
    refine x_iconst (dT U_Lc25 32 rfl) ?_
    refine x_iadd (dT U_Lc25 33 rfl) ?_
    refine x_sld (i + 1) hL (dT U_Lc25 34 rfl) (by omega) (by omega) ?_
    refine x_aload_n (dT U_Lc25 35 rfl) rfl ?_
    refine x_iload (dT U_Lc25 36 rfl) rfl ?_
    refine x_iconst (dT U_Lc25 37 rfl) ?_
    refine x_iadd (dT U_Lc25 38 rfl) ?_
    refine x_sld (i + 2) hL (dT U_Lc25 39 rfl) (by omega) (by omega) ?_
    refine x_aload_n (dT U_Lc25 40 rfl) rfl ?_
    refine x_iload (dT U_Lc25 41 rfl) rfl ?_
    refine x_iconst (dT U_Lc25 42 rfl) ?_
    refine x_iadd (dT U_Lc25 43 rfl) ?_
    refine x_sld (i + 3) hL (dT U_Lc25 44 rfl) (by omega) (by omega) ?_
    refine x_aload_n (dT U_Lc25 45 rfl) rfl ?_
    refine x_iload (dT U_Lc25 46 rfl) rfl ?_
    refine x_iconst (dT U_Lc25 47 rfl) ?_
    refine x_iadd (dT U_Lc25 48 rfl) ?_
    refine x_sld (i + 4) hL (dT U_Lc25 49 rfl) (by omega) (by omega) ?_
    refine x_aload_n (dT U_Lc25 50 rfl) rfl ?_
    refine x_iload (dT U_Lc25 51 rfl) rfl ?_
    refine x_iconst (dT U_Lc25 52 rfl) ?_
    refine x_iadd (dT U_Lc25 53 rfl) ?_
    refine x_sld (i + 5) hL (dT U_Lc25 54 rfl) (by omega) (by omega) ?_
    refine x_invokevirtual (rc' := rc) (rs' := rs) (rc2 := 0) (rs2 := 0) (As := [_, _, _, _, _]) (st := _) M_X11_climb K_L_326 (dT U_Lc25 55 rfl) rfl rfl (by decide) rfl rfl wm.c70 (Nat.le_of_ble_eq_true rfl) (by decide) rfl (Nat.le_of_ble_eq_true rfl) rfl (by decide) (Nat.le_of_ble_eq_true rfl) rfl rfl ?_
    refine S_X11_climb wm v (xr_s _) (xr_s _) (xr_s _) (xr_s _) (xr_s _) (fun m1 _ _ _ _ _ => absurd c1 m1) (fun m1 m2 h3 z ag wx xz => ?_) (fun m1 m2 _ _ _ _ _ => absurd m2 c2)
    refine xRet_some ?_
    refine x_istore (ls' := [some (.ref _), some (.ref _), some (.ref _), some (.ref _), some (.ref _), some (vi _), some (vi _), some (vi _), none]) (dT U_Lc25 56 rfl) (by decide) rfl ?_
    refine x_aload_n (dT U_Lc25 57 rfl) rfl ?_
    refine x_invokevirtual (rc' := rc) (rs' := rs) (rc2 := 0) (rs2 := 0) (As := []) (st := _) M_X11_thrown K_L_242 (dT U_Lc25 58 rfl) rfl rfl (by decide) rfl rfl wx.c70 (Nat.le_of_ble_eq_true rfl) (by decide) rfl (Nat.le_of_ble_eq_true rfl) rfl (by decide) (Nat.le_of_ble_eq_true rfl) rfl rfl ?_
    refine S_X11_thrown wx ?_
    refine xRet_some ?_
    refine x_iload (dT U_Lc25 59 rfl) rfl ?_
    refine x_icmp_eq (tgt := 2228) (dT U_Lc25 60 rfl) (by decide) (by unfold xr; omega) (by unfold xr; omega) (fun c2223 => ?_) (fun c2223 => (by exfalso; omega))
    refine x_iload (dT U_Lc25 63 rfl) rfl ?_
    refine x_if_ne (tgt := 2245) (dT U_Lc25 64 rfl) (by decide) (by unfold xr; omega) (fun c2230 => ?_) (fun c2230 => (by exfalso; omega))
    refine x_goto (tgt := 5554) (dT U_Lc25 74 rfl) (by decide) ?_
    refine x_drop ?_ (M _ _ _ _ _ _ _ _ v (w.out ag (by omega)) wx (ag.get ho (by omega)) (ag.get hod (by omega)))
    repeat (first | exact trivial | refine ⟨rfl, ?_⟩ | refine ⟨trivial, ?_⟩)
  · refine xRet_some ?_
    have wmx := wm.out (h2 := (h2.set 143 (cJ [z9]))) (fun a ha => by rw [hset_fr (by omega)]; exact fc.2 a (by omega))
    refine x_istore (ls' := [some (.ref _), some (.ref _), some (.ref _), some (.ref _), some (.ref _), some (vi _), some (vi _), none, none]) (dT U_Lc25 28 rfl) (by decide) rfl ?_
    refine x_aload_n (dT U_Lc25 29 rfl) rfl ?_
    refine x_aload_n (dT U_Lc25 30 rfl) rfl ?_
    refine x_iload (dT U_Lc25 31 rfl) rfl ?_
    refine x_iconst (dT U_Lc25 32 rfl) ?_
    refine x_iadd (dT U_Lc25 33 rfl) ?_
    refine x_sld (i + 1) hL (dT U_Lc25 34 rfl) (by omega) (by omega) ?_
    refine x_aload_n (dT U_Lc25 35 rfl) rfl ?_
    refine x_iload (dT U_Lc25 36 rfl) rfl ?_
    refine x_iconst (dT U_Lc25 37 rfl) ?_
    refine x_iadd (dT U_Lc25 38 rfl) ?_
    refine x_sld (i + 2) hL (dT U_Lc25 39 rfl) (by omega) (by omega) ?_
    refine x_aload_n (dT U_Lc25 40 rfl) rfl ?_
    refine x_iload (dT U_Lc25 41 rfl) rfl ?_
    refine x_iconst (dT U_Lc25 42 rfl) ?_
    refine x_iadd (dT U_Lc25 43 rfl) ?_
    refine x_sld (i + 3) hL (dT U_Lc25 44 rfl) (by omega) (by omega) ?_
    refine x_aload_n (dT U_Lc25 45 rfl) rfl ?_
    refine x_iload (dT U_Lc25 46 rfl) rfl ?_
    refine x_iconst (dT U_Lc25 47 rfl) ?_
    refine x_iadd (dT U_Lc25 48 rfl) ?_
    refine x_sld (i + 4) hL (dT U_Lc25 49 rfl) (by omega) (by omega) ?_
    refine x_aload_n (dT U_Lc25 50 rfl) rfl ?_
    refine x_iload (dT U_Lc25 51 rfl) rfl ?_
    refine x_iconst (dT U_Lc25 52 rfl) ?_
    refine x_iadd (dT U_Lc25 53 rfl) ?_
    refine x_sld (i + 5) hL (dT U_Lc25 54 rfl) (by omega) (by omega) ?_
    refine x_invokevirtual (rc' := rc) (rs' := rs) (rc2 := 0) (rs2 := 0) (As := [_, _, _, _, _]) (st := _) M_X11_climb K_L_326 (dT U_Lc25 55 rfl) rfl rfl (by decide) rfl rfl wmx.c70 (Nat.le_of_ble_eq_true rfl) (by decide) rfl (Nat.le_of_ble_eq_true rfl) rfl (by decide) (Nat.le_of_ble_eq_true rfl) rfl rfl ?_
    refine S_X11_climb wmx v (xr_s _) (xr_s _) (xr_s _) (xr_s _) (xr_s _) (fun m1 _ _ _ _ _ => absurd c1 m1) (fun m1 m2 _ _ _ _ _ => absurd c2 m2) (fun m1 m2 h3 r3 s3 ag wx => ?_)
    refine xRet_some ?_
    rw [ez9]
    refine x_istore (ls' := [some (.ref _), some (.ref _), some (.ref _), some (.ref _), some (.ref _), some (vi _), some (vi _), some (vi _), none]) (dT U_Lc25 56 rfl) (by decide) rfl ?_
    refine x_aload_n (dT U_Lc25 57 rfl) rfl ?_
    refine x_invokevirtual (rc' := rc) (rs' := rs) (rc2 := 0) (rs2 := 0) (As := []) (st := _) M_X11_thrown K_L_242 (dT U_Lc25 58 rfl) rfl rfl (by decide) rfl rfl wx.c70 (Nat.le_of_ble_eq_true rfl) (by decide) rfl (Nat.le_of_ble_eq_true rfl) rfl (by decide) (Nat.le_of_ble_eq_true rfl) rfl rfl ?_
    refine S_X11_thrown wx ?_
    refine xRet_some ?_
    refine x_iload (dT U_Lc25 59 rfl) rfl ?_
    refine x_icmp_eq (tgt := 2228) (dT U_Lc25 60 rfl) (by decide) (by unfold xr; omega) (by unfold xr; omega) (fun c2223 => ?_) (fun c2223 => (by exfalso; omega))
    refine x_iload (dT U_Lc25 63 rfl) rfl ?_
    refine x_if_nen (tgt := 2245) (dT U_Lc25 64 rfl) (by decide) (by decide) ?_
    refine x_aload_n (dT U_Lc25 65 rfl) rfl ?_
    refine x_iconst (dT U_Lc25 66 rfl) ?_
    refine x_laload 0 (dT U_Lc25 67 rfl) (ag.get (hset_eq (fc.get ho (by omega))) (by omega)) (Nat.le_of_ble_eq_true rfl) rfl (Nat.le_of_ble_eq_true rfl) (Nat.le_of_ble_eq_true rfl) ?_
    refine x_iload (dT U_Lc25 68 rfl) rfl ?_
    refine x_i2l (dT U_Lc25 69 rfl) hz9 ?_
    refine x_lcmp (dT U_Lc25 70 rfl) (xr_l hz9) (xr_l hz9) ?_
    refine x_if_eqj (tgt := 2245) (dT U_Lc25 71 rfl) (by decide) (xcmp_rf _) ?_
    refine x_goto (tgt := 5554) (dT U_Lc25 74 rfl) (by decide) ?_
    refine x_drop ?_ (M _ _ _ _ _ _ _ _ v ((w2.out ((Ag.rf 143 143 h2).set (by omega)) (by omega)).out ag (by omega)) wx (ag.get (hset_eq (fc.get ho (by omega))) (by omega)) (ag.get (hset_ne (by omega) (fc.get hod (by omega))) (by omega)))
    repeat (first | exact trivial | refine ⟨rfl, ?_⟩ | refine ⟨trivial, ?_⟩)

def B_Lc26 : ByteArray := .mk #[0x2b, 0x2a, 0x15, 0x05, 0x04, 0x60, 0x2e, 0x2a, 0x15, 0x05, 0x05, 0x60, 0x2e, 0x2a, 0x15, 0x05, 0x06, 0x60, 0x2e, 0x2a, 0x15, 0x05, 0x07, 0x60, 0x2e, 0x2a, 0x15, 0x05, 0x08, 0x60, 0x2e, 0x2a, 0x15, 0x05, 0x10, 0x06, 0x60, 0x2e, 0x2a, 0x15, 0x05, 0x10, 0x07, 0x60, 0x2e, 0x2a, 0x15, 0x05, 0x10, 0x08, 0x60, 0x2e, 0x2a, 0x15, 0x05, 0x10, 0x09, 0x60, 0x2e, 0x2d, 0xb8, 0x01, 0x47, 0x36, 0x06, 0x2c, 0x2a, 0x15, 0x05, 0x04, 0x60, 0x2e, 0x2a, 0x15, 0x05, 0x05, 0x60, 0x2e, 0x2a, 0x15, 0x05, 0x06, 0x60, 0x2e, 0x2a, 0x15, 0x05, 0x07, 0x60, 0x2e, 0x2a, 0x15, 0x05, 0x08, 0x60, 0x2e, 0x2a, 0x15, 0x05, 0x10, 0x06, 0x60, 0x2e, 0x2a, 0x15, 0x05, 0x10, 0x07, 0x60, 0x2e, 0x2a, 0x15, 0x05, 0x10, 0x08, 0x60, 0x2e, 0x2a, 0x15, 0x05, 0x10, 0x09, 0x60, 0x2e, 0xb6, 0x01, 0x49, 0x36, 0x07, 0x2c, 0xb6, 0x00, 0xf2, 0x15, 0x06, 0x9f, 0x00, 0x05, 0x03, 0xac, 0x15, 0x06, 0x9a, 0x00, 0x0f, 0x2d, 0x03, 0x2f, 0x15, 0x07, 0x85, 0x94, 0x99, 0x00, 0x05, 0x03, 0xac, 0xa7, 0x0c, 0x4d]
theorem W_Lc26 : sameFrom m_L_law.2.1 B_Lc26 2248 := sameFrom_of (by decide +kernel)
def t_Lc26 : List (Nat × Instr × Nat) := [(2248, .aload_n 1, 1), (2249, .aload_n 0, 1), (2250, .iload 5, 2), (2252, .iconst 1, 1), (2253, .iadd, 1), (2254, .iaload, 1), (2255, .aload_n 0, 1), (2256, .iload 5, 2), (2258, .iconst 2, 1), (2259, .iadd, 1), (2260, .iaload, 1), (2261, .aload_n 0, 1), (2262, .iload 5, 2), (2264, .iconst 3, 1), (2265, .iadd, 1), (2266, .iaload, 1), (2267, .aload_n 0, 1), (2268, .iload 5, 2), (2270, .iconst 4, 1), (2271, .iadd, 1), (2272, .iaload, 1), (2273, .aload_n 0, 1), (2274, .iload 5, 2), (2276, .iconst 5, 1), (2277, .iadd, 1), (2278, .iaload, 1), (2279, .aload_n 0, 1), (2280, .iload 5, 2), (2282, .bipush 6, 2), (2284, .iadd, 1), (2285, .iaload, 1), (2286, .aload_n 0, 1), (2287, .iload 5, 2), (2289, .bipush 7, 2), (2291, .iadd, 1), (2292, .iaload, 1), (2293, .aload_n 0, 1), (2294, .iload 5, 2), (2296, .bipush 8, 2), (2298, .iadd, 1), (2299, .iaload, 1), (2300, .aload_n 0, 1), (2301, .iload 5, 2), (2303, .bipush 9, 2), (2305, .iadd, 1), (2306, .iaload, 1), (2307, .aload_n 3, 1), (2308, .invokestatic 327, 3), (2311, .istore 6, 2), (2313, .aload_n 2, 1), (2314, .aload_n 0, 1), (2315, .iload 5, 2), (2317, .iconst 1, 1), (2318, .iadd, 1), (2319, .iaload, 1), (2320, .aload_n 0, 1), (2321, .iload 5, 2), (2323, .iconst 2, 1), (2324, .iadd, 1), (2325, .iaload, 1), (2326, .aload_n 0, 1), (2327, .iload 5, 2), (2329, .iconst 3, 1), (2330, .iadd, 1), (2331, .iaload, 1), (2332, .aload_n 0, 1), (2333, .iload 5, 2), (2335, .iconst 4, 1), (2336, .iadd, 1), (2337, .iaload, 1), (2338, .aload_n 0, 1), (2339, .iload 5, 2), (2341, .iconst 5, 1), (2342, .iadd, 1), (2343, .iaload, 1), (2344, .aload_n 0, 1), (2345, .iload 5, 2), (2347, .bipush 6, 2), (2349, .iadd, 1), (2350, .iaload, 1), (2351, .aload_n 0, 1), (2352, .iload 5, 2), (2354, .bipush 7, 2), (2356, .iadd, 1), (2357, .iaload, 1), (2358, .aload_n 0, 1), (2359, .iload 5, 2), (2361, .bipush 8, 2), (2363, .iadd, 1), (2364, .iaload, 1), (2365, .aload_n 0, 1), (2366, .iload 5, 2), (2368, .bipush 9, 2), (2370, .iadd, 1), (2371, .iaload, 1), (2372, .invokevirtual 329, 3), (2375, .istore 7, 2), (2377, .aload_n 2, 1), (2378, .invokevirtual 242, 3), (2381, .iload 6, 2), (2383, .if_icmp .eq 5, 3), (2386, .iconst 0, 1), (2387, .ireturn, 1), (2388, .iload 6, 2), (2390, .ifCond .ne 15, 3), (2393, .aload_n 3, 1), (2394, .iconst 0, 1), (2395, .laload, 1), (2396, .iload 7, 2), (2398, .i2l, 1), (2399, .lcmp, 1), (2400, .ifCond .eq 5, 3), (2403, .iconst 0, 1), (2404, .ireturn, 1), (2405, .goto 3149, 3)]
set_option maxRecDepth 20000 in
theorem U_Lc26 : okT m_L_law.2.1 t_Lc26 = true := dSt [(0, .aload_n 1, 1), (1, .aload_n 0, 1), (2, .iload 5, 2), (4, .iconst 1, 1), (5, .iadd, 1), (6, .iaload, 1), (7, .aload_n 0, 1), (8, .iload 5, 2), (10, .iconst 2, 1), (11, .iadd, 1), (12, .iaload, 1), (13, .aload_n 0, 1), (14, .iload 5, 2), (16, .iconst 3, 1), (17, .iadd, 1), (18, .iaload, 1), (19, .aload_n 0, 1), (20, .iload 5, 2), (22, .iconst 4, 1), (23, .iadd, 1), (24, .iaload, 1), (25, .aload_n 0, 1), (26, .iload 5, 2), (28, .iconst 5, 1), (29, .iadd, 1), (30, .iaload, 1), (31, .aload_n 0, 1), (32, .iload 5, 2), (34, .bipush 6, 2), (36, .iadd, 1), (37, .iaload, 1), (38, .aload_n 0, 1), (39, .iload 5, 2), (41, .bipush 7, 2), (43, .iadd, 1), (44, .iaload, 1), (45, .aload_n 0, 1), (46, .iload 5, 2), (48, .bipush 8, 2), (50, .iadd, 1), (51, .iaload, 1), (52, .aload_n 0, 1), (53, .iload 5, 2), (55, .bipush 9, 2), (57, .iadd, 1), (58, .iaload, 1), (59, .aload_n 3, 1), (60, .invokestatic 327, 3), (63, .istore 6, 2), (65, .aload_n 2, 1), (66, .aload_n 0, 1), (67, .iload 5, 2), (69, .iconst 1, 1), (70, .iadd, 1), (71, .iaload, 1), (72, .aload_n 0, 1), (73, .iload 5, 2), (75, .iconst 2, 1), (76, .iadd, 1), (77, .iaload, 1), (78, .aload_n 0, 1), (79, .iload 5, 2), (81, .iconst 3, 1), (82, .iadd, 1), (83, .iaload, 1), (84, .aload_n 0, 1), (85, .iload 5, 2), (87, .iconst 4, 1), (88, .iadd, 1), (89, .iaload, 1), (90, .aload_n 0, 1), (91, .iload 5, 2), (93, .iconst 5, 1), (94, .iadd, 1), (95, .iaload, 1), (96, .aload_n 0, 1), (97, .iload 5, 2), (99, .bipush 6, 2), (101, .iadd, 1), (102, .iaload, 1), (103, .aload_n 0, 1), (104, .iload 5, 2), (106, .bipush 7, 2), (108, .iadd, 1), (109, .iaload, 1), (110, .aload_n 0, 1), (111, .iload 5, 2), (113, .bipush 8, 2), (115, .iadd, 1), (116, .iaload, 1), (117, .aload_n 0, 1), (118, .iload 5, 2), (120, .bipush 9, 2), (122, .iadd, 1), (123, .iaload, 1), (124, .invokevirtual 329, 3), (127, .istore 7, 2), (129, .aload_n 2, 1), (130, .invokevirtual 242, 3), (133, .iload 6, 2), (135, .if_icmp .eq 5, 3), (138, .iconst 0, 1), (139, .ireturn, 1), (140, .iload 6, 2), (142, .ifCond .ne 15, 3), (145, .aload_n 3, 1), (146, .iconst 0, 1), (147, .laload, 1), (148, .iload 7, 2), (150, .i2l, 1), (151, .lcmp, 1), (152, .ifCond .eq 5, 3), (155, .iconst 0, 1), (156, .ireturn, 1), (157, .goto 3149, 3)] W_Lc26 (by decide +kernel) (by decide +kernel)
set_option maxRecDepth 20000 in
set_option maxHeartbeats 1000000 in
theorem LC_26 {G : xG} {d rc rs : Nat} {ex : Bool} {h : xH} {Q : xQ} {σ : St} {c0 : Int} {rr : Nat} {ss : Int} {l0 : Int} {d0 : UInt64} {i : Nat} (hL : G.2.2.2.2.2.1 < 2147483648) (hi : i + 10 ≤ G.2.2.2.2.2.1) (w : CW σ h) (wm : MX σ c0 rr ss h) (v : INV σ) (ho : h[143]? = some (cJ [l0])) (hod : h[144]? = some (cD [d0]))
    (M : ∀ (σ9 : St) (h9 : xH) (e9 : Bool) (c9 : Int) (r9 : Nat) (s9 : Int) (l9 : Int) (d9 : UInt64), INV σ9 → CW σ9 h9 → MX σ9 c9 r9 s9 h9 → h9[143]? = some (cJ [l9]) → h9[144]? = some (cD [d9]) → X G m_L_law (d + 10) rc rs e9 5554 [some (.ref 0), some (.ref 3), some (.ref 70), some (.ref 143), some (.ref 144), some (vi (i : Int)), none, none, none] [] h9 Q) : X G m_L_law (d + 10) (rc + 9) (rs + 54) ex 2248 [some (.ref 0), some (.ref 3), some (.ref 70), some (.ref 143), some (.ref 144), some (vi (i : Int)), none, none, none] [] h Q := by
  refine x_aload_n (dT U_Lc26 0 rfl) rfl ?_
  refine x_aload_n (dT U_Lc26 1 rfl) rfl ?_
  refine x_iload (dT U_Lc26 2 rfl) rfl ?_
  refine x_iconst (dT U_Lc26 3 rfl) ?_
  refine x_iadd (dT U_Lc26 4 rfl) ?_
  refine x_sld (i + 1) hL (dT U_Lc26 5 rfl) (by omega) (by omega) ?_
  refine x_aload_n (dT U_Lc26 6 rfl) rfl ?_
  refine x_iload (dT U_Lc26 7 rfl) rfl ?_
  refine x_iconst (dT U_Lc26 8 rfl) ?_
  refine x_iadd (dT U_Lc26 9 rfl) ?_
  refine x_sld (i + 2) hL (dT U_Lc26 10 rfl) (by omega) (by omega) ?_
  refine x_aload_n (dT U_Lc26 11 rfl) rfl ?_
  refine x_iload (dT U_Lc26 12 rfl) rfl ?_
  refine x_iconst (dT U_Lc26 13 rfl) ?_
  refine x_iadd (dT U_Lc26 14 rfl) ?_
  refine x_sld (i + 3) hL (dT U_Lc26 15 rfl) (by omega) (by omega) ?_
  refine x_aload_n (dT U_Lc26 16 rfl) rfl ?_
  refine x_iload (dT U_Lc26 17 rfl) rfl ?_
  refine x_iconst (dT U_Lc26 18 rfl) ?_
  refine x_iadd (dT U_Lc26 19 rfl) ?_
  refine x_sld (i + 4) hL (dT U_Lc26 20 rfl) (by omega) (by omega) ?_
  refine x_aload_n (dT U_Lc26 21 rfl) rfl ?_
  refine x_iload (dT U_Lc26 22 rfl) rfl ?_
  refine x_iconst (dT U_Lc26 23 rfl) ?_
  refine x_iadd (dT U_Lc26 24 rfl) ?_
  refine x_sld (i + 5) hL (dT U_Lc26 25 rfl) (by omega) (by omega) ?_
  refine x_aload_n (dT U_Lc26 26 rfl) rfl ?_
  refine x_iload (dT U_Lc26 27 rfl) rfl ?_
  refine x_bipush (dT U_Lc26 28 rfl) (by decide) ?_
  refine x_iadd (dT U_Lc26 29 rfl) ?_
  refine x_sld (i + 6) hL (dT U_Lc26 30 rfl) (by omega) (by omega) ?_
  refine x_aload_n (dT U_Lc26 31 rfl) rfl ?_
  refine x_iload (dT U_Lc26 32 rfl) rfl ?_
  refine x_bipush (dT U_Lc26 33 rfl) (by decide) ?_
  refine x_iadd (dT U_Lc26 34 rfl) ?_
  refine x_sld (i + 7) hL (dT U_Lc26 35 rfl) (by omega) (by omega) ?_
  refine x_aload_n (dT U_Lc26 36 rfl) rfl ?_
  refine x_iload (dT U_Lc26 37 rfl) rfl ?_
  refine x_bipush (dT U_Lc26 38 rfl) (by decide) ?_
  refine x_iadd (dT U_Lc26 39 rfl) ?_
  refine x_sld (i + 8) hL (dT U_Lc26 40 rfl) (by omega) (by omega) ?_
  refine x_aload_n (dT U_Lc26 41 rfl) rfl ?_
  refine x_iload (dT U_Lc26 42 rfl) rfl ?_
  refine x_bipush (dT U_Lc26 43 rfl) (by decide) ?_
  refine x_iadd (dT U_Lc26 44 rfl) ?_
  refine x_sld (i + 9) hL (dT U_Lc26 45 rfl) (by omega) (by omega) ?_
  refine x_aload_n (dT U_Lc26 46 rfl) rfl ?_
  refine x_invokestaticT (rc' := rc) (rs' := rs) (rc2 := 0 + 9) (rs2 := 0 + 54) (As := [_, _, _, _, _, _, _, _, _, _, _]) (st := _) M_L_parts K_L_327 (dT U_Lc26 47 rfl) rfl (by decide) rfl rfl (Nat.le_of_ble_eq_true rfl) rfl (by decide) (Nat.le_of_ble_eq_true rfl) (by omega) (by omega) ?_
  refine S_L_parts w v (xr_s _) (xr_s _) (xr_s _) (xr_s _) (xr_s _) (xr_s _) (xr_s _) (xr_s _) (xr_s _) ho (fun c1 => ?_) (fun c1 c2 => ?_) (fun c1 c2 h2 fc w2 z9 hz9 ez9 => ?_)
  · refine xRet_some ?_
    refine x_istore (ls' := [some (.ref _), some (.ref _), some (.ref _), some (.ref _), some (.ref _), some (vi _), some (vi _), none, none]) (dT U_Lc26 48 rfl) (by decide) rfl ?_
    refine x_aload_n (dT U_Lc26 49 rfl) rfl ?_
    refine x_aload_n (dT U_Lc26 50 rfl) rfl ?_
    refine x_iload (dT U_Lc26 51 rfl) rfl ?_
    refine x_iconst (dT U_Lc26 52 rfl) ?_
    refine x_iadd (dT U_Lc26 53 rfl) ?_
    refine x_sld (i + 1) hL (dT U_Lc26 54 rfl) (by omega) (by omega) ?_
    refine x_aload_n (dT U_Lc26 55 rfl) rfl ?_
    refine x_iload (dT U_Lc26 56 rfl) rfl ?_
    refine x_iconst (dT U_Lc26 57 rfl) ?_
    refine x_iadd (dT U_Lc26 58 rfl) ?_
    refine x_sld (i + 2) hL (dT U_Lc26 59 rfl) (by omega) (by omega) ?_
    refine x_aload_n (dT U_Lc26 60 rfl) rfl ?_
    refine x_iload (dT U_Lc26 61 rfl) rfl ?_
    refine x_iconst (dT U_Lc26 62 rfl) ?_
    refine x_iadd (dT U_Lc26 63 rfl) ?_
    refine x_sld (i + 3) hL (dT U_Lc26 64 rfl) (by omega) (by omega) ?_
    refine x_aload_n (dT U_Lc26 65 rfl) rfl ?_
    refine x_iload (dT U_Lc26 66 rfl) rfl ?_
    refine x_iconst (dT U_Lc26 67 rfl) ?_
    refine x_iadd (dT U_Lc26 68 rfl) ?_
    refine x_sld (i + 4) hL (dT U_Lc26 69 rfl) (by omega) (by omega) ?_
    refine x_aload_n (dT U_Lc26 70 rfl) rfl ?_
    refine x_iload (dT U_Lc26 71 rfl) rfl ?_
    refine x_iconst (dT U_Lc26 72 rfl) ?_
    refine x_iadd (dT U_Lc26 73 rfl) ?_
    refine x_sld (i + 5) hL (dT U_Lc26 74 rfl) (by omega) (by omega) ?_
    refine x_aload_n (dT U_Lc26 75 rfl) rfl ?_
    refine x_iload (dT U_Lc26 76 rfl) rfl ?_
    refine x_bipush (dT U_Lc26 77 rfl) (by decide) ?_
    refine x_iadd (dT U_Lc26 78 rfl) ?_
    refine x_sld (i + 6) hL (dT U_Lc26 79 rfl) (by omega) (by omega) ?_
    refine x_aload_n (dT U_Lc26 80 rfl) rfl ?_
    refine x_iload (dT U_Lc26 81 rfl) rfl ?_
    refine x_bipush (dT U_Lc26 82 rfl) (by decide) ?_
    refine x_iadd (dT U_Lc26 83 rfl) ?_
    refine x_sld (i + 7) hL (dT U_Lc26 84 rfl) (by omega) (by omega) ?_
    refine x_aload_n (dT U_Lc26 85 rfl) rfl ?_
    refine x_iload (dT U_Lc26 86 rfl) rfl ?_
    refine x_bipush (dT U_Lc26 87 rfl) (by decide) ?_
    refine x_iadd (dT U_Lc26 88 rfl) ?_
    refine x_sld (i + 8) hL (dT U_Lc26 89 rfl) (by omega) (by omega) ?_
    refine x_aload_n (dT U_Lc26 90 rfl) rfl ?_
    refine x_iload (dT U_Lc26 91 rfl) rfl ?_
    refine x_bipush (dT U_Lc26 92 rfl) (by decide) ?_
    refine x_iadd (dT U_Lc26 93 rfl) ?_
    refine x_sld (i + 9) hL (dT U_Lc26 94 rfl) (by omega) (by omega) ?_
    refine x_invokevirtual (rc' := rc) (rs' := rs) (rc2 := 0) (rs2 := 0) (As := [_, _, _, _, _, _, _, _, _]) (st := _) M_X11_parts K_L_329 (dT U_Lc26 95 rfl) rfl rfl (by decide) rfl rfl wm.c70 (Nat.le_of_ble_eq_true rfl) (by decide) rfl (Nat.le_of_ble_eq_true rfl) rfl (by decide) (Nat.le_of_ble_eq_true rfl) rfl rfl ?_
    refine S_X11_parts wm v (xr_s _) (xr_s _) (xr_s _) (xr_s _) (xr_s _) (xr_s _) (xr_s _) (xr_s _) (xr_s _) (fun m1 h3 z ag wx xz => ?_) (fun m1 m2 _ _ _ _ _ => absurd m1 c1) (fun m1 m2 _ _ _ _ _ => absurd m1 c1)
    refine xRet_some ?_
    refine x_istore (ls' := [some (.ref _), some (.ref _), some (.ref _), some (.ref _), some (.ref _), some (vi _), some (vi _), some (vi _), none]) (dT U_Lc26 96 rfl) (by decide) rfl ?_
    refine x_aload_n (dT U_Lc26 97 rfl) rfl ?_
    refine x_invokevirtual (rc' := rc) (rs' := rs) (rc2 := 0) (rs2 := 0) (As := []) (st := _) M_X11_thrown K_L_242 (dT U_Lc26 98 rfl) rfl rfl (by decide) rfl rfl wx.c70 (Nat.le_of_ble_eq_true rfl) (by decide) rfl (Nat.le_of_ble_eq_true rfl) rfl (by decide) (Nat.le_of_ble_eq_true rfl) rfl rfl ?_
    refine S_X11_thrown wx ?_
    refine xRet_some ?_
    refine x_iload (dT U_Lc26 99 rfl) rfl ?_
    refine x_icmp_eq (tgt := 2388) (dT U_Lc26 100 rfl) (by decide) (by unfold xr; omega) (by unfold xr; omega) (fun c2383 => ?_) (fun c2383 => (by exfalso; omega))
    refine x_iload (dT U_Lc26 103 rfl) rfl ?_
    refine x_if_nej (tgt := 2405) (dT U_Lc26 104 rfl) (by decide) (by decide) ?_
    refine x_goto (tgt := 5554) (dT U_Lc26 114 rfl) (by decide) ?_
    refine x_drop ?_ (M _ _ _ _ _ _ _ _ v (w.out ag (by omega)) wx (ag.get ho (by omega)) (ag.get hod (by omega)))
    repeat (first | exact trivial | refine ⟨rfl, ?_⟩ | refine ⟨trivial, ?_⟩)
  · refine xRet_some ?_
    refine x_istore (ls' := [some (.ref _), some (.ref _), some (.ref _), some (.ref _), some (.ref _), some (vi _), some (vi _), none, none]) (dT U_Lc26 48 rfl) (by decide) rfl ?_
    refine x_aload_n (dT U_Lc26 49 rfl) rfl ?_
    refine x_aload_n (dT U_Lc26 50 rfl) rfl ?_
    refine x_iload (dT U_Lc26 51 rfl) rfl ?_
    refine x_iconst (dT U_Lc26 52 rfl) ?_
    refine x_iadd (dT U_Lc26 53 rfl) ?_
    refine x_sld (i + 1) hL (dT U_Lc26 54 rfl) (by omega) (by omega) ?_
    refine x_aload_n (dT U_Lc26 55 rfl) rfl ?_
    refine x_iload (dT U_Lc26 56 rfl) rfl ?_
    refine x_iconst (dT U_Lc26 57 rfl) ?_
    refine x_iadd (dT U_Lc26 58 rfl) ?_
    refine x_sld (i + 2) hL (dT U_Lc26 59 rfl) (by omega) (by omega) ?_
    refine x_aload_n (dT U_Lc26 60 rfl) rfl ?_
    refine x_iload (dT U_Lc26 61 rfl) rfl ?_
    refine x_iconst (dT U_Lc26 62 rfl) ?_
    refine x_iadd (dT U_Lc26 63 rfl) ?_
    refine x_sld (i + 3) hL (dT U_Lc26 64 rfl) (by omega) (by omega) ?_
    refine x_aload_n (dT U_Lc26 65 rfl) rfl ?_
    refine x_iload (dT U_Lc26 66 rfl) rfl ?_
    refine x_iconst (dT U_Lc26 67 rfl) ?_
    refine x_iadd (dT U_Lc26 68 rfl) ?_
    refine x_sld (i + 4) hL (dT U_Lc26 69 rfl) (by omega) (by omega) ?_
    refine x_aload_n (dT U_Lc26 70 rfl) rfl ?_
    refine x_iload (dT U_Lc26 71 rfl) rfl ?_
    refine x_iconst (dT U_Lc26 72 rfl) ?_
    refine x_iadd (dT U_Lc26 73 rfl) ?_
    refine x_sld (i + 5) hL (dT U_Lc26 74 rfl) (by omega) (by omega) ?_
    refine x_aload_n (dT U_Lc26 75 rfl) rfl ?_
    refine x_iload (dT U_Lc26 76 rfl) rfl ?_
    refine x_bipush (dT U_Lc26 77 rfl) (by decide) ?_
    refine x_iadd (dT U_Lc26 78 rfl) ?_
    refine x_sld (i + 6) hL (dT U_Lc26 79 rfl) (by omega) (by omega) ?_
    refine x_aload_n (dT U_Lc26 80 rfl) rfl ?_
    refine x_iload (dT U_Lc26 81 rfl) rfl ?_
    refine x_bipush (dT U_Lc26 82 rfl) (by decide) ?_
    refine x_iadd (dT U_Lc26 83 rfl) ?_
    refine x_sld (i + 7) hL (dT U_Lc26 84 rfl) (by omega) (by omega) ?_
    refine x_aload_n (dT U_Lc26 85 rfl) rfl ?_
    refine x_iload (dT U_Lc26 86 rfl) rfl ?_
    refine x_bipush (dT U_Lc26 87 rfl) (by decide) ?_
    refine x_iadd (dT U_Lc26 88 rfl) ?_
    refine x_sld (i + 8) hL (dT U_Lc26 89 rfl) (by omega) (by omega) ?_
    refine x_aload_n (dT U_Lc26 90 rfl) rfl ?_
    refine x_iload (dT U_Lc26 91 rfl) rfl ?_
    refine x_bipush (dT U_Lc26 92 rfl) (by decide) ?_
    refine x_iadd (dT U_Lc26 93 rfl) ?_
    refine x_sld (i + 9) hL (dT U_Lc26 94 rfl) (by omega) (by omega) ?_
    refine x_invokevirtual (rc' := rc) (rs' := rs) (rc2 := 0) (rs2 := 0) (As := [_, _, _, _, _, _, _, _, _]) (st := _) M_X11_parts K_L_329 (dT U_Lc26 95 rfl) rfl rfl (by decide) rfl rfl wm.c70 (Nat.le_of_ble_eq_true rfl) (by decide) rfl (Nat.le_of_ble_eq_true rfl) rfl (by decide) (Nat.le_of_ble_eq_true rfl) rfl rfl ?_
    refine S_X11_parts wm v (xr_s _) (xr_s _) (xr_s _) (xr_s _) (xr_s _) (xr_s _) (xr_s _) (xr_s _) (xr_s _) (fun m1 _ _ _ _ _ => absurd c1 m1) (fun m1 m2 h3 z ag wx xz => ?_) (fun m1 m2 _ _ _ _ _ => absurd m2 c2)
    refine xRet_some ?_
    refine x_istore (ls' := [some (.ref _), some (.ref _), some (.ref _), some (.ref _), some (.ref _), some (vi _), some (vi _), some (vi _), none]) (dT U_Lc26 96 rfl) (by decide) rfl ?_
    refine x_aload_n (dT U_Lc26 97 rfl) rfl ?_
    refine x_invokevirtual (rc' := rc) (rs' := rs) (rc2 := 0) (rs2 := 0) (As := []) (st := _) M_X11_thrown K_L_242 (dT U_Lc26 98 rfl) rfl rfl (by decide) rfl rfl wx.c70 (Nat.le_of_ble_eq_true rfl) (by decide) rfl (Nat.le_of_ble_eq_true rfl) rfl (by decide) (Nat.le_of_ble_eq_true rfl) rfl rfl ?_
    refine S_X11_thrown wx ?_
    refine xRet_some ?_
    refine x_iload (dT U_Lc26 99 rfl) rfl ?_
    refine x_icmp_eq (tgt := 2388) (dT U_Lc26 100 rfl) (by decide) (by unfold xr; omega) (by unfold xr; omega) (fun c2383 => ?_) (fun c2383 => (by exfalso; omega))
    refine x_iload (dT U_Lc26 103 rfl) rfl ?_
    refine x_if_ne (tgt := 2405) (dT U_Lc26 104 rfl) (by decide) (by unfold xr; omega) (fun c2390 => ?_) (fun c2390 => (by exfalso; omega))
    refine x_goto (tgt := 5554) (dT U_Lc26 114 rfl) (by decide) ?_
    refine x_drop ?_ (M _ _ _ _ _ _ _ _ v (w.out ag (by omega)) wx (ag.get ho (by omega)) (ag.get hod (by omega)))
    repeat (first | exact trivial | refine ⟨rfl, ?_⟩ | refine ⟨trivial, ?_⟩)
  · refine xRet_some ?_
    have wmx := wm.out (h2 := (h2.set 143 (cJ [z9]))) (fun a ha => by rw [hset_fr (by omega)]; exact fc.2 a (by omega))
    refine x_istore (ls' := [some (.ref _), some (.ref _), some (.ref _), some (.ref _), some (.ref _), some (vi _), some (vi _), none, none]) (dT U_Lc26 48 rfl) (by decide) rfl ?_
    refine x_aload_n (dT U_Lc26 49 rfl) rfl ?_
    refine x_aload_n (dT U_Lc26 50 rfl) rfl ?_
    refine x_iload (dT U_Lc26 51 rfl) rfl ?_
    refine x_iconst (dT U_Lc26 52 rfl) ?_
    refine x_iadd (dT U_Lc26 53 rfl) ?_
    refine x_sld (i + 1) hL (dT U_Lc26 54 rfl) (by omega) (by omega) ?_
    refine x_aload_n (dT U_Lc26 55 rfl) rfl ?_
    refine x_iload (dT U_Lc26 56 rfl) rfl ?_
    refine x_iconst (dT U_Lc26 57 rfl) ?_
    refine x_iadd (dT U_Lc26 58 rfl) ?_
    refine x_sld (i + 2) hL (dT U_Lc26 59 rfl) (by omega) (by omega) ?_
    refine x_aload_n (dT U_Lc26 60 rfl) rfl ?_
    refine x_iload (dT U_Lc26 61 rfl) rfl ?_
    refine x_iconst (dT U_Lc26 62 rfl) ?_
    refine x_iadd (dT U_Lc26 63 rfl) ?_
    refine x_sld (i + 3) hL (dT U_Lc26 64 rfl) (by omega) (by omega) ?_
    refine x_aload_n (dT U_Lc26 65 rfl) rfl ?_
    refine x_iload (dT U_Lc26 66 rfl) rfl ?_
    refine x_iconst (dT U_Lc26 67 rfl) ?_
    refine x_iadd (dT U_Lc26 68 rfl) ?_
    refine x_sld (i + 4) hL (dT U_Lc26 69 rfl) (by omega) (by omega) ?_
    refine x_aload_n (dT U_Lc26 70 rfl) rfl ?_
    refine x_iload (dT U_Lc26 71 rfl) rfl ?_
    refine x_iconst (dT U_Lc26 72 rfl) ?_
    refine x_iadd (dT U_Lc26 73 rfl) ?_
    refine x_sld (i + 5) hL (dT U_Lc26 74 rfl) (by omega) (by omega) ?_
    refine x_aload_n (dT U_Lc26 75 rfl) rfl ?_
    refine x_iload (dT U_Lc26 76 rfl) rfl ?_
    refine x_bipush (dT U_Lc26 77 rfl) (by decide) ?_
    refine x_iadd (dT U_Lc26 78 rfl) ?_
    refine x_sld (i + 6) hL (dT U_Lc26 79 rfl) (by omega) (by omega) ?_
    refine x_aload_n (dT U_Lc26 80 rfl) rfl ?_
    refine x_iload (dT U_Lc26 81 rfl) rfl ?_
    refine x_bipush (dT U_Lc26 82 rfl) (by decide) ?_
    refine x_iadd (dT U_Lc26 83 rfl) ?_
    refine x_sld (i + 7) hL (dT U_Lc26 84 rfl) (by omega) (by omega) ?_
    refine x_aload_n (dT U_Lc26 85 rfl) rfl ?_
    refine x_iload (dT U_Lc26 86 rfl) rfl ?_
    refine x_bipush (dT U_Lc26 87 rfl) (by decide) ?_
    refine x_iadd (dT U_Lc26 88 rfl) ?_
    refine x_sld (i + 8) hL (dT U_Lc26 89 rfl) (by omega) (by omega) ?_
    refine x_aload_n (dT U_Lc26 90 rfl) rfl ?_
    refine x_iload (dT U_Lc26 91 rfl) rfl ?_
    refine x_bipush (dT U_Lc26 92 rfl) (by decide) ?_
    refine x_iadd (dT U_Lc26 93 rfl) ?_
    refine x_sld (i + 9) hL (dT U_Lc26 94 rfl) (by omega) (by omega) ?_
    refine x_invokevirtual (rc' := rc) (rs' := rs) (rc2 := 0) (rs2 := 0) (As := [_, _, _, _, _, _, _, _, _]) (st := _) M_X11_parts K_L_329 (dT U_Lc26 95 rfl) rfl rfl (by decide) rfl rfl wmx.c70 (Nat.le_of_ble_eq_true rfl) (by decide) rfl (Nat.le_of_ble_eq_true rfl) rfl (by decide) (Nat.le_of_ble_eq_true rfl) rfl rfl ?_
    refine S_X11_parts wmx v (xr_s _) (xr_s _) (xr_s _) (xr_s _) (xr_s _) (xr_s _) (xr_s _) (xr_s _) (xr_s _) (fun m1 _ _ _ _ _ => absurd c1 m1) (fun m1 m2 _ _ _ _ _ => absurd c2 m2) (fun m1 m2 h3 r3 s3 ag wx => ?_)
    refine xRet_some ?_
    rw [ez9]
    refine x_istore (ls' := [some (.ref _), some (.ref _), some (.ref _), some (.ref _), some (.ref _), some (vi _), some (vi _), some (vi _), none]) (dT U_Lc26 96 rfl) (by decide) rfl ?_
    refine x_aload_n (dT U_Lc26 97 rfl) rfl ?_
    refine x_invokevirtual (rc' := rc) (rs' := rs) (rc2 := 0) (rs2 := 0) (As := []) (st := _) M_X11_thrown K_L_242 (dT U_Lc26 98 rfl) rfl rfl (by decide) rfl rfl wx.c70 (Nat.le_of_ble_eq_true rfl) (by decide) rfl (Nat.le_of_ble_eq_true rfl) rfl (by decide) (Nat.le_of_ble_eq_true rfl) rfl rfl ?_
    refine S_X11_thrown wx ?_
    refine xRet_some ?_
    refine x_iload (dT U_Lc26 99 rfl) rfl ?_
    refine x_icmp_eq (tgt := 2388) (dT U_Lc26 100 rfl) (by decide) (by unfold xr; omega) (by unfold xr; omega) (fun c2383 => ?_) (fun c2383 => (by exfalso; omega))
    refine x_iload (dT U_Lc26 103 rfl) rfl ?_
    refine x_if_nen (tgt := 2405) (dT U_Lc26 104 rfl) (by decide) (by decide) ?_
    refine x_aload_n (dT U_Lc26 105 rfl) rfl ?_
    refine x_iconst (dT U_Lc26 106 rfl) ?_
    refine x_laload 0 (dT U_Lc26 107 rfl) (ag.get (hset_eq (fc.get ho (by omega))) (by omega)) (Nat.le_of_ble_eq_true rfl) rfl (Nat.le_of_ble_eq_true rfl) (Nat.le_of_ble_eq_true rfl) ?_
    refine x_iload (dT U_Lc26 108 rfl) rfl ?_
    refine x_i2l (dT U_Lc26 109 rfl) hz9 ?_
    refine x_lcmp (dT U_Lc26 110 rfl) (xr_l hz9) (xr_l hz9) ?_
    refine x_if_eqj (tgt := 2405) (dT U_Lc26 111 rfl) (by decide) (xcmp_rf _) ?_
    refine x_goto (tgt := 5554) (dT U_Lc26 114 rfl) (by decide) ?_
    refine x_drop ?_ (M _ _ _ _ _ _ _ _ v ((w2.out ((Ag.rf 143 143 h2).set (by omega)) (by omega)).out ag (by omega)) wx (ag.get (hset_eq (fc.get ho (by omega))) (by omega)) (ag.get (hset_ne (by omega) (fc.get hod (by omega))) (by omega)))
    repeat (first | exact trivial | refine ⟨rfl, ?_⟩ | refine ⟨trivial, ?_⟩)

def B_Lc27 : ByteArray := .mk #[0x2b, 0x2a, 0x15, 0x05, 0x04, 0x60, 0x2e, 0x2a, 0x15, 0x05, 0x05, 0x60, 0x2e, 0x2a, 0x15, 0x05, 0x06, 0x60, 0x2e, 0x2a, 0x15, 0x05, 0x07, 0x60, 0x2e, 0x2d, 0xb8, 0x01, 0x4a, 0x36, 0x06, 0x2c, 0x2a, 0x15, 0x05, 0x04, 0x60, 0x2e, 0x2a, 0x15, 0x05, 0x05, 0x60, 0x2e, 0x2a, 0x15, 0x05, 0x06, 0x60, 0x2e, 0x2a, 0x15, 0x05, 0x07, 0x60, 0x2e, 0xb6, 0x01, 0x4c, 0x36, 0x07, 0x2c, 0xb6, 0x00, 0xf2, 0x15, 0x06, 0x9f, 0x00, 0x05, 0x03, 0xac, 0x15, 0x06, 0x9a, 0x00, 0x0f, 0x2d, 0x03, 0x2f, 0x15, 0x07, 0x85, 0x94, 0x99, 0x00, 0x05, 0x03, 0xac, 0xa7, 0x0b, 0xf1]
theorem W_Lc27 : sameFrom m_L_law.2.1 B_Lc27 2408 := sameFrom_of (by decide +kernel)
def t_Lc27 : List (Nat × Instr × Nat) := [(2408, .aload_n 1, 1), (2409, .aload_n 0, 1), (2410, .iload 5, 2), (2412, .iconst 1, 1), (2413, .iadd, 1), (2414, .iaload, 1), (2415, .aload_n 0, 1), (2416, .iload 5, 2), (2418, .iconst 2, 1), (2419, .iadd, 1), (2420, .iaload, 1), (2421, .aload_n 0, 1), (2422, .iload 5, 2), (2424, .iconst 3, 1), (2425, .iadd, 1), (2426, .iaload, 1), (2427, .aload_n 0, 1), (2428, .iload 5, 2), (2430, .iconst 4, 1), (2431, .iadd, 1), (2432, .iaload, 1), (2433, .aload_n 3, 1), (2434, .invokestatic 330, 3), (2437, .istore 6, 2), (2439, .aload_n 2, 1), (2440, .aload_n 0, 1), (2441, .iload 5, 2), (2443, .iconst 1, 1), (2444, .iadd, 1), (2445, .iaload, 1), (2446, .aload_n 0, 1), (2447, .iload 5, 2), (2449, .iconst 2, 1), (2450, .iadd, 1), (2451, .iaload, 1), (2452, .aload_n 0, 1), (2453, .iload 5, 2), (2455, .iconst 3, 1), (2456, .iadd, 1), (2457, .iaload, 1), (2458, .aload_n 0, 1), (2459, .iload 5, 2), (2461, .iconst 4, 1), (2462, .iadd, 1), (2463, .iaload, 1), (2464, .invokevirtual 332, 3), (2467, .istore 7, 2), (2469, .aload_n 2, 1), (2470, .invokevirtual 242, 3), (2473, .iload 6, 2), (2475, .if_icmp .eq 5, 3), (2478, .iconst 0, 1), (2479, .ireturn, 1), (2480, .iload 6, 2), (2482, .ifCond .ne 15, 3), (2485, .aload_n 3, 1), (2486, .iconst 0, 1), (2487, .laload, 1), (2488, .iload 7, 2), (2490, .i2l, 1), (2491, .lcmp, 1), (2492, .ifCond .eq 5, 3), (2495, .iconst 0, 1), (2496, .ireturn, 1), (2497, .goto 3057, 3)]
set_option maxRecDepth 20000 in
theorem U_Lc27 : okT m_L_law.2.1 t_Lc27 = true := dSt [(0, .aload_n 1, 1), (1, .aload_n 0, 1), (2, .iload 5, 2), (4, .iconst 1, 1), (5, .iadd, 1), (6, .iaload, 1), (7, .aload_n 0, 1), (8, .iload 5, 2), (10, .iconst 2, 1), (11, .iadd, 1), (12, .iaload, 1), (13, .aload_n 0, 1), (14, .iload 5, 2), (16, .iconst 3, 1), (17, .iadd, 1), (18, .iaload, 1), (19, .aload_n 0, 1), (20, .iload 5, 2), (22, .iconst 4, 1), (23, .iadd, 1), (24, .iaload, 1), (25, .aload_n 3, 1), (26, .invokestatic 330, 3), (29, .istore 6, 2), (31, .aload_n 2, 1), (32, .aload_n 0, 1), (33, .iload 5, 2), (35, .iconst 1, 1), (36, .iadd, 1), (37, .iaload, 1), (38, .aload_n 0, 1), (39, .iload 5, 2), (41, .iconst 2, 1), (42, .iadd, 1), (43, .iaload, 1), (44, .aload_n 0, 1), (45, .iload 5, 2), (47, .iconst 3, 1), (48, .iadd, 1), (49, .iaload, 1), (50, .aload_n 0, 1), (51, .iload 5, 2), (53, .iconst 4, 1), (54, .iadd, 1), (55, .iaload, 1), (56, .invokevirtual 332, 3), (59, .istore 7, 2), (61, .aload_n 2, 1), (62, .invokevirtual 242, 3), (65, .iload 6, 2), (67, .if_icmp .eq 5, 3), (70, .iconst 0, 1), (71, .ireturn, 1), (72, .iload 6, 2), (74, .ifCond .ne 15, 3), (77, .aload_n 3, 1), (78, .iconst 0, 1), (79, .laload, 1), (80, .iload 7, 2), (82, .i2l, 1), (83, .lcmp, 1), (84, .ifCond .eq 5, 3), (87, .iconst 0, 1), (88, .ireturn, 1), (89, .goto 3057, 3)] W_Lc27 (by decide +kernel) (by decide +kernel)
set_option maxRecDepth 20000 in
set_option maxHeartbeats 1000000 in
theorem LC_27 {G : xG} {d rc rs : Nat} {ex : Bool} {h : xH} {Q : xQ} {σ : St} {c0 : Int} {rr : Nat} {ss : Int} {l0 : Int} {d0 : UInt64} {i : Nat} (hL : G.2.2.2.2.2.1 < 2147483648) (hi : i + 10 ≤ G.2.2.2.2.2.1) (w : CW σ h) (wm : MX σ c0 rr ss h) (v : INV σ) (ho : h[143]? = some (cJ [l0])) (hod : h[144]? = some (cD [d0]))
    (M : ∀ (σ9 : St) (h9 : xH) (e9 : Bool) (c9 : Int) (r9 : Nat) (s9 : Int) (l9 : Int) (d9 : UInt64), INV σ9 → CW σ9 h9 → MX σ9 c9 r9 s9 h9 → h9[143]? = some (cJ [l9]) → h9[144]? = some (cD [d9]) → X G m_L_law (d + 10) rc rs e9 5554 [some (.ref 0), some (.ref 3), some (.ref 70), some (.ref 143), some (.ref 144), some (vi (i : Int)), none, none, none] [] h9 Q) : X G m_L_law (d + 10) (rc + 4) (rs + 24) ex 2408 [some (.ref 0), some (.ref 3), some (.ref 70), some (.ref 143), some (.ref 144), some (vi (i : Int)), none, none, none] [] h Q := by
  refine x_aload_n (dT U_Lc27 0 rfl) rfl ?_
  refine x_aload_n (dT U_Lc27 1 rfl) rfl ?_
  refine x_iload (dT U_Lc27 2 rfl) rfl ?_
  refine x_iconst (dT U_Lc27 3 rfl) ?_
  refine x_iadd (dT U_Lc27 4 rfl) ?_
  refine x_sld (i + 1) hL (dT U_Lc27 5 rfl) (by omega) (by omega) ?_
  refine x_aload_n (dT U_Lc27 6 rfl) rfl ?_
  refine x_iload (dT U_Lc27 7 rfl) rfl ?_
  refine x_iconst (dT U_Lc27 8 rfl) ?_
  refine x_iadd (dT U_Lc27 9 rfl) ?_
  refine x_sld (i + 2) hL (dT U_Lc27 10 rfl) (by omega) (by omega) ?_
  refine x_aload_n (dT U_Lc27 11 rfl) rfl ?_
  refine x_iload (dT U_Lc27 12 rfl) rfl ?_
  refine x_iconst (dT U_Lc27 13 rfl) ?_
  refine x_iadd (dT U_Lc27 14 rfl) ?_
  refine x_sld (i + 3) hL (dT U_Lc27 15 rfl) (by omega) (by omega) ?_
  refine x_aload_n (dT U_Lc27 16 rfl) rfl ?_
  refine x_iload (dT U_Lc27 17 rfl) rfl ?_
  refine x_iconst (dT U_Lc27 18 rfl) ?_
  refine x_iadd (dT U_Lc27 19 rfl) ?_
  refine x_sld (i + 4) hL (dT U_Lc27 20 rfl) (by omega) (by omega) ?_
  refine x_aload_n (dT U_Lc27 21 rfl) rfl ?_
  refine x_invokestaticT (rc' := rc) (rs' := rs) (rc2 := 0 + 4) (rs2 := 0 + 24) (As := [_, _, _, _, _, _]) (st := _) M_L_state K_L_330 (dT U_Lc27 22 rfl) rfl (by decide) rfl rfl (Nat.le_of_ble_eq_true rfl) rfl (by decide) (Nat.le_of_ble_eq_true rfl) (by omega) (by omega) ?_
  refine S_L_state w v (xr_s _) (xr_s _) (xr_s _) (xr_s _) ho (fun c1 => ?_) (fun c1 c2 => ?_) (fun c1 c2 h2 fc w2 z9 hz9 ez9 => ?_)
  · refine xRet_some ?_
    refine x_istore (ls' := [some (.ref _), some (.ref _), some (.ref _), some (.ref _), some (.ref _), some (vi _), some (vi _), none, none]) (dT U_Lc27 23 rfl) (by decide) rfl ?_
    refine x_aload_n (dT U_Lc27 24 rfl) rfl ?_
    refine x_aload_n (dT U_Lc27 25 rfl) rfl ?_
    refine x_iload (dT U_Lc27 26 rfl) rfl ?_
    refine x_iconst (dT U_Lc27 27 rfl) ?_
    refine x_iadd (dT U_Lc27 28 rfl) ?_
    refine x_sld (i + 1) hL (dT U_Lc27 29 rfl) (by omega) (by omega) ?_
    refine x_aload_n (dT U_Lc27 30 rfl) rfl ?_
    refine x_iload (dT U_Lc27 31 rfl) rfl ?_
    refine x_iconst (dT U_Lc27 32 rfl) ?_
    refine x_iadd (dT U_Lc27 33 rfl) ?_
    refine x_sld (i + 2) hL (dT U_Lc27 34 rfl) (by omega) (by omega) ?_
    refine x_aload_n (dT U_Lc27 35 rfl) rfl ?_
    refine x_iload (dT U_Lc27 36 rfl) rfl ?_
    refine x_iconst (dT U_Lc27 37 rfl) ?_
    refine x_iadd (dT U_Lc27 38 rfl) ?_
    refine x_sld (i + 3) hL (dT U_Lc27 39 rfl) (by omega) (by omega) ?_
    refine x_aload_n (dT U_Lc27 40 rfl) rfl ?_
    refine x_iload (dT U_Lc27 41 rfl) rfl ?_
    refine x_iconst (dT U_Lc27 42 rfl) ?_
    refine x_iadd (dT U_Lc27 43 rfl) ?_
    refine x_sld (i + 4) hL (dT U_Lc27 44 rfl) (by omega) (by omega) ?_
    refine x_invokevirtual (rc' := rc) (rs' := rs) (rc2 := 0) (rs2 := 0) (As := [_, _, _, _]) (st := _) M_X11_state K_L_332 (dT U_Lc27 45 rfl) rfl rfl (by decide) rfl rfl wm.c70 (Nat.le_of_ble_eq_true rfl) (by decide) rfl (Nat.le_of_ble_eq_true rfl) rfl (by decide) (Nat.le_of_ble_eq_true rfl) rfl rfl ?_
    refine S_X11_state wm v (xr_s _) (xr_s _) (xr_s _) (xr_s _) (fun m1 h3 z ag wx xz => ?_) (fun m1 m2 _ _ _ _ _ => absurd m1 c1) (fun m1 m2 _ _ _ _ _ => absurd m1 c1)
    refine xRet_some ?_
    refine x_istore (ls' := [some (.ref _), some (.ref _), some (.ref _), some (.ref _), some (.ref _), some (vi _), some (vi _), some (vi _), none]) (dT U_Lc27 46 rfl) (by decide) rfl ?_
    refine x_aload_n (dT U_Lc27 47 rfl) rfl ?_
    refine x_invokevirtual (rc' := rc) (rs' := rs) (rc2 := 0) (rs2 := 0) (As := []) (st := _) M_X11_thrown K_L_242 (dT U_Lc27 48 rfl) rfl rfl (by decide) rfl rfl wx.c70 (Nat.le_of_ble_eq_true rfl) (by decide) rfl (Nat.le_of_ble_eq_true rfl) rfl (by decide) (Nat.le_of_ble_eq_true rfl) rfl rfl ?_
    refine S_X11_thrown wx ?_
    refine xRet_some ?_
    refine x_iload (dT U_Lc27 49 rfl) rfl ?_
    refine x_icmp_eq (tgt := 2480) (dT U_Lc27 50 rfl) (by decide) (by unfold xr; omega) (by unfold xr; omega) (fun c2475 => ?_) (fun c2475 => (by exfalso; omega))
    refine x_iload (dT U_Lc27 53 rfl) rfl ?_
    refine x_if_nej (tgt := 2497) (dT U_Lc27 54 rfl) (by decide) (by decide) ?_
    refine x_goto (tgt := 5554) (dT U_Lc27 64 rfl) (by decide) ?_
    refine x_drop ?_ (M _ _ _ _ _ _ _ _ v (w.out ag (by omega)) wx (ag.get ho (by omega)) (ag.get hod (by omega)))
    repeat (first | exact trivial | refine ⟨rfl, ?_⟩ | refine ⟨trivial, ?_⟩)
  · refine xRet_some ?_
    refine x_istore (ls' := [some (.ref _), some (.ref _), some (.ref _), some (.ref _), some (.ref _), some (vi _), some (vi _), none, none]) (dT U_Lc27 23 rfl) (by decide) rfl ?_
    refine x_aload_n (dT U_Lc27 24 rfl) rfl ?_
    refine x_aload_n (dT U_Lc27 25 rfl) rfl ?_
    refine x_iload (dT U_Lc27 26 rfl) rfl ?_
    refine x_iconst (dT U_Lc27 27 rfl) ?_
    refine x_iadd (dT U_Lc27 28 rfl) ?_
    refine x_sld (i + 1) hL (dT U_Lc27 29 rfl) (by omega) (by omega) ?_
    refine x_aload_n (dT U_Lc27 30 rfl) rfl ?_
    refine x_iload (dT U_Lc27 31 rfl) rfl ?_
    refine x_iconst (dT U_Lc27 32 rfl) ?_
    refine x_iadd (dT U_Lc27 33 rfl) ?_
    refine x_sld (i + 2) hL (dT U_Lc27 34 rfl) (by omega) (by omega) ?_
    refine x_aload_n (dT U_Lc27 35 rfl) rfl ?_
    refine x_iload (dT U_Lc27 36 rfl) rfl ?_
    refine x_iconst (dT U_Lc27 37 rfl) ?_
    refine x_iadd (dT U_Lc27 38 rfl) ?_
    refine x_sld (i + 3) hL (dT U_Lc27 39 rfl) (by omega) (by omega) ?_
    refine x_aload_n (dT U_Lc27 40 rfl) rfl ?_
    refine x_iload (dT U_Lc27 41 rfl) rfl ?_
    refine x_iconst (dT U_Lc27 42 rfl) ?_
    refine x_iadd (dT U_Lc27 43 rfl) ?_
    refine x_sld (i + 4) hL (dT U_Lc27 44 rfl) (by omega) (by omega) ?_
    refine x_invokevirtual (rc' := rc) (rs' := rs) (rc2 := 0) (rs2 := 0) (As := [_, _, _, _]) (st := _) M_X11_state K_L_332 (dT U_Lc27 45 rfl) rfl rfl (by decide) rfl rfl wm.c70 (Nat.le_of_ble_eq_true rfl) (by decide) rfl (Nat.le_of_ble_eq_true rfl) rfl (by decide) (Nat.le_of_ble_eq_true rfl) rfl rfl ?_
    refine S_X11_state wm v (xr_s _) (xr_s _) (xr_s _) (xr_s _) (fun m1 _ _ _ _ _ => absurd c1 m1) (fun m1 m2 h3 z ag wx xz => ?_) (fun m1 m2 _ _ _ _ _ => absurd m2 c2)
    refine xRet_some ?_
    refine x_istore (ls' := [some (.ref _), some (.ref _), some (.ref _), some (.ref _), some (.ref _), some (vi _), some (vi _), some (vi _), none]) (dT U_Lc27 46 rfl) (by decide) rfl ?_
    refine x_aload_n (dT U_Lc27 47 rfl) rfl ?_
    refine x_invokevirtual (rc' := rc) (rs' := rs) (rc2 := 0) (rs2 := 0) (As := []) (st := _) M_X11_thrown K_L_242 (dT U_Lc27 48 rfl) rfl rfl (by decide) rfl rfl wx.c70 (Nat.le_of_ble_eq_true rfl) (by decide) rfl (Nat.le_of_ble_eq_true rfl) rfl (by decide) (Nat.le_of_ble_eq_true rfl) rfl rfl ?_
    refine S_X11_thrown wx ?_
    refine xRet_some ?_
    refine x_iload (dT U_Lc27 49 rfl) rfl ?_
    refine x_icmp_eq (tgt := 2480) (dT U_Lc27 50 rfl) (by decide) (by unfold xr; omega) (by unfold xr; omega) (fun c2475 => ?_) (fun c2475 => (by exfalso; omega))
    refine x_iload (dT U_Lc27 53 rfl) rfl ?_
    refine x_if_ne (tgt := 2497) (dT U_Lc27 54 rfl) (by decide) (by unfold xr; omega) (fun c2482 => ?_) (fun c2482 => (by exfalso; omega))
    refine x_goto (tgt := 5554) (dT U_Lc27 64 rfl) (by decide) ?_
    refine x_drop ?_ (M _ _ _ _ _ _ _ _ v (w.out ag (by omega)) wx (ag.get ho (by omega)) (ag.get hod (by omega)))
    repeat (first | exact trivial | refine ⟨rfl, ?_⟩ | refine ⟨trivial, ?_⟩)
  · refine xRet_some ?_
    have wmx := wm.out (h2 := (h2.set 143 (cJ [z9]))) (fun a ha => by rw [hset_fr (by omega)]; exact fc.2 a (by omega))
    refine x_istore (ls' := [some (.ref _), some (.ref _), some (.ref _), some (.ref _), some (.ref _), some (vi _), some (vi _), none, none]) (dT U_Lc27 23 rfl) (by decide) rfl ?_
    refine x_aload_n (dT U_Lc27 24 rfl) rfl ?_
    refine x_aload_n (dT U_Lc27 25 rfl) rfl ?_
    refine x_iload (dT U_Lc27 26 rfl) rfl ?_
    refine x_iconst (dT U_Lc27 27 rfl) ?_
    refine x_iadd (dT U_Lc27 28 rfl) ?_
    refine x_sld (i + 1) hL (dT U_Lc27 29 rfl) (by omega) (by omega) ?_
    refine x_aload_n (dT U_Lc27 30 rfl) rfl ?_
    refine x_iload (dT U_Lc27 31 rfl) rfl ?_
    refine x_iconst (dT U_Lc27 32 rfl) ?_
    refine x_iadd (dT U_Lc27 33 rfl) ?_
    refine x_sld (i + 2) hL (dT U_Lc27 34 rfl) (by omega) (by omega) ?_
    refine x_aload_n (dT U_Lc27 35 rfl) rfl ?_
    refine x_iload (dT U_Lc27 36 rfl) rfl ?_
    refine x_iconst (dT U_Lc27 37 rfl) ?_
    refine x_iadd (dT U_Lc27 38 rfl) ?_
    refine x_sld (i + 3) hL (dT U_Lc27 39 rfl) (by omega) (by omega) ?_
    refine x_aload_n (dT U_Lc27 40 rfl) rfl ?_
    refine x_iload (dT U_Lc27 41 rfl) rfl ?_
    refine x_iconst (dT U_Lc27 42 rfl) ?_
    refine x_iadd (dT U_Lc27 43 rfl) ?_
    refine x_sld (i + 4) hL (dT U_Lc27 44 rfl) (by omega) (by omega) ?_
    refine x_invokevirtual (rc' := rc) (rs' := rs) (rc2 := 0) (rs2 := 0) (As := [_, _, _, _]) (st := _) M_X11_state K_L_332 (dT U_Lc27 45 rfl) rfl rfl (by decide) rfl rfl wmx.c70 (Nat.le_of_ble_eq_true rfl) (by decide) rfl (Nat.le_of_ble_eq_true rfl) rfl (by decide) (Nat.le_of_ble_eq_true rfl) rfl rfl ?_
    refine S_X11_state wmx v (xr_s _) (xr_s _) (xr_s _) (xr_s _) (fun m1 _ _ _ _ _ => absurd c1 m1) (fun m1 m2 _ _ _ _ _ => absurd c2 m2) (fun m1 m2 h3 r3 s3 ag wx => ?_)
    refine xRet_some ?_
    rw [ez9]
    refine x_istore (ls' := [some (.ref _), some (.ref _), some (.ref _), some (.ref _), some (.ref _), some (vi _), some (vi _), some (vi _), none]) (dT U_Lc27 46 rfl) (by decide) rfl ?_
    refine x_aload_n (dT U_Lc27 47 rfl) rfl ?_
    refine x_invokevirtual (rc' := rc) (rs' := rs) (rc2 := 0) (rs2 := 0) (As := []) (st := _) M_X11_thrown K_L_242 (dT U_Lc27 48 rfl) rfl rfl (by decide) rfl rfl wx.c70 (Nat.le_of_ble_eq_true rfl) (by decide) rfl (Nat.le_of_ble_eq_true rfl) rfl (by decide) (Nat.le_of_ble_eq_true rfl) rfl rfl ?_
    refine S_X11_thrown wx ?_
    refine xRet_some ?_
    refine x_iload (dT U_Lc27 49 rfl) rfl ?_
    refine x_icmp_eq (tgt := 2480) (dT U_Lc27 50 rfl) (by decide) (by unfold xr; omega) (by unfold xr; omega) (fun c2475 => ?_) (fun c2475 => (by exfalso; omega))
    refine x_iload (dT U_Lc27 53 rfl) rfl ?_
    refine x_if_nen (tgt := 2497) (dT U_Lc27 54 rfl) (by decide) (by decide) ?_
    refine x_aload_n (dT U_Lc27 55 rfl) rfl ?_
    refine x_iconst (dT U_Lc27 56 rfl) ?_
    refine x_laload 0 (dT U_Lc27 57 rfl) (ag.get (hset_eq (fc.get ho (by omega))) (by omega)) (Nat.le_of_ble_eq_true rfl) rfl (Nat.le_of_ble_eq_true rfl) (Nat.le_of_ble_eq_true rfl) ?_
    refine x_iload (dT U_Lc27 58 rfl) rfl ?_
    refine x_i2l (dT U_Lc27 59 rfl) hz9 ?_
    refine x_lcmp (dT U_Lc27 60 rfl) (xr_l hz9) (xr_l hz9) ?_
    refine x_if_eqj (tgt := 2497) (dT U_Lc27 61 rfl) (by decide) (xcmp_rf _) ?_
    refine x_goto (tgt := 5554) (dT U_Lc27 64 rfl) (by decide) ?_
    refine x_drop ?_ (M _ _ _ _ _ _ _ _ (IV_state v c1 c2) ((w2.out ((Ag.rf 143 143 h2).set (by omega)) (by omega)).out ag (by omega)) wx (ag.get (hset_eq (fc.get ho (by omega))) (by omega)) (ag.get (hset_ne (by omega) (fc.get hod (by omega))) (by omega)))
    repeat (first | exact trivial | refine ⟨rfl, ?_⟩ | refine ⟨trivial, ?_⟩)
