set_option maxRecDepth 20000 in
set_option maxHeartbeats 4000000 in
theorem S_X10_init {G : xG} {d rc rs : Nat} {h : xH} {Q : xQ} (hN : h.length = 4) (fa : h[3]? = some (cO 10 [.null, .null, .null, .null, .null, .null, .null, .null, .null, .null, .null, .null, .null, .null, .null])) (kk : ∀ h2 : xH, h2.length = 70 → (∀ (b : Nat) (x : xC), b ≠ 3 → h[b]? = some x → h2[b]? = some x) → CW σ0 h2 → Q (.inl none) true h2) : X G m_X10_init (d + 4) (rc + 66) (rs + 664) true 0 (xe m_X10_init.2.2.1 [.ref 3]) [] h Q := by
  show X G m_X10_init _ _ _ _ 0 [some (.ref 3), none] [] h Q
  refine x_aload_n (dT U_X10_init 0 rfl) rfl ?_
  refine x_objinit K_X10_1 w_oi w_oc (dT U_X10_init 1 rfl) (Nat.le_of_ble_eq_true rfl) (by omega) ?_
  refine x_aload_n (dT U_X10_init 2 rfl) rfl ?_
  refine y_new (rc' := rc + 65) (rs' := rs + 663) (N := 4) (ci := 1) (fs := [vi 0]) hN (by decide) W_X10_7 N_X1 I_X1 (dT U_X10_init 3 rfl) xd_1 rfl rfl (fun h1 l1 k1 f1 => ?_)
  have l1 : h1.length = 5 := l1
  refine x_dup (dT U_X10_init 4 rfl) rfl ?_
  refine x_invokespecial (rc' := rc + 65) (rs' := rs + 663) (rc2 := 0 + 0) (rs2 := 0 + 0) (As := []) (st := _) M_X1_init K_X10_9 (dT U_X10_init 5 rfl) rfl rfl rfl rfl rfl rfl (Nat.le_of_ble_eq_true rfl) rfl (by decide) (Nat.le_of_ble_eq_true rfl) (by omega) (by omega) ?_
  refine S_X1_init l1 (Nat.le_of_ble_eq_true rfl) f1  (fun h2 l2 k2 f2_0 => ?_)
  refine xRet_none ?_
  have l2 : h2.length = 5 := l2
  have f2_0 : h2[4]? = some (cO 1 [vi 7]) := f2_0
  refine y_fin l2 F_X10_10 rfl rfl (dT U_X10_init 6 rfl) (k2 _ _ (by decide) (k1 _ _ fa)) (Nat.le_of_ble_eq_true rfl) (Nat.le_of_ble_eq_true rfl) rfl rfl (fun h3 l3 k3 f3 => ?_)
  have l3 : h3.length = 5 := l3
  have f3 : h3[3]? = some (cO 10 [.ref (4), .null, .null, .null, .null, .null, .null, .null, .null, .null, .null, .null, .null, .null, .null]) := f3
  refine x_aload_n (dT U_X10_init 7 rfl) rfl ?_
  refine y_new (rc' := rc + 64) (rs' := rs + 658) (N := 5) (ci := 3) (fs := [.null, vi 0, .null, .null, .null]) l3 (by decide) W_X10_16 N_X3 I_X3 (dT U_X10_init 8 rfl) xd_3 rfl rfl (fun h4 l4 k4 f4 => ?_)
  have l4 : h4.length = 6 := l4
  refine x_dup (dT U_X10_init 9 rfl) rfl ?_
  refine x_aload_n (dT U_X10_init 10 rfl) rfl ?_
  refine x_getfield F_X10_10 (dT U_X10_init 11 rfl) (k4 _ _ f3) (Nat.le_of_ble_eq_true rfl) rfl ?_
  refine x_invokespecial (rc' := rc + 61) (rs' := rs + 434) (rc2 := 0 + 3) (rs2 := 0 + 224) (As := [_]) (st := _) M_X3_init K_X10_18 (dT U_X10_init 12 rfl) rfl rfl rfl rfl rfl rfl (Nat.le_of_ble_eq_true rfl) rfl (by decide) (Nat.le_of_ble_eq_true rfl) (by omega) (by omega) ?_
  refine S_X3_init l4 f4 (k4 _ _ (k3 _ _ (by decide) f2_0)) (fun h5 l5 k5 gw => ?_)
  refine xRet_none ?_
  have l5 : h5.length = 9 := l5
  refine y_fin l5 F_X10_21 rfl rfl (dT U_X10_init 13 rfl) (k5 _ _ (by decide) (k4 _ _ f3)) (Nat.le_of_ble_eq_true rfl) (Nat.le_of_ble_eq_true rfl) rfl rfl (fun h6 l6 k6 f6 => ?_)
  have l6 : h6.length = 9 := l6
  have f6 : h6[3]? = some (cO 10 [.ref (4), .ref (5), .null, .null, .null, .null, .null, .null, .null, .null, .null, .null, .null, .null, .null]) := f6
  refine x_aload_n (dT U_X10_init 14 rfl) rfl ?_
  refine x_bipush (dT U_X10_init 15 rfl) (by decide) ?_
  refine x_bipush (dT U_X10_init 16 rfl) (by decide) ?_
  refine y_multi (rc' := rc + 52) (rs' := rs + 362) (N := 9) 8 8 l6 W_X10_25 w_ac_int (dT U_X10_init 17 rfl) rfl rfl (by decide) (by decide) rfl rfl (fun h7 l7 k7 f7 r7 => ?_)
  have l7 : h7.length = 18 := l7
  have f7 : h7[9]? = some (cQ 4 [some (10), some (11), some (12), some (13), some (14), some (15), some (16), some (17)]) := f7
  refine y_fin l7 F_X10_27 rfl rfl (dT U_X10_init 18 rfl) (k7 _ _ f6) (Nat.le_of_ble_eq_true rfl) (Nat.le_of_ble_eq_true rfl) rfl rfl (fun h8 l8 k8 f8 => ?_)
  have l8 : h8.length = 18 := l8
  have f8 : h8[3]? = some (cO 10 [.ref (4), .ref (5), .ref (9), .null, .null, .null, .null, .null, .null, .null, .null, .null, .null, .null, .null]) := f8
  refine x_aload_n (dT U_X10_init 19 rfl) rfl ?_
  refine y_new (rc' := rc + 51) (rs' := rs + 359) (N := 18) (ci := 6) (fs := [.null, .null, .null]) l8 (by decide) W_X10_30 N_X6 I_X6 (dT U_X10_init 20 rfl) xd_6 rfl rfl (fun h9 l9 k9 f9 => ?_)
  have l9 : h9.length = 19 := l9
  refine x_dup (dT U_X10_init 21 rfl) rfl ?_
  refine x_aload_n (dT U_X10_init 22 rfl) rfl ?_
  refine x_getfield F_X10_10 (dT U_X10_init 23 rfl) (k9 _ _ f8) (Nat.le_of_ble_eq_true rfl) rfl ?_
  refine x_invokespecial (rc' := rc + 49) (rs' := rs + 343) (rc2 := 0 + 2) (rs2 := 0 + 16) (As := [_]) (st := _) M_X6_init K_X10_32 (dT U_X10_init 24 rfl) rfl rfl rfl rfl rfl rfl (Nat.le_of_ble_eq_true rfl) rfl (by decide) (Nat.le_of_ble_eq_true rfl) (by omega) (by omega) ?_
  refine S_X6_init l9 (Nat.le_of_ble_eq_true rfl) f9  (fun h10 l10 k10 f10_0 f10_1 f10_2 => ?_)
  refine xRet_none ?_
  have l10 : h10.length = 21 := l10
  have f10_0 : h10[18]? = some (cO 6 [.ref 4, .ref (18 + 1), .ref (18 + 2)]) := f10_0
  have f10_1 : h10[19]? = some (cA 0 (List.replicate 8 0)) := f10_1
  have f10_2 : h10[20]? = some (cA 0 (List.replicate 8 0)) := f10_2
  refine y_fin l10 F_X10_33 rfl rfl (dT U_X10_init 25 rfl) (k10 _ _ (by decide) (k9 _ _ f8)) (Nat.le_of_ble_eq_true rfl) (Nat.le_of_ble_eq_true rfl) rfl rfl (fun h11 l11 k11 f11 => ?_)
  have l11 : h11.length = 21 := l11
  have f11 : h11[3]? = some (cO 10 [.ref (4), .ref (5), .ref (9), .ref (18), .null, .null, .null, .null, .null, .null, .null, .null, .null, .null, .null]) := f11
  refine x_aload_n (dT U_X10_init 26 rfl) rfl ?_
  refine x_iconst (dT U_X10_init 27 rfl) ?_
  refine y_anew (rc' := rc + 48) (rs' := rs + 339) (N := 21) (k := 5) 4 l11 (by decide) W_X10_37 (dT U_X10_init 28 rfl) rfl (by decide) rfl rfl (fun h12 l12 k12 f12 => ?_)
  have l12 : h12.length = 22 := l12
  refine y_fin l12 F_X10_39 rfl rfl (dT U_X10_init 29 rfl) (k12 _ _ f11) (Nat.le_of_ble_eq_true rfl) (Nat.le_of_ble_eq_true rfl) rfl rfl (fun h13 l13 k13 f13 => ?_)
  have l13 : h13.length = 22 := l13
  have f13 : h13[3]? = some (cO 10 [.ref (4), .ref (5), .ref (9), .ref (18), .ref (21), .null, .null, .null, .null, .null, .null, .null, .null, .null, .null]) := f13
  refine x_iconst (dT U_X10_init 30 rfl) ?_
  refine x_istore_n (ls' := [some (.ref _), some (vi _)]) (dT U_X10_init 31 rfl) (by decide) rfl ?_
  refine x_iload_n (dT U_X10_init 32 rfl) rfl ?_
  refine x_iconst (dT U_X10_init 33 rfl) ?_
  refine x_icmp_ge (tgt := 95) (dT U_X10_init 34 rfl) (by decide) (by unfold xr; omega) (by unfold xr; omega) (fun c69 => (by exfalso; omega)) (fun c69 => ?_)
  refine x_aload_n (dT U_X10_init 35 rfl) rfl ?_
  refine x_getfield F_X10_39 (dT U_X10_init 36 rfl) f13 (Nat.le_of_ble_eq_true rfl) rfl ?_
  refine x_iload_n (dT U_X10_init 37 rfl) rfl ?_
  refine y_new (rc' := rc + 47) (rs' := rs + 326) (N := 22) (ci := 7) (fs := [.null, .null, .null, .null, .null, vi 0, vi 0, vi 0, vi 0, vi 0, vi 0, vi 0, vi 0]) l13 (by decide) W_X10_37 N_X7 I_X7 (dT U_X10_init 38 rfl) xd_7 rfl rfl (fun h14 l14 k14 f14 => ?_)
  have l14 : h14.length = 23 := l14
  refine x_dup (dT U_X10_init 39 rfl) rfl ?_
  refine x_aload_n (dT U_X10_init 40 rfl) rfl ?_
  refine x_getfield F_X10_21 (dT U_X10_init 41 rfl) (k14 _ _ f13) (Nat.le_of_ble_eq_true rfl) rfl ?_
  refine x_invokespecial (rc' := rc + 44) (rs' := rs + 302) (rc2 := 0 + 3) (rs2 := 0 + 24) (As := [_]) (st := _) M_X7_init K_X10_43 (dT U_X10_init 42 rfl) rfl rfl rfl rfl rfl rfl (Nat.le_of_ble_eq_true rfl) rfl (by decide) (Nat.le_of_ble_eq_true rfl) (by omega) (by omega) ?_
  refine S_X7_init l14 (Nat.le_of_ble_eq_true rfl) f14 (k14 _ _ (k13 _ _ (by decide) (k12 _ _ (k11 _ _ (by decide) (k10 _ _ (by decide) (k9 _ _ (k8 _ _ (by decide) (k7 _ _ (k6 _ _ (by decide) gw.2.1))))))))) (by omega) (fun h15 l15 k15 f15_0 f15_1 f15_2 f15_3 => ?_)
  refine xRet_none ?_
  have l15 : h15.length = 26 := l15
  have f15_0 : h15[22]? = some (cR 22 (-1, -1, -1, -1, -1, -1, -1, 0)) := f15_0
  have f15_1 : h15[23]? = some (cA 0 (List.replicate 8 0)) := f15_1
  have f15_2 : h15[24]? = some (cA 0 (List.replicate 8 0)) := f15_2
  have f15_3 : h15[25]? = some (cA 0 (List.replicate 8 0)) := f15_3
  refine y_aast 0 l15 (dT U_X10_init 43 rfl) (by decide) (k15 _ _ (by decide) (k14 _ _ (k13 _ _ (by decide) f12))) (Nat.le_of_ble_eq_true rfl) f15_0 (Nat.le_of_ble_eq_true rfl) rfl (by decide) (by decide) (fun h16 l16 k16 f16 => ?_)
  have l16 : h16.length = 26 := l16
  have f16 : h16[21]? = some (cQ 5 [some (22), none, none, none]) := f16
  refine x_iinc (ls' := [some (.ref _), some (vi _)]) (dT U_X10_init 44 rfl) (by decide) rfl rfl ?_
  refine x_goto (tgt := 67) (dT U_X10_init 45 rfl) (by decide) ?_
  refine x_iload_n (dT U_X10_init 32 rfl) rfl ?_
  refine x_iconst (dT U_X10_init 33 rfl) ?_
  refine x_icmp_ge (tgt := 95) (dT U_X10_init 34 rfl) (by decide) (by unfold xr; omega) (by unfold xr; omega) (fun c69 => (by exfalso; omega)) (fun c69 => ?_)
  refine x_aload_n (dT U_X10_init 35 rfl) rfl ?_
  refine x_getfield F_X10_39 (dT U_X10_init 36 rfl) (k16 _ _ (by decide) (k15 _ _ (by decide) (k14 _ _ f13))) (Nat.le_of_ble_eq_true rfl) rfl ?_
  refine x_iload_n (dT U_X10_init 37 rfl) rfl ?_
  refine y_new (rc' := rc + 43) (rs' := rs + 289) (N := 26) (ci := 7) (fs := [.null, .null, .null, .null, .null, vi 0, vi 0, vi 0, vi 0, vi 0, vi 0, vi 0, vi 0]) l16 (by decide) W_X10_37 N_X7 I_X7 (dT U_X10_init 38 rfl) xd_7 rfl rfl (fun h17 l17 k17 f17 => ?_)
  have l17 : h17.length = 27 := l17
  refine x_dup (dT U_X10_init 39 rfl) rfl ?_
  refine x_aload_n (dT U_X10_init 40 rfl) rfl ?_
  refine x_getfield F_X10_21 (dT U_X10_init 41 rfl) (k17 _ _ (k16 _ _ (by decide) (k15 _ _ (by decide) (k14 _ _ f13)))) (Nat.le_of_ble_eq_true rfl) rfl ?_
  refine x_invokespecial (rc' := rc + 40) (rs' := rs + 265) (rc2 := 0 + 3) (rs2 := 0 + 24) (As := [_]) (st := _) M_X7_init K_X10_43 (dT U_X10_init 42 rfl) rfl rfl rfl rfl rfl rfl (Nat.le_of_ble_eq_true rfl) rfl (by decide) (Nat.le_of_ble_eq_true rfl) (by omega) (by omega) ?_
  refine S_X7_init l17 (Nat.le_of_ble_eq_true rfl) f17 (k17 _ _ (k16 _ _ (by decide) (k15 _ _ (by decide) (k14 _ _ (k13 _ _ (by decide) (k12 _ _ (k11 _ _ (by decide) (k10 _ _ (by decide) (k9 _ _ (k8 _ _ (by decide) (k7 _ _ (k6 _ _ (by decide) gw.2.1)))))))))))) (by omega) (fun h18 l18 k18 f18_0 f18_1 f18_2 f18_3 => ?_)
  refine xRet_none ?_
  have l18 : h18.length = 30 := l18
  have f18_0 : h18[26]? = some (cR 26 (-1, -1, -1, -1, -1, -1, -1, 0)) := f18_0
  have f18_1 : h18[27]? = some (cA 0 (List.replicate 8 0)) := f18_1
  have f18_2 : h18[28]? = some (cA 0 (List.replicate 8 0)) := f18_2
  have f18_3 : h18[29]? = some (cA 0 (List.replicate 8 0)) := f18_3
  refine y_aast 1 l18 (dT U_X10_init 43 rfl) (by decide) (k18 _ _ (by decide) (k17 _ _ f16)) (Nat.le_of_ble_eq_true rfl) f18_0 (Nat.le_of_ble_eq_true rfl) rfl (by decide) (by decide) (fun h19 l19 k19 f19 => ?_)
  have l19 : h19.length = 30 := l19
  have f19 : h19[21]? = some (cQ 5 [some (22), some (26), none, none]) := f19
  refine x_iinc (ls' := [some (.ref _), some (vi _)]) (dT U_X10_init 44 rfl) (by decide) rfl rfl ?_
  refine x_goto (tgt := 67) (dT U_X10_init 45 rfl) (by decide) ?_
  refine x_iload_n (dT U_X10_init 32 rfl) rfl ?_
  refine x_iconst (dT U_X10_init 33 rfl) ?_
  refine x_icmp_ge (tgt := 95) (dT U_X10_init 34 rfl) (by decide) (by unfold xr; omega) (by unfold xr; omega) (fun c69 => (by exfalso; omega)) (fun c69 => ?_)
  refine x_aload_n (dT U_X10_init 35 rfl) rfl ?_
  refine x_getfield F_X10_39 (dT U_X10_init 36 rfl) (k19 _ _ (by decide) (k18 _ _ (by decide) (k17 _ _ (k16 _ _ (by decide) (k15 _ _ (by decide) (k14 _ _ f13)))))) (Nat.le_of_ble_eq_true rfl) rfl ?_
  refine x_iload_n (dT U_X10_init 37 rfl) rfl ?_
  refine y_new (rc' := rc + 39) (rs' := rs + 252) (N := 30) (ci := 7) (fs := [.null, .null, .null, .null, .null, vi 0, vi 0, vi 0, vi 0, vi 0, vi 0, vi 0, vi 0]) l19 (by decide) W_X10_37 N_X7 I_X7 (dT U_X10_init 38 rfl) xd_7 rfl rfl (fun h20 l20 k20 f20 => ?_)
  have l20 : h20.length = 31 := l20
  refine x_dup (dT U_X10_init 39 rfl) rfl ?_
  refine x_aload_n (dT U_X10_init 40 rfl) rfl ?_
  refine x_getfield F_X10_21 (dT U_X10_init 41 rfl) (k20 _ _ (k19 _ _ (by decide) (k18 _ _ (by decide) (k17 _ _ (k16 _ _ (by decide) (k15 _ _ (by decide) (k14 _ _ f13))))))) (Nat.le_of_ble_eq_true rfl) rfl ?_
  refine x_invokespecial (rc' := rc + 36) (rs' := rs + 228) (rc2 := 0 + 3) (rs2 := 0 + 24) (As := [_]) (st := _) M_X7_init K_X10_43 (dT U_X10_init 42 rfl) rfl rfl rfl rfl rfl rfl (Nat.le_of_ble_eq_true rfl) rfl (by decide) (Nat.le_of_ble_eq_true rfl) (by omega) (by omega) ?_
  refine S_X7_init l20 (Nat.le_of_ble_eq_true rfl) f20 (k20 _ _ (k19 _ _ (by decide) (k18 _ _ (by decide) (k17 _ _ (k16 _ _ (by decide) (k15 _ _ (by decide) (k14 _ _ (k13 _ _ (by decide) (k12 _ _ (k11 _ _ (by decide) (k10 _ _ (by decide) (k9 _ _ (k8 _ _ (by decide) (k7 _ _ (k6 _ _ (by decide) gw.2.1))))))))))))))) (by omega) (fun h21 l21 k21 f21_0 f21_1 f21_2 f21_3 => ?_)
  refine xRet_none ?_
  have l21 : h21.length = 34 := l21
  have f21_0 : h21[30]? = some (cR 30 (-1, -1, -1, -1, -1, -1, -1, 0)) := f21_0
  have f21_1 : h21[31]? = some (cA 0 (List.replicate 8 0)) := f21_1
  have f21_2 : h21[32]? = some (cA 0 (List.replicate 8 0)) := f21_2
  have f21_3 : h21[33]? = some (cA 0 (List.replicate 8 0)) := f21_3
  refine y_aast 2 l21 (dT U_X10_init 43 rfl) (by decide) (k21 _ _ (by decide) (k20 _ _ f19)) (Nat.le_of_ble_eq_true rfl) f21_0 (Nat.le_of_ble_eq_true rfl) rfl (by decide) (by decide) (fun h22 l22 k22 f22 => ?_)
  have l22 : h22.length = 34 := l22
  have f22 : h22[21]? = some (cQ 5 [some (22), some (26), some (30), none]) := f22
  refine x_iinc (ls' := [some (.ref _), some (vi _)]) (dT U_X10_init 44 rfl) (by decide) rfl rfl ?_
  refine x_goto (tgt := 67) (dT U_X10_init 45 rfl) (by decide) ?_
  refine x_iload_n (dT U_X10_init 32 rfl) rfl ?_
  refine x_iconst (dT U_X10_init 33 rfl) ?_
  refine x_icmp_ge (tgt := 95) (dT U_X10_init 34 rfl) (by decide) (by unfold xr; omega) (by unfold xr; omega) (fun c69 => (by exfalso; omega)) (fun c69 => ?_)
  refine x_aload_n (dT U_X10_init 35 rfl) rfl ?_
  refine x_getfield F_X10_39 (dT U_X10_init 36 rfl) (k22 _ _ (by decide) (k21 _ _ (by decide) (k20 _ _ (k19 _ _ (by decide) (k18 _ _ (by decide) (k17 _ _ (k16 _ _ (by decide) (k15 _ _ (by decide) (k14 _ _ f13))))))))) (Nat.le_of_ble_eq_true rfl) rfl ?_
  refine x_iload_n (dT U_X10_init 37 rfl) rfl ?_
  refine y_new (rc' := rc + 35) (rs' := rs + 215) (N := 34) (ci := 7) (fs := [.null, .null, .null, .null, .null, vi 0, vi 0, vi 0, vi 0, vi 0, vi 0, vi 0, vi 0]) l22 (by decide) W_X10_37 N_X7 I_X7 (dT U_X10_init 38 rfl) xd_7 rfl rfl (fun h23 l23 k23 f23 => ?_)
  have l23 : h23.length = 35 := l23
  refine x_dup (dT U_X10_init 39 rfl) rfl ?_
  refine x_aload_n (dT U_X10_init 40 rfl) rfl ?_
  refine x_getfield F_X10_21 (dT U_X10_init 41 rfl) (k23 _ _ (k22 _ _ (by decide) (k21 _ _ (by decide) (k20 _ _ (k19 _ _ (by decide) (k18 _ _ (by decide) (k17 _ _ (k16 _ _ (by decide) (k15 _ _ (by decide) (k14 _ _ f13)))))))))) (Nat.le_of_ble_eq_true rfl) rfl ?_
  refine x_invokespecial (rc' := rc + 32) (rs' := rs + 191) (rc2 := 0 + 3) (rs2 := 0 + 24) (As := [_]) (st := _) M_X7_init K_X10_43 (dT U_X10_init 42 rfl) rfl rfl rfl rfl rfl rfl (Nat.le_of_ble_eq_true rfl) rfl (by decide) (Nat.le_of_ble_eq_true rfl) (by omega) (by omega) ?_
  refine S_X7_init l23 (Nat.le_of_ble_eq_true rfl) f23 (k23 _ _ (k22 _ _ (by decide) (k21 _ _ (by decide) (k20 _ _ (k19 _ _ (by decide) (k18 _ _ (by decide) (k17 _ _ (k16 _ _ (by decide) (k15 _ _ (by decide) (k14 _ _ (k13 _ _ (by decide) (k12 _ _ (k11 _ _ (by decide) (k10 _ _ (by decide) (k9 _ _ (k8 _ _ (by decide) (k7 _ _ (k6 _ _ (by decide) gw.2.1)))))))))))))))))) (by omega) (fun h24 l24 k24 f24_0 f24_1 f24_2 f24_3 => ?_)
  refine xRet_none ?_
  have l24 : h24.length = 38 := l24
  have f24_0 : h24[34]? = some (cR 34 (-1, -1, -1, -1, -1, -1, -1, 0)) := f24_0
  have f24_1 : h24[35]? = some (cA 0 (List.replicate 8 0)) := f24_1
  have f24_2 : h24[36]? = some (cA 0 (List.replicate 8 0)) := f24_2
  have f24_3 : h24[37]? = some (cA 0 (List.replicate 8 0)) := f24_3
  refine y_aast 3 l24 (dT U_X10_init 43 rfl) (by decide) (k24 _ _ (by decide) (k23 _ _ f22)) (Nat.le_of_ble_eq_true rfl) f24_0 (Nat.le_of_ble_eq_true rfl) rfl (by decide) (by decide) (fun h25 l25 k25 f25 => ?_)
  have l25 : h25.length = 38 := l25
  have f25 : h25[21]? = some (cQ 5 [some (22), some (26), some (30), some (34)]) := f25
  refine x_iinc (ls' := [some (.ref _), some (vi _)]) (dT U_X10_init 44 rfl) (by decide) rfl rfl ?_
  refine x_goto (tgt := 67) (dT U_X10_init 45 rfl) (by decide) ?_
  refine x_iload_n (dT U_X10_init 32 rfl) rfl ?_
  refine x_iconst (dT U_X10_init 33 rfl) ?_
  refine x_icmp_ge (tgt := 95) (dT U_X10_init 34 rfl) (by decide) (by unfold xr; omega) (by unfold xr; omega) (fun c69 => ?_) (fun c69 => (by exfalso; omega))
  refine x_aload_n (dT U_X10_init 46 rfl) rfl ?_
  refine x_iconst (dT U_X10_init 47 rfl) ?_
  refine y_anew (rc' := rc + 31) (rs' := rs + 189) (N := 38) (k := 6) 2 l25 (by decide) W_X10_46 (dT U_X10_init 48 rfl) rfl (by decide) rfl rfl (fun h26 l26 k26 f26 => ?_)
  have l26 : h26.length = 39 := l26
  refine y_fin l26 F_X10_48 rfl rfl (dT U_X10_init 49 rfl) (k26 _ _ (k25 _ _ (by decide) (k24 _ _ (by decide) (k23 _ _ (k22 _ _ (by decide) (k21 _ _ (by decide) (k20 _ _ (k19 _ _ (by decide) (k18 _ _ (by decide) (k17 _ _ (k16 _ _ (by decide) (k15 _ _ (by decide) (k14 _ _ f13))))))))))))) (Nat.le_of_ble_eq_true rfl) (Nat.le_of_ble_eq_true rfl) rfl rfl (fun h27 l27 k27 f27 => ?_)
  have l27 : h27.length = 39 := l27
  have f27 : h27[3]? = some (cO 10 [.ref (4), .ref (5), .ref (9), .ref (18), .ref (21), .ref (38), .null, .null, .null, .null, .null, .null, .null, .null, .null]) := f27
  refine x_iconst (dT U_X10_init 50 rfl) ?_
  refine x_istore_n (ls' := [some (.ref _), some (vi _)]) (dT U_X10_init 51 rfl) (by decide) rfl ?_
  refine x_iload_n (dT U_X10_init 52 rfl) rfl ?_
  refine x_iconst (dT U_X10_init 53 rfl) ?_
  refine x_icmp_ge (tgt := 133) (dT U_X10_init 54 rfl) (by decide) (by unfold xr; omega) (by unfold xr; omega) (fun c107 => (by exfalso; omega)) (fun c107 => ?_)
  refine x_aload_n (dT U_X10_init 55 rfl) rfl ?_
  refine x_getfield F_X10_48 (dT U_X10_init 56 rfl) f27 (Nat.le_of_ble_eq_true rfl) rfl ?_
  refine x_iload_n (dT U_X10_init 57 rfl) rfl ?_
  refine y_new (rc' := rc + 30) (rs' := rs + 179) (N := 39) (ci := 5) (fs := [.null, .null, .null, .null, .null, vi 0, vi 0, vi 0, vi 0, vi 0]) l27 (by decide) W_X10_46 N_X5 I_X5 (dT U_X10_init 58 rfl) xd_5 rfl rfl (fun h28 l28 k28 f28 => ?_)
  have l28 : h28.length = 40 := l28
  refine x_dup (dT U_X10_init 59 rfl) rfl ?_
  refine x_aload_n (dT U_X10_init 60 rfl) rfl ?_
  refine x_getfield F_X10_21 (dT U_X10_init 61 rfl) (k28 _ _ f27) (Nat.le_of_ble_eq_true rfl) rfl ?_
  refine x_invokespecial (rc' := rc + 27) (rs' := rs + 173) (rc2 := 0 + 3) (rs2 := 0 + 6) (As := [_]) (st := _) M_X5_init K_X10_52 (dT U_X10_init 62 rfl) rfl rfl rfl rfl rfl rfl (Nat.le_of_ble_eq_true rfl) rfl (by decide) (Nat.le_of_ble_eq_true rfl) (by omega) (by omega) ?_
  refine S_X5_init l28 (Nat.le_of_ble_eq_true rfl) f28 (k28 _ _ (k27 _ _ (by decide) (k26 _ _ (k25 _ _ (by decide) (k24 _ _ (by decide) (k23 _ _ (k22 _ _ (by decide) (k21 _ _ (by decide) (k20 _ _ (k19 _ _ (by decide) (k18 _ _ (by decide) (k17 _ _ (k16 _ _ (by decide) (k15 _ _ (by decide) (k14 _ _ (k13 _ _ (by decide) (k12 _ _ (k11 _ _ (by decide) (k10 _ _ (by decide) (k9 _ _ (k8 _ _ (by decide) (k7 _ _ (k6 _ _ (by decide) gw.2.1))))))))))))))))))))))) (by omega) (fun h29 l29 k29 f29_0 f29_1 f29_2 f29_3 => ?_)
  refine xRet_none ?_
  have l29 : h29.length = 43 := l29
  have f29_0 : h29[39]? = some (cP 39 (-1) 0 0 (-1) (-1)) := f29_0
  have f29_1 : h29[40]? = some (cA 0 (List.replicate 2 0)) := f29_1
  have f29_2 : h29[41]? = some (cA 0 (List.replicate 2 0)) := f29_2
  have f29_3 : h29[42]? = some (cA 0 (List.replicate 2 0)) := f29_3
  refine y_aast 0 l29 (dT U_X10_init 63 rfl) (by decide) (k29 _ _ (by decide) (k28 _ _ (k27 _ _ (by decide) f26))) (Nat.le_of_ble_eq_true rfl) f29_0 (Nat.le_of_ble_eq_true rfl) rfl (by decide) (by decide) (fun h30 l30 k30 f30 => ?_)
  have l30 : h30.length = 43 := l30
  have f30 : h30[38]? = some (cQ 6 [some (39), none]) := f30
  refine x_iinc (ls' := [some (.ref _), some (vi _)]) (dT U_X10_init 64 rfl) (by decide) rfl rfl ?_
  refine x_goto (tgt := 105) (dT U_X10_init 65 rfl) (by decide) ?_
  refine x_iload_n (dT U_X10_init 52 rfl) rfl ?_
  refine x_iconst (dT U_X10_init 53 rfl) ?_
  refine x_icmp_ge (tgt := 133) (dT U_X10_init 54 rfl) (by decide) (by unfold xr; omega) (by unfold xr; omega) (fun c107 => (by exfalso; omega)) (fun c107 => ?_)
  refine x_aload_n (dT U_X10_init 55 rfl) rfl ?_
  refine x_getfield F_X10_48 (dT U_X10_init 56 rfl) (k30 _ _ (by decide) (k29 _ _ (by decide) (k28 _ _ f27))) (Nat.le_of_ble_eq_true rfl) rfl ?_
  refine x_iload_n (dT U_X10_init 57 rfl) rfl ?_
  refine y_new (rc' := rc + 26) (rs' := rs + 163) (N := 43) (ci := 5) (fs := [.null, .null, .null, .null, .null, vi 0, vi 0, vi 0, vi 0, vi 0]) l30 (by decide) W_X10_46 N_X5 I_X5 (dT U_X10_init 58 rfl) xd_5 rfl rfl (fun h31 l31 k31 f31 => ?_)
  have l31 : h31.length = 44 := l31
  refine x_dup (dT U_X10_init 59 rfl) rfl ?_
  refine x_aload_n (dT U_X10_init 60 rfl) rfl ?_
  refine x_getfield F_X10_21 (dT U_X10_init 61 rfl) (k31 _ _ (k30 _ _ (by decide) (k29 _ _ (by decide) (k28 _ _ f27)))) (Nat.le_of_ble_eq_true rfl) rfl ?_
  refine x_invokespecial (rc' := rc + 23) (rs' := rs + 157) (rc2 := 0 + 3) (rs2 := 0 + 6) (As := [_]) (st := _) M_X5_init K_X10_52 (dT U_X10_init 62 rfl) rfl rfl rfl rfl rfl rfl (Nat.le_of_ble_eq_true rfl) rfl (by decide) (Nat.le_of_ble_eq_true rfl) (by omega) (by omega) ?_
  refine S_X5_init l31 (Nat.le_of_ble_eq_true rfl) f31 (k31 _ _ (k30 _ _ (by decide) (k29 _ _ (by decide) (k28 _ _ (k27 _ _ (by decide) (k26 _ _ (k25 _ _ (by decide) (k24 _ _ (by decide) (k23 _ _ (k22 _ _ (by decide) (k21 _ _ (by decide) (k20 _ _ (k19 _ _ (by decide) (k18 _ _ (by decide) (k17 _ _ (k16 _ _ (by decide) (k15 _ _ (by decide) (k14 _ _ (k13 _ _ (by decide) (k12 _ _ (k11 _ _ (by decide) (k10 _ _ (by decide) (k9 _ _ (k8 _ _ (by decide) (k7 _ _ (k6 _ _ (by decide) gw.2.1)))))))))))))))))))))))))) (by omega) (fun h32 l32 k32 f32_0 f32_1 f32_2 f32_3 => ?_)
  refine xRet_none ?_
  have l32 : h32.length = 47 := l32
  have f32_0 : h32[43]? = some (cP 43 (-1) 0 0 (-1) (-1)) := f32_0
  have f32_1 : h32[44]? = some (cA 0 (List.replicate 2 0)) := f32_1
  have f32_2 : h32[45]? = some (cA 0 (List.replicate 2 0)) := f32_2
  have f32_3 : h32[46]? = some (cA 0 (List.replicate 2 0)) := f32_3
  refine y_aast 1 l32 (dT U_X10_init 63 rfl) (by decide) (k32 _ _ (by decide) (k31 _ _ f30)) (Nat.le_of_ble_eq_true rfl) f32_0 (Nat.le_of_ble_eq_true rfl) rfl (by decide) (by decide) (fun h33 l33 k33 f33 => ?_)
  have l33 : h33.length = 47 := l33
  have f33 : h33[38]? = some (cQ 6 [some (39), some (43)]) := f33
  refine x_iinc (ls' := [some (.ref _), some (vi _)]) (dT U_X10_init 64 rfl) (by decide) rfl rfl ?_
  refine x_goto (tgt := 105) (dT U_X10_init 65 rfl) (by decide) ?_
  refine x_iload_n (dT U_X10_init 52 rfl) rfl ?_
  refine x_iconst (dT U_X10_init 53 rfl) ?_
  refine x_icmp_ge (tgt := 133) (dT U_X10_init 54 rfl) (by decide) (by unfold xr; omega) (by unfold xr; omega) (fun c107 => ?_) (fun c107 => (by exfalso; omega))
  refine x_aload_n (dT U_X10_init 66 rfl) rfl ?_
  refine y_new (rc' := rc + 22) (rs' := rs + 150) (N := 47) (ci := 0) (fs := [.null, .null, .null, .null, .null, .null, vi 0]) l33 (by decide) W_X10_53 N_X0 I_X0 (dT U_X10_init 67 rfl) xd_0 rfl rfl (fun h34 l34 k34 f34 => ?_)
  have l34 : h34.length = 48 := l34
  refine x_dup (dT U_X10_init 68 rfl) rfl ?_
  refine x_aload_n (dT U_X10_init 69 rfl) rfl ?_
  refine x_getfield F_X10_10 (dT U_X10_init 70 rfl) (k34 _ _ (k33 _ _ (by decide) (k32 _ _ (by decide) (k31 _ _ (k30 _ _ (by decide) (k29 _ _ (by decide) (k28 _ _ f27))))))) (Nat.le_of_ble_eq_true rfl) rfl ?_
  refine x_aload_n (dT U_X10_init 71 rfl) rfl ?_
  refine x_getfield F_X10_27 (dT U_X10_init 72 rfl) (k34 _ _ (k33 _ _ (by decide) (k32 _ _ (by decide) (k31 _ _ (k30 _ _ (by decide) (k29 _ _ (by decide) (k28 _ _ f27))))))) (Nat.le_of_ble_eq_true rfl) rfl ?_
  refine x_invokespecial (rc' := rc + 18) (rs' := rs + 118) (rc2 := 0 + 4) (rs2 := 0 + 32) (As := [_, _]) (st := _) M_X0_init K_X10_55 (dT U_X10_init 73 rfl) rfl rfl rfl rfl rfl rfl (Nat.le_of_ble_eq_true rfl) rfl (by decide) (Nat.le_of_ble_eq_true rfl) (by omega) (by omega) ?_
  refine S_X0_init l34 (Nat.le_of_ble_eq_true rfl) f34  (fun h35 l35 k35 f35_0 f35_1 f35_2 f35_3 f35_4 => ?_)
  refine xRet_none ?_
  have l35 : h35.length = 52 := l35
  have f35_0 : h35[47]? = some (cO 0 [.ref 4, .ref 9, .ref (47 + 1), .ref (47 + 2), .ref (47 + 3), .ref (47 + 4), vi 0]) := f35_0
  have f35_1 : h35[48]? = some (cA 0 (List.replicate 8 0)) := f35_1
  have f35_2 : h35[49]? = some (cA 0 (List.replicate 8 0)) := f35_2
  have f35_3 : h35[50]? = some (cA 0 (List.replicate 8 0)) := f35_3
  have f35_4 : h35[51]? = some (cA 0 (List.replicate 8 0)) := f35_4
  refine y_fin l35 F_X10_58 rfl rfl (dT U_X10_init 74 rfl) (k35 _ _ (by decide) (k34 _ _ (k33 _ _ (by decide) (k32 _ _ (by decide) (k31 _ _ (k30 _ _ (by decide) (k29 _ _ (by decide) (k28 _ _ f27)))))))) (Nat.le_of_ble_eq_true rfl) (Nat.le_of_ble_eq_true rfl) rfl rfl (fun h36 l36 k36 f36 => ?_)
  have l36 : h36.length = 52 := l36
  have f36 : h36[3]? = some (cO 10 [.ref (4), .ref (5), .ref (9), .ref (18), .ref (21), .ref (38), .ref (47), .null, .null, .null, .null, .null, .null, .null, .null]) := f36
  refine x_aload_n (dT U_X10_init 75 rfl) rfl ?_
  refine y_new (rc' := rc + 17) (rs' := rs + 109) (N := 52) (ci := 2) (fs := [.null, .null, vi 0, vi 0, vi 0, vi 0, vi 0, vi 0, vi 0]) l36 (by decide) W_X10_62 N_X2 I_X2 (dT U_X10_init 76 rfl) xd_2 rfl rfl (fun h37 l37 k37 f37 => ?_)
  have l37 : h37.length = 53 := l37
  refine x_dup (dT U_X10_init 77 rfl) rfl ?_
  refine x_aload_n (dT U_X10_init 78 rfl) rfl ?_
  refine x_getfield F_X10_10 (dT U_X10_init 79 rfl) (k37 _ _ f36) (Nat.le_of_ble_eq_true rfl) rfl ?_
  refine x_invokespecial (rc' := rc + 16) (rs' := rs + 101) (rc2 := 0 + 1) (rs2 := 0 + 8) (As := [_]) (st := _) M_X2_init K_X10_64 (dT U_X10_init 80 rfl) rfl rfl rfl rfl rfl rfl (Nat.le_of_ble_eq_true rfl) rfl (by decide) (Nat.le_of_ble_eq_true rfl) (by omega) (by omega) ?_
  refine S_X2_init l37 (Nat.le_of_ble_eq_true rfl) f37  (fun h38 l38 k38 f38_0 f38_1 => ?_)
  refine xRet_none ?_
  have l38 : h38.length = 54 := l38
  have f38_0 : h38[52]? = some (cO 2 [.ref 4, .ref (52 + 1), vi 0, vi 0, vi 0, vi 0, vi 0, vi 0, vi 0]) := f38_0
  have f38_1 : h38[53]? = some (cA 0 (List.replicate 8 0)) := f38_1
  refine y_fin l38 F_X10_65 rfl rfl (dT U_X10_init 81 rfl) (k38 _ _ (by decide) (k37 _ _ f36)) (Nat.le_of_ble_eq_true rfl) (Nat.le_of_ble_eq_true rfl) rfl rfl (fun h39 l39 k39 f39 => ?_)
  have l39 : h39.length = 54 := l39
  have f39 : h39[3]? = some (cO 10 [.ref (4), .ref (5), .ref (9), .ref (18), .ref (21), .ref (38), .ref (47), .ref (52), .null, .null, .null, .null, .null, .null, .null]) := f39
  refine x_aload_n (dT U_X10_init 82 rfl) rfl ?_
  refine y_new (rc' := rc + 15) (rs' := rs + 96) (N := 54) (ci := 4) (fs := [.null, .null, vi 0, vi 0, vi 0]) l39 (by decide) W_X10_69 N_X4 I_X4 (dT U_X10_init 83 rfl) xd_4 rfl rfl (fun h40 l40 k40 f40 => ?_)
  have l40 : h40.length = 55 := l40
  refine x_dup (dT U_X10_init 84 rfl) rfl ?_
  refine x_aload_n (dT U_X10_init 85 rfl) rfl ?_
  refine x_getfield F_X10_21 (dT U_X10_init 86 rfl) (k40 _ _ f39) (Nat.le_of_ble_eq_true rfl) rfl ?_
  refine x_invokespecial (rc' := rc + 14) (rs' := rs + 80) (rc2 := 0 + 1) (rs2 := 0 + 16) (As := [_]) (st := _) M_X4_init K_X10_71 (dT U_X10_init 87 rfl) rfl rfl rfl rfl rfl rfl (Nat.le_of_ble_eq_true rfl) rfl (by decide) (Nat.le_of_ble_eq_true rfl) (by omega) (by omega) ?_
  refine S_X4_init l40  f40  (fun h41 l41 k41 f41_0 f41_1 => ?_)
  refine xRet_none ?_
  have l41 : h41.length = 56 := l41
  have f41_0 : h41[54]? = some (cL 0 1 1) := f41_0
  have f41_1 : h41[55]? = some (cA 0 (List.replicate 16 0)) := f41_1
  refine y_fin l41 F_X10_72 rfl rfl (dT U_X10_init 88 rfl) (k41 _ _ (by decide) (k40 _ _ f39)) (Nat.le_of_ble_eq_true rfl) (Nat.le_of_ble_eq_true rfl) rfl rfl (fun h42 l42 k42 f42 => ?_)
  have l42 : h42.length = 56 := l42
  have f42 : h42[3]? = some (cO 10 [.ref (4), .ref (5), .ref (9), .ref (18), .ref (21), .ref (38), .ref (47), .ref (52), .ref (54), .null, .null, .null, .null, .null, .null]) := f42
  refine x_aload_n (dT U_X10_init 89 rfl) rfl ?_
  refine y_new (rc' := rc + 13) (rs' := rs + 79) (N := 56) (ci := 8) (fs := [.null]) l42 (by decide) W_X10_76 N_X8 I_X8 (dT U_X10_init 90 rfl) xd_8 rfl rfl (fun h43 l43 k43 f43 => ?_)
  have l43 : h43.length = 57 := l43
  refine x_dup (dT U_X10_init 91 rfl) rfl ?_
  refine x_invokespecial (rc' := rc + 12) (rs' := rs + 63) (rc2 := 0 + 1) (rs2 := 0 + 16) (As := []) (st := _) M_X8_init K_X10_78 (dT U_X10_init 92 rfl) rfl rfl rfl rfl rfl rfl (Nat.le_of_ble_eq_true rfl) rfl (by decide) (Nat.le_of_ble_eq_true rfl) (by omega) (by omega) ?_
  refine S_X8_init l43 (Nat.le_of_ble_eq_true rfl) f43  (fun h44 l44 k44 f44_0 f44_1 => ?_)
  refine xRet_none ?_
  have l44 : h44.length = 58 := l44
  have f44_0 : h44[56]? = some (cO 8 [.ref (56 + 1)]) := f44_0
  have f44_1 : h44[57]? = some (cA 0 (List.replicate 16 0)) := f44_1
  refine y_fin l44 F_X10_79 rfl rfl (dT U_X10_init 93 rfl) (k44 _ _ (by decide) (k43 _ _ f42)) (Nat.le_of_ble_eq_true rfl) (Nat.le_of_ble_eq_true rfl) rfl rfl (fun h45 l45 k45 f45 => ?_)
  have l45 : h45.length = 58 := l45
  have f45 : h45[3]? = some (cO 10 [.ref (4), .ref (5), .ref (9), .ref (18), .ref (21), .ref (38), .ref (47), .ref (52), .ref (54), .ref (56), .null, .null, .null, .null, .null]) := f45
  refine x_aload_n (dT U_X10_init 94 rfl) rfl ?_
  refine y_new (rc' := rc + 11) (rs' := rs + 62) (N := 58) (ci := 8) (fs := [.null]) l45 (by decide) W_X10_76 N_X8 I_X8 (dT U_X10_init 95 rfl) xd_8 rfl rfl (fun h46 l46 k46 f46 => ?_)
  have l46 : h46.length = 59 := l46
  refine x_dup (dT U_X10_init 96 rfl) rfl ?_
  refine x_invokespecial (rc' := rc + 10) (rs' := rs + 46) (rc2 := 0 + 1) (rs2 := 0 + 16) (As := []) (st := _) M_X8_init K_X10_78 (dT U_X10_init 97 rfl) rfl rfl rfl rfl rfl rfl (Nat.le_of_ble_eq_true rfl) rfl (by decide) (Nat.le_of_ble_eq_true rfl) (by omega) (by omega) ?_
  refine S_X8_init l46 (Nat.le_of_ble_eq_true rfl) f46  (fun h47 l47 k47 f47_0 f47_1 => ?_)
  refine xRet_none ?_
  have l47 : h47.length = 60 := l47
  have f47_0 : h47[58]? = some (cO 8 [.ref (58 + 1)]) := f47_0
  have f47_1 : h47[59]? = some (cA 0 (List.replicate 16 0)) := f47_1
  refine y_fin l47 F_X10_83 rfl rfl (dT U_X10_init 98 rfl) (k47 _ _ (by decide) (k46 _ _ f45)) (Nat.le_of_ble_eq_true rfl) (Nat.le_of_ble_eq_true rfl) rfl rfl (fun h48 l48 k48 f48 => ?_)
  have l48 : h48.length = 60 := l48
  have f48 : h48[3]? = some (cO 10 [.ref (4), .ref (5), .ref (9), .ref (18), .ref (21), .ref (38), .ref (47), .ref (52), .ref (54), .ref (56), .ref (58), .null, .null, .null, .null]) := f48
  refine x_aload_n (dT U_X10_init 99 rfl) rfl ?_
  refine y_new (rc' := rc + 9) (rs' := rs + 43) (N := 60) (ci := 9) (fs := [.null, .null, .null]) l48 (by decide) W_X10_86 N_X9 I_X9 (dT U_X10_init 100 rfl) xd_9 rfl rfl (fun h49 l49 k49 f49 => ?_)
  have l49 : h49.length = 61 := l49
  refine x_dup (dT U_X10_init 101 rfl) rfl ?_
  refine x_invokespecial (rc' := rc + 6) (rs' := rs + 31) (rc2 := 0 + 3) (rs2 := 0 + 12) (As := []) (st := _) M_X9_init K_X10_88 (dT U_X10_init 102 rfl) rfl rfl rfl rfl rfl rfl (Nat.le_of_ble_eq_true rfl) rfl (by decide) (Nat.le_of_ble_eq_true rfl) (by omega) (by omega) ?_
  refine S_X9_init l49 (Nat.le_of_ble_eq_true rfl) f49  (fun h50 l50 k50 f50_0 f50_1 f50_2 f50_3 => ?_)
  refine xRet_none ?_
  have l50 : h50.length = 64 := l50
  have f50_0 : h50[60]? = some (cO 9 [.ref (60 + 1), .ref (60 + 2), .ref (60 + 3)]) := f50_0
  have f50_1 : h50[61]? = some (cA 0 (List.replicate 4 0)) := f50_1
  have f50_2 : h50[62]? = some (cA 0 (List.replicate 4 0)) := f50_2
  have f50_3 : h50[63]? = some (cA 0 (List.replicate 4 0)) := f50_3
  refine y_fin l50 F_X10_89 rfl rfl (dT U_X10_init 103 rfl) (k50 _ _ (by decide) (k49 _ _ f48)) (Nat.le_of_ble_eq_true rfl) (Nat.le_of_ble_eq_true rfl) rfl rfl (fun h51 l51 k51 f51 => ?_)
  have l51 : h51.length = 64 := l51
  have f51 : h51[3]? = some (cO 10 [.ref (4), .ref (5), .ref (9), .ref (18), .ref (21), .ref (38), .ref (47), .ref (52), .ref (54), .ref (56), .ref (58), .ref (60), .null, .null, .null]) := f51
  refine x_aload_n (dT U_X10_init 104 rfl) rfl ?_
  refine y_new (rc' := rc + 5) (rs' := rs + 28) (N := 64) (ci := 9) (fs := [.null, .null, .null]) l51 (by decide) W_X10_86 N_X9 I_X9 (dT U_X10_init 105 rfl) xd_9 rfl rfl (fun h52 l52 k52 f52 => ?_)
  have l52 : h52.length = 65 := l52
  refine x_dup (dT U_X10_init 106 rfl) rfl ?_
  refine x_invokespecial (rc' := rc + 2) (rs' := rs + 16) (rc2 := 0 + 3) (rs2 := 0 + 12) (As := []) (st := _) M_X9_init K_X10_88 (dT U_X10_init 107 rfl) rfl rfl rfl rfl rfl rfl (Nat.le_of_ble_eq_true rfl) rfl (by decide) (Nat.le_of_ble_eq_true rfl) (by omega) (by omega) ?_
  refine S_X9_init l52 (Nat.le_of_ble_eq_true rfl) f52  (fun h53 l53 k53 f53_0 f53_1 f53_2 f53_3 => ?_)
  refine xRet_none ?_
  have l53 : h53.length = 68 := l53
  have f53_0 : h53[64]? = some (cO 9 [.ref (64 + 1), .ref (64 + 2), .ref (64 + 3)]) := f53_0
  have f53_1 : h53[65]? = some (cA 0 (List.replicate 4 0)) := f53_1
  have f53_2 : h53[66]? = some (cA 0 (List.replicate 4 0)) := f53_2
  have f53_3 : h53[67]? = some (cA 0 (List.replicate 4 0)) := f53_3
  refine y_fin l53 F_X10_93 rfl rfl (dT U_X10_init 108 rfl) (k53 _ _ (by decide) (k52 _ _ f51)) (Nat.le_of_ble_eq_true rfl) (Nat.le_of_ble_eq_true rfl) rfl rfl (fun h54 l54 k54 f54 => ?_)
  have l54 : h54.length = 68 := l54
  have f54 : h54[3]? = some (cO 10 [.ref (4), .ref (5), .ref (9), .ref (18), .ref (21), .ref (38), .ref (47), .ref (52), .ref (54), .ref (56), .ref (58), .ref (60), .ref (64), .null, .null]) := f54
  refine x_aload_n (dT U_X10_init 109 rfl) rfl ?_
  refine x_bipush (dT U_X10_init 110 rfl) (by decide) ?_
  refine y_newI (rc' := rc + 1) (rs' := rs + 8) (N := 68) (k := 0) (atype := .int) 8 l54 (by decide) w_ac_int (dT U_X10_init 111 rfl) rfl (by decide) rfl rfl (fun h55 l55 k55 f55 => ?_)
  have l55 : h55.length = 69 := l55
  refine y_fin l55 F_X10_96 rfl rfl (dT U_X10_init 112 rfl) (k55 _ _ f54) (Nat.le_of_ble_eq_true rfl) (Nat.le_of_ble_eq_true rfl) rfl rfl (fun h56 l56 k56 f56 => ?_)
  have l56 : h56.length = 69 := l56
  have f56 : h56[3]? = some (cO 10 [.ref (4), .ref (5), .ref (9), .ref (18), .ref (21), .ref (38), .ref (47), .ref (52), .ref (54), .ref (56), .ref (58), .ref (60), .ref (64), .ref (68), .null]) := f56
  refine x_aload_n (dT U_X10_init 113 rfl) rfl ?_
  refine x_bipush (dT U_X10_init 114 rfl) (by decide) ?_
  refine y_newI (rc' := rc + 0) (rs' := rs + 0) (N := 69) (k := 0) (atype := .int) 8 l56 (by decide) w_ac_int (dT U_X10_init 115 rfl) rfl (by decide) rfl rfl (fun h57 l57 k57 f57 => ?_)
  have l57 : h57.length = 70 := l57
  refine y_fin l57 F_X10_100 rfl rfl (dT U_X10_init 116 rfl) (k57 _ _ f56) (Nat.le_of_ble_eq_true rfl) (Nat.le_of_ble_eq_true rfl) rfl rfl (fun h58 l58 k58 f58 => ?_)
  have l58 : h58.length = 70 := l58
  have f58 : h58[3]? = some (cO 10 [.ref (4), .ref (5), .ref (9), .ref (18), .ref (21), .ref (38), .ref (47), .ref (52), .ref (54), .ref (56), .ref (58), .ref (60), .ref (64), .ref (68), .ref (69)]) := f58
  refine x_return (dT U_X10_init 117 rfl) rfl ?_
  have S57 : ∀ (b : Nat) (x : xC), b < 70 → b ≠ 3 → h57[b]? = some x → h58[b]? = some x := fun b x q0 q1 hx => k58 b x (by omega) hx
  have S56 : ∀ (b : Nat) (x : xC), b < 69 → b ≠ 3 → h56[b]? = some x → h58[b]? = some x := fun b x q0 q1 hx => S57 b x (by omega) (by omega) (k57 b x hx)
  have S55 : ∀ (b : Nat) (x : xC), b < 69 → b ≠ 3 → h55[b]? = some x → h58[b]? = some x := fun b x q0 q1 hx => S56 b x (by omega) (by omega) (k56 b x (by omega) hx)
  have S54 : ∀ (b : Nat) (x : xC), b < 68 → b ≠ 3 → h54[b]? = some x → h58[b]? = some x := fun b x q0 q1 hx => S55 b x (by omega) (by omega) (k55 b x hx)
  have S53 : ∀ (b : Nat) (x : xC), b < 68 → b ≠ 3 → h53[b]? = some x → h58[b]? = some x := fun b x q0 q1 hx => S54 b x (by omega) (by omega) (k54 b x (by omega) hx)
  have S52 : ∀ (b : Nat) (x : xC), b < 65 → b ≠ 3 → b ≠ 64 → h52[b]? = some x → h58[b]? = some x := fun b x q0 q1 q2 hx => S53 b x (by omega) (by omega) (k53 b x (by omega) hx)
  have S51 : ∀ (b : Nat) (x : xC), b < 64 → b ≠ 3 → h51[b]? = some x → h58[b]? = some x := fun b x q0 q1 hx => S52 b x (by omega) (by omega) (by omega) (k52 b x hx)
  have S50 : ∀ (b : Nat) (x : xC), b < 64 → b ≠ 3 → h50[b]? = some x → h58[b]? = some x := fun b x q0 q1 hx => S51 b x (by omega) (by omega) (k51 b x (by omega) hx)
  have S49 : ∀ (b : Nat) (x : xC), b < 61 → b ≠ 3 → b ≠ 60 → h49[b]? = some x → h58[b]? = some x := fun b x q0 q1 q2 hx => S50 b x (by omega) (by omega) (k50 b x (by omega) hx)
  have S48 : ∀ (b : Nat) (x : xC), b < 60 → b ≠ 3 → h48[b]? = some x → h58[b]? = some x := fun b x q0 q1 hx => S49 b x (by omega) (by omega) (by omega) (k49 b x hx)
  have S47 : ∀ (b : Nat) (x : xC), b < 60 → b ≠ 3 → h47[b]? = some x → h58[b]? = some x := fun b x q0 q1 hx => S48 b x (by omega) (by omega) (k48 b x (by omega) hx)
  have S46 : ∀ (b : Nat) (x : xC), b < 59 → b ≠ 3 → b ≠ 58 → h46[b]? = some x → h58[b]? = some x := fun b x q0 q1 q2 hx => S47 b x (by omega) (by omega) (k47 b x (by omega) hx)
  have S45 : ∀ (b : Nat) (x : xC), b < 58 → b ≠ 3 → h45[b]? = some x → h58[b]? = some x := fun b x q0 q1 hx => S46 b x (by omega) (by omega) (by omega) (k46 b x hx)
  have S44 : ∀ (b : Nat) (x : xC), b < 58 → b ≠ 3 → h44[b]? = some x → h58[b]? = some x := fun b x q0 q1 hx => S45 b x (by omega) (by omega) (k45 b x (by omega) hx)
  have S43 : ∀ (b : Nat) (x : xC), b < 57 → b ≠ 3 → b ≠ 56 → h43[b]? = some x → h58[b]? = some x := fun b x q0 q1 q2 hx => S44 b x (by omega) (by omega) (k44 b x (by omega) hx)
  have S42 : ∀ (b : Nat) (x : xC), b < 56 → b ≠ 3 → h42[b]? = some x → h58[b]? = some x := fun b x q0 q1 hx => S43 b x (by omega) (by omega) (by omega) (k43 b x hx)
  have S41 : ∀ (b : Nat) (x : xC), b < 56 → b ≠ 3 → h41[b]? = some x → h58[b]? = some x := fun b x q0 q1 hx => S42 b x (by omega) (by omega) (k42 b x (by omega) hx)
  have S40 : ∀ (b : Nat) (x : xC), b < 55 → b ≠ 3 → b ≠ 54 → h40[b]? = some x → h58[b]? = some x := fun b x q0 q1 q2 hx => S41 b x (by omega) (by omega) (k41 b x (by omega) hx)
  have S39 : ∀ (b : Nat) (x : xC), b < 54 → b ≠ 3 → h39[b]? = some x → h58[b]? = some x := fun b x q0 q1 hx => S40 b x (by omega) (by omega) (by omega) (k40 b x hx)
  have S38 : ∀ (b : Nat) (x : xC), b < 54 → b ≠ 3 → h38[b]? = some x → h58[b]? = some x := fun b x q0 q1 hx => S39 b x (by omega) (by omega) (k39 b x (by omega) hx)
  have S37 : ∀ (b : Nat) (x : xC), b < 53 → b ≠ 3 → b ≠ 52 → h37[b]? = some x → h58[b]? = some x := fun b x q0 q1 q2 hx => S38 b x (by omega) (by omega) (k38 b x (by omega) hx)
  have S36 : ∀ (b : Nat) (x : xC), b < 52 → b ≠ 3 → h36[b]? = some x → h58[b]? = some x := fun b x q0 q1 hx => S37 b x (by omega) (by omega) (by omega) (k37 b x hx)
  have S35 : ∀ (b : Nat) (x : xC), b < 52 → b ≠ 3 → h35[b]? = some x → h58[b]? = some x := fun b x q0 q1 hx => S36 b x (by omega) (by omega) (k36 b x (by omega) hx)
  have S34 : ∀ (b : Nat) (x : xC), b < 48 → b ≠ 3 → b ≠ 47 → h34[b]? = some x → h58[b]? = some x := fun b x q0 q1 q2 hx => S35 b x (by omega) (by omega) (k35 b x (by omega) hx)
  have S33 : ∀ (b : Nat) (x : xC), b < 47 → b ≠ 3 → h33[b]? = some x → h58[b]? = some x := fun b x q0 q1 hx => S34 b x (by omega) (by omega) (by omega) (k34 b x hx)
  have S32 : ∀ (b : Nat) (x : xC), b < 47 → b ≠ 3 → b ≠ 38 → h32[b]? = some x → h58[b]? = some x := fun b x q0 q1 q2 hx => S33 b x (by omega) (by omega) (k33 b x (by omega) hx)
  have S31 : ∀ (b : Nat) (x : xC), b < 44 → b ≠ 3 → b ≠ 38 → b ≠ 43 → h31[b]? = some x → h58[b]? = some x := fun b x q0 q1 q2 q3 hx => S32 b x (by omega) (by omega) (by omega) (k32 b x (by omega) hx)
  have S30 : ∀ (b : Nat) (x : xC), b < 43 → b ≠ 3 → b ≠ 38 → h30[b]? = some x → h58[b]? = some x := fun b x q0 q1 q2 hx => S31 b x (by omega) (by omega) (by omega) (by omega) (k31 b x hx)
  have S29 : ∀ (b : Nat) (x : xC), b < 43 → b ≠ 3 → b ≠ 38 → h29[b]? = some x → h58[b]? = some x := fun b x q0 q1 q2 hx => S30 b x (by omega) (by omega) (by omega) (k30 b x (by omega) hx)
  have S28 : ∀ (b : Nat) (x : xC), b < 40 → b ≠ 3 → b ≠ 38 → b ≠ 39 → h28[b]? = some x → h58[b]? = some x := fun b x q0 q1 q2 q3 hx => S29 b x (by omega) (by omega) (by omega) (k29 b x (by omega) hx)
  have S27 : ∀ (b : Nat) (x : xC), b < 39 → b ≠ 3 → b ≠ 38 → h27[b]? = some x → h58[b]? = some x := fun b x q0 q1 q2 hx => S28 b x (by omega) (by omega) (by omega) (by omega) (k28 b x hx)
  have S26 : ∀ (b : Nat) (x : xC), b < 39 → b ≠ 3 → b ≠ 38 → h26[b]? = some x → h58[b]? = some x := fun b x q0 q1 q2 hx => S27 b x (by omega) (by omega) (by omega) (k27 b x (by omega) hx)
  have S25 : ∀ (b : Nat) (x : xC), b < 38 → b ≠ 3 → h25[b]? = some x → h58[b]? = some x := fun b x q0 q1 hx => S26 b x (by omega) (by omega) (by omega) (k26 b x hx)
  have S24 : ∀ (b : Nat) (x : xC), b < 38 → b ≠ 21 → b ≠ 3 → h24[b]? = some x → h58[b]? = some x := fun b x q0 q1 q2 hx => S25 b x (by omega) (by omega) (k25 b x (by omega) hx)
  have S23 : ∀ (b : Nat) (x : xC), b < 35 → b ≠ 21 → b ≠ 3 → b ≠ 34 → h23[b]? = some x → h58[b]? = some x := fun b x q0 q1 q2 q3 hx => S24 b x (by omega) (by omega) (by omega) (k24 b x (by omega) hx)
  have S22 : ∀ (b : Nat) (x : xC), b < 34 → b ≠ 21 → b ≠ 3 → h22[b]? = some x → h58[b]? = some x := fun b x q0 q1 q2 hx => S23 b x (by omega) (by omega) (by omega) (by omega) (k23 b x hx)
  have S21 : ∀ (b : Nat) (x : xC), b < 34 → b ≠ 21 → b ≠ 3 → h21[b]? = some x → h58[b]? = some x := fun b x q0 q1 q2 hx => S22 b x (by omega) (by omega) (by omega) (k22 b x (by omega) hx)
  have S20 : ∀ (b : Nat) (x : xC), b < 31 → b ≠ 21 → b ≠ 3 → b ≠ 30 → h20[b]? = some x → h58[b]? = some x := fun b x q0 q1 q2 q3 hx => S21 b x (by omega) (by omega) (by omega) (k21 b x (by omega) hx)
  have S19 : ∀ (b : Nat) (x : xC), b < 30 → b ≠ 21 → b ≠ 3 → h19[b]? = some x → h58[b]? = some x := fun b x q0 q1 q2 hx => S20 b x (by omega) (by omega) (by omega) (by omega) (k20 b x hx)
  have S18 : ∀ (b : Nat) (x : xC), b < 30 → b ≠ 21 → b ≠ 3 → h18[b]? = some x → h58[b]? = some x := fun b x q0 q1 q2 hx => S19 b x (by omega) (by omega) (by omega) (k19 b x (by omega) hx)
  have S17 : ∀ (b : Nat) (x : xC), b < 27 → b ≠ 21 → b ≠ 26 → b ≠ 3 → h17[b]? = some x → h58[b]? = some x := fun b x q0 q1 q2 q3 hx => S18 b x (by omega) (by omega) (by omega) (k18 b x (by omega) hx)
  have S16 : ∀ (b : Nat) (x : xC), b < 26 → b ≠ 21 → b ≠ 3 → h16[b]? = some x → h58[b]? = some x := fun b x q0 q1 q2 hx => S17 b x (by omega) (by omega) (by omega) (by omega) (k17 b x hx)
  have S15 : ∀ (b : Nat) (x : xC), b < 26 → b ≠ 21 → b ≠ 3 → h15[b]? = some x → h58[b]? = some x := fun b x q0 q1 q2 hx => S16 b x (by omega) (by omega) (by omega) (k16 b x (by omega) hx)
  have S14 : ∀ (b : Nat) (x : xC), b < 23 → b ≠ 21 → b ≠ 22 → b ≠ 3 → h14[b]? = some x → h58[b]? = some x := fun b x q0 q1 q2 q3 hx => S15 b x (by omega) (by omega) (by omega) (k15 b x (by omega) hx)
  have S13 : ∀ (b : Nat) (x : xC), b < 22 → b ≠ 21 → b ≠ 3 → h13[b]? = some x → h58[b]? = some x := fun b x q0 q1 q2 hx => S14 b x (by omega) (by omega) (by omega) (by omega) (k14 b x hx)
  have S12 : ∀ (b : Nat) (x : xC), b < 22 → b ≠ 21 → b ≠ 3 → h12[b]? = some x → h58[b]? = some x := fun b x q0 q1 q2 hx => S13 b x (by omega) (by omega) (by omega) (k13 b x (by omega) hx)
  have S11 : ∀ (b : Nat) (x : xC), b < 21 → b ≠ 3 → h11[b]? = some x → h58[b]? = some x := fun b x q0 q1 hx => S12 b x (by omega) (by omega) (by omega) (k12 b x hx)
  have S10 : ∀ (b : Nat) (x : xC), b < 21 → b ≠ 3 → h10[b]? = some x → h58[b]? = some x := fun b x q0 q1 hx => S11 b x (by omega) (by omega) (k11 b x (by omega) hx)
  have S9 : ∀ (b : Nat) (x : xC), b < 19 → b ≠ 18 → b ≠ 3 → h9[b]? = some x → h58[b]? = some x := fun b x q0 q1 q2 hx => S10 b x (by omega) (by omega) (k10 b x (by omega) hx)
  have S8 : ∀ (b : Nat) (x : xC), b < 18 → b ≠ 3 → h8[b]? = some x → h58[b]? = some x := fun b x q0 q1 hx => S9 b x (by omega) (by omega) (by omega) (k9 b x hx)
  have S7 : ∀ (b : Nat) (x : xC), b < 18 → b ≠ 3 → h7[b]? = some x → h58[b]? = some x := fun b x q0 q1 hx => S8 b x (by omega) (by omega) (k8 b x (by omega) hx)
  have S6 : ∀ (b : Nat) (x : xC), b < 9 → b ≠ 3 → h6[b]? = some x → h58[b]? = some x := fun b x q0 q1 hx => S7 b x (by omega) (by omega) (k7 b x hx)
  have S5 : ∀ (b : Nat) (x : xC), b < 9 → b ≠ 3 → h5[b]? = some x → h58[b]? = some x := fun b x q0 q1 hx => S6 b x (by omega) (by omega) (k6 b x (by omega) hx)
  have S4 : ∀ (b : Nat) (x : xC), b < 6 → b ≠ 3 → b ≠ 5 → h4[b]? = some x → h58[b]? = some x := fun b x q0 q1 q2 hx => S5 b x (by omega) (by omega) (k5 b x (by omega) hx)
  have S3 : ∀ (b : Nat) (x : xC), b < 5 → b ≠ 3 → h3[b]? = some x → h58[b]? = some x := fun b x q0 q1 hx => S4 b x (by omega) (by omega) (by omega) (k4 b x hx)
  have S2 : ∀ (b : Nat) (x : xC), b < 5 → b ≠ 3 → h2[b]? = some x → h58[b]? = some x := fun b x q0 q1 hx => S3 b x (by omega) (by omega) (k3 b x (by omega) hx)
  have S1 : ∀ (b : Nat) (x : xC), b < 5 → b ≠ 3 → b ≠ 4 → h1[b]? = some x → h58[b]? = some x := fun b x q0 q1 q2 hx => S2 b x (by omega) (by omega) (k2 b x (by omega) hx)
  have S0 : ∀ (b : Nat) (x : xC), b < 4 → b ≠ 3 → h[b]? = some x → h58[b]? = some x := fun b x q0 q1 hx => S1 b x (by omega) (by omega) (by omega) (k1 b x hx)
  refine kk _ l58 (fun b x ne hx => S0 b x (by have := (List.getElem?_eq_some_iff.mp hx).1; omega) ne hx) ⟨f58,
    gw.mv (fun b x q8 q9 hx => S5 b x (by omega) (by omega) hx),
    (S7 _ _ (by omega) (by omega) f7),
    fun j hj => (S7 _ _ (by omega) (by omega) (r7 j hj)),
    (S10 _ _ (by omega) (by omega) f10_0),
    ⟨_, (S10 _ _ (by omega) (by omega) f10_1), rfl⟩,
    ⟨_, (S10 _ _ (by omega) (by omega) f10_2), rfl⟩,
    (S25 _ _ (by omega) (by omega) f25),
    fun i hi => by
      rcases lt4 hi with rfl | rfl | rfl | rfl
      · exact ⟨by omega, (S15 _ _ (by omega) (by omega) (by omega) f15_0), (S15 _ _ (by omega) (by omega) (by omega) f15_1), (S15 _ _ (by omega) (by omega) (by omega) f15_2), (S15 _ _ (by omega) (by omega) (by omega) f15_3)⟩
      · exact ⟨by omega, (S18 _ _ (by omega) (by omega) (by omega) f18_0), (S18 _ _ (by omega) (by omega) (by omega) f18_1), (S18 _ _ (by omega) (by omega) (by omega) f18_2), (S18 _ _ (by omega) (by omega) (by omega) f18_3)⟩
      · exact ⟨by omega, (S21 _ _ (by omega) (by omega) (by omega) f21_0), (S21 _ _ (by omega) (by omega) (by omega) f21_1), (S21 _ _ (by omega) (by omega) (by omega) f21_2), (S21 _ _ (by omega) (by omega) (by omega) f21_3)⟩
      · exact ⟨by omega, (S24 _ _ (by omega) (by omega) (by omega) f24_0), (S24 _ _ (by omega) (by omega) (by omega) f24_1), (S24 _ _ (by omega) (by omega) (by omega) f24_2), (S24 _ _ (by omega) (by omega) (by omega) f24_3)⟩,
    (S33 _ _ (by omega) (by omega) f33),
    fun i hi => by
      rcases lt2 hi with rfl | rfl
      · exact ⟨by omega, (S29 _ _ (by omega) (by omega) (by omega) f29_0), (S29 _ _ (by omega) (by omega) (by omega) f29_1), (S29 _ _ (by omega) (by omega) (by omega) f29_2), (S29 _ _ (by omega) (by omega) (by omega) f29_3)⟩
      · exact ⟨by omega, (S32 _ _ (by omega) (by omega) (by omega) f32_0), (S32 _ _ (by omega) (by omega) (by omega) f32_1), (S32 _ _ (by omega) (by omega) (by omega) f32_2), (S32 _ _ (by omega) (by omega) (by omega) f32_3)⟩,
    (S35 _ _ (by omega) (by omega) f35_0),
    (S35 _ _ (by omega) (by omega) f35_1),
    (S35 _ _ (by omega) (by omega) f35_2),
    (S35 _ _ (by omega) (by omega) f35_3),
    (S35 _ _ (by omega) (by omega) f35_4),
    (S38 _ _ (by omega) (by omega) f38_0),
    (S38 _ _ (by omega) (by omega) f38_1),
    (S41 _ _ (by omega) (by omega) f41_0).trans (by rw [show cL 0 1 1 = cL 0 (MM 7 0) (MM 7 0) by rw [MM_0 (p := 7) (by decide)]]; rfl),
    (S41 _ _ (by omega) (by omega) f41_1),
    (S44 _ _ (by omega) (by omega) f44_0),
    ⟨_, (S44 _ _ (by omega) (by omega) f44_1), rfl⟩,
    (S47 _ _ (by omega) (by omega) f47_0),
    ⟨_, (S47 _ _ (by omega) (by omega) f47_1), rfl⟩,
    (S50 _ _ (by omega) (by omega) f50_0),
    ⟨_, (S50 _ _ (by omega) (by omega) f50_1), rfl⟩,
    ⟨_, (S50 _ _ (by omega) (by omega) f50_2), rfl⟩,
    ⟨_, (S50 _ _ (by omega) (by omega) f50_3), rfl⟩,
    (S53 _ _ (by omega) (by omega) f53_0),
    ⟨_, (S53 _ _ (by omega) (by omega) f53_1), rfl⟩,
    ⟨_, (S53 _ _ (by omega) (by omega) f53_2), rfl⟩,
    ⟨_, (S53 _ _ (by omega) (by omega) f53_3), rfl⟩,
    ⟨_, (S55 _ _ (by omega) (by omega) f55), rfl⟩,
    ⟨_, (S57 _ _ (by omega) (by omega) f57), rfl⟩⟩
