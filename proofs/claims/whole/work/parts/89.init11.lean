set_option maxRecDepth 20000 in
set_option maxHeartbeats 4000000 in
theorem S_X11_init {G : xG} {d rc rs : Nat} {h : xH} {Q : xQ} (hN : h.length = 71) (fa : h[70]? = some (cO 11 [vi 0, vi 0, vi 0, .null, .null, .null, .null, .null, .null, .null, .null, .null, .null, .null, .null, .null, .null, .null, .null, .null, .null, .null, .null, .null, .null, .null, .null, .null, vi 0, vi 0, .null, .null, vi 0, vi 0, vi 0, vi 0, vi 0, .null, vi 0, .null, .null, .null, .null, .null, .null, .null])) (kk : ∀ h2 : xH, h2.length = 143 → (∀ (b : Nat) (x : xC), b < 70 → h[b]? = some x → h2[b]? = some x) → MX σ0 0 0 0 h2 → Q (.inl none) true h2) : X G m_X11_init (d + 2) (rc + 72) (rs + 624) true 0 (xe m_X11_init.2.2.1 [.ref 70]) [] h Q := by
  show X G m_X11_init _ _ _ _ 0 [some (.ref 70)] [] h Q
  refine x_aload_n (dT U_X11_init 0 rfl) rfl ?_
  refine x_objinit K_X11_1 w_oi w_oc (dT U_X11_init 1 rfl) (Nat.le_of_ble_eq_true rfl) (by omega) ?_
  refine x_aload_n (dT U_X11_init 2 rfl) rfl ?_
  refine x_bipush (dT U_X11_init 3 rfl) (by decide) ?_
  refine y_newI (rc' := rc + 71) (rs' := rs + 601) (N := 71) (k := 0) (atype := .int) 23 hN (by decide) w_ac_int (dT U_X11_init 4 rfl) rfl (by decide) rfl rfl (fun h1 l1 k1 f1 => ?_)
  have l1 : h1.length = 72 := l1
  refine y_fin l1 F_X11_7 rfl rfl (dT U_X11_init 5 rfl) (k1 _ _ fa) (Nat.le_of_ble_eq_true rfl) (Nat.le_of_ble_eq_true rfl) rfl rfl (fun h2 l2 k2 f2 => ?_)
  have l2 : h2.length = 72 := l2
  have f2 : h2[70]? = some (cO 11 [vi 0, vi 0, vi 0, .ref (71), .null, .null, .null, .null, .null, .null, .null, .null, .null, .null, .null, .null, .null, .null, .null, .null, .null, .null, .null, .null, .null, .null, .null, .null, vi 0, vi 0, .null, .null, vi 0, vi 0, vi 0, vi 0, vi 0, .null, vi 0, .null, .null, .null, .null, .null, .null, .null]) := f2
  refine x_aload_n (dT U_X11_init 6 rfl) rfl ?_
  refine x_sipush (dT U_X11_init 7 rfl) (by decide) ?_
  refine y_newI (rc' := rc + 70) (rs' := rs + 410) (N := 72) (k := 0) (atype := .int) 191 l2 (by decide) w_ac_int (dT U_X11_init 8 rfl) rfl (by decide) rfl rfl (fun h3 l3 k3 f3 => ?_)
  have l3 : h3.length = 73 := l3
  refine y_fin l3 F_X11_13 rfl rfl (dT U_X11_init 9 rfl) (k3 _ _ f2) (Nat.le_of_ble_eq_true rfl) (Nat.le_of_ble_eq_true rfl) rfl rfl (fun h4 l4 k4 f4 => ?_)
  have l4 : h4.length = 73 := l4
  have f4 : h4[70]? = some (cO 11 [vi 0, vi 0, vi 0, .ref (71), .ref (72), .null, .null, .null, .null, .null, .null, .null, .null, .null, .null, .null, .null, .null, .null, .null, .null, .null, .null, .null, .null, .null, .null, .null, vi 0, vi 0, .null, .null, vi 0, vi 0, vi 0, vi 0, vi 0, .null, vi 0, .null, .null, .null, .null, .null, .null, .null]) := f4
  refine x_aload_n (dT U_X11_init 10 rfl) rfl ?_
  refine x_bipush (dT U_X11_init 11 rfl) (by decide) ?_
  refine x_bipush (dT U_X11_init 12 rfl) (by decide) ?_
  refine y_multi (rc' := rc + 61) (rs' := rs + 338) (N := 73) 8 8 l4 W_X11_16 w_ac_int (dT U_X11_init 13 rfl) rfl rfl (by decide) (by decide) rfl rfl (fun h5 l5 k5 f5 r5 => ?_)
  have l5 : h5.length = 82 := l5
  have f5 : h5[73]? = some (cQ 4 [some (74), some (75), some (76), some (77), some (78), some (79), some (80), some (81)]) := f5
  refine y_fin l5 F_X11_18 rfl rfl (dT U_X11_init 14 rfl) (k5 _ _ f4) (Nat.le_of_ble_eq_true rfl) (Nat.le_of_ble_eq_true rfl) rfl rfl (fun h6 l6 k6 f6 => ?_)
  have l6 : h6.length = 82 := l6
  have f6 : h6[70]? = some (cO 11 [vi 0, vi 0, vi 0, .ref (71), .ref (72), .ref (73), .null, .null, .null, .null, .null, .null, .null, .null, .null, .null, .null, .null, .null, .null, .null, .null, .null, .null, .null, .null, .null, .null, vi 0, vi 0, .null, .null, vi 0, vi 0, vi 0, vi 0, vi 0, .null, vi 0, .null, .null, .null, .null, .null, .null, .null]) := f6
  refine x_aload_n (dT U_X11_init 15 rfl) rfl ?_
  refine x_iconst (dT U_X11_init 16 rfl) ?_
  refine y_newI (rc' := rc + 60) (rs' := rs + 333) (N := 82) (k := 0) (atype := .int) 5 l6 (by decide) w_ac_int (dT U_X11_init 17 rfl) rfl (by decide) rfl rfl (fun h7 l7 k7 f7 => ?_)
  have l7 : h7.length = 83 := l7
  refine y_fin l7 F_X11_21 rfl rfl (dT U_X11_init 18 rfl) (k7 _ _ f6) (Nat.le_of_ble_eq_true rfl) (Nat.le_of_ble_eq_true rfl) rfl rfl (fun h8 l8 k8 f8 => ?_)
  have l8 : h8.length = 83 := l8
  have f8 : h8[70]? = some (cO 11 [vi 0, vi 0, vi 0, .ref (71), .ref (72), .ref (73), .ref (82), .null, .null, .null, .null, .null, .null, .null, .null, .null, .null, .null, .null, .null, .null, .null, .null, .null, .null, .null, .null, .null, vi 0, vi 0, .null, .null, vi 0, vi 0, vi 0, vi 0, vi 0, .null, vi 0, .null, .null, .null, .null, .null, .null, .null]) := f8
  refine x_aload_n (dT U_X11_init 19 rfl) rfl ?_
  refine x_iconst (dT U_X11_init 20 rfl) ?_
  refine y_newI (rc' := rc + 59) (rs' := rs + 328) (N := 83) (k := 0) (atype := .int) 5 l8 (by decide) w_ac_int (dT U_X11_init 21 rfl) rfl (by decide) rfl rfl (fun h9 l9 k9 f9 => ?_)
  have l9 : h9.length = 84 := l9
  refine y_fin l9 F_X11_24 rfl rfl (dT U_X11_init 22 rfl) (k9 _ _ f8) (Nat.le_of_ble_eq_true rfl) (Nat.le_of_ble_eq_true rfl) rfl rfl (fun h10 l10 k10 f10 => ?_)
  have l10 : h10.length = 84 := l10
  have f10 : h10[70]? = some (cO 11 [vi 0, vi 0, vi 0, .ref (71), .ref (72), .ref (73), .ref (82), .ref (83), .null, .null, .null, .null, .null, .null, .null, .null, .null, .null, .null, .null, .null, .null, .null, .null, .null, .null, .null, .null, vi 0, vi 0, .null, .null, vi 0, vi 0, vi 0, vi 0, vi 0, .null, vi 0, .null, .null, .null, .null, .null, .null, .null]) := f10
  refine x_aload_n (dT U_X11_init 23 rfl) rfl ?_
  refine x_iconst (dT U_X11_init 24 rfl) ?_
  refine x_bipush (dT U_X11_init 25 rfl) (by decide) ?_
  refine y_multi (rc' := rc + 53) (rs' := rs + 283) (N := 84) 5 8 l10 W_X11_16 w_ac_int (dT U_X11_init 26 rfl) rfl rfl (by decide) (by decide) rfl rfl (fun h11 l11 k11 f11 r11 => ?_)
  have l11 : h11.length = 90 := l11
  have f11 : h11[84]? = some (cQ 4 [some (85), some (86), some (87), some (88), some (89)]) := f11
  refine y_fin l11 F_X11_27 rfl rfl (dT U_X11_init 27 rfl) (k11 _ _ f10) (Nat.le_of_ble_eq_true rfl) (Nat.le_of_ble_eq_true rfl) rfl rfl (fun h12 l12 k12 f12 => ?_)
  have l12 : h12.length = 90 := l12
  have f12 : h12[70]? = some (cO 11 [vi 0, vi 0, vi 0, .ref (71), .ref (72), .ref (73), .ref (82), .ref (83), .ref (84), .null, .null, .null, .null, .null, .null, .null, .null, .null, .null, .null, .null, .null, .null, .null, .null, .null, .null, .null, vi 0, vi 0, .null, .null, vi 0, vi 0, vi 0, vi 0, vi 0, .null, vi 0, .null, .null, .null, .null, .null, .null, .null]) := f12
  refine x_aload_n (dT U_X11_init 28 rfl) rfl ?_
  refine x_iconst (dT U_X11_init 29 rfl) ?_
  refine y_newI (rc' := rc + 52) (rs' := rs + 278) (N := 90) (k := 0) (atype := .int) 5 l12 (by decide) w_ac_int (dT U_X11_init 30 rfl) rfl (by decide) rfl rfl (fun h13 l13 k13 f13 => ?_)
  have l13 : h13.length = 91 := l13
  refine y_fin l13 F_X11_30 rfl rfl (dT U_X11_init 31 rfl) (k13 _ _ f12) (Nat.le_of_ble_eq_true rfl) (Nat.le_of_ble_eq_true rfl) rfl rfl (fun h14 l14 k14 f14 => ?_)
  have l14 : h14.length = 91 := l14
  have f14 : h14[70]? = some (cO 11 [vi 0, vi 0, vi 0, .ref (71), .ref (72), .ref (73), .ref (82), .ref (83), .ref (84), .ref (90), .null, .null, .null, .null, .null, .null, .null, .null, .null, .null, .null, .null, .null, .null, .null, .null, .null, .null, vi 0, vi 0, .null, .null, vi 0, vi 0, vi 0, vi 0, vi 0, .null, vi 0, .null, .null, .null, .null, .null, .null, .null]) := f14
  refine x_aload_n (dT U_X11_init 32 rfl) rfl ?_
  refine x_iconst (dT U_X11_init 33 rfl) ?_
  refine y_newI (rc' := rc + 51) (rs' := rs + 273) (N := 91) (k := 0) (atype := .int) 5 l14 (by decide) w_ac_int (dT U_X11_init 34 rfl) rfl (by decide) rfl rfl (fun h15 l15 k15 f15 => ?_)
  have l15 : h15.length = 92 := l15
  refine y_fin l15 F_X11_33 rfl rfl (dT U_X11_init 35 rfl) (k15 _ _ f14) (Nat.le_of_ble_eq_true rfl) (Nat.le_of_ble_eq_true rfl) rfl rfl (fun h16 l16 k16 f16 => ?_)
  have l16 : h16.length = 92 := l16
  have f16 : h16[70]? = some (cO 11 [vi 0, vi 0, vi 0, .ref (71), .ref (72), .ref (73), .ref (82), .ref (83), .ref (84), .ref (90), .ref (91), .null, .null, .null, .null, .null, .null, .null, .null, .null, .null, .null, .null, .null, .null, .null, .null, .null, vi 0, vi 0, .null, .null, vi 0, vi 0, vi 0, vi 0, vi 0, .null, vi 0, .null, .null, .null, .null, .null, .null, .null]) := f16
  refine x_aload_n (dT U_X11_init 36 rfl) rfl ?_
  refine x_iconst (dT U_X11_init 37 rfl) ?_
  refine y_newI (rc' := rc + 50) (rs' := rs + 268) (N := 92) (k := 0) (atype := .int) 5 l16 (by decide) w_ac_int (dT U_X11_init 38 rfl) rfl (by decide) rfl rfl (fun h17 l17 k17 f17 => ?_)
  have l17 : h17.length = 93 := l17
  refine y_fin l17 F_X11_36 rfl rfl (dT U_X11_init 39 rfl) (k17 _ _ f16) (Nat.le_of_ble_eq_true rfl) (Nat.le_of_ble_eq_true rfl) rfl rfl (fun h18 l18 k18 f18 => ?_)
  have l18 : h18.length = 93 := l18
  have f18 : h18[70]? = some (cO 11 [vi 0, vi 0, vi 0, .ref (71), .ref (72), .ref (73), .ref (82), .ref (83), .ref (84), .ref (90), .ref (91), .ref (92), .null, .null, .null, .null, .null, .null, .null, .null, .null, .null, .null, .null, .null, .null, .null, .null, vi 0, vi 0, .null, .null, vi 0, vi 0, vi 0, vi 0, vi 0, .null, vi 0, .null, .null, .null, .null, .null, .null, .null]) := f18
  refine x_aload_n (dT U_X11_init 40 rfl) rfl ?_
  refine x_iconst (dT U_X11_init 41 rfl) ?_
  refine y_newI (rc' := rc + 49) (rs' := rs + 263) (N := 93) (k := 1) (atype := .boolean) 5 l18 (by decide) w_ac_boolean (dT U_X11_init 42 rfl) rfl (by decide) rfl rfl (fun h19 l19 k19 f19 => ?_)
  have l19 : h19.length = 94 := l19
  refine y_fin l19 F_X11_39 rfl rfl (dT U_X11_init 43 rfl) (k19 _ _ f18) (Nat.le_of_ble_eq_true rfl) (Nat.le_of_ble_eq_true rfl) rfl rfl (fun h20 l20 k20 f20 => ?_)
  have l20 : h20.length = 94 := l20
  have f20 : h20[70]? = some (cO 11 [vi 0, vi 0, vi 0, .ref (71), .ref (72), .ref (73), .ref (82), .ref (83), .ref (84), .ref (90), .ref (91), .ref (92), .ref (93), .null, .null, .null, .null, .null, .null, .null, .null, .null, .null, .null, .null, .null, .null, .null, vi 0, vi 0, .null, .null, vi 0, vi 0, vi 0, vi 0, vi 0, .null, vi 0, .null, .null, .null, .null, .null, .null, .null]) := f20
  refine x_aload_n (dT U_X11_init 44 rfl) rfl ?_
  refine x_iconst (dT U_X11_init 45 rfl) ?_
  refine x_bipush (dT U_X11_init 46 rfl) (by decide) ?_
  refine y_multi (rc' := rc + 43) (rs' := rs + 218) (N := 94) 5 8 l20 W_X11_16 w_ac_int (dT U_X11_init 47 rfl) rfl rfl (by decide) (by decide) rfl rfl (fun h21 l21 k21 f21 r21 => ?_)
  have l21 : h21.length = 100 := l21
  have f21 : h21[94]? = some (cQ 4 [some (95), some (96), some (97), some (98), some (99)]) := f21
  refine y_fin l21 F_X11_43 rfl rfl (dT U_X11_init 48 rfl) (k21 _ _ f20) (Nat.le_of_ble_eq_true rfl) (Nat.le_of_ble_eq_true rfl) rfl rfl (fun h22 l22 k22 f22 => ?_)
  have l22 : h22.length = 100 := l22
  have f22 : h22[70]? = some (cO 11 [vi 0, vi 0, vi 0, .ref (71), .ref (72), .ref (73), .ref (82), .ref (83), .ref (84), .ref (90), .ref (91), .ref (92), .ref (93), .ref (94), .null, .null, .null, .null, .null, .null, .null, .null, .null, .null, .null, .null, .null, .null, vi 0, vi 0, .null, .null, vi 0, vi 0, vi 0, vi 0, vi 0, .null, vi 0, .null, .null, .null, .null, .null, .null, .null]) := f22
  refine x_aload_n (dT U_X11_init 49 rfl) rfl ?_
  refine x_iconst (dT U_X11_init 50 rfl) ?_
  refine y_newI (rc' := rc + 42) (rs' := rs + 213) (N := 100) (k := 0) (atype := .int) 5 l22 (by decide) w_ac_int (dT U_X11_init 51 rfl) rfl (by decide) rfl rfl (fun h23 l23 k23 f23 => ?_)
  have l23 : h23.length = 101 := l23
  refine y_fin l23 F_X11_46 rfl rfl (dT U_X11_init 52 rfl) (k23 _ _ f22) (Nat.le_of_ble_eq_true rfl) (Nat.le_of_ble_eq_true rfl) rfl rfl (fun h24 l24 k24 f24 => ?_)
  have l24 : h24.length = 101 := l24
  have f24 : h24[70]? = some (cO 11 [vi 0, vi 0, vi 0, .ref (71), .ref (72), .ref (73), .ref (82), .ref (83), .ref (84), .ref (90), .ref (91), .ref (92), .ref (93), .ref (94), .ref (100), .null, .null, .null, .null, .null, .null, .null, .null, .null, .null, .null, .null, .null, vi 0, vi 0, .null, .null, vi 0, vi 0, vi 0, vi 0, vi 0, .null, vi 0, .null, .null, .null, .null, .null, .null, .null]) := f24
  refine x_aload_n (dT U_X11_init 53 rfl) rfl ?_
  refine x_iconst (dT U_X11_init 54 rfl) ?_
  refine y_newI (rc' := rc + 41) (rs' := rs + 208) (N := 101) (k := 0) (atype := .int) 5 l24 (by decide) w_ac_int (dT U_X11_init 55 rfl) rfl (by decide) rfl rfl (fun h25 l25 k25 f25 => ?_)
  have l25 : h25.length = 102 := l25
  refine y_fin l25 F_X11_49 rfl rfl (dT U_X11_init 56 rfl) (k25 _ _ f24) (Nat.le_of_ble_eq_true rfl) (Nat.le_of_ble_eq_true rfl) rfl rfl (fun h26 l26 k26 f26 => ?_)
  have l26 : h26.length = 102 := l26
  have f26 : h26[70]? = some (cO 11 [vi 0, vi 0, vi 0, .ref (71), .ref (72), .ref (73), .ref (82), .ref (83), .ref (84), .ref (90), .ref (91), .ref (92), .ref (93), .ref (94), .ref (100), .ref (101), .null, .null, .null, .null, .null, .null, .null, .null, .null, .null, .null, .null, vi 0, vi 0, .null, .null, vi 0, vi 0, vi 0, vi 0, vi 0, .null, vi 0, .null, .null, .null, .null, .null, .null, .null]) := f26
  refine x_aload_n (dT U_X11_init 57 rfl) rfl ?_
  refine x_iconst (dT U_X11_init 58 rfl) ?_
  refine x_bipush (dT U_X11_init 59 rfl) (by decide) ?_
  refine y_multi (rc' := rc + 35) (rs' := rs + 163) (N := 102) 5 8 l26 W_X11_16 w_ac_int (dT U_X11_init 60 rfl) rfl rfl (by decide) (by decide) rfl rfl (fun h27 l27 k27 f27 r27 => ?_)
  have l27 : h27.length = 108 := l27
  have f27 : h27[102]? = some (cQ 4 [some (103), some (104), some (105), some (106), some (107)]) := f27
  refine y_fin l27 F_X11_52 rfl rfl (dT U_X11_init 61 rfl) (k27 _ _ f26) (Nat.le_of_ble_eq_true rfl) (Nat.le_of_ble_eq_true rfl) rfl rfl (fun h28 l28 k28 f28 => ?_)
  have l28 : h28.length = 108 := l28
  have f28 : h28[70]? = some (cO 11 [vi 0, vi 0, vi 0, .ref (71), .ref (72), .ref (73), .ref (82), .ref (83), .ref (84), .ref (90), .ref (91), .ref (92), .ref (93), .ref (94), .ref (100), .ref (101), .ref (102), .null, .null, .null, .null, .null, .null, .null, .null, .null, .null, .null, vi 0, vi 0, .null, .null, vi 0, vi 0, vi 0, vi 0, vi 0, .null, vi 0, .null, .null, .null, .null, .null, .null, .null]) := f28
  refine x_aload_n (dT U_X11_init 62 rfl) rfl ?_
  refine x_iconst (dT U_X11_init 63 rfl) ?_
  refine y_newI (rc' := rc + 34) (rs' := rs + 158) (N := 108) (k := 0) (atype := .int) 5 l28 (by decide) w_ac_int (dT U_X11_init 64 rfl) rfl (by decide) rfl rfl (fun h29 l29 k29 f29 => ?_)
  have l29 : h29.length = 109 := l29
  refine y_fin l29 F_X11_55 rfl rfl (dT U_X11_init 65 rfl) (k29 _ _ f28) (Nat.le_of_ble_eq_true rfl) (Nat.le_of_ble_eq_true rfl) rfl rfl (fun h30 l30 k30 f30 => ?_)
  have l30 : h30.length = 109 := l30
  have f30 : h30[70]? = some (cO 11 [vi 0, vi 0, vi 0, .ref (71), .ref (72), .ref (73), .ref (82), .ref (83), .ref (84), .ref (90), .ref (91), .ref (92), .ref (93), .ref (94), .ref (100), .ref (101), .ref (102), .ref (108), .null, .null, .null, .null, .null, .null, .null, .null, .null, .null, vi 0, vi 0, .null, .null, vi 0, vi 0, vi 0, vi 0, vi 0, .null, vi 0, .null, .null, .null, .null, .null, .null, .null]) := f30
  refine x_aload_n (dT U_X11_init 66 rfl) rfl ?_
  refine x_iconst (dT U_X11_init 67 rfl) ?_
  refine y_newI (rc' := rc + 33) (rs' := rs + 156) (N := 109) (k := 0) (atype := .int) 2 l30 (by decide) w_ac_int (dT U_X11_init 68 rfl) rfl (by decide) rfl rfl (fun h31 l31 k31 f31 => ?_)
  have l31 : h31.length = 110 := l31
  refine y_fin l31 F_X11_58 rfl rfl (dT U_X11_init 69 rfl) (k31 _ _ f30) (Nat.le_of_ble_eq_true rfl) (Nat.le_of_ble_eq_true rfl) rfl rfl (fun h32 l32 k32 f32 => ?_)
  have l32 : h32.length = 110 := l32
  have f32 : h32[70]? = some (cO 11 [vi 0, vi 0, vi 0, .ref (71), .ref (72), .ref (73), .ref (82), .ref (83), .ref (84), .ref (90), .ref (91), .ref (92), .ref (93), .ref (94), .ref (100), .ref (101), .ref (102), .ref (108), .ref (109), .null, .null, .null, .null, .null, .null, .null, .null, .null, vi 0, vi 0, .null, .null, vi 0, vi 0, vi 0, vi 0, vi 0, .null, vi 0, .null, .null, .null, .null, .null, .null, .null]) := f32
  refine x_aload_n (dT U_X11_init 70 rfl) rfl ?_
  refine x_iconst (dT U_X11_init 71 rfl) ?_
  refine y_newI (rc' := rc + 32) (rs' := rs + 154) (N := 110) (k := 0) (atype := .int) 2 l32 (by decide) w_ac_int (dT U_X11_init 72 rfl) rfl (by decide) rfl rfl (fun h33 l33 k33 f33 => ?_)
  have l33 : h33.length = 111 := l33
  refine y_fin l33 F_X11_61 rfl rfl (dT U_X11_init 73 rfl) (k33 _ _ f32) (Nat.le_of_ble_eq_true rfl) (Nat.le_of_ble_eq_true rfl) rfl rfl (fun h34 l34 k34 f34 => ?_)
  have l34 : h34.length = 111 := l34
  have f34 : h34[70]? = some (cO 11 [vi 0, vi 0, vi 0, .ref (71), .ref (72), .ref (73), .ref (82), .ref (83), .ref (84), .ref (90), .ref (91), .ref (92), .ref (93), .ref (94), .ref (100), .ref (101), .ref (102), .ref (108), .ref (109), .ref (110), .null, .null, .null, .null, .null, .null, .null, .null, vi 0, vi 0, .null, .null, vi 0, vi 0, vi 0, vi 0, vi 0, .null, vi 0, .null, .null, .null, .null, .null, .null, .null]) := f34
  refine x_aload_n (dT U_X11_init 74 rfl) rfl ?_
  refine x_iconst (dT U_X11_init 75 rfl) ?_
  refine y_newI (rc' := rc + 31) (rs' := rs + 152) (N := 111) (k := 0) (atype := .int) 2 l34 (by decide) w_ac_int (dT U_X11_init 76 rfl) rfl (by decide) rfl rfl (fun h35 l35 k35 f35 => ?_)
  have l35 : h35.length = 112 := l35
  refine y_fin l35 F_X11_64 rfl rfl (dT U_X11_init 77 rfl) (k35 _ _ f34) (Nat.le_of_ble_eq_true rfl) (Nat.le_of_ble_eq_true rfl) rfl rfl (fun h36 l36 k36 f36 => ?_)
  have l36 : h36.length = 112 := l36
  have f36 : h36[70]? = some (cO 11 [vi 0, vi 0, vi 0, .ref (71), .ref (72), .ref (73), .ref (82), .ref (83), .ref (84), .ref (90), .ref (91), .ref (92), .ref (93), .ref (94), .ref (100), .ref (101), .ref (102), .ref (108), .ref (109), .ref (110), .ref (111), .null, .null, .null, .null, .null, .null, .null, vi 0, vi 0, .null, .null, vi 0, vi 0, vi 0, vi 0, vi 0, .null, vi 0, .null, .null, .null, .null, .null, .null, .null]) := f36
  refine x_aload_n (dT U_X11_init 78 rfl) rfl ?_
  refine x_iconst (dT U_X11_init 79 rfl) ?_
  refine y_newI (rc' := rc + 30) (rs' := rs + 150) (N := 112) (k := 0) (atype := .int) 2 l36 (by decide) w_ac_int (dT U_X11_init 80 rfl) rfl (by decide) rfl rfl (fun h37 l37 k37 f37 => ?_)
  have l37 : h37.length = 113 := l37
  refine y_fin l37 F_X11_67 rfl rfl (dT U_X11_init 81 rfl) (k37 _ _ f36) (Nat.le_of_ble_eq_true rfl) (Nat.le_of_ble_eq_true rfl) rfl rfl (fun h38 l38 k38 f38 => ?_)
  have l38 : h38.length = 113 := l38
  have f38 : h38[70]? = some (cO 11 [vi 0, vi 0, vi 0, .ref (71), .ref (72), .ref (73), .ref (82), .ref (83), .ref (84), .ref (90), .ref (91), .ref (92), .ref (93), .ref (94), .ref (100), .ref (101), .ref (102), .ref (108), .ref (109), .ref (110), .ref (111), .ref (112), .null, .null, .null, .null, .null, .null, vi 0, vi 0, .null, .null, vi 0, vi 0, vi 0, vi 0, vi 0, .null, vi 0, .null, .null, .null, .null, .null, .null, .null]) := f38
  refine x_aload_n (dT U_X11_init 82 rfl) rfl ?_
  refine x_iconst (dT U_X11_init 83 rfl) ?_
  refine y_newI (rc' := rc + 29) (rs' := rs + 148) (N := 113) (k := 0) (atype := .int) 2 l38 (by decide) w_ac_int (dT U_X11_init 84 rfl) rfl (by decide) rfl rfl (fun h39 l39 k39 f39 => ?_)
  have l39 : h39.length = 114 := l39
  refine y_fin l39 F_X11_70 rfl rfl (dT U_X11_init 85 rfl) (k39 _ _ f38) (Nat.le_of_ble_eq_true rfl) (Nat.le_of_ble_eq_true rfl) rfl rfl (fun h40 l40 k40 f40 => ?_)
  have l40 : h40.length = 114 := l40
  have f40 : h40[70]? = some (cO 11 [vi 0, vi 0, vi 0, .ref (71), .ref (72), .ref (73), .ref (82), .ref (83), .ref (84), .ref (90), .ref (91), .ref (92), .ref (93), .ref (94), .ref (100), .ref (101), .ref (102), .ref (108), .ref (109), .ref (110), .ref (111), .ref (112), .ref (113), .null, .null, .null, .null, .null, vi 0, vi 0, .null, .null, vi 0, vi 0, vi 0, vi 0, vi 0, .null, vi 0, .null, .null, .null, .null, .null, .null, .null]) := f40
  refine x_aload_n (dT U_X11_init 86 rfl) rfl ?_
  refine x_iconst (dT U_X11_init 87 rfl) ?_
  refine y_newI (rc' := rc + 28) (rs' := rs + 146) (N := 114) (k := 0) (atype := .int) 2 l40 (by decide) w_ac_int (dT U_X11_init 88 rfl) rfl (by decide) rfl rfl (fun h41 l41 k41 f41 => ?_)
  have l41 : h41.length = 115 := l41
  refine y_fin l41 F_X11_73 rfl rfl (dT U_X11_init 89 rfl) (k41 _ _ f40) (Nat.le_of_ble_eq_true rfl) (Nat.le_of_ble_eq_true rfl) rfl rfl (fun h42 l42 k42 f42 => ?_)
  have l42 : h42.length = 115 := l42
  have f42 : h42[70]? = some (cO 11 [vi 0, vi 0, vi 0, .ref (71), .ref (72), .ref (73), .ref (82), .ref (83), .ref (84), .ref (90), .ref (91), .ref (92), .ref (93), .ref (94), .ref (100), .ref (101), .ref (102), .ref (108), .ref (109), .ref (110), .ref (111), .ref (112), .ref (113), .ref (114), .null, .null, .null, .null, vi 0, vi 0, .null, .null, vi 0, vi 0, vi 0, vi 0, vi 0, .null, vi 0, .null, .null, .null, .null, .null, .null, .null]) := f42
  refine x_aload_n (dT U_X11_init 90 rfl) rfl ?_
  refine x_iconst (dT U_X11_init 91 rfl) ?_
  refine x_iconst (dT U_X11_init 92 rfl) ?_
  refine y_multi (rc' := rc + 25) (rs' := rs + 140) (N := 115) 2 2 l42 W_X11_16 w_ac_int (dT U_X11_init 93 rfl) rfl rfl (by decide) (by decide) rfl rfl (fun h43 l43 k43 f43 r43 => ?_)
  have l43 : h43.length = 118 := l43
  have f43 : h43[115]? = some (cQ 4 [some (116), some (117)]) := f43
  refine y_fin l43 F_X11_76 rfl rfl (dT U_X11_init 94 rfl) (k43 _ _ f42) (Nat.le_of_ble_eq_true rfl) (Nat.le_of_ble_eq_true rfl) rfl rfl (fun h44 l44 k44 f44 => ?_)
  have l44 : h44.length = 118 := l44
  have f44 : h44[70]? = some (cO 11 [vi 0, vi 0, vi 0, .ref (71), .ref (72), .ref (73), .ref (82), .ref (83), .ref (84), .ref (90), .ref (91), .ref (92), .ref (93), .ref (94), .ref (100), .ref (101), .ref (102), .ref (108), .ref (109), .ref (110), .ref (111), .ref (112), .ref (113), .ref (114), .ref (115), .null, .null, .null, vi 0, vi 0, .null, .null, vi 0, vi 0, vi 0, vi 0, vi 0, .null, vi 0, .null, .null, .null, .null, .null, .null, .null]) := f44
  refine x_aload_n (dT U_X11_init 95 rfl) rfl ?_
  refine x_iconst (dT U_X11_init 96 rfl) ?_
  refine x_iconst (dT U_X11_init 97 rfl) ?_
  refine y_multi (rc' := rc + 22) (rs' := rs + 134) (N := 118) 2 2 l44 W_X11_16 w_ac_int (dT U_X11_init 98 rfl) rfl rfl (by decide) (by decide) rfl rfl (fun h45 l45 k45 f45 r45 => ?_)
  have l45 : h45.length = 121 := l45
  have f45 : h45[118]? = some (cQ 4 [some (119), some (120)]) := f45
  refine y_fin l45 F_X11_79 rfl rfl (dT U_X11_init 99 rfl) (k45 _ _ f44) (Nat.le_of_ble_eq_true rfl) (Nat.le_of_ble_eq_true rfl) rfl rfl (fun h46 l46 k46 f46 => ?_)
  have l46 : h46.length = 121 := l46
  have f46 : h46[70]? = some (cO 11 [vi 0, vi 0, vi 0, .ref (71), .ref (72), .ref (73), .ref (82), .ref (83), .ref (84), .ref (90), .ref (91), .ref (92), .ref (93), .ref (94), .ref (100), .ref (101), .ref (102), .ref (108), .ref (109), .ref (110), .ref (111), .ref (112), .ref (113), .ref (114), .ref (115), .ref (118), .null, .null, vi 0, vi 0, .null, .null, vi 0, vi 0, vi 0, vi 0, vi 0, .null, vi 0, .null, .null, .null, .null, .null, .null, .null]) := f46
  refine x_aload_n (dT U_X11_init 100 rfl) rfl ?_
  refine x_iconst (dT U_X11_init 101 rfl) ?_
  refine x_iconst (dT U_X11_init 102 rfl) ?_
  refine y_multi (rc' := rc + 19) (rs' := rs + 128) (N := 121) 2 2 l46 W_X11_16 w_ac_int (dT U_X11_init 103 rfl) rfl rfl (by decide) (by decide) rfl rfl (fun h47 l47 k47 f47 r47 => ?_)
  have l47 : h47.length = 124 := l47
  have f47 : h47[121]? = some (cQ 4 [some (122), some (123)]) := f47
  refine y_fin l47 F_X11_82 rfl rfl (dT U_X11_init 104 rfl) (k47 _ _ f46) (Nat.le_of_ble_eq_true rfl) (Nat.le_of_ble_eq_true rfl) rfl rfl (fun h48 l48 k48 f48 => ?_)
  have l48 : h48.length = 124 := l48
  have f48 : h48[70]? = some (cO 11 [vi 0, vi 0, vi 0, .ref (71), .ref (72), .ref (73), .ref (82), .ref (83), .ref (84), .ref (90), .ref (91), .ref (92), .ref (93), .ref (94), .ref (100), .ref (101), .ref (102), .ref (108), .ref (109), .ref (110), .ref (111), .ref (112), .ref (113), .ref (114), .ref (115), .ref (118), .ref (121), .null, vi 0, vi 0, .null, .null, vi 0, vi 0, vi 0, vi 0, vi 0, .null, vi 0, .null, .null, .null, .null, .null, .null, .null]) := f48
  refine x_aload_n (dT U_X11_init 105 rfl) rfl ?_
  refine x_bipush (dT U_X11_init 106 rfl) (by decide) ?_
  refine x_iconst (dT U_X11_init 107 rfl) ?_
  refine y_multi (rc' := rc + 10) (rs' := rs + 88) (N := 124) 8 4 l48 W_X11_16 w_ac_int (dT U_X11_init 108 rfl) rfl rfl (by decide) (by decide) rfl rfl (fun h49 l49 k49 f49 r49 => ?_)
  have l49 : h49.length = 133 := l49
  have f49 : h49[124]? = some (cQ 4 [some (125), some (126), some (127), some (128), some (129), some (130), some (131), some (132)]) := f49
  refine y_fin l49 F_X11_85 rfl rfl (dT U_X11_init 109 rfl) (k49 _ _ f48) (Nat.le_of_ble_eq_true rfl) (Nat.le_of_ble_eq_true rfl) rfl rfl (fun h50 l50 k50 f50 => ?_)
  have l50 : h50.length = 133 := l50
  have f50 : h50[70]? = some (cO 11 [vi 0, vi 0, vi 0, .ref (71), .ref (72), .ref (73), .ref (82), .ref (83), .ref (84), .ref (90), .ref (91), .ref (92), .ref (93), .ref (94), .ref (100), .ref (101), .ref (102), .ref (108), .ref (109), .ref (110), .ref (111), .ref (112), .ref (113), .ref (114), .ref (115), .ref (118), .ref (121), .ref (124), vi 0, vi 0, .null, .null, vi 0, vi 0, vi 0, vi 0, vi 0, .null, vi 0, .null, .null, .null, .null, .null, .null, .null]) := f50
  refine x_aload_n (dT U_X11_init 110 rfl) rfl ?_
  refine x_bipush (dT U_X11_init 111 rfl) (by decide) ?_
  refine y_newI (rc' := rc + 9) (rs' := rs + 80) (N := 133) (k := 0) (atype := .int) 8 l50 (by decide) w_ac_int (dT U_X11_init 112 rfl) rfl (by decide) rfl rfl (fun h51 l51 k51 f51 => ?_)
  have l51 : h51.length = 134 := l51
  refine y_fin l51 F_X11_88 rfl rfl (dT U_X11_init 113 rfl) (k51 _ _ f50) (Nat.le_of_ble_eq_true rfl) (Nat.le_of_ble_eq_true rfl) rfl rfl (fun h52 l52 k52 f52 => ?_)
  have l52 : h52.length = 134 := l52
  have f52 : h52[70]? = some (cO 11 [vi 0, vi 0, vi 0, .ref (71), .ref (72), .ref (73), .ref (82), .ref (83), .ref (84), .ref (90), .ref (91), .ref (92), .ref (93), .ref (94), .ref (100), .ref (101), .ref (102), .ref (108), .ref (109), .ref (110), .ref (111), .ref (112), .ref (113), .ref (114), .ref (115), .ref (118), .ref (121), .ref (124), vi 0, vi 0, .ref (133), .null, vi 0, vi 0, vi 0, vi 0, vi 0, .null, vi 0, .null, .null, .null, .null, .null, .null, .null]) := f52
  refine x_aload_n (dT U_X11_init 114 rfl) rfl ?_
  refine x_iconst (dT U_X11_init 115 rfl) ?_
  refine y_newI (rc' := rc + 8) (rs' := rs + 77) (N := 134) (k := 0) (atype := .int) 3 l52 (by decide) w_ac_int (dT U_X11_init 116 rfl) rfl (by decide) rfl rfl (fun h53 l53 k53 f53 => ?_)
  have l53 : h53.length = 135 := l53
  refine y_fin l53 F_X11_91 rfl rfl (dT U_X11_init 117 rfl) (k53 _ _ f52) (Nat.le_of_ble_eq_true rfl) (Nat.le_of_ble_eq_true rfl) rfl rfl (fun h54 l54 k54 f54 => ?_)
  have l54 : h54.length = 135 := l54
  have f54 : h54[70]? = some (cO 11 [vi 0, vi 0, vi 0, .ref (71), .ref (72), .ref (73), .ref (82), .ref (83), .ref (84), .ref (90), .ref (91), .ref (92), .ref (93), .ref (94), .ref (100), .ref (101), .ref (102), .ref (108), .ref (109), .ref (110), .ref (111), .ref (112), .ref (113), .ref (114), .ref (115), .ref (118), .ref (121), .ref (124), vi 0, vi 0, .ref (133), .ref (134), vi 0, vi 0, vi 0, vi 0, vi 0, .null, vi 0, .null, .null, .null, .null, .null, .null, .null]) := f54
  refine x_aload_n (dT U_X11_init 118 rfl) rfl ?_
  refine x_bipush (dT U_X11_init 119 rfl) (by decide) ?_
  refine y_newI (rc' := rc + 7) (rs' := rs + 61) (N := 135) (k := 0) (atype := .int) 16 l54 (by decide) w_ac_int (dT U_X11_init 120 rfl) rfl (by decide) rfl rfl (fun h55 l55 k55 f55 => ?_)
  have l55 : h55.length = 136 := l55
  refine y_fin l55 F_X11_94 rfl rfl (dT U_X11_init 121 rfl) (k55 _ _ f54) (Nat.le_of_ble_eq_true rfl) (Nat.le_of_ble_eq_true rfl) rfl rfl (fun h56 l56 k56 f56 => ?_)
  have l56 : h56.length = 136 := l56
  have f56 : h56[70]? = some (cO 11 [vi 0, vi 0, vi 0, .ref (71), .ref (72), .ref (73), .ref (82), .ref (83), .ref (84), .ref (90), .ref (91), .ref (92), .ref (93), .ref (94), .ref (100), .ref (101), .ref (102), .ref (108), .ref (109), .ref (110), .ref (111), .ref (112), .ref (113), .ref (114), .ref (115), .ref (118), .ref (121), .ref (124), vi 0, vi 0, .ref (133), .ref (134), vi 0, vi 0, vi 0, vi 0, vi 0, .ref (135), vi 0, .null, .null, .null, .null, .null, .null, .null]) := f56
  refine x_aload_n (dT U_X11_init 122 rfl) rfl ?_
  refine x_bipush (dT U_X11_init 123 rfl) (by decide) ?_
  refine y_newI (rc' := rc + 6) (rs' := rs + 46) (N := 136) (k := 0) (atype := .int) 15 l56 (by decide) w_ac_int (dT U_X11_init 124 rfl) rfl (by decide) rfl rfl (fun h57 l57 k57 f57 => ?_)
  have l57 : h57.length = 137 := l57
  refine y_fin l57 F_X11_97 rfl rfl (dT U_X11_init 125 rfl) (k57 _ _ f56) (Nat.le_of_ble_eq_true rfl) (Nat.le_of_ble_eq_true rfl) rfl rfl (fun h58 l58 k58 f58 => ?_)
  have l58 : h58.length = 137 := l58
  have f58 : h58[70]? = some (cO 11 [vi 0, vi 0, vi 0, .ref (71), .ref (72), .ref (73), .ref (82), .ref (83), .ref (84), .ref (90), .ref (91), .ref (92), .ref (93), .ref (94), .ref (100), .ref (101), .ref (102), .ref (108), .ref (109), .ref (110), .ref (111), .ref (112), .ref (113), .ref (114), .ref (115), .ref (118), .ref (121), .ref (124), vi 0, vi 0, .ref (133), .ref (134), vi 0, vi 0, vi 0, vi 0, vi 0, .ref (135), vi 0, .ref (136), .null, .null, .null, .null, .null, .null]) := f58
  refine x_aload_n (dT U_X11_init 126 rfl) rfl ?_
  refine x_bipush (dT U_X11_init 127 rfl) (by decide) ?_
  refine y_newI (rc' := rc + 5) (rs' := rs + 38) (N := 137) (k := 0) (atype := .int) 8 l58 (by decide) w_ac_int (dT U_X11_init 128 rfl) rfl (by decide) rfl rfl (fun h59 l59 k59 f59 => ?_)
  have l59 : h59.length = 138 := l59
  refine y_fin l59 F_X11_100 rfl rfl (dT U_X11_init 129 rfl) (k59 _ _ f58) (Nat.le_of_ble_eq_true rfl) (Nat.le_of_ble_eq_true rfl) rfl rfl (fun h60 l60 k60 f60 => ?_)
  have l60 : h60.length = 138 := l60
  have f60 : h60[70]? = some (cO 11 [vi 0, vi 0, vi 0, .ref (71), .ref (72), .ref (73), .ref (82), .ref (83), .ref (84), .ref (90), .ref (91), .ref (92), .ref (93), .ref (94), .ref (100), .ref (101), .ref (102), .ref (108), .ref (109), .ref (110), .ref (111), .ref (112), .ref (113), .ref (114), .ref (115), .ref (118), .ref (121), .ref (124), vi 0, vi 0, .ref (133), .ref (134), vi 0, vi 0, vi 0, vi 0, vi 0, .ref (135), vi 0, .ref (136), .ref (137), .null, .null, .null, .null, .null]) := f60
  refine x_aload_n (dT U_X11_init 130 rfl) rfl ?_
  refine x_bipush (dT U_X11_init 131 rfl) (by decide) ?_
  refine y_newI (rc' := rc + 4) (rs' := rs + 29) (N := 138) (k := 0) (atype := .int) 9 l60 (by decide) w_ac_int (dT U_X11_init 132 rfl) rfl (by decide) rfl rfl (fun h61 l61 k61 f61 => ?_)
  have l61 : h61.length = 139 := l61
  refine y_fin l61 F_X11_103 rfl rfl (dT U_X11_init 133 rfl) (k61 _ _ f60) (Nat.le_of_ble_eq_true rfl) (Nat.le_of_ble_eq_true rfl) rfl rfl (fun h62 l62 k62 f62 => ?_)
  have l62 : h62.length = 139 := l62
  have f62 : h62[70]? = some (cO 11 [vi 0, vi 0, vi 0, .ref (71), .ref (72), .ref (73), .ref (82), .ref (83), .ref (84), .ref (90), .ref (91), .ref (92), .ref (93), .ref (94), .ref (100), .ref (101), .ref (102), .ref (108), .ref (109), .ref (110), .ref (111), .ref (112), .ref (113), .ref (114), .ref (115), .ref (118), .ref (121), .ref (124), vi 0, vi 0, .ref (133), .ref (134), vi 0, vi 0, vi 0, vi 0, vi 0, .ref (135), vi 0, .ref (136), .ref (137), .ref (138), .null, .null, .null, .null]) := f62
  refine x_aload_n (dT U_X11_init 134 rfl) rfl ?_
  refine x_bipush (dT U_X11_init 135 rfl) (by decide) ?_
  refine y_newI (rc' := rc + 3) (rs' := rs + 13) (N := 139) (k := 0) (atype := .int) 16 l62 (by decide) w_ac_int (dT U_X11_init 136 rfl) rfl (by decide) rfl rfl (fun h63 l63 k63 f63 => ?_)
  have l63 : h63.length = 140 := l63
  refine y_fin l63 F_X11_106 rfl rfl (dT U_X11_init 137 rfl) (k63 _ _ f62) (Nat.le_of_ble_eq_true rfl) (Nat.le_of_ble_eq_true rfl) rfl rfl (fun h64 l64 k64 f64 => ?_)
  have l64 : h64.length = 140 := l64
  have f64 : h64[70]? = some (cO 11 [vi 0, vi 0, vi 0, .ref (71), .ref (72), .ref (73), .ref (82), .ref (83), .ref (84), .ref (90), .ref (91), .ref (92), .ref (93), .ref (94), .ref (100), .ref (101), .ref (102), .ref (108), .ref (109), .ref (110), .ref (111), .ref (112), .ref (113), .ref (114), .ref (115), .ref (118), .ref (121), .ref (124), vi 0, vi 0, .ref (133), .ref (134), vi 0, vi 0, vi 0, vi 0, vi 0, .ref (135), vi 0, .ref (136), .ref (137), .ref (138), .ref (139), .null, .null, .null]) := f64
  refine x_aload_n (dT U_X11_init 138 rfl) rfl ?_
  refine x_iconst (dT U_X11_init 139 rfl) ?_
  refine y_newI (rc' := rc + 2) (rs' := rs + 8) (N := 140) (k := 0) (atype := .int) 5 l64 (by decide) w_ac_int (dT U_X11_init 140 rfl) rfl (by decide) rfl rfl (fun h65 l65 k65 f65 => ?_)
  have l65 : h65.length = 141 := l65
  refine y_fin l65 F_X11_109 rfl rfl (dT U_X11_init 141 rfl) (k65 _ _ f64) (Nat.le_of_ble_eq_true rfl) (Nat.le_of_ble_eq_true rfl) rfl rfl (fun h66 l66 k66 f66 => ?_)
  have l66 : h66.length = 141 := l66
  have f66 : h66[70]? = some (cO 11 [vi 0, vi 0, vi 0, .ref (71), .ref (72), .ref (73), .ref (82), .ref (83), .ref (84), .ref (90), .ref (91), .ref (92), .ref (93), .ref (94), .ref (100), .ref (101), .ref (102), .ref (108), .ref (109), .ref (110), .ref (111), .ref (112), .ref (113), .ref (114), .ref (115), .ref (118), .ref (121), .ref (124), vi 0, vi 0, .ref (133), .ref (134), vi 0, vi 0, vi 0, vi 0, vi 0, .ref (135), vi 0, .ref (136), .ref (137), .ref (138), .ref (139), .ref (140), .null, .null]) := f66
  refine x_aload_n (dT U_X11_init 142 rfl) rfl ?_
  refine x_iconst (dT U_X11_init 143 rfl) ?_
  refine y_newI (rc' := rc + 1) (rs' := rs + 3) (N := 141) (k := 0) (atype := .int) 5 l66 (by decide) w_ac_int (dT U_X11_init 144 rfl) rfl (by decide) rfl rfl (fun h67 l67 k67 f67 => ?_)
  have l67 : h67.length = 142 := l67
  refine y_fin l67 F_X11_112 rfl rfl (dT U_X11_init 145 rfl) (k67 _ _ f66) (Nat.le_of_ble_eq_true rfl) (Nat.le_of_ble_eq_true rfl) rfl rfl (fun h68 l68 k68 f68 => ?_)
  have l68 : h68.length = 142 := l68
  have f68 : h68[70]? = some (cO 11 [vi 0, vi 0, vi 0, .ref (71), .ref (72), .ref (73), .ref (82), .ref (83), .ref (84), .ref (90), .ref (91), .ref (92), .ref (93), .ref (94), .ref (100), .ref (101), .ref (102), .ref (108), .ref (109), .ref (110), .ref (111), .ref (112), .ref (113), .ref (114), .ref (115), .ref (118), .ref (121), .ref (124), vi 0, vi 0, .ref (133), .ref (134), vi 0, vi 0, vi 0, vi 0, vi 0, .ref (135), vi 0, .ref (136), .ref (137), .ref (138), .ref (139), .ref (140), .ref (141), .null]) := f68
  refine x_aload_n (dT U_X11_init 146 rfl) rfl ?_
  refine x_iconst (dT U_X11_init 147 rfl) ?_
  refine y_newI (rc' := rc + 0) (rs' := rs + 0) (N := 142) (k := 0) (atype := .int) 3 l68 (by decide) w_ac_int (dT U_X11_init 148 rfl) rfl (by decide) rfl rfl (fun h69 l69 k69 f69 => ?_)
  have l69 : h69.length = 143 := l69
  refine y_fin l69 F_X11_115 rfl rfl (dT U_X11_init 149 rfl) (k69 _ _ f68) (Nat.le_of_ble_eq_true rfl) (Nat.le_of_ble_eq_true rfl) rfl rfl (fun h70 l70 k70 f70 => ?_)
  have l70 : h70.length = 143 := l70
  have f70 : h70[70]? = some (cO 11 [vi 0, vi 0, vi 0, .ref (71), .ref (72), .ref (73), .ref (82), .ref (83), .ref (84), .ref (90), .ref (91), .ref (92), .ref (93), .ref (94), .ref (100), .ref (101), .ref (102), .ref (108), .ref (109), .ref (110), .ref (111), .ref (112), .ref (113), .ref (114), .ref (115), .ref (118), .ref (121), .ref (124), vi 0, vi 0, .ref (133), .ref (134), vi 0, vi 0, vi 0, vi 0, vi 0, .ref (135), vi 0, .ref (136), .ref (137), .ref (138), .ref (139), .ref (140), .ref (141), .ref (142)]) := f70
  refine x_aload_n (dT U_X11_init 150 rfl) rfl ?_
  refine x_bipush (dT U_X11_init 151 rfl) (by decide) ?_
  have S69 : ∀ (b : Nat) (x : xC), b < 143 → b ≠ 70 → h69[b]? = some x → h70[b]? = some x := fun b x q0 q1 hx => k70 b x (by omega) hx
  have S68 : ∀ (b : Nat) (x : xC), b < 142 → b ≠ 70 → h68[b]? = some x → h70[b]? = some x := fun b x q0 q1 hx => S69 b x (by omega) (by omega) (k69 b x hx)
  have S67 : ∀ (b : Nat) (x : xC), b < 142 → b ≠ 70 → h67[b]? = some x → h70[b]? = some x := fun b x q0 q1 hx => S68 b x (by omega) (by omega) (k68 b x (by omega) hx)
  have S66 : ∀ (b : Nat) (x : xC), b < 141 → b ≠ 70 → h66[b]? = some x → h70[b]? = some x := fun b x q0 q1 hx => S67 b x (by omega) (by omega) (k67 b x hx)
  have S65 : ∀ (b : Nat) (x : xC), b < 141 → b ≠ 70 → h65[b]? = some x → h70[b]? = some x := fun b x q0 q1 hx => S66 b x (by omega) (by omega) (k66 b x (by omega) hx)
  have S64 : ∀ (b : Nat) (x : xC), b < 140 → b ≠ 70 → h64[b]? = some x → h70[b]? = some x := fun b x q0 q1 hx => S65 b x (by omega) (by omega) (k65 b x hx)
  have S63 : ∀ (b : Nat) (x : xC), b < 140 → b ≠ 70 → h63[b]? = some x → h70[b]? = some x := fun b x q0 q1 hx => S64 b x (by omega) (by omega) (k64 b x (by omega) hx)
  have S62 : ∀ (b : Nat) (x : xC), b < 139 → b ≠ 70 → h62[b]? = some x → h70[b]? = some x := fun b x q0 q1 hx => S63 b x (by omega) (by omega) (k63 b x hx)
  have S61 : ∀ (b : Nat) (x : xC), b < 139 → b ≠ 70 → h61[b]? = some x → h70[b]? = some x := fun b x q0 q1 hx => S62 b x (by omega) (by omega) (k62 b x (by omega) hx)
  have S60 : ∀ (b : Nat) (x : xC), b < 138 → b ≠ 70 → h60[b]? = some x → h70[b]? = some x := fun b x q0 q1 hx => S61 b x (by omega) (by omega) (k61 b x hx)
  have S59 : ∀ (b : Nat) (x : xC), b < 138 → b ≠ 70 → h59[b]? = some x → h70[b]? = some x := fun b x q0 q1 hx => S60 b x (by omega) (by omega) (k60 b x (by omega) hx)
  have S58 : ∀ (b : Nat) (x : xC), b < 137 → b ≠ 70 → h58[b]? = some x → h70[b]? = some x := fun b x q0 q1 hx => S59 b x (by omega) (by omega) (k59 b x hx)
  have S57 : ∀ (b : Nat) (x : xC), b < 137 → b ≠ 70 → h57[b]? = some x → h70[b]? = some x := fun b x q0 q1 hx => S58 b x (by omega) (by omega) (k58 b x (by omega) hx)
  have S56 : ∀ (b : Nat) (x : xC), b < 136 → b ≠ 70 → h56[b]? = some x → h70[b]? = some x := fun b x q0 q1 hx => S57 b x (by omega) (by omega) (k57 b x hx)
  have S55 : ∀ (b : Nat) (x : xC), b < 136 → b ≠ 70 → h55[b]? = some x → h70[b]? = some x := fun b x q0 q1 hx => S56 b x (by omega) (by omega) (k56 b x (by omega) hx)
  have S54 : ∀ (b : Nat) (x : xC), b < 135 → b ≠ 70 → h54[b]? = some x → h70[b]? = some x := fun b x q0 q1 hx => S55 b x (by omega) (by omega) (k55 b x hx)
  have S53 : ∀ (b : Nat) (x : xC), b < 135 → b ≠ 70 → h53[b]? = some x → h70[b]? = some x := fun b x q0 q1 hx => S54 b x (by omega) (by omega) (k54 b x (by omega) hx)
  have S52 : ∀ (b : Nat) (x : xC), b < 134 → b ≠ 70 → h52[b]? = some x → h70[b]? = some x := fun b x q0 q1 hx => S53 b x (by omega) (by omega) (k53 b x hx)
  have S51 : ∀ (b : Nat) (x : xC), b < 134 → b ≠ 70 → h51[b]? = some x → h70[b]? = some x := fun b x q0 q1 hx => S52 b x (by omega) (by omega) (k52 b x (by omega) hx)
  have S50 : ∀ (b : Nat) (x : xC), b < 133 → b ≠ 70 → h50[b]? = some x → h70[b]? = some x := fun b x q0 q1 hx => S51 b x (by omega) (by omega) (k51 b x hx)
  have S49 : ∀ (b : Nat) (x : xC), b < 133 → b ≠ 70 → h49[b]? = some x → h70[b]? = some x := fun b x q0 q1 hx => S50 b x (by omega) (by omega) (k50 b x (by omega) hx)
  have S48 : ∀ (b : Nat) (x : xC), b < 124 → b ≠ 70 → h48[b]? = some x → h70[b]? = some x := fun b x q0 q1 hx => S49 b x (by omega) (by omega) (k49 b x hx)
  have S47 : ∀ (b : Nat) (x : xC), b < 124 → b ≠ 70 → h47[b]? = some x → h70[b]? = some x := fun b x q0 q1 hx => S48 b x (by omega) (by omega) (k48 b x (by omega) hx)
  have S46 : ∀ (b : Nat) (x : xC), b < 121 → b ≠ 70 → h46[b]? = some x → h70[b]? = some x := fun b x q0 q1 hx => S47 b x (by omega) (by omega) (k47 b x hx)
  have S45 : ∀ (b : Nat) (x : xC), b < 121 → b ≠ 70 → h45[b]? = some x → h70[b]? = some x := fun b x q0 q1 hx => S46 b x (by omega) (by omega) (k46 b x (by omega) hx)
  have S44 : ∀ (b : Nat) (x : xC), b < 118 → b ≠ 70 → h44[b]? = some x → h70[b]? = some x := fun b x q0 q1 hx => S45 b x (by omega) (by omega) (k45 b x hx)
  have S43 : ∀ (b : Nat) (x : xC), b < 118 → b ≠ 70 → h43[b]? = some x → h70[b]? = some x := fun b x q0 q1 hx => S44 b x (by omega) (by omega) (k44 b x (by omega) hx)
  have S42 : ∀ (b : Nat) (x : xC), b < 115 → b ≠ 70 → h42[b]? = some x → h70[b]? = some x := fun b x q0 q1 hx => S43 b x (by omega) (by omega) (k43 b x hx)
  have S41 : ∀ (b : Nat) (x : xC), b < 115 → b ≠ 70 → h41[b]? = some x → h70[b]? = some x := fun b x q0 q1 hx => S42 b x (by omega) (by omega) (k42 b x (by omega) hx)
  have S40 : ∀ (b : Nat) (x : xC), b < 114 → b ≠ 70 → h40[b]? = some x → h70[b]? = some x := fun b x q0 q1 hx => S41 b x (by omega) (by omega) (k41 b x hx)
  have S39 : ∀ (b : Nat) (x : xC), b < 114 → b ≠ 70 → h39[b]? = some x → h70[b]? = some x := fun b x q0 q1 hx => S40 b x (by omega) (by omega) (k40 b x (by omega) hx)
  have S38 : ∀ (b : Nat) (x : xC), b < 113 → b ≠ 70 → h38[b]? = some x → h70[b]? = some x := fun b x q0 q1 hx => S39 b x (by omega) (by omega) (k39 b x hx)
  have S37 : ∀ (b : Nat) (x : xC), b < 113 → b ≠ 70 → h37[b]? = some x → h70[b]? = some x := fun b x q0 q1 hx => S38 b x (by omega) (by omega) (k38 b x (by omega) hx)
  have S36 : ∀ (b : Nat) (x : xC), b < 112 → b ≠ 70 → h36[b]? = some x → h70[b]? = some x := fun b x q0 q1 hx => S37 b x (by omega) (by omega) (k37 b x hx)
  have S35 : ∀ (b : Nat) (x : xC), b < 112 → b ≠ 70 → h35[b]? = some x → h70[b]? = some x := fun b x q0 q1 hx => S36 b x (by omega) (by omega) (k36 b x (by omega) hx)
  have S34 : ∀ (b : Nat) (x : xC), b < 111 → b ≠ 70 → h34[b]? = some x → h70[b]? = some x := fun b x q0 q1 hx => S35 b x (by omega) (by omega) (k35 b x hx)
  have S33 : ∀ (b : Nat) (x : xC), b < 111 → b ≠ 70 → h33[b]? = some x → h70[b]? = some x := fun b x q0 q1 hx => S34 b x (by omega) (by omega) (k34 b x (by omega) hx)
  have S32 : ∀ (b : Nat) (x : xC), b < 110 → b ≠ 70 → h32[b]? = some x → h70[b]? = some x := fun b x q0 q1 hx => S33 b x (by omega) (by omega) (k33 b x hx)
  have S31 : ∀ (b : Nat) (x : xC), b < 110 → b ≠ 70 → h31[b]? = some x → h70[b]? = some x := fun b x q0 q1 hx => S32 b x (by omega) (by omega) (k32 b x (by omega) hx)
  have S30 : ∀ (b : Nat) (x : xC), b < 109 → b ≠ 70 → h30[b]? = some x → h70[b]? = some x := fun b x q0 q1 hx => S31 b x (by omega) (by omega) (k31 b x hx)
  have S29 : ∀ (b : Nat) (x : xC), b < 109 → b ≠ 70 → h29[b]? = some x → h70[b]? = some x := fun b x q0 q1 hx => S30 b x (by omega) (by omega) (k30 b x (by omega) hx)
  have S28 : ∀ (b : Nat) (x : xC), b < 108 → b ≠ 70 → h28[b]? = some x → h70[b]? = some x := fun b x q0 q1 hx => S29 b x (by omega) (by omega) (k29 b x hx)
  have S27 : ∀ (b : Nat) (x : xC), b < 108 → b ≠ 70 → h27[b]? = some x → h70[b]? = some x := fun b x q0 q1 hx => S28 b x (by omega) (by omega) (k28 b x (by omega) hx)
  have S26 : ∀ (b : Nat) (x : xC), b < 102 → b ≠ 70 → h26[b]? = some x → h70[b]? = some x := fun b x q0 q1 hx => S27 b x (by omega) (by omega) (k27 b x hx)
  have S25 : ∀ (b : Nat) (x : xC), b < 102 → b ≠ 70 → h25[b]? = some x → h70[b]? = some x := fun b x q0 q1 hx => S26 b x (by omega) (by omega) (k26 b x (by omega) hx)
  have S24 : ∀ (b : Nat) (x : xC), b < 101 → b ≠ 70 → h24[b]? = some x → h70[b]? = some x := fun b x q0 q1 hx => S25 b x (by omega) (by omega) (k25 b x hx)
  have S23 : ∀ (b : Nat) (x : xC), b < 101 → b ≠ 70 → h23[b]? = some x → h70[b]? = some x := fun b x q0 q1 hx => S24 b x (by omega) (by omega) (k24 b x (by omega) hx)
  have S22 : ∀ (b : Nat) (x : xC), b < 100 → b ≠ 70 → h22[b]? = some x → h70[b]? = some x := fun b x q0 q1 hx => S23 b x (by omega) (by omega) (k23 b x hx)
  have S21 : ∀ (b : Nat) (x : xC), b < 100 → b ≠ 70 → h21[b]? = some x → h70[b]? = some x := fun b x q0 q1 hx => S22 b x (by omega) (by omega) (k22 b x (by omega) hx)
  have S20 : ∀ (b : Nat) (x : xC), b < 94 → b ≠ 70 → h20[b]? = some x → h70[b]? = some x := fun b x q0 q1 hx => S21 b x (by omega) (by omega) (k21 b x hx)
  have S19 : ∀ (b : Nat) (x : xC), b < 94 → b ≠ 70 → h19[b]? = some x → h70[b]? = some x := fun b x q0 q1 hx => S20 b x (by omega) (by omega) (k20 b x (by omega) hx)
  have S18 : ∀ (b : Nat) (x : xC), b < 93 → b ≠ 70 → h18[b]? = some x → h70[b]? = some x := fun b x q0 q1 hx => S19 b x (by omega) (by omega) (k19 b x hx)
  have S17 : ∀ (b : Nat) (x : xC), b < 93 → b ≠ 70 → h17[b]? = some x → h70[b]? = some x := fun b x q0 q1 hx => S18 b x (by omega) (by omega) (k18 b x (by omega) hx)
  have S16 : ∀ (b : Nat) (x : xC), b < 92 → b ≠ 70 → h16[b]? = some x → h70[b]? = some x := fun b x q0 q1 hx => S17 b x (by omega) (by omega) (k17 b x hx)
  have S15 : ∀ (b : Nat) (x : xC), b < 92 → b ≠ 70 → h15[b]? = some x → h70[b]? = some x := fun b x q0 q1 hx => S16 b x (by omega) (by omega) (k16 b x (by omega) hx)
  have S14 : ∀ (b : Nat) (x : xC), b < 91 → b ≠ 70 → h14[b]? = some x → h70[b]? = some x := fun b x q0 q1 hx => S15 b x (by omega) (by omega) (k15 b x hx)
  have S13 : ∀ (b : Nat) (x : xC), b < 91 → b ≠ 70 → h13[b]? = some x → h70[b]? = some x := fun b x q0 q1 hx => S14 b x (by omega) (by omega) (k14 b x (by omega) hx)
  have S12 : ∀ (b : Nat) (x : xC), b < 90 → b ≠ 70 → h12[b]? = some x → h70[b]? = some x := fun b x q0 q1 hx => S13 b x (by omega) (by omega) (k13 b x hx)
  have S11 : ∀ (b : Nat) (x : xC), b < 90 → b ≠ 70 → h11[b]? = some x → h70[b]? = some x := fun b x q0 q1 hx => S12 b x (by omega) (by omega) (k12 b x (by omega) hx)
  have S10 : ∀ (b : Nat) (x : xC), b < 84 → b ≠ 70 → h10[b]? = some x → h70[b]? = some x := fun b x q0 q1 hx => S11 b x (by omega) (by omega) (k11 b x hx)
  have S9 : ∀ (b : Nat) (x : xC), b < 84 → b ≠ 70 → h9[b]? = some x → h70[b]? = some x := fun b x q0 q1 hx => S10 b x (by omega) (by omega) (k10 b x (by omega) hx)
  have S8 : ∀ (b : Nat) (x : xC), b < 83 → b ≠ 70 → h8[b]? = some x → h70[b]? = some x := fun b x q0 q1 hx => S9 b x (by omega) (by omega) (k9 b x hx)
  have S7 : ∀ (b : Nat) (x : xC), b < 83 → b ≠ 70 → h7[b]? = some x → h70[b]? = some x := fun b x q0 q1 hx => S8 b x (by omega) (by omega) (k8 b x (by omega) hx)
  have S6 : ∀ (b : Nat) (x : xC), b < 82 → b ≠ 70 → h6[b]? = some x → h70[b]? = some x := fun b x q0 q1 hx => S7 b x (by omega) (by omega) (k7 b x hx)
  have S5 : ∀ (b : Nat) (x : xC), b < 82 → b ≠ 70 → h5[b]? = some x → h70[b]? = some x := fun b x q0 q1 hx => S6 b x (by omega) (by omega) (k6 b x (by omega) hx)
  have S4 : ∀ (b : Nat) (x : xC), b < 73 → b ≠ 70 → h4[b]? = some x → h70[b]? = some x := fun b x q0 q1 hx => S5 b x (by omega) (by omega) (k5 b x hx)
  have S3 : ∀ (b : Nat) (x : xC), b < 73 → b ≠ 70 → h3[b]? = some x → h70[b]? = some x := fun b x q0 q1 hx => S4 b x (by omega) (by omega) (k4 b x (by omega) hx)
  have S2 : ∀ (b : Nat) (x : xC), b < 72 → b ≠ 70 → h2[b]? = some x → h70[b]? = some x := fun b x q0 q1 hx => S3 b x (by omega) (by omega) (k3 b x hx)
  have S1 : ∀ (b : Nat) (x : xC), b < 72 → b ≠ 70 → h1[b]? = some x → h70[b]? = some x := fun b x q0 q1 hx => S2 b x (by omega) (by omega) (k2 b x (by omega) hx)
  have S0 : ∀ (b : Nat) (x : xC), b < 71 → b ≠ 70 → h[b]? = some x → h70[b]? = some x := fun b x q0 q1 hx => S1 b x (by omega) (by omega) (k1 b x hx)
  refine x_invokevirtual (rc' := rc + 0) (rs' := rs + 0) (rc2 := 0) (rs2 := 0) (As := [_]) (st := _) M_X11_begin K_X11_118 (dT U_X11_init 152 rfl) rfl rfl (by decide) rfl rfl f70 (Nat.le_of_ble_eq_true rfl) (by decide) rfl (Nat.le_of_ble_eq_true rfl) rfl (by decide) (Nat.le_of_ble_eq_true rfl) rfl rfl ?_
  refine S_X11_begin (p := 7) (c9 := 0) (p0 := 0) (q0 := 0) (gc := 0) (gb := 0) (rr := 0) (gcl := 0) (ss := 0) (gz := 0) (go := 0) (nc := 0) (f82 := fun _ => 0) (f93 := fun _ => 0) (f109 := fun _ => 0) (by decide) (show _ = some (mCq 0 0 0 0 0 0 0 0 0 0 0) from f70) (S1 _ _ (by omega) (by omega) f1) rfl (S3 _ _ (by omega) (by omega) f3) rfl (S5 _ _ (by omega) (by omega) f5) (fun j hj => ⟨_, (S5 _ _ (by omega) (by omega) (r5 j hj)), rfl⟩) (S7 _ _ (by omega) (by omega) f7) (S19 _ _ (by omega) (by omega) f19) (S31 _ _ (by omega) (by omega) f31) (fun h9 g9 o9 a1 a2 a3 a4 a5 a6 a7 => ?_)
  refine xRet_none ?_
  refine x_return (dT U_X11_init 153 rfl) rfl ?_
  have zg : ∀ j, zr8.getD j 0 = 0 := fun j => if h5 : j < 8 then tab_get _ h5 else gf_out (l := zr8) (by show (tab _ 8).length ≤ j; rw [tab_len]; omega)
  refine kk _ (g9.1.trans l70) (fun b x ne hx => (g9.2 b (by omega)).trans (S0 b x (by omega) (by omega) hx)) ⟨a1,
    a2,
    a3,
    (o9 _ (by omega)).trans (S5 _ _ (by omega) (by omega) f5),
    a4,
    a5,
    (o9 _ (by omega)).trans (S9 _ _ (by omega) (by omega) f9),
    (o9 _ (by omega)).trans (S11 _ _ (by omega) (by omega) f11),
    fun j hj => (o9 _ (by omega)).trans (S11 _ _ (by omega) (by omega) (r11 j (by omega))),
    ⟨_, (o9 _ (by omega)).trans (S11 _ _ (by omega) (by omega) (r11 4 (by decide))), rfl⟩,
    (o9 _ (by omega)).trans (S13 _ _ (by omega) (by omega) f13),
    (o9 _ (by omega)).trans (S15 _ _ (by omega) (by omega) f15),
    (o9 _ (by omega)).trans (S17 _ _ (by omega) (by omega) f17),
    a6,
    (o9 _ (by omega)).trans (S21 _ _ (by omega) (by omega) f21),
    fun j hj => (o9 _ (by omega)).trans (S21 _ _ (by omega) (by omega) (r21 j (by omega))),
    (o9 _ (by omega)).trans (S23 _ _ (by omega) (by omega) f23),
    (o9 _ (by omega)).trans (S25 _ _ (by omega) (by omega) f25),
    (o9 _ (by omega)).trans (S27 _ _ (by omega) (by omega) f27),
    fun j hj => (o9 _ (by omega)).trans (S27 _ _ (by omega) (by omega) (r27 j (by omega))),
    (o9 _ (by omega)).trans (S29 _ _ (by omega) (by omega) f29),
    a7,
    (o9 _ (by omega)).trans (S33 _ _ (by omega) (by omega) f33),
    (o9 _ (by omega)).trans (S35 _ _ (by omega) (by omega) f35),
    (o9 _ (by omega)).trans (S37 _ _ (by omega) (by omega) f37),
    (o9 _ (by omega)).trans (S39 _ _ (by omega) (by omega) f39),
    (o9 _ (by omega)).trans (S41 _ _ (by omega) (by omega) f41),
    (o9 _ (by omega)).trans (S43 _ _ (by omega) (by omega) f43),
    fun j hj => (o9 _ (by omega)).trans (S43 _ _ (by omega) (by omega) (r43 j (by omega))),
    (o9 _ (by omega)).trans (S45 _ _ (by omega) (by omega) f45),
    fun j hj => (o9 _ (by omega)).trans (S45 _ _ (by omega) (by omega) (r45 j (by omega))),
    (o9 _ (by omega)).trans (S47 _ _ (by omega) (by omega) f47),
    fun j hj => (o9 _ (by omega)).trans (S47 _ _ (by omega) (by omega) (r47 j (by omega))),
    (o9 _ (by omega)).trans (S49 _ _ (by omega) (by omega) f49),
    fun j hj => by
      show _ = some (cA 0 [zr8.getD j 0, zr8.getD j 0, zr8.getD j 0, zr8.getD j 0])
      rw [zg j]
      exact (o9 _ (by omega)).trans (S49 _ _ (by omega) (by omega) (r49 j hj)),
    (o9 _ (by omega)).trans (S51 _ _ (by omega) (by omega) f51),
    (o9 _ (by omega)).trans (S53 _ _ (by omega) (by omega) f53),
    (o9 _ (by omega)).trans (S55 _ _ (by omega) (by omega) f55),
    ⟨_, (o9 _ (by omega)).trans (S57 _ _ (by omega) (by omega) f57), rfl⟩,
    ⟨_, (o9 _ (by omega)).trans (S59 _ _ (by omega) (by omega) f59), rfl⟩,
    ⟨_, (o9 _ (by omega)).trans (S61 _ _ (by omega) (by omega) f61), rfl⟩,
    ⟨_, (o9 _ (by omega)).trans (S63 _ _ (by omega) (by omega) f63), rfl⟩,
    ⟨_, (o9 _ (by omega)).trans (S65 _ _ (by omega) (by omega) f65), rfl⟩,
    ⟨_, (o9 _ (by omega)).trans (S67 _ _ (by omega) (by omega) f67), rfl⟩,
    ⟨_, (o9 _ (by omega)).trans (S69 _ _ (by omega) (by omega) f69), rfl⟩,
    ⟨fun z => absurd (show (0 : Int) = 1 from z) (by decide), Nat.zero_le 3, Or.inl rfl⟩⟩

theorem INV_0 : INV σ0 := by
  have z : Fl (7 : Int) zr8 := Fl_tab (by omega) (fun _ _ => ⟨Int.le_refl 0, by decide⟩)
  have z24 : Fl 24 zr8 := z.mono (by omega)
  refine ⟨by decide, fun j _ => z, fun i _ => ⟨⟨Nat.zero_le 4, fun h => absurd (show 1 ≤ 0 from h) (by decide), fun h => absurd (show 1 ≤ 0 from h) (by decide), fun h => absurd (show 1 ≤ 0 from h) (by decide), fun h => absurd (show 2 ≤ 0 from h) (by decide), fun h => absurd (show 2 ≤ 0 from h) (by decide), fun h => absurd (show 3 ≤ 0 from h) (by decide), fun h => absurd (show 4 ≤ 0 from h) (by decide), fun h => absurd (show 4 ≤ 0 from h) (by decide), fun h => absurd (show false = true from h) (by decide), z24, z24, z24⟩, fun h => absurd (show false = true from h) (by decide), fun h => absurd (show false = true from h) (by decide)⟩, fun i _ => ⟨Nat.zero_le 3, fun h => absurd (show 1 ≤ 0 from h) (by decide), fun h => absurd (show 2 ≤ 0 from h) (by decide), fun h => absurd (show 3 ≤ 0 from h) (by decide), (show (0 : Int) ≤ 0 ∧ (0 : Int) < 24 by decide), (show (0 : Int) ≤ 0 ∧ (0 : Int) < 24 by decide), (show (0 : Int) ≤ 0 ∧ (0 : Int) < 24 by decide), (show (0 : Int) ≤ 0 ∧ (0 : Int) < 24 by decide), (show (0 : Int) ≤ 0 ∧ (0 : Int) < 24 by decide), (show (0 : Int) ≤ 0 ∧ (0 : Int) < 24 by decide), (show (0 : Int) ≤ 0 ∧ (0 : Int) < 192 by decide), (show (0 : Int) ≤ 0 ∧ (0 : Int) < 192 by decide)⟩, ⟨Nat.zero_le 8, ⟨rfl, rfl, rfl, rfl⟩, fun i h => absurd h (Nat.not_lt_zero i)⟩, ⟨Or.inl rfl, Or.inl rfl, Or.inl rfl, Nat.zero_le 3, fun h => absurd (show (0 : Int) = 1 from h) (by decide), by decide, by decide, by decide, rfl, rfl, rfl, fun h => absurd (show (0 : Int) = 1 from h) (by decide)⟩, ⟨Nat.zero_le 16, rfl, rfl, fun i h => absurd h (Nat.not_lt_zero i), fun i h => absurd h (Nat.not_lt_zero i), by decide, rfl⟩⟩
