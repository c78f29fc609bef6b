
theorem pHide_st {p : Nat} {P : PS} {z c t : Int} : (pHide p P z c t).st = 2 := by
  by_cases h : P.b = 0
  · exact congrArg PS.st (show pHide p P z c t = _ from if_pos h)
  · exact congrArg PS.st (show pHide p P z c t = _ from if_neg h)
theorem pHide_e {p : Nat} {P : PS} {z c t : Int} : (pHide p P z c t).e = P.e := by
  by_cases h : P.b = 0
  · exact (congrArg PS.e (show pHide p P z c t = _ from if_pos h)).trans rfl
  · exact (congrArg PS.e (show pHide p P z c t = _ from if_neg h)).trans rfl
theorem pDare_st {p : Nat} {P : PS} {c : Int} : (pDare p P c).st = 3 := by
  by_cases h : P.b = 0
  · exact congrArg PS.st (show pDare p P c = _ from if_pos h)
  · exact congrArg PS.st (show pDare p P c = _ from if_neg h)
theorem pDare_e {p : Nat} {P : PS} {c : Int} : (pDare p P c).e = P.e := by
  by_cases h : P.b = 0
  · exact (congrArg PS.e (show pDare p P c = _ from if_pos h)).trans rfl
  · exact (congrArg PS.e (show pDare p P c = _ from if_neg h)).trans rfl
theorem pDare_c {p : Nat} {P : PS} {c : Int} : (pDare p P c).c = c := by
  by_cases h : P.b = 0
  · exact congrArg PS.c (show pDare p P c = _ from if_pos h)
  · exact congrArg PS.c (show pDare p P c = _ from if_neg h)

set_option maxRecDepth 20000 in
set_option maxHeartbeats 60000000 in
theorem S_L_areBits {G : xG} {d rc rs : Nat} {ex : Bool} {h : xH} {Q : xQ} {σ : St} {p n0 : Nat} (hL : gL G < 100000) (w : CW σ h) (v : INV σ) (hpp : σ.p = p) (hn0 : σ.L.n = n0) (hlen : 70 ≤ h.length) (kk : ∀ (σ2 : St) (h2 : xH) (ex2 : Bool), CW σ2 h2 → INV σ2 → σ2.p = p → σ2.L.n = n0 → 70 ≤ h2.length → Q (.inl (some (vi 1))) ex2 h2) : X G m_L_areBits (d + 9) (rc + 300) (rs + 2400) ex 0 (xe m_L_areBits.2.2.1 [.ref 3, .ref 0, vi (p : Int), vi (gq p : Int)]) [] h Q := by
  show X G m_L_areBits _ _ _ _ 0 [some (.ref 3), some (.ref 0), some (vi (p : Int)), some (vi (gq p : Int)), none, none, none, none, none, none, none, none, none, none] [] h Q
  have hpr : p ∈ PR := hpp ▸ v.p
  have hp := PRb hpr
  have hq := gq_b hpr
  refine x_aload_n (dT U_L_areBits 0 rfl) rfl ?_
  refine x_sipush (dT U_L_areBits 1 rfl) (by decide) ?_
  refine x_invokestatic (rc' := rc + 300) (rs' := rs + 2400) (rc2 := 0 + 0) (rs2 := 0 + 0) (As := [_, _]) (st := _) M_L_cell K_L_221 (dT U_L_areBits 2 rfl) rfl rfl rfl rfl (Nat.le_of_ble_eq_true rfl) rfl (by decide) (Nat.le_of_ble_eq_true rfl) (by first | rfl | omega) (by first | rfl | omega) ?_
  refine S_L_cell (k := 130) hL (by omega) (fun z4 => ?_)
  refine xRet_some ?_
  refine x_iconst (dT U_L_areBits 3 rfl) ?_
  refine x_invokestatic (rc' := rc + 300) (rs' := rs + 2400) (rc2 := 0 + 0) (rs2 := 0 + 0) (As := [_, _]) (st := _) M_L_chosen K_L_225 (dT U_L_areBits 4 rfl) rfl rfl rfl rfl (Nat.le_of_ble_eq_true rfl) rfl (by decide) (Nat.le_of_ble_eq_true rfl) (by first | rfl | omega) (by first | rfl | omega) ?_
  refine S_L_chosen (by omega) (fun bit b_bit => ?_)
  refine xRet_some ?_
  refine x_istore (ls' := [some (.ref _), some (.ref _), some (vi _), some (vi _), some (vi _), none, none, none, none, none, none, none, none, none]) (dT U_L_areBits 5 rfl) (by decide) rfl ?_
  refine x_aload_n (dT U_L_areBits 6 rfl) rfl ?_
  refine x_sipush (dT U_L_areBits 7 rfl) (by decide) ?_
  refine x_invokestatic (rc' := rc + 300) (rs' := rs + 2400) (rc2 := 0 + 0) (rs2 := 0 + 0) (As := [_, _]) (st := _) M_L_cell K_L_221 (dT U_L_areBits 8 rfl) rfl rfl rfl rfl (Nat.le_of_ble_eq_true rfl) rfl (by decide) (Nat.le_of_ble_eq_true rfl) (by first | rfl | omega) (by first | rfl | omega) ?_
  refine S_L_cell (k := 131) hL (by omega) (fun z17 => ?_)
  refine xRet_some ?_
  refine x_iload_n (dT U_L_areBits 9 rfl) rfl ?_
  refine x_invokestatic (rc' := rc + 300) (rs' := rs + 2400) (rc2 := 0 + 0) (rs2 := 0 + 0) (As := [_, _]) (st := _) M_L_chosen K_L_225 (dT U_L_areBits 10 rfl) rfl rfl rfl rfl (Nat.le_of_ble_eq_true rfl) rfl (by decide) (Nat.le_of_ble_eq_true rfl) (by first | rfl | omega) (by first | rfl | omega) ?_
  refine S_L_chosen (by omega) (fun blind b_blind => ?_)
  refine xRet_some ?_
  refine x_istore (ls' := [some (.ref _), some (.ref _), some (vi _), some (vi _), some (vi _), some (vi _), none, none, none, none, none, none, none, none]) (dT U_L_areBits 11 rfl) (by decide) rfl ?_
  refine x_bipush (dT U_L_areBits 12 rfl) (by decide) ?_
  refine x_newL (rc' := rc + 299) (rs' := rs + 2392) 8 (by have := hlen; omega) (dT U_L_areBits 13 rfl) rfl (by omega) (by omega) (by omega) (fun h1 a_row u1 ga1 ge1 h_row1 => ?_)
  have Fl_row : Fl (p : Int) (List.replicate 8 0) := Fl_0 (by omega)
  have g_row : 70 ≤ a_row := by have := hlen; omega
  have w1 := (w).up u1
  have hlen_1 : 70 ≤ h1.length := by have := u1.len; have := hlen; omega
  refine x_astore (ls' := [some (.ref _), some (.ref _), some (vi _), some (vi _), some (vi _), some (vi _), some (.ref _), none, none, none, none, none, none, none]) (dT U_L_areBits 14 rfl) (by decide) rfl ?_
  refine x_aload (dT U_L_areBits 15 rfl) rfl ?_
  refine x_iconst (dT U_L_areBits 16 rfl) ?_
  refine x_iload (dT U_L_areBits 17 rfl) rfl ?_
  refine x_iastoreL (0) w1 g_row (dT U_L_areBits 18 rfl) h_row1 rfl (by have := (Fl_row).1; omega) (by have := (Fl_row).1; omega) (fun h2 l2 el2 len2 w2 nb2 h_row_2 => ?_)
  have hlen_2 : 70 ≤ h2.length := by rw [len2]; exact hlen_1
  have F_l2 : Fl (p : Int) l2 := by rw [el2]; exact Fl.set Fl_row (by omega)
  refine x_aload_n (dT U_L_areBits 19 rfl) rfl ?_
  refine x_aload (dT U_L_areBits 20 rfl) rfl ?_
  refine x_iload (dT U_L_areBits 21 rfl) rfl ?_
  refine x_iload_n (dT U_L_areBits 22 rfl) rfl ?_
  refine x_invokestatic (rc' := rc + 290) (rs' := rs + 2338) (rc2 := 0 + 9) (rs2 := 0 + 54) (As := [_, _, _, _]) (st := _) M_L_commits K_L_247 (dT U_L_areBits 23 rfl) rfl rfl rfl rfl (Nat.le_of_ble_eq_true rfl) rfl (by decide) (Nat.le_of_ble_eq_true rfl) (by first | rfl | omega) (by first | rfl | omega) ?_
  refine S_L_commits w2 v hpp h_row_2 (by omega) F_l2 (by omega) ?_
  refine xRet_some ?_
  obtain ⟨y, e_y⟩ : ∃ r : Int, MM p (cm p l2 blind) = r := ⟨_, rfl⟩
  rw [e_y]
  have hz_y : xr y := by rw [← e_y]; exact xr_MM hpr
  refine x_istore (ls' := [some (.ref _), some (.ref _), some (vi _), some (vi _), some (vi _), some (vi _), some (.ref _), some (vi _), none, none, none, none, none, none]) (dT U_L_areBits 24 rfl) (by decide) rfl ?_
  have hE := cm1_b (p := p) (n := bit) (b := blind) (by omega)
  have e_y2 : MM p (cm1 p bit blind) = y := by rw [← e_y, el2, cm_bit]
  refine x_aload_n (dT U_L_areBits 25 rfl) rfl ?_
  refine x_iconst (dT U_L_areBits 26 rfl) ?_
  refine x_iload (dT U_L_areBits 27 rfl) rfl ?_
  refine x_iload (dT U_L_areBits 28 rfl) rfl ?_
  refine x_invokestaticT (rc' := rc + 287) (rs' := rs + 2320) (rc2 := 0 + 3) (rs2 := 0 + 18) (As := [_, _, _, _]) (st := _) M_L_chooseBit K_L_304 (dT U_L_areBits 29 rfl) rfl (by decide) rfl rfl (Nat.le_of_ble_eq_true rfl) rfl (by decide) (Nat.le_of_ble_eq_true rfl) (by first | rfl | omega) (by first | rfl | omega) ?_
  refine S_L_chooseBit w2 v (by first | assumption | (unfold xr; omega)) (by first | assumption | (unfold xr; omega)) (by first | assumption | (unfold xr; omega)) (fun  z8 => absurd (show inb _ _ from by omega) z8) (fun _ z8 => absurd (show inb _ _ ∧ inb _ _ from by have := hpp; omega) z8) (fun _ _ z3 e3 hz3 h3 fc3 w_3 v_3 => ?_)
  refine xRet_some ?_
  have e3 : z3 = MM p (cm1 p bit blind) := by
    simp only [tn0, tn1, tn2, tn3, tn4, tn5, tn6, tn7, tn8, Int.toNat_natCast, hpp] at e3; exact e3
  obtain ⟨σ4, w4, v4, P0_st_4, P0_e_4, p_4, L_4⟩ : ∃ σ4 : St, CW σ4 h3 ∧ INV σ4 ∧ (σ4.P 0).st = 1 ∧ (σ4.P 0).e = (cm1 p bit blind) ∧ σ4.p = p ∧ σ4.L.n = n0 := ⟨_, w_3, v_3, rfl, (by show cm1 σ.p bit blind = _; rw [hpp]), hpp, hn0⟩
  have h_row_4 : h3[a_row]? = some (cA 0 l2) := (fc3).get h_row_2 (by omega)
  have hlen_4 : 70 ≤ h3.length := by rw [fc3.1]; exact hlen_2
  refine x_iload (dT U_L_areBits 30 rfl) rfl ?_
  refine x_i2l (dT U_L_areBits 31 rfl) hz_y ?_
  refine x_lif_eq (tgt := 67) (dT U_L_areBits 32 rfl) (dT U_L_areBits 33 rfl) (by decide) (xrl_of hz3) (xrl_of hz_y) (fun c61 => ?_) (fun c61 => ?_)
  · skip
    refine x_aload_n (dT U_L_areBits 36 rfl) rfl ?_
    refine x_sipush (dT U_L_areBits 37 rfl) (by decide) ?_
    refine x_invokestatic (rc' := rc + 287) (rs' := rs + 2320) (rc2 := 0 + 0) (rs2 := 0 + 0) (As := [_, _]) (st := _) M_L_cell K_L_221 (dT U_L_areBits 38 rfl) rfl rfl rfl rfl (Nat.le_of_ble_eq_true rfl) rfl (by decide) (Nat.le_of_ble_eq_true rfl) (by first | rfl | omega) (by first | rfl | omega) ?_
    refine S_L_cell (k := 134) hL (by omega) (fun z71 => ?_)
    refine xRet_some ?_
    refine x_iload_n (dT U_L_areBits 39 rfl) rfl ?_
    refine x_invokestatic (rc' := rc + 287) (rs' := rs + 2320) (rc2 := 0 + 0) (rs2 := 0 + 0) (As := [_, _]) (st := _) M_L_chosen K_L_225 (dT U_L_areBits 40 rfl) rfl rfl rfl rfl (Nat.le_of_ble_eq_true rfl) rfl (by decide) (Nat.le_of_ble_eq_true rfl) (by first | rfl | omega) (by first | rfl | omega) ?_
    refine S_L_chosen (by omega) (fun c b_c => ?_)
    refine xRet_some ?_
    refine x_istore (ls' := [some (.ref _), some (.ref _), some (vi _), some (vi _), some (vi _), some (vi _), some (.ref _), some (vi _), some (vi _), none, none, none, none, none]) (dT U_L_areBits 41 rfl) (by decide) rfl ?_
    refine x_aload_n (dT U_L_areBits 42 rfl) rfl ?_
    refine x_iconst (dT U_L_areBits 43 rfl) ?_
    refine x_aload_n (dT U_L_areBits 44 rfl) rfl ?_
    refine x_sipush (dT U_L_areBits 45 rfl) (by decide) ?_
    refine x_invokestatic (rc' := rc + 287) (rs' := rs + 2320) (rc2 := 0 + 0) (rs2 := 0 + 0) (As := [_, _]) (st := _) M_L_cell K_L_221 (dT U_L_areBits 46 rfl) rfl rfl rfl rfl (Nat.le_of_ble_eq_true rfl) rfl (by decide) (Nat.le_of_ble_eq_true rfl) (by first | rfl | omega) (by first | rfl | omega) ?_
    refine S_L_cell (k := 132) hL (by omega) (fun z86 => ?_)
    refine xRet_some ?_
    refine x_iload_n (dT U_L_areBits 47 rfl) rfl ?_
    refine x_invokestatic (rc' := rc + 287) (rs' := rs + 2320) (rc2 := 0 + 0) (rs2 := 0 + 0) (As := [_, _]) (st := _) M_L_chosen K_L_225 (dT U_L_areBits 48 rfl) rfl rfl rfl rfl (Nat.le_of_ble_eq_true rfl) rfl (by decide) (Nat.le_of_ble_eq_true rfl) (by first | rfl | omega) (by first | rfl | omega) ?_
    refine S_L_chosen (by omega) (fun m1 b_m1 => ?_)
    refine xRet_some ?_
    refine x_aload_n (dT U_L_areBits 49 rfl) rfl ?_
    refine x_sipush (dT U_L_areBits 50 rfl) (by decide) ?_
    refine x_invokestatic (rc' := rc + 287) (rs' := rs + 2320) (rc2 := 0 + 0) (rs2 := 0 + 0) (As := [_, _]) (st := _) M_L_cell K_L_221 (dT U_L_areBits 51 rfl) rfl rfl rfl rfl (Nat.le_of_ble_eq_true rfl) rfl (by decide) (Nat.le_of_ble_eq_true rfl) (by first | rfl | omega) (by first | rfl | omega) ?_
    refine S_L_cell (k := 133) hL (by omega) (fun z97 => ?_)
    refine xRet_some ?_
    refine x_iload_n (dT U_L_areBits 52 rfl) rfl ?_
    refine x_invokestatic (rc' := rc + 287) (rs' := rs + 2320) (rc2 := 0 + 0) (rs2 := 0 + 0) (As := [_, _]) (st := _) M_L_chosen K_L_225 (dT U_L_areBits 53 rfl) rfl rfl rfl rfl (Nat.le_of_ble_eq_true rfl) rfl (by decide) (Nat.le_of_ble_eq_true rfl) (by first | rfl | omega) (by first | rfl | omega) ?_
    refine S_L_chosen (by omega) (fun c1 b_c1 => ?_)
    refine xRet_some ?_
    refine x_aload_n (dT U_L_areBits 54 rfl) rfl ?_
    refine x_sipush (dT U_L_areBits 55 rfl) (by decide) ?_
    refine x_invokestatic (rc' := rc + 287) (rs' := rs + 2320) (rc2 := 0 + 0) (rs2 := 0 + 0) (As := [_, _]) (st := _) M_L_cell K_L_221 (dT U_L_areBits 56 rfl) rfl rfl rfl rfl (Nat.le_of_ble_eq_true rfl) rfl (by decide) (Nat.le_of_ble_eq_true rfl) (by first | rfl | omega) (by first | rfl | omega) ?_
    refine S_L_cell (k := 135) hL (by omega) (fun z108 => ?_)
    refine xRet_some ?_
    refine x_iload_n (dT U_L_areBits 57 rfl) rfl ?_
    refine x_invokestatic (rc' := rc + 287) (rs' := rs + 2320) (rc2 := 0 + 0) (rs2 := 0 + 0) (As := [_, _]) (st := _) M_L_chosen K_L_225 (dT U_L_areBits 58 rfl) rfl rfl rfl rfl (Nat.le_of_ble_eq_true rfl) rfl (by decide) (Nat.le_of_ble_eq_true rfl) (by first | rfl | omega) (by first | rfl | omega) ?_
    refine S_L_chosen (by omega) (fun t1 b_t1 => ?_)
    refine xRet_some ?_
    refine x_invokestaticT (rc' := rc + 282) (rs' := rs + 2290) (rc2 := 0 + 5) (rs2 := 0 + 30) (As := [_, _, _, _, _]) (st := _) M_L_hideBit K_L_306 (dT U_L_areBits 59 rfl) rfl (by decide) rfl rfl (Nat.le_of_ble_eq_true rfl) rfl (by decide) (Nat.le_of_ble_eq_true rfl) (by first | rfl | omega) (by first | rfl | omega) ?_
    refine S_L_hideBit w4 v4 (by first | assumption | (unfold xr; omega)) (by first | assumption | (unfold xr; omega)) (by first | assumption | (unfold xr; omega)) (by first | assumption | (unfold xr; omega)) (fun  z8 => absurd (show inb _ _ from by omega) z8) (fun _ z8 => absurd (show inb _ _ ∧ inb _ _ ∧ inb _ _ from by have := p_4; omega) z8) (fun _ _ z8 => absurd (P0_st_4) z8) (fun _ _ _ z5 e5 hz5 h5 fc5 w_5 v_5 => ?_)
    refine xRet_some ?_
    obtain ⟨σ6, w6, v6, P0_st_6, P0_e_6, p_6, L_6⟩ : ∃ σ6 : St, CW σ6 h5 ∧ INV σ6 ∧ (σ6.P 0).st = 2 ∧ (σ6.P 0).e = (cm1 p bit blind) ∧ σ6.p = p ∧ σ6.L.n = n0 := ⟨_, w_5, v_5, pHide_st, (pHide_e.trans P0_e_4), p_4, L_4⟩
    have h_row_6 : h5[a_row]? = some (cA 0 l2) := (fc5).get h_row_4 (by omega)
    have hlen_6 : 70 ≤ h5.length := by rw [fc5.1]; exact hlen_4
    refine x_pop2 (dT U_L_areBits 60 rfl) ?_
    refine x_aload_n (dT U_L_areBits 61 rfl) rfl ?_
    refine x_iconst (dT U_L_areBits 62 rfl) ?_
    refine x_iload (dT U_L_areBits 63 rfl) rfl ?_
    refine x_invokestaticT (rc' := rc + 279) (rs' := rs + 2272) (rc2 := 0 + 3) (rs2 := 0 + 18) (As := [_, _, _]) (st := _) M_L_dareBit K_L_308 (dT U_L_areBits 64 rfl) rfl (by decide) rfl rfl (Nat.le_of_ble_eq_true rfl) rfl (by decide) (Nat.le_of_ble_eq_true rfl) (by first | rfl | omega) (by first | rfl | omega) ?_
    refine S_L_dareBit w6 v6 (by first | assumption | (unfold xr; omega)) (by first | assumption | (unfold xr; omega)) (fun  z8 => absurd (show inb _ _ from by omega) z8) (fun _ z8 => absurd (show inb _ _ from by have := p_6; omega) z8) (fun _ _ z8 => absurd (P0_st_6) z8) (fun _ _ _ z7 e7 hz7 h7 fc7 w_7 v_7 => ?_)
    refine xRet_some ?_
    obtain ⟨σ8, w8, v8, P0_st_8, P0_e_8, P0_c_8, p_8, L_8⟩ : ∃ σ8 : St, CW σ8 h7 ∧ INV σ8 ∧ (σ8.P 0).st = 3 ∧ (σ8.P 0).e = (cm1 p bit blind) ∧ (σ8.P 0).c = c ∧ σ8.p = p ∧ σ8.L.n = n0 := ⟨_, w_7, v_7, pDare_st, (pDare_e.trans P0_e_6), pDare_c, p_6, L_6⟩
    have h_row_8 : h7[a_row]? = some (cA 0 l2) := (fc7).get h_row_6 (by omega)
    have hlen_8 : 70 ≤ h7.length := by rw [fc7.1]; exact hlen_6
    have okP := v8.P 0 (by omega)
    rw [p_8] at okP
    refine x_pop2 (dT U_L_areBits 65 rfl) ?_
    refine x_aload_n (dT U_L_areBits 66 rfl) rfl ?_
    refine x_iconst (dT U_L_areBits 67 rfl) ?_
    refine x_invokestaticT (rc' := rc + 278) (rs' := rs + 2266) (rc2 := 0 + 1) (rs2 := 0 + 6) (As := [_, _]) (st := _) M_L_isBitAccepted K_L_310 (dT U_L_areBits 68 rfl) rfl (by decide) rfl rfl (Nat.le_of_ble_eq_true rfl) rfl (by decide) (Nat.le_of_ble_eq_true rfl) (by first | rfl | omega) (by first | rfl | omega) ?_
    refine S_L_isBitAccepted w8 v8 (by first | assumption | (unfold xr; omega)) (fun  z8 => absurd (show inb _ _ from by omega) z8) (fun _ _ => ?_) (fun _ z8 => absurd ((show (σ8.P _).st = 3 from P0_st_8)) z8)
    refine xRet_some ?_
    refine x_lconst (z := 1) (dT U_L_areBits 69 rfl) rfl ?_
    refine x_lif_ne (tgt := 159) (dT U_L_areBits 70 rfl) (dT U_L_areBits 71 rfl) (by decide) (xrl_of (by unfold xr; omega)) (xrl_of (by unfold xr; omega)) (fun c133 => ?_) (fun c133 => ?_)
    · exfalso
      omega
    · skip
      refine x_aload_n (dT U_L_areBits 72 rfl) rfl ?_
      refine x_iconst (dT U_L_areBits 73 rfl) ?_
      refine x_iconst (dT U_L_areBits 74 rfl) ?_
      refine x_invokestaticT (rc' := rc + 275) (rs' := rs + 2248) (rc2 := 0 + 3) (rs2 := 0 + 18) (As := [_, _, _]) (st := _) M_L_bitLike K_L_312 (dT U_L_areBits 75 rfl) rfl (by decide) rfl rfl (Nat.le_of_ble_eq_true rfl) rfl (by decide) (Nat.le_of_ble_eq_true rfl) (by first | rfl | omega) (by first | rfl | omega) ?_
      refine S_L_bitLike w8 v8 (by first | assumption | (unfold xr; omega)) (by first | assumption | (unfold xr; omega)) (fun  z8 => absurd (show inb _ _ from by omega) z8) (fun _ z8 => absurd (show inb _ _ from by omega) z8) (fun _ _ z8 => absurd (P0_st_8) z8) (fun _ _ _ z10 e10 hz10 => ?_)
      refine xRet_some ?_
      have e10 : z10 = 1 := by
        exact e10
      refine x_lconst (z := 1) (dT U_L_areBits 76 rfl) rfl ?_
      refine x_lif_ne (tgt := 159) (dT U_L_areBits 77 rfl) (dT U_L_areBits 78 rfl) (by decide) (xrl_of hz10) (xrl_of (by unfold xr; omega)) (fun c144 => ?_) (fun c144 => ?_)
      · exfalso
        exact c144 e10
      · skip
        refine x_aload_n (dT U_L_areBits 79 rfl) rfl ?_
        refine x_iconst (dT U_L_areBits 80 rfl) ?_
        refine x_iconst (dT U_L_areBits 81 rfl) ?_
        refine x_invokestaticT (rc' := rc + 272) (rs' := rs + 2230) (rc2 := 0 + 3) (rs2 := 0 + 18) (As := [_, _, _]) (st := _) M_L_bitLike K_L_312 (dT U_L_areBits 82 rfl) rfl (by decide) rfl rfl (Nat.le_of_ble_eq_true rfl) rfl (by decide) (Nat.le_of_ble_eq_true rfl) (by first | rfl | omega) (by first | rfl | omega) ?_
        refine S_L_bitLike w8 v8 (by first | assumption | (unfold xr; omega)) (by first | assumption | (unfold xr; omega)) (fun  z8 => absurd (show inb _ _ from by omega) z8) (fun _ z8 => absurd (show inb _ _ from by omega) z8) (fun _ _ z8 => absurd (P0_st_8) z8) (fun _ _ _ z11 e11 hz11 => ?_)
        refine xRet_some ?_
        have e11 : z11 = 1 := by
          exact e11
        refine x_lconst (z := 1) (dT U_L_areBits 83 rfl) rfl ?_
        refine x_lif_eq (tgt := 161) (dT U_L_areBits 84 rfl) (dT U_L_areBits 85 rfl) (by decide) (xrl_of hz11) (xrl_of (by unfold xr; omega)) (fun c155 => ?_) (fun c155 => ?_)
        · skip
          refine x_aload_n (dT U_L_areBits 88 rfl) rfl ?_
          refine x_iconst (dT U_L_areBits 89 rfl) ?_
          refine x_iconst (dT U_L_areBits 90 rfl) ?_
          refine x_iconst (dT U_L_areBits 91 rfl) ?_
          refine x_invokestaticT (rc' := rc + 268) (rs' := rs + 2206) (rc2 := 0 + 4) (rs2 := 0 + 24) (As := [_, _, _, _]) (st := _) M_L_bitTold K_L_314 (dT U_L_areBits 92 rfl) rfl (by decide) rfl rfl (Nat.le_of_ble_eq_true rfl) rfl (by decide) (Nat.le_of_ble_eq_true rfl) (by first | rfl | omega) (by first | rfl | omega) ?_
          refine S_L_bitTold w8 v8 (by first | assumption | (unfold xr; omega)) (by first | assumption | (unfold xr; omega)) (by first | assumption | (unfold xr; omega)) (fun  z8 => absurd (show inb _ _ from by omega) z8) (fun _ z8 => absurd (show inb _ _ ∧ inb _ _ from by omega) z8) (fun _ _ z8 => absurd (P0_st_8) z8) (fun _ _ _ z12 e12 hz12 => ?_)
          refine xRet_some ?_
          have e12 : z12 = (σ8.P 0).c0 := by
            rw [e12]; rfl
          refine x_aload_n (dT U_L_areBits 93 rfl) rfl ?_
          refine x_iconst (dT U_L_areBits 94 rfl) ?_
          refine x_iconst (dT U_L_areBits 95 rfl) ?_
          refine x_iconst (dT U_L_areBits 96 rfl) ?_
          refine x_invokestaticT (rc' := rc + 264) (rs' := rs + 2182) (rc2 := 0 + 4) (rs2 := 0 + 24) (As := [_, _, _, _]) (st := _) M_L_bitTold K_L_314 (dT U_L_areBits 97 rfl) rfl (by decide) rfl rfl (Nat.le_of_ble_eq_true rfl) rfl (by decide) (Nat.le_of_ble_eq_true rfl) (by first | rfl | omega) (by first | rfl | omega) ?_
          refine S_L_bitTold w8 v8 (by first | assumption | (unfold xr; omega)) (by first | assumption | (unfold xr; omega)) (by first | assumption | (unfold xr; omega)) (fun  z8 => absurd (show inb _ _ from by omega) z8) (fun _ z8 => absurd (show inb _ _ ∧ inb _ _ from by omega) z8) (fun _ _ z8 => absurd (P0_st_8) z8) (fun _ _ _ z13 e13 hz13 => ?_)
          refine xRet_some ?_
          have e13 : z13 = (σ8.P 0).c1 := by
            rw [e13]; rfl
          have b_0 : 0 ≤ z12 ∧ z12 < 24 := by rw [e12]; exact okP.2.2.2.2.1
          have b_1 : 0 ≤ z13 ∧ z13 < 24 := by rw [e13]; exact okP.2.2.2.2.2.1
          have bsum := bits_sum hp okP P0_st_8 P0_c_8
          rw [← e12, ← e13] at bsum
          refine x_ladd (dT U_L_areBits 98 rfl) ?_
          refine x_iload_n (dT U_L_areBits 99 rfl) rfl ?_
          refine x_i2l (dT U_L_areBits 100 rfl) (by unfold xr; omega) ?_
          refine x_lrem (dT U_L_areBits 101 rfl) (by unfold xrl; omega) (by unfold xrl; omega) (by omega) ?_
          rw [show (z12 + z13).tmod (p : Int) = c from by rw [Int.tmod_eq_emod_of_nonneg (by omega)]; exact bsum]
          refine x_iload (dT U_L_areBits 102 rfl) rfl ?_
          refine x_i2l (dT U_L_areBits 103 rfl) (by unfold xr; omega) ?_
          refine x_lif_eq (tgt := 188) (dT U_L_areBits 104 rfl) (dT U_L_areBits 105 rfl) (by decide) (xrl_of (by unfold xr; omega)) (xrl_of (by unfold xr; omega)) (fun c182 => ?_) (fun c182 => ?_)
          · skip
            refine x_aload_n (dT U_L_areBits 108 rfl) rfl ?_
            refine x_bipush (dT U_L_areBits 109 rfl) (by decide) ?_
            refine x_invokestaticT (rc' := rc + 263) (rs' := rs + 2176) (rc2 := 0 + 1) (rs2 := 0 + 6) (As := [_, _]) (st := _) M_L_base K_L_215 (dT U_L_areBits 110 rfl) rfl (by decide) rfl rfl (Nat.le_of_ble_eq_true rfl) rfl (by decide) (Nat.le_of_ble_eq_true rfl) (by first | rfl | omega) (by first | rfl | omega) ?_
            refine S_L_base w8 v8 (by first | assumption | (unfold xr; omega)) (fun  z8 => absurd (show inb _ _ from by omega) z8) (fun _ z14 e14 hz14 => ?_)
            refine xRet_some ?_
            have e14 : z14 = MM p (bs p 8) := by
              simp only [tn0, tn1, tn2, tn3, tn4, tn5, tn6, tn7, tn8, Int.toNat_natCast, p_8] at e14; exact e14
            refine x_l2i (dT U_L_areBits 111 rfl) ?_
            refine x_istore (ls' := [some (.ref _), some (.ref _), some (vi _), some (vi _), some (vi _), some (vi _), some (.ref _), some (vi _), some (vi _), some (vi _), none, none, none, none]) (dT U_L_areBits 112 rfl) (by decide) rfl ?_
            refine x_aload_n (dT U_L_areBits 113 rfl) rfl ?_
            refine x_iconst (dT U_L_areBits 114 rfl) ?_
            refine x_invokestaticT (rc' := rc + 262) (rs' := rs + 2170) (rc2 := 0 + 1) (rs2 := 0 + 6) (As := [_, _]) (st := _) M_L_base K_L_215 (dT U_L_areBits 115 rfl) rfl (by decide) rfl rfl (Nat.le_of_ble_eq_true rfl) rfl (by decide) (Nat.le_of_ble_eq_true rfl) (by first | rfl | omega) (by first | rfl | omega) ?_
            refine S_L_base w8 v8 (by first | assumption | (unfold xr; omega)) (fun  z8 => absurd (show inb _ _ from by omega) z8) (fun _ z15 e15 hz15 => ?_)
            refine xRet_some ?_
            have e15 : z15 = MM p (bs p 0) := by
              simp only [tn0, tn1, tn2, tn3, tn4, tn5, tn6, tn7, tn8, Int.toNat_natCast, p_8] at e15; exact e15
            refine x_l2i (dT U_L_areBits 116 rfl) ?_
            refine x_istore (ls' := [some (.ref _), some (.ref _), some (vi _), some (vi _), some (vi _), some (vi _), some (.ref _), some (vi _), some (vi _), some (vi _), some (vi _), none, none, none]) (dT U_L_areBits 117 rfl) (by decide) rfl ?_
            have hb0 := bs_b hpr (i := 0) (by omega)
            have hb8 := bs_b hpr (i := 8) (by omega)
            refine x_iconst (dT U_L_areBits 118 rfl) ?_
            refine x_istore (ls' := [some (.ref _), some (.ref _), some (vi _), some (vi _), some (vi _), some (vi _), some (.ref _), some (vi _), some (vi _), some (vi _), some (vi _), some (vi _), none, none]) (dT U_L_areBits 119 rfl) (by decide) rfl ?_
            refine x_iload (dT U_L_areBits 120 rfl) rfl ?_
            refine x_iconst (dT U_L_areBits 121 rfl) ?_
            refine x_icmp_ge (tgt := 297) (dT U_L_areBits 122 rfl) (by decide) (by unfold xr; omega) (by unfold xr; omega) (fun c211 => ?_) (fun c211 => ?_)
            · exfalso
              omega
            · skip
              refine x_iload (dT U_L_areBits 123 rfl) rfl ?_
              refine x_if_ne (tgt := 224) (dT U_L_areBits 124 rfl) (by decide) (by unfold xr; omega) (fun c216 => ?_) (fun c216 => ?_)
              · exfalso
                omega
              · skip
                refine x_iload (dT U_L_areBits 125 rfl) rfl ?_
                refine x_goto (tgt := 238) (dT U_L_areBits 126 rfl) (by decide) ?_
                refine x_istore (ls' := [some (.ref _), some (.ref _), some (vi _), some (vi _), some (vi _), some (vi _), some (.ref _), some (vi _), some (vi _), some (vi _), some (vi _), some (vi _), some (vi _), none]) (dT U_L_areBits 137 rfl) (by decide) rfl ?_
                refine x_aload_n (dT U_L_areBits 138 rfl) rfl ?_
                refine x_iconst (dT U_L_areBits 139 rfl) ?_
                refine x_iload (dT U_L_areBits 140 rfl) rfl ?_
                refine x_iconst (dT U_L_areBits 141 rfl) ?_
                refine x_invokestaticT (rc' := rc + 258) (rs' := rs + 2146) (rc2 := 0 + 4) (rs2 := 0 + 24) (As := [_, _, _, _]) (st := _) M_L_bitTold K_L_314 (dT U_L_areBits 142 rfl) rfl (by decide) rfl rfl (Nat.le_of_ble_eq_true rfl) rfl (by decide) (Nat.le_of_ble_eq_true rfl) (by first | rfl | omega) (by first | rfl | omega) ?_
                refine S_L_bitTold w8 v8 (by first | assumption | (unfold xr; omega)) (by first | assumption | (unfold xr; omega)) (by first | assumption | (unfold xr; omega)) (fun  z8 => absurd (show inb _ _ from by omega) z8) (fun _ z8 => absurd (show inb _ _ ∧ inb _ _ from by omega) z8) (fun _ _ z8 => absurd (P0_st_8) z8) (fun _ _ _ z16 e16 hz16 => ?_)
                refine xRet_some ?_
                have e16 : z16 = MM p (σ8.P 0).f0 := by
                  rw [e16, ← p_8]; rfl
                refine x_l2i (dT U_L_areBits 143 rfl) ?_
                refine x_istore (ls' := [some (.ref _), some (.ref _), some (vi _), some (vi _), some (vi _), some (vi _), some (.ref _), some (vi _), some (vi _), some (vi _), some (vi _), some (vi _), some (vi _), some (vi _)]) (dT U_L_areBits 144 rfl) (by decide) rfl ?_
                refine x_iload (dT U_L_areBits 145 rfl) rfl ?_
                refine x_aload_n (dT U_L_areBits 146 rfl) rfl ?_
                refine x_iconst (dT U_L_areBits 147 rfl) ?_
                refine x_iload (dT U_L_areBits 148 rfl) rfl ?_
                refine x_iconst (dT U_L_areBits 149 rfl) ?_
                refine x_invokestaticT (rc' := rc + 254) (rs' := rs + 2122) (rc2 := 0 + 4) (rs2 := 0 + 24) (As := [_, _, _, _]) (st := _) M_L_bitTold K_L_314 (dT U_L_areBits 150 rfl) rfl (by decide) rfl rfl (Nat.le_of_ble_eq_true rfl) rfl (by decide) (Nat.le_of_ble_eq_true rfl) (by first | rfl | omega) (by first | rfl | omega) ?_
                refine S_L_bitTold w8 v8 (by first | assumption | (unfold xr; omega)) (by first | assumption | (unfold xr; omega)) (by first | assumption | (unfold xr; omega)) (fun  z8 => absurd (show inb _ _ from by omega) z8) (fun _ z8 => absurd (show inb _ _ ∧ inb _ _ from by omega) z8) (fun _ _ z8 => absurd (P0_st_8) z8) (fun _ _ _ z17 e17 hz17 => ?_)
                refine xRet_some ?_
                have e17 : z17 = (σ8.P 0).t0 := by
                  rw [e17]; rfl
                have b_t0 : 0 ≤ z17 ∧ z17 < 24 := by rw [e17]; exact okP.2.2.2.2.2.2.1
                refine x_l2i (dT U_L_areBits 151 rfl) ?_
                refine x_iload_n (dT U_L_areBits 152 rfl) rfl ?_
                refine x_invokestatic (rc' := rc + 254) (rs' := rs + 2122) (rc2 := 0 + 0) (rs2 := 0 + 0) (As := [_, _, _]) (st := _) M_L_power K_L_218 (dT U_L_areBits 153 rfl) rfl rfl rfl rfl (Nat.le_of_ble_eq_true rfl) rfl (by decide) (Nat.le_of_ble_eq_true rfl) (by omega) (by omega) ?_
                refine S_L_powY hpr e14.symm (by omega) (by omega) ?_
                refine xRet_some ?_
                refine x_iload (dT U_L_areBits 154 rfl) rfl ?_
                refine x_iload (dT U_L_areBits 155 rfl) rfl ?_
                refine x_aload_n (dT U_L_areBits 156 rfl) rfl ?_
                refine x_iconst (dT U_L_areBits 157 rfl) ?_
                refine x_iload (dT U_L_areBits 158 rfl) rfl ?_
                refine x_iconst (dT U_L_areBits 159 rfl) ?_
                refine x_invokestaticT (rc' := rc + 250) (rs' := rs + 2098) (rc2 := 0 + 4) (rs2 := 0 + 24) (As := [_, _, _, _]) (st := _) M_L_bitTold K_L_314 (dT U_L_areBits 160 rfl) rfl (by decide) rfl rfl (Nat.le_of_ble_eq_true rfl) rfl (by decide) (Nat.le_of_ble_eq_true rfl) (by first | rfl | omega) (by first | rfl | omega) ?_
                refine S_L_bitTold w8 v8 (by first | assumption | (unfold xr; omega)) (by first | assumption | (unfold xr; omega)) (by first | assumption | (unfold xr; omega)) (fun  z8 => absurd (show inb _ _ from by omega) z8) (fun _ z8 => absurd (show inb _ _ ∧ inb _ _ from by omega) z8) (fun _ _ z8 => absurd (P0_st_8) z8) (fun _ _ _ z18 e18 hz18 => ?_)
                refine xRet_some ?_
                have e18 : z18 = (σ8.P 0).c0 := by
                  rw [e18]; rfl
                have b_c0 : 0 ≤ z18 ∧ z18 < 24 := by rw [e18]; exact okP.2.2.2.2.1
                refine x_l2i (dT U_L_areBits 161 rfl) ?_
                refine x_iload_n (dT U_L_areBits 162 rfl) rfl ?_
                refine x_invokestatic (rc' := rc + 250) (rs' := rs + 2098) (rc2 := 0 + 0) (rs2 := 0 + 0) (As := [_, _, _]) (st := _) M_L_power K_L_218 (dT U_L_areBits 163 rfl) rfl rfl rfl rfl (Nat.le_of_ble_eq_true rfl) rfl (by decide) (Nat.le_of_ble_eq_true rfl) (by omega) (by omega) ?_
                refine S_L_powY hpr e_y2 hE (by omega) ?_
                have m_o := MM_b hpr (e := (cm1 p bit blind) * z18 % (p : Int)) (modb (by omega))
                have m_f := MM_b hpr (bit_f hp okP P0_st_8).1
                rw [← e16] at m_f
                have m_p := mulg (a := z16) (b := MM p ((cm1 p bit blind) * z18 % (p : Int))) (m := 191) (n := 191) (by omega) (by omega)
                have e285 : (z16 * MM p ((cm1 p bit blind) * z18 % (p : Int))).tmod (gq p : Int) = MM p ((bs p 8 : Int) * z17 % (p : Int)) := by
                  rw [Int.tmod_eq_emod_of_nonneg m_p.1, e16, MM_mul hpr (bit_f hp okP P0_st_8).1 (modb (by omega)), am_r, e17, e18, bit_side0 hp okP P0_st_8 P0_e_8]
                refine xRet_some ?_
                refine x_imul (dT U_L_areBits 164 rfl) ?_
                refine x_iload_n (dT U_L_areBits 165 rfl) rfl ?_
                refine x_irem (dT U_L_areBits 166 rfl) (by unfold xr; omega) (by unfold xr; omega) (by omega) ?_
                rw [e285]
                refine x_icmp_eq (tgt := 291) (dT U_L_areBits 167 rfl) (by decide) (xr_MM hpr) (xr_MM hpr) (fun c286 => ?_) (fun c286 => ?_)
                · skip
                  refine x_iinc (ls' := [some (.ref _), some (.ref _), some (vi _), some (vi _), some (vi _), some (vi _), some (.ref _), some (vi _), some (vi _), some (vi _), some (vi _), some (vi _), some (vi _), some (vi _)]) (dT U_L_areBits 170 rfl) (by decide) rfl rfl ?_
                  rw [show ((0 : Int) + 1) = 1 from rfl]
                  refine x_goto (tgt := 208) (dT U_L_areBits 171 rfl) (by decide) ?_
                  refine x_iload (dT U_L_areBits 120 rfl) rfl ?_
                  refine x_iconst (dT U_L_areBits 121 rfl) ?_
                  refine x_icmp_ge (tgt := 297) (dT U_L_areBits 122 rfl) (by decide) (by unfold xr; omega) (by unfold xr; omega) (fun c211 => ?_) (fun c211 => ?_)
                  · exfalso
                    omega
                  · skip
                    refine x_iload (dT U_L_areBits 123 rfl) rfl ?_
                    refine x_if_ne (tgt := 224) (dT U_L_areBits 124 rfl) (by decide) (by unfold xr; omega) (fun c216 => ?_) (fun c216 => ?_)
                    · skip
                      refine x_iload (dT U_L_areBits 127 rfl) rfl ?_
                      refine x_iload (dT U_L_areBits 128 rfl) rfl ?_
                      refine x_iload_n (dT U_L_areBits 129 rfl) rfl ?_
                      refine x_iconst (dT U_L_areBits 130 rfl) ?_
                      refine x_isub (dT U_L_areBits 131 rfl) ?_
                      refine x_iload_n (dT U_L_areBits 132 rfl) rfl ?_
                      refine x_invokestatic (rc' := rc + 250) (rs' := rs + 2098) (rc2 := 0 + 0) (rs2 := 0 + 0) (As := [_, _, _]) (st := _) M_L_power K_L_218 (dT U_L_areBits 133 rfl) rfl rfl rfl rfl (Nat.le_of_ble_eq_true rfl) rfl (by decide) (Nat.le_of_ble_eq_true rfl) (by omega) (by omega) ?_
                      refine S_L_powY hpr e15.symm (by omega) (by omega) ?_
                      have m_g := MM_b hpr (e := (bs p 0 : Int) * ((p : Int) - 1) % (p : Int)) (modb (by omega))
                      have m_y := MM_b hpr hE
                      rw [e_y2] at m_y
                      have m_q := mulg (a := y) (b := MM p ((bs p 0 : Int) * ((p : Int) - 1) % (p : Int))) (m := 191) (n := 191) (by omega) (by omega)
                      have e237 : (y * MM p ((bs p 0 : Int) * ((p : Int) - 1) % (p : Int))).tmod (gq p : Int) = MM p (((cm1 p bit blind) + (bs p 0 : Int) * ((p : Int) - 1) % (p : Int)) % (p : Int)) := by
                        rw [Int.tmod_eq_emod_of_nonneg m_q.1, ← e_y2, MM_mul hpr hE (modb (by omega))]
                      refine xRet_some ?_
                      refine x_imul (dT U_L_areBits 134 rfl) ?_
                      refine x_iload_n (dT U_L_areBits 135 rfl) rfl ?_
                      refine x_irem (dT U_L_areBits 136 rfl) (by unfold xr; omega) (by unfold xr; omega) (by omega) ?_
                      rw [e237]
                      have hO := modb (z := (cm1 p bit blind) + (bs p 0 : Int) * ((p : Int) - 1) % (p : Int)) (p := (p : Int)) (by omega)
                      obtain ⟨own, e_own⟩ : ∃ r : Int, MM p (((cm1 p bit blind) + (bs p 0 : Int) * ((p : Int) - 1) % (p : Int)) % (p : Int)) = r := ⟨_, rfl⟩
                      rw [e_own]
                      refine x_istore (ls' := [some (.ref _), some (.ref _), some (vi _), some (vi _), some (vi _), some (vi _), some (.ref _), some (vi _), some (vi _), some (vi _), some (vi _), some (vi _), some (vi _), some (vi _)]) (dT U_L_areBits 137 rfl) (by decide) rfl ?_
                      refine x_aload_n (dT U_L_areBits 138 rfl) rfl ?_
                      refine x_iconst (dT U_L_areBits 139 rfl) ?_
                      refine x_iload (dT U_L_areBits 140 rfl) rfl ?_
                      refine x_iconst (dT U_L_areBits 141 rfl) ?_
                      refine x_invokestaticT (rc' := rc + 246) (rs' := rs + 2074) (rc2 := 0 + 4) (rs2 := 0 + 24) (As := [_, _, _, _]) (st := _) M_L_bitTold K_L_314 (dT U_L_areBits 142 rfl) rfl (by decide) rfl rfl (Nat.le_of_ble_eq_true rfl) rfl (by decide) (Nat.le_of_ble_eq_true rfl) (by first | rfl | omega) (by first | rfl | omega) ?_
                      refine S_L_bitTold w8 v8 (by first | assumption | (unfold xr; omega)) (by first | assumption | (unfold xr; omega)) (by first | assumption | (unfold xr; omega)) (fun  z8 => absurd (show inb _ _ from by omega) z8) (fun _ z8 => absurd (show inb _ _ ∧ inb _ _ from by omega) z8) (fun _ _ z8 => absurd (P0_st_8) z8) (fun _ _ _ z19 e19 hz19 => ?_)
                      refine xRet_some ?_
                      have e19 : z19 = MM p (σ8.P 0).f1 := by
                        rw [e19, ← p_8]; rfl
                      refine x_l2i (dT U_L_areBits 143 rfl) ?_
                      refine x_istore (ls' := [some (.ref _), some (.ref _), some (vi _), some (vi _), some (vi _), some (vi _), some (.ref _), some (vi _), some (vi _), some (vi _), some (vi _), some (vi _), some (vi _), some (vi _)]) (dT U_L_areBits 144 rfl) (by decide) rfl ?_
                      refine x_iload (dT U_L_areBits 145 rfl) rfl ?_
                      refine x_aload_n (dT U_L_areBits 146 rfl) rfl ?_
                      refine x_iconst (dT U_L_areBits 147 rfl) ?_
                      refine x_iload (dT U_L_areBits 148 rfl) rfl ?_
                      refine x_iconst (dT U_L_areBits 149 rfl) ?_
                      refine x_invokestaticT (rc' := rc + 242) (rs' := rs + 2050) (rc2 := 0 + 4) (rs2 := 0 + 24) (As := [_, _, _, _]) (st := _) M_L_bitTold K_L_314 (dT U_L_areBits 150 rfl) rfl (by decide) rfl rfl (Nat.le_of_ble_eq_true rfl) rfl (by decide) (Nat.le_of_ble_eq_true rfl) (by first | rfl | omega) (by first | rfl | omega) ?_
                      refine S_L_bitTold w8 v8 (by first | assumption | (unfold xr; omega)) (by first | assumption | (unfold xr; omega)) (by first | assumption | (unfold xr; omega)) (fun  z8 => absurd (show inb _ _ from by omega) z8) (fun _ z8 => absurd (show inb _ _ ∧ inb _ _ from by omega) z8) (fun _ _ z8 => absurd (P0_st_8) z8) (fun _ _ _ z20 e20 hz20 => ?_)
                      refine xRet_some ?_
                      have e20 : z20 = (σ8.P 0).t1 := by
                        rw [e20]; rfl
                      have b_t1 : 0 ≤ z20 ∧ z20 < 24 := by rw [e20]; exact okP.2.2.2.2.2.2.2.1
                      refine x_l2i (dT U_L_areBits 151 rfl) ?_
                      refine x_iload_n (dT U_L_areBits 152 rfl) rfl ?_
                      refine x_invokestatic (rc' := rc + 242) (rs' := rs + 2050) (rc2 := 0 + 0) (rs2 := 0 + 0) (As := [_, _, _]) (st := _) M_L_power K_L_218 (dT U_L_areBits 153 rfl) rfl rfl rfl rfl (Nat.le_of_ble_eq_true rfl) rfl (by decide) (Nat.le_of_ble_eq_true rfl) (by omega) (by omega) ?_
                      refine S_L_powY hpr e14.symm (by omega) (by omega) ?_
                      refine xRet_some ?_
                      refine x_iload (dT U_L_areBits 154 rfl) rfl ?_
                      refine x_iload (dT U_L_areBits 155 rfl) rfl ?_
                      refine x_aload_n (dT U_L_areBits 156 rfl) rfl ?_
                      refine x_iconst (dT U_L_areBits 157 rfl) ?_
                      refine x_iload (dT U_L_areBits 158 rfl) rfl ?_
                      refine x_iconst (dT U_L_areBits 159 rfl) ?_
                      refine x_invokestaticT (rc' := rc + 238) (rs' := rs + 2026) (rc2 := 0 + 4) (rs2 := 0 + 24) (As := [_, _, _, _]) (st := _) M_L_bitTold K_L_314 (dT U_L_areBits 160 rfl) rfl (by decide) rfl rfl (Nat.le_of_ble_eq_true rfl) rfl (by decide) (Nat.le_of_ble_eq_true rfl) (by first | rfl | omega) (by first | rfl | omega) ?_
                      refine S_L_bitTold w8 v8 (by first | assumption | (unfold xr; omega)) (by first | assumption | (unfold xr; omega)) (by first | assumption | (unfold xr; omega)) (fun  z8 => absurd (show inb _ _ from by omega) z8) (fun _ z8 => absurd (show inb _ _ ∧ inb _ _ from by omega) z8) (fun _ _ z8 => absurd (P0_st_8) z8) (fun _ _ _ z21 e21 hz21 => ?_)
                      refine xRet_some ?_
                      have e21 : z21 = (σ8.P 0).c1 := by
                        rw [e21]; rfl
                      have b_c1 : 0 ≤ z21 ∧ z21 < 24 := by rw [e21]; exact okP.2.2.2.2.2.1
                      refine x_l2i (dT U_L_areBits 161 rfl) ?_
                      refine x_iload_n (dT U_L_areBits 162 rfl) rfl ?_
                      refine x_invokestatic (rc' := rc + 238) (rs' := rs + 2026) (rc2 := 0 + 0) (rs2 := 0 + 0) (As := [_, _, _]) (st := _) M_L_power K_L_218 (dT U_L_areBits 163 rfl) rfl rfl rfl rfl (Nat.le_of_ble_eq_true rfl) rfl (by decide) (Nat.le_of_ble_eq_true rfl) (by omega) (by omega) ?_
                      refine S_L_powY hpr e_own hO (by omega) ?_
                      have m_o := MM_b hpr (e := (((cm1 p bit blind) + (bs p 0 : Int) * ((p : Int) - 1) % (p : Int)) % (p : Int)) * z21 % (p : Int)) (modb (by omega))
                      have m_f := MM_b hpr (bit_f hp okP P0_st_8).2
                      rw [← e19] at m_f
                      have m_p := mulg (a := z19) (b := MM p ((((cm1 p bit blind) + (bs p 0 : Int) * ((p : Int) - 1) % (p : Int)) % (p : Int)) * z21 % (p : Int))) (m := 191) (n := 191) (by omega) (by omega)
                      have e285 : (z19 * MM p ((((cm1 p bit blind) + (bs p 0 : Int) * ((p : Int) - 1) % (p : Int)) % (p : Int)) * z21 % (p : Int))).tmod (gq p : Int) = MM p ((bs p 8 : Int) * z20 % (p : Int)) := by
                        rw [Int.tmod_eq_emod_of_nonneg m_p.1, e19, MM_mul hpr (bit_f hp okP P0_st_8).2 (modb (by omega)), am_r, e20, e21, bit_side1 hp okP P0_st_8 P0_e_8]
                      refine xRet_some ?_
                      refine x_imul (dT U_L_areBits 164 rfl) ?_
                      refine x_iload_n (dT U_L_areBits 165 rfl) rfl ?_
                      refine x_irem (dT U_L_areBits 166 rfl) (by unfold xr; omega) (by unfold xr; omega) (by omega) ?_
                      rw [e285]
                      refine x_icmp_eq (tgt := 291) (dT U_L_areBits 167 rfl) (by decide) (xr_MM hpr) (xr_MM hpr) (fun c286 => ?_) (fun c286 => ?_)
                      · skip
                        refine x_iinc (ls' := [some (.ref _), some (.ref _), some (vi _), some (vi _), some (vi _), some (vi _), some (.ref _), some (vi _), some (vi _), some (vi _), some (vi _), some (vi _), some (vi _), some (vi _)]) (dT U_L_areBits 170 rfl) (by decide) rfl rfl ?_
                        rw [show ((1 : Int) + 1) = 2 from rfl]
                        refine x_goto (tgt := 208) (dT U_L_areBits 171 rfl) (by decide) ?_
                        refine x_iload (dT U_L_areBits 120 rfl) rfl ?_
                        refine x_iconst (dT U_L_areBits 121 rfl) ?_
                        refine x_icmp_ge (tgt := 297) (dT U_L_areBits 122 rfl) (by decide) (by unfold xr; omega) (by unfold xr; omega) (fun c211 => ?_) (fun c211 => ?_)
                        · skip
                          refine x_iconst (dT U_L_areBits 172 rfl) ?_
                          refine x_zreturn (dT U_L_areBits 173 rfl) rfl (by omega) ?_
                          exact kk _ _ _ w8 v8 p_8 L_8 hlen_8
                        · exfalso
                          omega
                      · exfalso
                        exact c286 rfl
                    · exfalso
                      omega
                · exfalso
                  exact c286 rfl
          · exfalso
            exact c182 rfl
        · exfalso
          exact c155 e11
  · exfalso
    exact c61 (e3.trans e_y2)

