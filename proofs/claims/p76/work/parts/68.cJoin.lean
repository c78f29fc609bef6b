set_option maxRecDepth 20000 in
set_option maxHeartbeats 60000000 in
theorem S_L_areJoined {G : xG} {d rc rs : Nat} {ex : Bool} {h : xH} {Q : xQ} {σ : St} {p n0 : Nat} (hL : gL G < 100000) (w : CW σ h) (v : INV σ) (hpp : σ.p = p) (hn0 : σ.L.n = n0) (hlen : 70 ≤ h.length) (kk : ∀ (σ2 : St) (h2 : xH) (ex2 : Bool), CW σ2 h2 → INV σ2 → σ2.p = p → σ2.L.n = n0 → 70 ≤ h2.length → Q (.inl (some (vi 1))) ex2 h2) : X G m_L_areJoined (d + 10) (rc + 1260) (rs + 9500) ex 0 (xe m_L_areJoined.2.2.1 [.ref 3, .ref 0, vi (p : Int), vi (gq p : Int)]) [] h Q := by
  show X G m_L_areJoined _ _ _ _ 0 [some (.ref 3), some (.ref 0), some (vi (p : Int)), some (vi (gq p : Int)), none, none, none, none, none, none, none, none, none, none, none, none] [] h Q
  have hpr : p ∈ PR := hpp ▸ v.p
  have hp := PRb hpr
  have hq := gq_b hpr
  refine x_aload_n (dT U_L_areJoined 0 rfl) rfl ?_
  refine x_bipush (dT U_L_areJoined 1 rfl) (by decide) ?_
  refine x_iload_n (dT U_L_areJoined 2 rfl) rfl ?_
  refine x_iconst (dT U_L_areJoined 3 rfl) ?_
  refine x_invokestatic (rc' := rc + 1259) (rs' := rs + 9492) (rc2 := 0 + 1) (rs2 := 0 + 8) (As := [_, _, _, _]) (st := _) M_L_made K_L_234 (dT U_L_areJoined 4 rfl) rfl rfl rfl rfl (Nat.le_of_ble_eq_true rfl) rfl (by decide) (Nat.le_of_ble_eq_true rfl) (by first | rfl | omega) (by first | rfl | omega) ?_
  refine S_L_made (f := 120) (m := 2) hL (by have := hlen; omega) (by omega) (by omega) (by omega) (fun h1 a_one one u1 ga1 ge1 h_one1 Fl_one Z_one => ?_)
  refine xRet_some ?_
  have g_one : 70 ≤ a_one := by have := hlen; omega
  have w1 := (w).up u1
  have hlen_1 : 70 ≤ h1.length := by have := u1.len; have := hlen; omega
  refine x_astore (ls' := [some (.ref _), some (.ref _), some (vi _), some (vi _), some (.ref _), none, none, none, none, none, none, none, none, none, none, none]) (dT U_L_areJoined 5 rfl) (by decide) rfl ?_
  refine x_aload_n (dT U_L_areJoined 6 rfl) rfl ?_
  refine x_bipush (dT U_L_areJoined 7 rfl) (by decide) ?_
  refine x_iload_n (dT U_L_areJoined 8 rfl) rfl ?_
  refine x_iconst (dT U_L_areJoined 9 rfl) ?_
  refine x_invokestatic (rc' := rc + 1258) (rs' := rs + 9484) (rc2 := 0 + 1) (rs2 := 0 + 8) (As := [_, _, _, _]) (st := _) M_L_made K_L_234 (dT U_L_areJoined 10 rfl) rfl rfl rfl rfl (Nat.le_of_ble_eq_true rfl) rfl (by decide) (Nat.le_of_ble_eq_true rfl) (by first | rfl | omega) (by first | rfl | omega) ?_
  refine S_L_made (f := 122) (m := 2) hL (by have := hlen_1; omega) (by omega) (by omega) (by omega) (fun h2 a_two two u2 ga2 ge2 h_two2 Fl_two Z_two => ?_)
  refine xRet_some ?_
  have g_two : 70 ≤ a_two := by have := hlen_1; omega
  have w2 := (w1).up u2
  have h_one_2 := u2 _ _ h_one1
  have ne_two_one : a_two ≠ a_one := by have := (List.getElem?_eq_some_iff.mp h_one1).1; omega
  have hlen_2 : 70 ≤ h2.length := by have := u2.len; have := hlen_1; omega
  refine x_astore (ls' := [some (.ref _), some (.ref _), some (vi _), some (vi _), some (.ref _), some (.ref _), none, none, none, none, none, none, none, none, none, none]) (dT U_L_areJoined 11 rfl) (by decide) rfl ?_
  refine x_aload_n (dT U_L_areJoined 12 rfl) rfl ?_
  refine x_bipush (dT U_L_areJoined 13 rfl) (by decide) ?_
  refine x_iload_n (dT U_L_areJoined 14 rfl) rfl ?_
  refine x_iconst (dT U_L_areJoined 15 rfl) ?_
  refine x_invokestatic (rc' := rc + 1257) (rs' := rs + 9476) (rc2 := 0 + 1) (rs2 := 0 + 8) (As := [_, _, _, _]) (st := _) M_L_made K_L_234 (dT U_L_areJoined 16 rfl) rfl rfl rfl rfl (Nat.le_of_ble_eq_true rfl) rfl (by decide) (Nat.le_of_ble_eq_true rfl) (by first | rfl | omega) (by first | rfl | omega) ?_
  refine S_L_made (f := 124) (m := 2) hL (by have := hlen_2; omega) (by omega) (by omega) (by omega) (fun h3 a_form form u3 ga3 ge3 h_form3 Fl_form Z_form => ?_)
  refine xRet_some ?_
  have g_form : 70 ≤ a_form := by have := hlen_2; omega
  have w3 := (w2).up u3
  have h_one_3 := u3 _ _ h_one_2
  have ne_form_one : a_form ≠ a_one := by have := (List.getElem?_eq_some_iff.mp h_one_2).1; omega
  have h_two_3 := u3 _ _ h_two2
  have ne_form_two : a_form ≠ a_two := by have := (List.getElem?_eq_some_iff.mp h_two2).1; omega
  have hlen_3 : 70 ≤ h3.length := by have := u3.len; have := hlen_2; omega
  refine x_astore (ls' := [some (.ref _), some (.ref _), some (vi _), some (vi _), some (.ref _), some (.ref _), some (.ref _), none, none, none, none, none, none, none, none, none]) (dT U_L_areJoined 17 rfl) (by decide) rfl ?_
  have M64 : ∀ (exq : Bool) (vv : Int) (b_vv : 0 ≤ vv ∧ vv < (p : Int)), X G m_L_areJoined (d + 10) (rc + 1200) (rs + 9000) exq 64 [some (.ref 3), some (.ref 0), some (vi (p : Int)), some (vi (gq p : Int)), some (.ref a_one), some (.ref a_two), some (.ref a_form), none, none, none, none, none, none, none, none, none] [vi vv] h3 Q := by
    intro exq vv b_vv
    refine x_istore (ls' := [some (.ref _), some (.ref _), some (vi _), some (vi _), some (.ref _), some (.ref _), some (.ref _), some (vi _), none, none, none, none, none, none, none, none]) (dT U_L_areJoined 34 rfl) (by decide) rfl ?_
    have M102 : ∀ (exq : Bool) (ww : Int) (b_ww : 0 ≤ ww ∧ ww < (p : Int)), X G m_L_areJoined (d + 10) (rc + 1150) (rs + 8600) exq 102 [some (.ref 3), some (.ref 0), some (vi (p : Int)), some (vi (gq p : Int)), some (.ref a_one), some (.ref a_two), some (.ref a_form), some (vi vv), none, none, none, none, none, none, none, none] [vi ww] h3 Q := by
      intro exq ww b_ww
      refine x_istore (ls' := [some (.ref _), some (.ref _), some (vi _), some (vi _), some (.ref _), some (.ref _), some (.ref _), some (vi _), some (vi _), none, none, none, none, none, none, none]) (dT U_L_areJoined 51 rfl) (by decide) rfl ?_
      refine x_aload_n (dT U_L_areJoined 52 rfl) rfl ?_
      refine x_aload (dT U_L_areJoined 53 rfl) rfl ?_
      refine x_iconst (dT U_L_areJoined 54 rfl) ?_
      refine x_iload_n (dT U_L_areJoined 55 rfl) rfl ?_
      refine x_invokestatic (rc' := rc + 1141) (rs' := rs + 8546) (rc2 := 0 + 9) (rs2 := 0 + 54) (As := [_, _, _, _]) (st := _) M_L_commits K_L_247 (dT U_L_areJoined 56 rfl) rfl rfl rfl rfl (Nat.le_of_ble_eq_true rfl) rfl (by decide) (Nat.le_of_ble_eq_true rfl) (by first | rfl | omega) (by first | rfl | omega) ?_
      refine S_L_commits w3 v hpp h_one_3 (by omega) Fl_one (by omega) ?_
      refine xRet_some ?_
      obtain ⟨y, e_y⟩ : ∃ r : Int, MM p (cm p one 1) = r := ⟨_, rfl⟩
      rw [e_y]
      have hz_y : xr y := by rw [← e_y]; exact xr_MM hpr
      refine x_istore (ls' := [some (.ref _), some (.ref _), some (vi _), some (vi _), some (.ref _), some (.ref _), some (.ref _), some (vi _), some (vi _), some (vi _), none, none, none, none, none, none]) (dT U_L_areJoined 57 rfl) (by decide) rfl ?_
      refine x_aload_n (dT U_L_areJoined 58 rfl) rfl ?_
      refine x_aload (dT U_L_areJoined 59 rfl) rfl ?_
      refine x_iconst (dT U_L_areJoined 60 rfl) ?_
      refine x_iload_n (dT U_L_areJoined 61 rfl) rfl ?_
      refine x_invokestatic (rc' := rc + 1132) (rs' := rs + 8492) (rc2 := 0 + 9) (rs2 := 0 + 54) (As := [_, _, _, _]) (st := _) M_L_commits K_L_247 (dT U_L_areJoined 62 rfl) rfl rfl rfl rfl (Nat.le_of_ble_eq_true rfl) rfl (by decide) (Nat.le_of_ble_eq_true rfl) (by first | rfl | omega) (by first | rfl | omega) ?_
      refine S_L_commits w3 v hpp h_two_3 (by omega) Fl_two (by omega) ?_
      refine xRet_some ?_
      obtain ⟨zz, e_zz⟩ : ∃ r : Int, MM p (cm p two 2) = r := ⟨_, rfl⟩
      rw [e_zz]
      have hz_zz : xr zz := by rw [← e_zz]; exact xr_MM hpr
      refine x_istore (ls' := [some (.ref _), some (.ref _), some (vi _), some (vi _), some (.ref _), some (.ref _), some (.ref _), some (vi _), some (vi _), some (vi _), some (vi _), none, none, none, none, none]) (dT U_L_areJoined 63 rfl) (by decide) rfl ?_
      have hcO := cm_b (p := p) (l := one) (b := 1) (by omega)
      have hcT := cm_b (p := p) (l := two) (b := 2) (by omega)
      refine x_aload_n (dT U_L_areJoined 64 rfl) rfl ?_
      refine x_iconst (dT U_L_areJoined 65 rfl) ?_
      refine x_aload (dT U_L_areJoined 66 rfl) rfl ?_
      refine x_invokestatic (rc' := rc + 1131) (rs' := rs + 8486) (rc2 := 0 + 1) (rs2 := 0 + 6) (As := [_, _, _]) (st := _) M_L_lays K_L_238 (dT U_L_areJoined 67 rfl) rfl rfl rfl rfl (Nat.le_of_ble_eq_true rfl) rfl (by decide) (Nat.le_of_ble_eq_true rfl) (by first | rfl | omega) (by first | rfl | omega) ?_
      refine S_L_lays w3 v (by omega) h_one_3 (by omega) (by rw [hpp]; exact Fl_one) (fun z4 hz4 h4 fc4 w_4 v_4 => ?_)
      refine xRet_some ?_
      obtain ⟨σ5, w5, v5, r0_5, p_5, L_5⟩ : ∃ σ5 : St, CW σ5 h4 ∧ INV σ5 ∧ σ5.rw 0 = one ∧ σ5.p = p ∧ σ5.L.n = n0 := ⟨_, w_4, v_4, rfl, hpp, hn0⟩
      have h_one_5 : h4[a_one]? = some (cA 0 one) := (fc4).get h_one_3 (by omega)
      have h_two_5 : h4[a_two]? = some (cA 0 two) := (fc4).get h_two_3 (by omega)
      have h_form_5 : h4[a_form]? = some (cA 0 form) := (fc4).get h_form3 (by omega)
      have hlen_5 : 70 ≤ h4.length := by rw [fc4.1]; exact hlen_3
      refine x_pop2 (dT U_L_areJoined 68 rfl) ?_
      refine x_aload_n (dT U_L_areJoined 69 rfl) rfl ?_
      refine x_iconst (dT U_L_areJoined 70 rfl) ?_
      refine x_aload (dT U_L_areJoined 71 rfl) rfl ?_
      refine x_invokestatic (rc' := rc + 1130) (rs' := rs + 8480) (rc2 := 0 + 1) (rs2 := 0 + 6) (As := [_, _, _]) (st := _) M_L_lays K_L_238 (dT U_L_areJoined 72 rfl) rfl rfl rfl rfl (Nat.le_of_ble_eq_true rfl) rfl (by decide) (Nat.le_of_ble_eq_true rfl) (by first | rfl | omega) (by first | rfl | omega) ?_
      refine S_L_lays w5 v5 (by omega) h_two_5 (by omega) (by rw [p_5]; exact Fl_two) (fun z6 hz6 h6 fc6 w_6 v_6 => ?_)
      refine xRet_some ?_
      obtain ⟨σ7, w7, v7, r1_7, r0_7, p_7, L_7⟩ : ∃ σ7 : St, CW σ7 h6 ∧ INV σ7 ∧ σ7.rw 1 = two ∧ σ7.rw 0 = one ∧ σ7.p = p ∧ σ7.L.n = n0 := ⟨_, w_6, v_6, rfl, r0_5, p_5, L_5⟩
      have h_one_7 : h6[a_one]? = some (cA 0 one) := (fc6).get h_one_5 (by omega)
      have h_two_7 : h6[a_two]? = some (cA 0 two) := (fc6).get h_two_5 (by omega)
      have h_form_7 : h6[a_form]? = some (cA 0 form) := (fc6).get h_form_5 (by omega)
      have hlen_7 : 70 ≤ h6.length := by rw [fc6.1]; exact hlen_5
      refine x_pop2 (dT U_L_areJoined 73 rfl) ?_
      refine x_aload_n (dT U_L_areJoined 74 rfl) rfl ?_
      refine x_iconst (dT U_L_areJoined 75 rfl) ?_
      refine x_aload (dT U_L_areJoined 76 rfl) rfl ?_
      refine x_invokestatic (rc' := rc + 1129) (rs' := rs + 8474) (rc2 := 0 + 1) (rs2 := 0 + 6) (As := [_, _, _]) (st := _) M_L_lays K_L_238 (dT U_L_areJoined 77 rfl) rfl rfl rfl rfl (Nat.le_of_ble_eq_true rfl) rfl (by decide) (Nat.le_of_ble_eq_true rfl) (by first | rfl | omega) (by first | rfl | omega) ?_
      refine S_L_lays w7 v7 (by omega) h_form_7 (by omega) (by rw [p_7]; exact Fl_form) (fun z8 hz8 h8 fc8 w_8 v_8 => ?_)
      refine xRet_some ?_
      obtain ⟨σ9, w9, v9, r2_9, r1_9, r0_9, p_9, L_9⟩ : ∃ σ9 : St, CW σ9 h8 ∧ INV σ9 ∧ σ9.rw 2 = form ∧ σ9.rw 1 = two ∧ σ9.rw 0 = one ∧ σ9.p = p ∧ σ9.L.n = n0 := ⟨_, w_8, v_8, rfl, r1_7, r0_7, p_7, L_7⟩
      have h_one_9 : h8[a_one]? = some (cA 0 one) := (fc8).get h_one_7 (by omega)
      have h_two_9 : h8[a_two]? = some (cA 0 two) := (fc8).get h_two_7 (by omega)
      have h_form_9 : h8[a_form]? = some (cA 0 form) := (fc8).get h_form_7 (by omega)
      have hlen_9 : 70 ≤ h8.length := by rw [fc8.1]; exact hlen_7
      refine x_pop2 (dT U_L_areJoined 78 rfl) ?_
      refine x_aload_n (dT U_L_areJoined 79 rfl) rfl ?_
      refine x_iconst (dT U_L_areJoined 80 rfl) ?_
      refine x_iload (dT U_L_areJoined 81 rfl) rfl ?_
      refine x_iconst (dT U_L_areJoined 82 rfl) ?_
      refine x_iload (dT U_L_areJoined 83 rfl) rfl ?_
      refine x_invokestaticT (rc' := rc + 1125) (rs' := rs + 8450) (rc2 := 0 + 4) (rs2 := 0 + 24) (As := [_, _, _, _, _]) (st := _) M_L_state K_L_261 (dT U_L_areJoined 84 rfl) rfl (by decide) rfl rfl (Nat.le_of_ble_eq_true rfl) rfl (by decide) (Nat.le_of_ble_eq_true rfl) (by first | rfl | omega) (by first | rfl | omega) ?_
      refine S_L_state w9 v9 (by first | assumption | (unfold xr; omega)) (by first | assumption | (unfold xr; omega)) (by first | assumption | (unfold xr; omega)) (by first | assumption | (unfold xr; omega)) (fun  z8 => absurd (show inb _ _ ∧ inb _ _ from by omega) z8) (fun _ z8 => absurd (show _ ∧ inb _ _ from ⟨by rw [p_9, ← e_y, exI_MM hpr hcO]; omega, by have := p_9; omega⟩) z8) (fun _ _ z10 e10 hz10 h10 fc10 w_10 v_10 => ?_)
      refine xRet_some ?_
      have e10 : z10 = y := by
        exact e10
      obtain ⟨σ11, w11, v11, R0_st_11, R0_e_11, R0_v_11, R0_form_11, r2_11, r1_11, r0_11, p_11, L_11⟩ : ∃ σ11 : St, CW σ11 h10 ∧ INV σ11 ∧ (σ11.R 0).st = 1 ∧ (σ11.R 0).e = cm p one 1 ∧ (σ11.R 0).v = vv ∧ (σ11.R 0).form = form ∧ σ11.rw 2 = form ∧ σ11.rw 1 = two ∧ σ11.rw 0 = one ∧ σ11.p = p ∧ σ11.L.n = n0 := ⟨_, w_10, v_10, rfl, (by show exI σ9.p y = _; rw [p_9, ← e_y, exI_MM hpr hcO]), rfl, r2_9, r2_9, r1_9, r0_9, p_9, L_9⟩
      have h_one_11 : h10[a_one]? = some (cA 0 one) := (fc10).get h_one_9 (by omega)
      have h_two_11 : h10[a_two]? = some (cA 0 two) := (fc10).get h_two_9 (by omega)
      have h_form_11 : h10[a_form]? = some (cA 0 form) := (fc10).get h_form_9 (by omega)
      have hlen_11 : 70 ≤ h10.length := by rw [fc10.1]; exact hlen_9
      refine x_pop2 (dT U_L_areJoined 85 rfl) ?_
      refine x_aload_n (dT U_L_areJoined 86 rfl) rfl ?_
      refine x_iconst (dT U_L_areJoined 87 rfl) ?_
      refine x_iload (dT U_L_areJoined 88 rfl) rfl ?_
      refine x_iconst (dT U_L_areJoined 89 rfl) ?_
      refine x_iload (dT U_L_areJoined 90 rfl) rfl ?_
      refine x_invokestaticT (rc' := rc + 1121) (rs' := rs + 8426) (rc2 := 0 + 4) (rs2 := 0 + 24) (As := [_, _, _, _, _]) (st := _) M_L_state K_L_261 (dT U_L_areJoined 91 rfl) rfl (by decide) rfl rfl (Nat.le_of_ble_eq_true rfl) rfl (by decide) (Nat.le_of_ble_eq_true rfl) (by first | rfl | omega) (by first | rfl | omega) ?_
      refine S_L_state w11 v11 (by first | assumption | (unfold xr; omega)) (by first | assumption | (unfold xr; omega)) (by first | assumption | (unfold xr; omega)) (by first | assumption | (unfold xr; omega)) (fun  z8 => absurd (show inb _ _ ∧ inb _ _ from by omega) z8) (fun _ z8 => absurd (show _ ∧ inb _ _ from ⟨by rw [p_11, ← e_zz, exI_MM hpr hcT]; omega, by have := p_11; omega⟩) z8) (fun _ _ z12 e12 hz12 h12 fc12 w_12 v_12 => ?_)
      refine xRet_some ?_
      have e12 : z12 = zz := by
        exact e12
      obtain ⟨σ13, w13, v13, R1_st_13, R1_e_13, R1_v_13, R1_form_13, R0_st_13, R0_e_13, R0_v_13, R0_form_13, r2_13, r1_13, r0_13, p_13, L_13⟩ : ∃ σ13 : St, CW σ13 h12 ∧ INV σ13 ∧ (σ13.R 1).st = 1 ∧ (σ13.R 1).e = cm p two 2 ∧ (σ13.R 1).v = ww ∧ (σ13.R 1).form = form ∧ (σ13.R 0).st = 1 ∧ (σ13.R 0).e = cm p one 1 ∧ (σ13.R 0).v = vv ∧ (σ13.R 0).form = form ∧ σ13.rw 2 = form ∧ σ13.rw 1 = two ∧ σ13.rw 0 = one ∧ σ13.p = p ∧ σ13.L.n = n0 := ⟨_, w_12, v_12, rfl, (by show exI σ11.p zz = _; rw [p_11, ← e_zz, exI_MM hpr hcT]), rfl, r2_11, R0_st_11, R0_e_11, R0_v_11, R0_form_11, r2_11, r1_11, r0_11, p_11, L_11⟩
      have h_one_13 : h12[a_one]? = some (cA 0 one) := (fc12).get h_one_11 (by omega)
      have h_two_13 : h12[a_two]? = some (cA 0 two) := (fc12).get h_two_11 (by omega)
      have h_form_13 : h12[a_form]? = some (cA 0 form) := (fc12).get h_form_11 (by omega)
      have hlen_13 : 70 ≤ h12.length := by rw [fc12.1]; exact hlen_11
      refine x_pop2 (dT U_L_areJoined 92 rfl) ?_
      refine x_aload (dT U_L_areJoined 93 rfl) rfl ?_
      refine x_aload (dT U_L_areJoined 94 rfl) rfl ?_
      refine x_iload_n (dT U_L_areJoined 95 rfl) rfl ?_
      refine x_invokestatic (rc' := rc + 1121) (rs' := rs + 8426) (rc2 := 0 + 0) (rs2 := 0 + 0) (As := [_, _, _]) (st := _) M_L_inner K_L_257 (dT U_L_areJoined 96 rfl) rfl rfl rfl rfl (Nat.le_of_ble_eq_true rfl) rfl (by decide) (Nat.le_of_ble_eq_true rfl) (by first | rfl | omega) (by first | rfl | omega) ?_
      refine S_L_inner (by omega) h_form_13 (by omega) Fl_form h_one_13 (by omega) Fl_one ?_
      refine xRet_some ?_
      refine x_iload (dT U_L_areJoined 97 rfl) rfl ?_
      refine x_isub (dT U_L_areJoined 98 rfl) ?_
      refine x_iload_n (dT U_L_areJoined 99 rfl) rfl ?_
      refine x_invokestatic (rc' := rc + 1121) (rs' := rs + 8426) (rc2 := 0 + 0) (rs2 := 0 + 0) (As := [_, _]) (st := _) M_L_rest K_L_292 (dT U_L_areJoined 100 rfl) rfl rfl rfl rfl (Nat.le_of_ble_eq_true rfl) rfl (by decide) (Nat.le_of_ble_eq_true rfl) (by omega) (by omega) ?_
      have m_in_l1 := modb (z := inn form one) (p := (p : Int)) (by omega)
      refine S_L_rest (by unfold xr; omega) (by omega) ?_
      rw [sub_ml]
      obtain ⟨l1, e_l1⟩ : ∃ r : Int, (inn form one - vv) % (p : Int) = r := ⟨_, rfl⟩
      rw [e_l1]
      have b_l1 : 0 ≤ l1 ∧ l1 < (p : Int) := by rw [← e_l1]; exact modb (by omega)
      refine xRet_some ?_
      refine x_istore (ls' := [some (.ref _), some (.ref _), some (vi _), some (vi _), some (.ref _), some (.ref _), some (.ref _), some (vi _), some (vi _), some (vi _), some (vi _), some (vi _), none, none, none, none]) (dT U_L_areJoined 101 rfl) (by decide) rfl ?_
      refine x_aload (dT U_L_areJoined 102 rfl) rfl ?_
      refine x_aload (dT U_L_areJoined 103 rfl) rfl ?_
      refine x_iload_n (dT U_L_areJoined 104 rfl) rfl ?_
      refine x_invokestatic (rc' := rc + 1121) (rs' := rs + 8426) (rc2 := 0 + 0) (rs2 := 0 + 0) (As := [_, _, _]) (st := _) M_L_inner K_L_257 (dT U_L_areJoined 105 rfl) rfl rfl rfl rfl (Nat.le_of_ble_eq_true rfl) rfl (by decide) (Nat.le_of_ble_eq_true rfl) (by first | rfl | omega) (by first | rfl | omega) ?_
      refine S_L_inner (by omega) h_form_13 (by omega) Fl_form h_two_13 (by omega) Fl_two ?_
      refine xRet_some ?_
      refine x_iload (dT U_L_areJoined 106 rfl) rfl ?_
      refine x_isub (dT U_L_areJoined 107 rfl) ?_
      refine x_iload_n (dT U_L_areJoined 108 rfl) rfl ?_
      refine x_invokestatic (rc' := rc + 1121) (rs' := rs + 8426) (rc2 := 0 + 0) (rs2 := 0 + 0) (As := [_, _]) (st := _) M_L_rest K_L_292 (dT U_L_areJoined 109 rfl) rfl rfl rfl rfl (Nat.le_of_ble_eq_true rfl) rfl (by decide) (Nat.le_of_ble_eq_true rfl) (by omega) (by omega) ?_
      have m_in_l2 := modb (z := inn form two) (p := (p : Int)) (by omega)
      refine S_L_rest (by unfold xr; omega) (by omega) ?_
      rw [sub_ml]
      obtain ⟨l2, e_l2⟩ : ∃ r : Int, (inn form two - ww) % (p : Int) = r := ⟨_, rfl⟩
      rw [e_l2]
      have b_l2 : 0 ≤ l2 ∧ l2 < (p : Int) := by rw [← e_l2]; exact modb (by omega)
      refine xRet_some ?_
      refine x_istore (ls' := [some (.ref _), some (.ref _), some (vi _), some (vi _), some (.ref _), some (.ref _), some (.ref _), some (vi _), some (vi _), some (vi _), some (vi _), some (vi _), some (vi _), none, none, none]) (dT U_L_areJoined 110 rfl) (by decide) rfl ?_
      have M223 : ∀ (exq : Bool) (due : Int) (e_due : due = if l2 ≠ 0 then 1 else if l1 = 0 then (p : Int) else 0), X G m_L_areJoined (d + 10) (rc + 1000) (rs + 7400) exq 223 [some (.ref 3), some (.ref 0), some (vi (p : Int)), some (vi (gq p : Int)), some (.ref a_one), some (.ref a_two), some (.ref a_form), some (vi vv), some (vi ww), some (vi y), some (vi zz), some (vi l1), some (vi l2), none, none, none] [vi due] h12 Q := by
        intro exq due e_due
        have hz_due : xr due := by rw [e_due]; unfold xr; split <;> (try split) <;> omega
        refine x_istore (ls' := [some (.ref _), some (.ref _), some (vi _), some (vi _), some (.ref _), some (.ref _), some (.ref _), some (vi _), some (vi _), some (vi _), some (vi _), some (vi _), some (vi _), some (vi _), none, none]) (dT U_L_areJoined 120 rfl) (by decide) rfl ?_
        refine x_aload_n (dT U_L_areJoined 121 rfl) rfl ?_
        refine x_iconst (dT U_L_areJoined 122 rfl) ?_
        refine x_iconst (dT U_L_areJoined 123 rfl) ?_
        refine x_iconst (dT U_L_areJoined 124 rfl) ?_
        refine x_iconst (dT U_L_areJoined 125 rfl) ?_
        refine x_iconst (dT U_L_areJoined 126 rfl) ?_
        refine x_invokestaticT (rc' := rc + 995) (rs' := rs + 7370) (rc2 := 0 + 5) (rs2 := 0 + 30) (As := [_, _, _, _, _, _]) (st := _) M_L_factors K_L_297 (dT U_L_areJoined 127 rfl) rfl (by decide) rfl rfl (Nat.le_of_ble_eq_true rfl) rfl (by decide) (Nat.le_of_ble_eq_true rfl) (by first | rfl | omega) (by first | rfl | omega) ?_
        refine S_L_factors w13 v13 (by first | assumption | (unfold xr; omega)) (by first | assumption | (unfold xr; omega)) (by first | assumption | (unfold xr; omega)) (by first | assumption | (unfold xr; omega)) (Or.inl rfl) (fun  z8 => absurd (show inb _ _ ∧ inb _ _ ∧ inb _ _ ∧ inb _ _ from by omega) z8) (fun _ z8 => absurd (show joinable (σ13.R 0) (σ13.R 1) 0 from ⟨by rw [R0_st_13]; decide, by rw [R1_st_13]; decide, by rw [if_neg (by decide)]; exact R0_form_13.trans R1_form_13.symm⟩) z8) (fun _ _ z14 e14 hz14 => ?_)
        refine xRet_some ?_
        have e14 : z14 = due := by
          rw [e14]
          show ((ct (fun x : Nat => (((inn (σ13.R 0).form (σ13.rw 0) % (σ13.p : Int) - (σ13.R 0).v) % (σ13.p : Int)) + (x : Int) * ((inn (σ13.R 1).form (σ13.rw 1) % (σ13.p : Int) - (σ13.R 1).v) % (σ13.p : Int))) % (σ13.p : Int) = 0) σ13.p : Nat) : Int) = due
          rw [R0_form_13, r0_13, R0_v_13, R1_form_13, r1_13, R1_v_13, p_13, sub_ml, sub_ml, e_l1, e_l2, ct_due hpr b_l1 b_l2, e_due]
        refine x_iload (dT U_L_areJoined 128 rfl) rfl ?_
        refine x_i2l (dT U_L_areJoined 129 rfl) (by first | assumption | (unfold xr; omega)) ?_
        refine x_lif_eq (tgt := 243) (dT U_L_areJoined 130 rfl) (dT U_L_areJoined 131 rfl) (by decide) (xrl_of hz14) (xrl_of hz_due) (fun c237 => ?_) (fun c237 => ?_)
        · skip
          refine x_iconst (dT U_L_areJoined 134 rfl) ?_
          refine x_istore (ls' := [some (.ref _), some (.ref _), some (vi _), some (vi _), some (.ref _), some (.ref _), some (.ref _), some (vi _), some (vi _), some (vi _), some (vi _), some (vi _), some (vi _), some (vi _), some (vi _), none]) (dT U_L_areJoined 135 rfl) (by decide) rfl ?_
          refine x_iconst (dT U_L_areJoined 136 rfl) ?_
          refine x_istore (ls' := [some (.ref _), some (.ref _), some (vi _), some (vi _), some (.ref _), some (.ref _), some (.ref _), some (vi _), some (vi _), some (vi _), some (vi _), some (vi _), some (vi _), some (vi _), some (vi _), some (vi _)]) (dT U_L_areJoined 137 rfl) (by decide) rfl ?_
          have L15 : ∀ (n9 i : Nat), i + n9 = p → ∀ (h15 : xH) (ex15 : Bool) (σ15 : St), CW σ15 h15 → INV σ15 → 70 ≤ h15.length → (σ15.R 1).st = 1 → (σ15.R 1).e = cm p two 2 → (σ15.R 1).v = ww → (σ15.R 1).form = form → (σ15.R 0).st = 1 → (σ15.R 0).e = cm p one 1 → (σ15.R 0).v = vv → (σ15.R 0).form = form → σ15.rw 2 = form → σ15.rw 1 = two → σ15.rw 0 = one → σ15.p = p → σ15.L.n = n0 → h15[a_one]? = some (cA 0 one) → h15[a_two]? = some (cA 0 two) → h15[a_form]? = some (cA 0 form) → X G m_L_areJoined (d + 10) (rc + 20 + 40 * n9) (rs + 160 + 300 * n9) ex15 249 [some (.ref 3), some (.ref 0), some (vi (p : Int)), some (vi (gq p : Int)), some (.ref a_one), some (.ref a_two), some (.ref a_form), some (vi vv), some (vi ww), some (vi y), some (vi zz), some (vi l1), some (vi l2), some (vi due), some (vi ((ct (fun x : Nat => (l1 + (x : Int) * l2) % (p : Int) = 0) i : Nat) : Int)), some (vi (i : Int))] [] h15 Q := by
            intro n9
            induction n9 with
            | zero =>
              intro i hi9 h15 ex15 σ15 w15 v15 hlen_15 R1_st_15 R1_e_15 R1_v_15 R1_form_15 R0_st_15 R0_e_15 R0_v_15 R0_form_15 r2_15 r1_15 r0_15 p_15 L_15 h_one_15 h_two_15 h_form_15
              refine x_iload (dT U_L_areJoined 138 rfl) rfl ?_
              refine x_iload_n (dT U_L_areJoined 139 rfl) rfl ?_
              refine x_icmp_ge (tgt := 350) (dT U_L_areJoined 140 rfl) (by decide) (by first | assumption | (unfold xr; omega)) (by unfold xr; omega) (fun c252 => ?_) (fun c252 => ?_)
              · skip
                have hip : p = i := by omega
                subst hip
                refine x_iload (dT U_L_areJoined 203 rfl) rfl ?_
                refine x_iload (dT U_L_areJoined 204 rfl) rfl ?_
                refine x_icmp_ne (tgt := 361) (dT U_L_areJoined 205 rfl) (by decide) (xr_ct (by omega)) (by first | assumption | (unfold xr; omega)) (fun c354 => ?_) (fun c354 => ?_)
                · exfalso
                  exact c354 (by rw [ct_due hpr b_l1 b_l2, e_due])
                · skip
                  refine x_iconst (dT U_L_areJoined 206 rfl) ?_
                  refine x_goto (tgt := 362) (dT U_L_areJoined 207 rfl) (by decide) ?_
                  refine x_zreturn (dT U_L_areJoined 209 rfl) rfl (by omega) ?_
                  exact kk _ _ _ w15 v15 p_15 L_15 hlen_15
              · exfalso
                omega
            | succ n9 ih =>
              intro i hi9 h15 ex15 σ15 w15 v15 hlen_15 R1_st_15 R1_e_15 R1_v_15 R1_form_15 R0_st_15 R0_e_15 R0_v_15 R0_form_15 r2_15 r1_15 r0_15 p_15 L_15 h_one_15 h_two_15 h_form_15
              refine x_iload (dT U_L_areJoined 138 rfl) rfl ?_
              refine x_iload_n (dT U_L_areJoined 139 rfl) rfl ?_
              refine x_icmp_ge (tgt := 350) (dT U_L_areJoined 140 rfl) (by decide) (by first | assumption | (unfold xr; omega)) (by unfold xr; omega) (fun c252 => ?_) (fun c252 => ?_)
              · exfalso
                omega
              · skip
                refine x_aload_n (dT U_L_areJoined 141 rfl) rfl ?_
                refine x_iconst (dT U_L_areJoined 142 rfl) ?_
                refine x_iconst (dT U_L_areJoined 143 rfl) ?_
                refine x_iload (dT U_L_areJoined 144 rfl) rfl ?_
                refine x_iconst (dT U_L_areJoined 145 rfl) ?_
                refine x_invokestaticT (rc' := rc + 20 + 40 * n9 + 35) (rs' := rs + 160 + 300 * n9 + 270) (rc2 := 0 + 5) (rs2 := 0 + 30) (As := [_, _, _, _, _]) (st := _) M_L_fold K_L_300 (dT U_L_areJoined 146 rfl) rfl (by decide) rfl rfl (Nat.le_of_ble_eq_true rfl) rfl (by decide) (Nat.le_of_ble_eq_true rfl) (by first | rfl | omega) (by first | rfl | omega) ?_
                refine S_L_fold w15 v15 (by first | assumption | (unfold xr; omega)) (by first | assumption | (unfold xr; omega)) (by first | assumption | (unfold xr; omega)) (by first | assumption | (unfold xr; omega)) (fun  z8 => absurd (show inb _ _ ∧ inb _ _ ∧ inb _ _ from by omega) z8) (fun _ z8 => absurd (show inb _ _ from by have := p_15; omega) z8) (fun _ _ z8 => absurd (show joinable (σ15.R 0) (σ15.R 1) 0 from ⟨by rw [R0_st_15]; decide, by rw [R1_st_15]; decide, by rw [if_neg (by decide)]; exact R0_form_15.trans R1_form_15.symm⟩) z8) (fun _ _ _ z16 e16 hz16 h16 fc16 w_16 v_16 => ?_)
                refine xRet_some ?_
                have e16 : z16 = MM p ((cm p one 1 + (i : Int) * cm p two 2) % (p : Int)) := by
                  simp only [tn0, tn1, tn2, tn3, tn4, tn5, tn6, tn7, tn8, Int.toNat_natCast, p_15, R0_e_15, R1_e_15] at e16; exact e16
                obtain ⟨σ17, w17, v17, R2_st_17, R2_e_17, R2_v_17, R2_form_17, R1_st_17, R1_e_17, R1_v_17, R1_form_17, R0_st_17, R0_e_17, R0_v_17, R0_form_17, r2_17, r1_17, r0_17, p_17, L_17⟩ : ∃ σ17 : St, CW σ17 h16 ∧ INV σ17 ∧ (σ17.R 2).st = 1 ∧ (σ17.R 2).e = (cm p one 1 + (i : Int) * cm p two 2) % (p : Int) ∧ (σ17.R 2).v = (vv + (i : Int) * ww) % (p : Int) ∧ (σ17.R 2).form = form ∧ (σ17.R 1).st = 1 ∧ (σ17.R 1).e = cm p two 2 ∧ (σ17.R 1).v = ww ∧ (σ17.R 1).form = form ∧ (σ17.R 0).st = 1 ∧ (σ17.R 0).e = cm p one 1 ∧ (σ17.R 0).v = vv ∧ (σ17.R 0).form = form ∧ σ17.rw 2 = form ∧ σ17.rw 1 = two ∧ σ17.rw 0 = one ∧ σ17.p = p ∧ σ17.L.n = n0 := ⟨_, w_16, v_16, rfl, (by show ((σ15.R 0).e + _ * (σ15.R 1).e) % (σ15.p : Int) = _; rw [R0_e_15, R1_e_15, p_15]), (by show ((σ15.R 0).v + _ * (σ15.R 1).v) % (σ15.p : Int) = _; rw [R0_v_15, R1_v_15, p_15]), R0_form_15, R1_st_15, R1_e_15, R1_v_15, R1_form_15, R0_st_15, R0_e_15, R0_v_15, R0_form_15, r2_15, r1_15, r0_15, p_15, L_15⟩
                have h_one_17 : h16[a_one]? = some (cA 0 one) := (fc16).get h_one_15 (by omega)
                have h_two_17 : h16[a_two]? = some (cA 0 two) := (fc16).get h_two_15 (by omega)
                have h_form_17 : h16[a_form]? = some (cA 0 form) := (fc16).get h_form_15 (by omega)
                have hlen_17 : 70 ≤ h16.length := by rw [fc16.1]; exact hlen_15
                refine x_iload (dT U_L_areJoined 147 rfl) rfl ?_
                refine x_iload (dT U_L_areJoined 148 rfl) rfl ?_
                refine x_iload (dT U_L_areJoined 149 rfl) rfl ?_
                refine x_iload_n (dT U_L_areJoined 150 rfl) rfl ?_
                refine x_invokestatic (rc' := rc + 20 + 40 * n9 + 35) (rs' := rs + 160 + 300 * n9 + 270) (rc2 := 0 + 0) (rs2 := 0 + 0) (As := [_, _, _]) (st := _) M_L_power K_L_218 (dT U_L_areJoined 151 rfl) rfl rfl rfl rfl (Nat.le_of_ble_eq_true rfl) rfl (by decide) (Nat.le_of_ble_eq_true rfl) (by omega) (by omega) ?_
                refine S_L_powY hpr e_zz hcT (by omega) ?_
                have m_pw := MM_b hpr (e := cm p two 2 * (i : Int) % (p : Int)) (modb (by omega))
                have m_y := MM_b hpr hcO
                rw [e_y] at m_y
                have m_zz := mulg (a := y) (b := MM p (cm p two 2 * (i : Int) % (p : Int))) (m := 191) (n := 191) (by omega) (by omega)
                have e276 : (y * MM p (cm p two 2 * (i : Int) % (p : Int))).tmod (gq p : Int) = MM p ((cm p one 1 + (i : Int) * cm p two 2) % (p : Int)) := by
                  rw [Int.tmod_eq_emod_of_nonneg m_zz.1, ← e_y, MM_mul hpr hcO (modb (by omega)), am_r, Int.mul_comm (cm p two 2)]
                refine xRet_some ?_
                refine x_imul (dT U_L_areJoined 152 rfl) ?_
                refine x_iload_n (dT U_L_areJoined 153 rfl) rfl ?_
                refine x_irem (dT U_L_areJoined 154 rfl) (by unfold xr; omega) (by unfold xr; omega) (by omega) ?_
                rw [e276]
                refine x_i2l (dT U_L_areJoined 155 rfl) (xr_MM hpr) ?_
                refine x_lif_ne (tgt := 303) (dT U_L_areJoined 156 rfl) (dT U_L_areJoined 157 rfl) (by decide) (xrl_of hz16) (xrl_of (xr_MM hpr)) (fun c278 => ?_) (fun c278 => ?_)
                · exfalso
                  exact c278 e16
                · skip
                  refine x_aload_n (dT U_L_areJoined 158 rfl) rfl ?_
                  refine x_iconst (dT U_L_areJoined 159 rfl) ?_
                  refine x_iconst (dT U_L_areJoined 160 rfl) ?_
                  refine x_invokestaticT (rc' := rc + 20 + 40 * n9 + 33) (rs' := rs + 160 + 300 * n9 + 258) (rc2 := 0 + 2) (rs2 := 0 + 12) (As := [_, _, _]) (st := _) M_L_told K_L_265 (dT U_L_areJoined 161 rfl) rfl (by decide) rfl rfl (Nat.le_of_ble_eq_true rfl) rfl (by decide) (Nat.le_of_ble_eq_true rfl) (by first | rfl | omega) (by first | rfl | omega) ?_
                  refine S_L_told w17 v17 (by first | assumption | (unfold xr; omega)) (by first | assumption | (unfold xr; omega)) (fun  z8 => absurd (show inb _ _ from by omega) z8) (fun _ z8 => absurd (show inb _ _ from by omega) z8) (fun _ _ z18 e18 hz18 => ?_)
                  refine xRet_some ?_
                  have e18 : z18 = (vv + (i : Int) * ww) % (p : Int) := by
                    rw [e18, if_neg (by decide)]
                    show (if 1 ≤ (σ17.R 2).st then (σ17.R 2).v else -1) = _
                    rw [if_pos (by rw [R2_st_17]; decide), R2_v_17]
                  refine x_iload (dT U_L_areJoined 162 rfl) rfl ?_
                  refine x_iload (dT U_L_areJoined 163 rfl) rfl ?_
                  refine x_iload (dT U_L_areJoined 164 rfl) rfl ?_
                  have m_iw := mulg (a := (i : Int)) (b := ww) (m := 23) (n := 23) (by omega) (by omega)
                  refine x_imul (dT U_L_areJoined 165 rfl) ?_
                  refine x_iadd (dT U_L_areJoined 166 rfl) ?_
                  refine x_iload_n (dT U_L_areJoined 167 rfl) rfl ?_
                  refine x_irem (dT U_L_areJoined 168 rfl) (by unfold xr; omega) (by unfold xr; omega) (by omega) ?_
                  rw [Int.tmod_eq_emod_of_nonneg (by omega)]
                  refine x_i2l (dT U_L_areJoined 169 rfl) (xr_md ⟨by omega, by omega⟩) ?_
                  refine x_lif_eq (tgt := 305) (dT U_L_areJoined 170 rfl) (dT U_L_areJoined 171 rfl) (by decide) (xrl_of hz18) (xrl_of (xr_md ⟨by omega, by omega⟩)) (fun c299 => ?_) (fun c299 => ?_)
                  · skip
                    refine x_aload_n (dT U_L_areJoined 174 rfl) rfl ?_
                    refine x_iconst (dT U_L_areJoined 175 rfl) ?_
                    refine x_iconst (dT U_L_areJoined 176 rfl) ?_
                    refine x_iload (dT U_L_areJoined 177 rfl) rfl ?_
                    refine x_iconst (dT U_L_areJoined 178 rfl) ?_
                    refine x_invokestaticT (rc' := rc + 20 + 40 * n9 + 29) (rs' := rs + 160 + 300 * n9 + 234) (rc2 := 0 + 4) (rs2 := 0 + 24) (As := [_, _, _, _, _]) (st := _) M_L_mix K_L_302 (dT U_L_areJoined 179 rfl) rfl (by decide) rfl rfl (Nat.le_of_ble_eq_true rfl) rfl (by decide) (Nat.le_of_ble_eq_true rfl) (by first | rfl | omega) (by first | rfl | omega) ?_
                    refine S_L_mix w17 v17 (by first | assumption | (unfold xr; omega)) (by first | assumption | (unfold xr; omega)) (by first | assumption | (unfold xr; omega)) (by first | assumption | (unfold xr; omega)) (fun  z8 => absurd (show inb _ _ ∧ inb _ _ ∧ inb _ _ from by omega) z8) (fun _ z8 => absurd (show inb _ _ from by have := p_17; omega) z8) (fun _ _ z19 e19 hz19 h19 fc19 w_19 v_19 => ?_)
                    refine xRet_some ?_
                    obtain ⟨σ20, w20, v20, r3_20, R2_st_20, R2_e_20, R2_v_20, R2_form_20, R1_st_20, R1_e_20, R1_v_20, R1_form_20, R0_st_20, R0_e_20, R0_v_20, R0_form_20, r2_20, r1_20, r0_20, p_20, L_20⟩ : ∃ σ20 : St, CW σ20 h19 ∧ INV σ20 ∧ σ20.rw 3 = tab (fun t => (one.getD t 0 + (i : Int) * two.getD t 0) % (p : Int)) 8 ∧ (σ20.R 2).st = 1 ∧ (σ20.R 2).e = (cm p one 1 + (i : Int) * cm p two 2) % (p : Int) ∧ (σ20.R 2).v = (vv + (i : Int) * ww) % (p : Int) ∧ (σ20.R 2).form = form ∧ (σ20.R 1).st = 1 ∧ (σ20.R 1).e = cm p two 2 ∧ (σ20.R 1).v = ww ∧ (σ20.R 1).form = form ∧ (σ20.R 0).st = 1 ∧ (σ20.R 0).e = cm p one 1 ∧ (σ20.R 0).v = vv ∧ (σ20.R 0).form = form ∧ σ20.rw 2 = form ∧ σ20.rw 1 = two ∧ σ20.rw 0 = one ∧ σ20.p = p ∧ σ20.L.n = n0 := ⟨_, w_19, v_19, (by show tab (fun t => ((σ17.rw 0).getD t 0 + _ * (σ17.rw 1).getD t 0) % (σ17.p : Int)) 8 = _; rw [r0_17, r1_17, p_17]), R2_st_17, R2_e_17, R2_v_17, R2_form_17, R1_st_17, R1_e_17, R1_v_17, R1_form_17, R0_st_17, R0_e_17, R0_v_17, R0_form_17, r2_17, r1_17, r0_17, p_17, L_17⟩
                    have h_one_20 : h19[a_one]? = some (cA 0 one) := (fc19).get h_one_17 (by omega)
                    have h_two_20 : h19[a_two]? = some (cA 0 two) := (fc19).get h_two_17 (by omega)
                    have h_form_20 : h19[a_form]? = some (cA 0 form) := (fc19).get h_form_17 (by omega)
                    have hlen_20 : 70 ≤ h19.length := by rw [fc19.1]; exact hlen_17
                    refine x_pop2 (dT U_L_areJoined 180 rfl) ?_
                    refine x_iload (dT U_L_areJoined 181 rfl) rfl ?_
                    refine x_aload_n (dT U_L_areJoined 182 rfl) rfl ?_
                    refine x_iconst (dT U_L_areJoined 183 rfl) ?_
                    refine x_iconst (dT U_L_areJoined 184 rfl) ?_
                    refine x_iconst (dT U_L_areJoined 185 rfl) ?_
                    refine x_iconst (dT U_L_areJoined 186 rfl) ?_
                    refine x_iload (dT U_L_areJoined 187 rfl) rfl ?_
                    refine x_imul (dT U_L_areJoined 188 rfl) ?_
                    refine x_iadd (dT U_L_areJoined 189 rfl) ?_
                    refine x_iload_n (dT U_L_areJoined 190 rfl) rfl ?_
                    refine x_irem (dT U_L_areJoined 191 rfl) (by unfold xr; omega) (by unfold xr; omega) (by omega) ?_
                    rw [Int.tmod_eq_emod_of_nonneg (by omega)]
                    have hfb := modb (z := 1 + 2 * (i : Int)) (p := (p : Int)) (by omega)
                    have JN := join_ok (f := (i : Int)) R2_st_20 R2_e_20 R2_v_20 R2_form_20 e_l1 e_l2
                    rw [← r3_20] at JN
                    refine x_invokestaticT (rc' := rc + 20 + 40 * n9 + 25) (rs' := rs + 160 + 300 * n9 + 210) (rc2 := 0 + 4) (rs2 := 0 + 24) (As := [_, _, _, _]) (st := _) M_L_fits K_L_276 (dT U_L_areJoined 192 rfl) rfl (by decide) rfl rfl (Nat.le_of_ble_eq_true rfl) rfl (by decide) (Nat.le_of_ble_eq_true rfl) (by first | rfl | omega) (by first | rfl | omega) ?_
                    refine S_L_fits w20 v20 (by first | assumption | (unfold xr; omega)) (by first | assumption | (unfold xr; omega)) (by first | assumption | (unfold xr; omega)) (fun  z8 => absurd (show inb _ _ ∧ inb _ _ from by omega) z8) (fun _ z8 => absurd (show inb _ _ from by have := p_20; omega) z8) (fun _ _ z8 => absurd (show 1 ≤ (σ20.R 2).st from by rw [R2_st_20]; decide) z8) (fun _ _ _ c328 => ?_) (fun _ _ _ c328 => ?_)
                    · refine xRet_some ?_
                      rw [p_20] at c328
                      have P_i : (l1 + (i : Int) * l2) % (p : Int) = 0 := JN.mp c328
                      refine x_lconst (z := 1) (dT U_L_areJoined 193 rfl) rfl ?_
                      refine x_lif_ne (tgt := 340) (dT U_L_areJoined 194 rfl) (dT U_L_areJoined 195 rfl) (by decide) (xrl_of (by unfold xr; omega)) (xrl_of (by unfold xr; omega)) (fun c332 => ?_) (fun c332 => ?_)
                      · exfalso
                        omega
                      · skip
                        refine x_iconst (dT U_L_areJoined 196 rfl) ?_
                        refine x_goto (tgt := 341) (dT U_L_areJoined 197 rfl) (by decide) ?_
                        refine x_iadd (dT U_L_areJoined 199 rfl) ?_
                        refine x_istore (ls' := [some (.ref _), some (.ref _), some (vi _), some (vi _), some (.ref _), some (.ref _), some (.ref _), some (vi _), some (vi _), some (vi _), some (vi _), some (vi _), some (vi _), some (vi _), some (vi _), some (vi _)]) (dT U_L_areJoined 200 rfl) (by decide) rfl ?_
                        refine x_iinc (ls' := [some (.ref _), some (.ref _), some (vi _), some (vi _), some (.ref _), some (.ref _), some (.ref _), some (vi _), some (vi _), some (vi _), some (vi _), some (vi _), some (vi _), some (vi _), some (vi _), some (vi _)]) (dT U_L_areJoined 201 rfl) (by decide) rfl rfl ?_
                        refine x_goto (tgt := 249) (dT U_L_areJoined 202 rfl) (by decide) ?_
                        first
                          | rw [show ((ct (fun x : Nat => (l1 + (x : Int) * l2) % (p : Int) = 0) i : Nat) : Int) + 1 = ((ct (fun x : Nat => (l1 + (x : Int) * l2) % (p : Int) = 0) (i + 1) : Nat) : Int) from by rw [ct_yes P_i]; rfl]
                          | rw [show ((ct (fun x : Nat => (l1 + (x : Int) * l2) % (p : Int) = 0) i : Nat) : Int) + 0 = ((ct (fun x : Nat => (l1 + (x : Int) * l2) % (p : Int) = 0) (i + 1) : Nat) : Int) from by rw [ct_no P_i]; rfl]
                        refine X_room (by omega) (by omega) (x_drop ?_ (ih (i + 1) (by omega) _ _ _ w20 v20 hlen_20 R1_st_20 R1_e_20 R1_v_20 R1_form_20 R0_st_20 R0_e_20 R0_v_20 R0_form_20 r2_20 r1_20 r0_20 p_20 L_20 h_one_20 h_two_20 h_form_20))
                        repeat (first | exact trivial | refine ⟨rfl, ?_⟩ | refine ⟨trivial, ?_⟩)
                    · refine xRet_some ?_
                      rw [p_20] at c328
                      have P_i : ¬ (l1 + (i : Int) * l2) % (p : Int) = 0 := fun z8 => c328 (JN.mpr z8)
                      refine x_lconst (z := 1) (dT U_L_areJoined 193 rfl) rfl ?_
                      refine x_lif_ne (tgt := 340) (dT U_L_areJoined 194 rfl) (dT U_L_areJoined 195 rfl) (by decide) (xrl_of (by unfold xr; omega)) (xrl_of (by unfold xr; omega)) (fun c332 => ?_) (fun c332 => ?_)
                      · skip
                        refine x_iconst (dT U_L_areJoined 198 rfl) ?_
                        refine x_iadd (dT U_L_areJoined 199 rfl) ?_
                        refine x_istore (ls' := [some (.ref _), some (.ref _), some (vi _), some (vi _), some (.ref _), some (.ref _), some (.ref _), some (vi _), some (vi _), some (vi _), some (vi _), some (vi _), some (vi _), some (vi _), some (vi _), some (vi _)]) (dT U_L_areJoined 200 rfl) (by decide) rfl ?_
                        refine x_iinc (ls' := [some (.ref _), some (.ref _), some (vi _), some (vi _), some (.ref _), some (.ref _), some (.ref _), some (vi _), some (vi _), some (vi _), some (vi _), some (vi _), some (vi _), some (vi _), some (vi _), some (vi _)]) (dT U_L_areJoined 201 rfl) (by decide) rfl rfl ?_
                        refine x_goto (tgt := 249) (dT U_L_areJoined 202 rfl) (by decide) ?_
                        first
                          | rw [show ((ct (fun x : Nat => (l1 + (x : Int) * l2) % (p : Int) = 0) i : Nat) : Int) + 1 = ((ct (fun x : Nat => (l1 + (x : Int) * l2) % (p : Int) = 0) (i + 1) : Nat) : Int) from by rw [ct_yes P_i]; rfl]
                          | rw [show ((ct (fun x : Nat => (l1 + (x : Int) * l2) % (p : Int) = 0) i : Nat) : Int) + 0 = ((ct (fun x : Nat => (l1 + (x : Int) * l2) % (p : Int) = 0) (i + 1) : Nat) : Int) from by rw [ct_no P_i]; rfl]
                        refine X_room (by omega) (by omega) (x_drop ?_ (ih (i + 1) (by omega) _ _ _ w20 v20 hlen_20 R1_st_20 R1_e_20 R1_v_20 R1_form_20 R0_st_20 R0_e_20 R0_v_20 R0_form_20 r2_20 r1_20 r0_20 p_20 L_20 h_one_20 h_two_20 h_form_20))
                        repeat (first | exact trivial | refine ⟨rfl, ?_⟩ | refine ⟨trivial, ?_⟩)
                      · exfalso
                        omega
                  · exfalso
                    exact c299 e18
          refine X_room (by omega) (by omega) (x_drop ?_ (L15 p 0 (by omega) _ _ _ w13 v13 hlen_13 R1_st_13 R1_e_13 R1_v_13 R1_form_13 R0_st_13 R0_e_13 R0_v_13 R0_form_13 r2_13 r1_13 r0_13 p_13 L_13 h_one_13 h_two_13 h_form_13))
          repeat (first | exact trivial | refine ⟨rfl, ?_⟩ | refine ⟨trivial, ?_⟩)
        · exfalso
          exact c237 e14
      refine x_iload (dT U_L_areJoined 111 rfl) rfl ?_
      refine x_if_eq (tgt := 213) (dT U_L_areJoined 112 rfl) (by decide) (by unfold xr; omega) (fun c206 => ?_) (fun c206 => ?_)
      · skip
        refine x_iload (dT U_L_areJoined 115 rfl) rfl ?_
        refine x_if_ne (tgt := 222) (dT U_L_areJoined 116 rfl) (by decide) (by unfold xr; omega) (fun c215 => ?_) (fun c215 => ?_)
        · skip
          refine x_iconst (dT U_L_areJoined 119 rfl) ?_
          refine X_room (by omega) (by omega) (x_drop ?_ (M223 _ 0 (by first | rw [if_pos c206] | rw [if_neg (fun z => z c206), if_pos c215] | rw [if_neg (fun z => z c206), if_neg c215])))
          repeat (first | exact trivial | refine ⟨rfl, ?_⟩ | refine ⟨trivial, ?_⟩)
        · skip
          refine x_iload_n (dT U_L_areJoined 117 rfl) rfl ?_
          refine x_goto (tgt := 223) (dT U_L_areJoined 118 rfl) (by decide) ?_
          refine X_room (by omega) (by omega) (x_drop ?_ (M223 _ (p : Int) (by first | rw [if_pos c206] | rw [if_neg (fun z => z c206), if_pos c215] | rw [if_neg (fun z => z c206), if_neg c215])))
          repeat (first | exact trivial | refine ⟨rfl, ?_⟩ | refine ⟨trivial, ?_⟩)
      · skip
        refine x_iconst (dT U_L_areJoined 113 rfl) ?_
        refine x_goto (tgt := 223) (dT U_L_areJoined 114 rfl) (by decide) ?_
        refine X_room (by omega) (by omega) (x_drop ?_ (M223 _ 1 (by first | rw [if_pos c206] | rw [if_neg (fun z => z c206), if_pos c215] | rw [if_neg (fun z => z c206), if_neg c215])))
        repeat (first | exact trivial | refine ⟨rfl, ?_⟩ | refine ⟨trivial, ?_⟩)
    refine x_aload_n (dT U_L_areJoined 35 rfl) rfl ?_
    refine x_sipush (dT U_L_areJoined 36 rfl) (by decide) ?_
    refine x_invokestatic (rc' := rc + 1200) (rs' := rs + 9000) (rc2 := 0 + 0) (rs2 := 0 + 0) (As := [_, _]) (st := _) M_L_cell K_L_221 (dT U_L_areJoined 37 rfl) rfl rfl rfl rfl (Nat.le_of_ble_eq_true rfl) rfl (by decide) (Nat.le_of_ble_eq_true rfl) (by first | rfl | omega) (by first | rfl | omega) ?_
    refine S_L_cell (k := 128) hL (by omega) (fun z70 => ?_)
    refine xRet_some ?_
    refine x_iconst (dT U_L_areJoined 38 rfl) ?_
    refine x_invokestatic (rc' := rc + 1200) (rs' := rs + 9000) (rc2 := 0 + 0) (rs2 := 0 + 0) (As := [_, _]) (st := _) M_L_chosen K_L_225 (dT U_L_areJoined 39 rfl) rfl rfl rfl rfl (Nat.le_of_ble_eq_true rfl) rfl (by decide) (Nat.le_of_ble_eq_true rfl) (by first | rfl | omega) (by first | rfl | omega) ?_
    refine S_L_chosen (by omega) (fun ch2 b_ch2 => ?_)
    refine xRet_some ?_
    refine x_if_ne (tgt := 94) (dT U_L_areJoined 40 rfl) (by decide) (by unfold xr; omega) (fun c77 => ?_) (fun c77 => ?_)
    · skip
      refine x_aload (dT U_L_areJoined 47 rfl) rfl ?_
      refine x_aload (dT U_L_areJoined 48 rfl) rfl ?_
      refine x_iload_n (dT U_L_areJoined 49 rfl) rfl ?_
      refine x_invokestatic (rc' := rc + 1200) (rs' := rs + 9000) (rc2 := 0 + 0) (rs2 := 0 + 0) (As := [_, _, _]) (st := _) M_L_inner K_L_257 (dT U_L_areJoined 50 rfl) rfl rfl rfl rfl (Nat.le_of_ble_eq_true rfl) rfl (by decide) (Nat.le_of_ble_eq_true rfl) (by first | rfl | omega) (by first | rfl | omega) ?_
      refine S_L_inner (by omega) h_form3 (by omega) Fl_form h_two_3 (by omega) Fl_two ?_
      refine xRet_some ?_
      refine X_room (by omega) (by omega) (x_drop ?_ (M102 _ _ (by first | exact b_w0 | exact modb (by omega))))
      repeat (first | exact trivial | refine ⟨rfl, ?_⟩ | refine ⟨trivial, ?_⟩)
    · skip
      refine x_aload_n (dT U_L_areJoined 41 rfl) rfl ?_
      refine x_sipush (dT U_L_areJoined 42 rfl) (by decide) ?_
      refine x_invokestatic (rc' := rc + 1200) (rs' := rs + 9000) (rc2 := 0 + 0) (rs2 := 0 + 0) (As := [_, _]) (st := _) M_L_cell K_L_221 (dT U_L_areJoined 43 rfl) rfl rfl rfl rfl (Nat.le_of_ble_eq_true rfl) rfl (by decide) (Nat.le_of_ble_eq_true rfl) (by first | rfl | omega) (by first | rfl | omega) ?_
      refine S_L_cell (k := 129) hL (by omega) (fun z84 => ?_)
      refine xRet_some ?_
      refine x_iload_n (dT U_L_areJoined 44 rfl) rfl ?_
      refine x_invokestatic (rc' := rc + 1200) (rs' := rs + 9000) (rc2 := 0 + 0) (rs2 := 0 + 0) (As := [_, _]) (st := _) M_L_chosen K_L_225 (dT U_L_areJoined 45 rfl) rfl rfl rfl rfl (Nat.le_of_ble_eq_true rfl) rfl (by decide) (Nat.le_of_ble_eq_true rfl) (by first | rfl | omega) (by first | rfl | omega) ?_
      refine S_L_chosen (by omega) (fun w0 b_w0 => ?_)
      refine xRet_some ?_
      refine x_goto (tgt := 102) (dT U_L_areJoined 46 rfl) (by decide) ?_
      refine X_room (by omega) (by omega) (x_drop ?_ (M102 _ _ (by first | exact b_w0 | exact modb (by omega))))
      repeat (first | exact trivial | refine ⟨rfl, ?_⟩ | refine ⟨trivial, ?_⟩)
  refine x_aload_n (dT U_L_areJoined 18 rfl) rfl ?_
  refine x_bipush (dT U_L_areJoined 19 rfl) (by decide) ?_
  refine x_invokestatic (rc' := rc + 1257) (rs' := rs + 9476) (rc2 := 0 + 0) (rs2 := 0 + 0) (As := [_, _]) (st := _) M_L_cell K_L_221 (dT U_L_areJoined 20 rfl) rfl rfl rfl rfl (Nat.le_of_ble_eq_true rfl) rfl (by decide) (Nat.le_of_ble_eq_true rfl) (by first | rfl | omega) (by first | rfl | omega) ?_
  refine S_L_cell (k := 126) hL (by omega) (fun z33 => ?_)
  refine xRet_some ?_
  refine x_iconst (dT U_L_areJoined 21 rfl) ?_
  refine x_invokestatic (rc' := rc + 1257) (rs' := rs + 9476) (rc2 := 0 + 0) (rs2 := 0 + 0) (As := [_, _]) (st := _) M_L_chosen K_L_225 (dT U_L_areJoined 22 rfl) rfl rfl rfl rfl (Nat.le_of_ble_eq_true rfl) rfl (by decide) (Nat.le_of_ble_eq_true rfl) (by first | rfl | omega) (by first | rfl | omega) ?_
  refine S_L_chosen (by omega) (fun ch1 b_ch1 => ?_)
  refine xRet_some ?_
  refine x_if_ne (tgt := 56) (dT U_L_areJoined 23 rfl) (by decide) (by unfold xr; omega) (fun c40 => ?_) (fun c40 => ?_)
  · skip
    refine x_aload (dT U_L_areJoined 30 rfl) rfl ?_
    refine x_aload (dT U_L_areJoined 31 rfl) rfl ?_
    refine x_iload_n (dT U_L_areJoined 32 rfl) rfl ?_
    refine x_invokestatic (rc' := rc + 1257) (rs' := rs + 9476) (rc2 := 0 + 0) (rs2 := 0 + 0) (As := [_, _, _]) (st := _) M_L_inner K_L_257 (dT U_L_areJoined 33 rfl) rfl rfl rfl rfl (Nat.le_of_ble_eq_true rfl) rfl (by decide) (Nat.le_of_ble_eq_true rfl) (by first | rfl | omega) (by first | rfl | omega) ?_
    refine S_L_inner (by omega) h_form3 (by omega) Fl_form h_one_3 (by omega) Fl_one ?_
    refine xRet_some ?_
    refine X_room (by omega) (by omega) (x_drop ?_ (M64 _ _ (by first | exact b_v0 | exact modb (by omega))))
    repeat (first | exact trivial | refine ⟨rfl, ?_⟩ | refine ⟨trivial, ?_⟩)
  · skip
    refine x_aload_n (dT U_L_areJoined 24 rfl) rfl ?_
    refine x_bipush (dT U_L_areJoined 25 rfl) (by decide) ?_
    refine x_invokestatic (rc' := rc + 1257) (rs' := rs + 9476) (rc2 := 0 + 0) (rs2 := 0 + 0) (As := [_, _]) (st := _) M_L_cell K_L_221 (dT U_L_areJoined 26 rfl) rfl rfl rfl rfl (Nat.le_of_ble_eq_true rfl) rfl (by decide) (Nat.le_of_ble_eq_true rfl) (by first | rfl | omega) (by first | rfl | omega) ?_
    refine S_L_cell (k := 127) hL (by omega) (fun z46 => ?_)
    refine xRet_some ?_
    refine x_iload_n (dT U_L_areJoined 27 rfl) rfl ?_
    refine x_invokestatic (rc' := rc + 1257) (rs' := rs + 9476) (rc2 := 0 + 0) (rs2 := 0 + 0) (As := [_, _]) (st := _) M_L_chosen K_L_225 (dT U_L_areJoined 28 rfl) rfl rfl rfl rfl (Nat.le_of_ble_eq_true rfl) rfl (by decide) (Nat.le_of_ble_eq_true rfl) (by first | rfl | omega) (by first | rfl | omega) ?_
    refine S_L_chosen (by omega) (fun v0 b_v0 => ?_)
    refine xRet_some ?_
    refine x_goto (tgt := 64) (dT U_L_areJoined 29 rfl) (by decide) ?_
    refine X_room (by omega) (by omega) (x_drop ?_ (M64 _ _ (by first | exact b_v0 | exact modb (by omega))))
    repeat (first | exact trivial | refine ⟨rfl, ?_⟩ | refine ⟨trivial, ?_⟩)

