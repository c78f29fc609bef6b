set_option maxRecDepth 20000 in
set_option maxHeartbeats 60000000 in
theorem S_L_areSimulated {G : xG} {d rc rs : Nat} {ex : Bool} {h : xH} {Q : xQ} {σ : St} {p n0 : Nat} (hL : gL G < 100000) (w : CW σ h) (v : INV σ) (hpp : σ.p = p) (hn0 : σ.L.n = n0) (hlen : 70 ≤ h.length) (kk : ∀ (σ2 : St) (h2 : xH) (ex2 : Bool), CW σ2 h2 → INV σ2 → σ2.p = p → σ2.L.n = n0 → 70 ≤ h2.length → Q (.inl (some (vi 1))) ex2 h2) : X G m_L_areSimulated (d + 10) (rc + 1800) (rs + 12800) ex 0 (xe m_L_areSimulated.2.2.1 [.ref 3, .ref 0, vi (p : Int), vi (gq p : Int)]) [] h Q := by
  show X G m_L_areSimulated _ _ _ _ 0 [some (.ref 3), some (.ref 0), some (vi (p : Int)), some (vi (gq p : Int)), none, none, none, none, none, none, none] [] h Q
  have hpr : p ∈ PR := hpp ▸ v.p
  have hp := PRb hpr
  have hq := gq_b hpr
  refine x_aload_n (dT U_L_areSimulated 0 rfl) rfl ?_
  refine x_bipush (dT U_L_areSimulated 1 rfl) (by decide) ?_
  refine x_iload_n (dT U_L_areSimulated 2 rfl) rfl ?_
  refine x_bipush (dT U_L_areSimulated 3 rfl) (by decide) ?_
  refine x_invokestatic (rc' := rc + 1799) (rs' := rs + 12792) (rc2 := 0 + 1) (rs2 := 0 + 8) (As := [_, _, _, _]) (st := _) M_L_made K_L_234 (dT U_L_areSimulated 4 rfl) rfl rfl rfl rfl (Nat.le_of_ble_eq_true rfl) rfl (by decide) (Nat.le_of_ble_eq_true rfl) (by first | rfl | omega) (by first | rfl | omega) ?_
  refine S_L_made (f := 100) (m := 8) hL (by have := hlen; omega) (by omega) (by omega) (by omega) (fun h1 a_answer answer u1 ga1 ge1 h_answer1 Fl_answer Z_answer => ?_)
  refine xRet_some ?_
  have g_answer : 70 ≤ a_answer := by have := hlen; omega
  have w1 := (w).up u1
  have hlen_1 : 70 ≤ h1.length := by have := u1.len; have := hlen; omega
  refine x_astore (ls' := [some (.ref _), some (.ref _), some (vi _), some (vi _), some (.ref _), none, none, none, none, none, none]) (dT U_L_areSimulated 5 rfl) (by decide) rfl ?_
  refine x_aload_n (dT U_L_areSimulated 6 rfl) rfl ?_
  refine x_bipush (dT U_L_areSimulated 7 rfl) (by decide) ?_
  refine x_iload_n (dT U_L_areSimulated 8 rfl) rfl ?_
  refine x_iconst (dT U_L_areSimulated 9 rfl) ?_
  refine x_invokestatic (rc' := rc + 1798) (rs' := rs + 12784) (rc2 := 0 + 1) (rs2 := 0 + 8) (As := [_, _, _, _]) (st := _) M_L_made K_L_234 (dT U_L_areSimulated 10 rfl) rfl rfl rfl rfl (Nat.le_of_ble_eq_true rfl) rfl (by decide) (Nat.le_of_ble_eq_true rfl) (by first | rfl | omega) (by first | rfl | omega) ?_
  refine S_L_made (f := 108) (m := 3) hL (by have := hlen_1; omega) (by omega) (by omega) (by omega) (fun h2 a_form form u2 ga2 ge2 h_form2 Fl_form Z_form => ?_)
  refine xRet_some ?_
  have g_form : 70 ≤ a_form := by have := hlen_1; omega
  have w2 := (w1).up u2
  have h_answer_2 := u2 _ _ h_answer1
  have ne_form_answer : a_form ≠ a_answer := by have := (List.getElem?_eq_some_iff.mp h_answer1).1; omega
  have hlen_2 : 70 ≤ h2.length := by have := u2.len; have := hlen_1; omega
  refine x_astore (ls' := [some (.ref _), some (.ref _), some (vi _), some (vi _), some (.ref _), some (.ref _), none, none, none, none, none]) (dT U_L_areSimulated 11 rfl) (by decide) rfl ?_
  refine x_aload_n (dT U_L_areSimulated 12 rfl) rfl ?_
  refine x_iconst (dT U_L_areSimulated 13 rfl) ?_
  refine x_invokestaticT (rc' := rc + 1797) (rs' := rs + 12778) (rc2 := 0 + 1) (rs2 := 0 + 6) (As := [_, _]) (st := _) M_L_base K_L_215 (dT U_L_areSimulated 14 rfl) rfl (by decide) rfl rfl (Nat.le_of_ble_eq_true rfl) rfl (by decide) (Nat.le_of_ble_eq_true rfl) (by first | rfl | omega) (by first | rfl | omega) ?_
  refine S_L_base w2 v (by first | assumption | (unfold xr; omega)) (fun  z8 => absurd (show inb _ _ from by omega) z8) (fun _ z3 e3 hz3 => ?_)
  refine xRet_some ?_
  have e3 : z3 = MM p (bs p 0) := by
    simp only [tn0, tn1, tn2, tn3, tn4, tn5, tn6, tn7, tn8, Int.toNat_natCast, hpp] at e3; exact e3
  refine x_l2i (dT U_L_areSimulated 15 rfl) ?_
  refine x_aload_n (dT U_L_areSimulated 16 rfl) rfl ?_
  refine x_bipush (dT U_L_areSimulated 17 rfl) (by decide) ?_
  refine x_invokestatic (rc' := rc + 1797) (rs' := rs + 12778) (rc2 := 0 + 0) (rs2 := 0 + 0) (As := [_, _]) (st := _) M_L_cell K_L_221 (dT U_L_areSimulated 18 rfl) rfl rfl rfl rfl (Nat.le_of_ble_eq_true rfl) rfl (by decide) (Nat.le_of_ble_eq_true rfl) (by first | rfl | omega) (by first | rfl | omega) ?_
  refine S_L_cell (k := 111) hL (by omega) (fun z30 => ?_)
  refine xRet_some ?_
  refine x_iload_n (dT U_L_areSimulated 19 rfl) rfl ?_
  refine x_invokestatic (rc' := rc + 1797) (rs' := rs + 12778) (rc2 := 0 + 0) (rs2 := 0 + 0) (As := [_, _]) (st := _) M_L_chosen K_L_225 (dT U_L_areSimulated 20 rfl) rfl rfl rfl rfl (Nat.le_of_ble_eq_true rfl) rfl (by decide) (Nat.le_of_ble_eq_true rfl) (by first | rfl | omega) (by first | rfl | omega) ?_
  refine S_L_chosen (by omega) (fun x0 b_x0 => ?_)
  refine xRet_some ?_
  refine x_iload_n (dT U_L_areSimulated 21 rfl) rfl ?_
  refine x_invokestatic (rc' := rc + 1797) (rs' := rs + 12778) (rc2 := 0 + 0) (rs2 := 0 + 0) (As := [_, _, _]) (st := _) M_L_power K_L_218 (dT U_L_areSimulated 22 rfl) rfl rfl rfl rfl (Nat.le_of_ble_eq_true rfl) rfl (by decide) (Nat.le_of_ble_eq_true rfl) (by omega) (by omega) ?_
  rw [e3]
  have hb0 := bs_b hpr (i := 0) (by omega)
  refine S_L_powM hpr (by omega) (by omega) ?_
  obtain ⟨E, e_E⟩ : ∃ e : Int, (bs p 0 : Int) * x0 % (p : Int) = e := ⟨_, rfl⟩
  rw [e_E]
  have hE : 0 ≤ E ∧ E < (p : Int) := by rw [← e_E]; exact modb (by omega)
  obtain ⟨y, e_y⟩ : ∃ y : Int, MM p E = y := ⟨_, rfl⟩
  rw [e_y]
  have hz_y : xr y := by rw [← e_y]; exact xr_MM hpr
  refine xRet_some ?_
  refine x_istore (ls' := [some (.ref _), some (.ref _), some (vi _), some (vi _), some (.ref _), some (.ref _), some (vi _), none, none, none, none]) (dT U_L_areSimulated 23 rfl) (by decide) rfl ?_
  refine x_aload_n (dT U_L_areSimulated 24 rfl) rfl ?_
  refine x_bipush (dT U_L_areSimulated 25 rfl) (by decide) ?_
  refine x_invokestatic (rc' := rc + 1797) (rs' := rs + 12778) (rc2 := 0 + 0) (rs2 := 0 + 0) (As := [_, _]) (st := _) M_L_cell K_L_221 (dT U_L_areSimulated 26 rfl) rfl rfl rfl rfl (Nat.le_of_ble_eq_true rfl) rfl (by decide) (Nat.le_of_ble_eq_true rfl) (by first | rfl | omega) (by first | rfl | omega) ?_
  refine S_L_cell (k := 112) hL (by omega) (fun z46 => ?_)
  refine xRet_some ?_
  refine x_iload_n (dT U_L_areSimulated 27 rfl) rfl ?_
  refine x_invokestatic (rc' := rc + 1797) (rs' := rs + 12778) (rc2 := 0 + 0) (rs2 := 0 + 0) (As := [_, _]) (st := _) M_L_chosen K_L_225 (dT U_L_areSimulated 28 rfl) rfl rfl rfl rfl (Nat.le_of_ble_eq_true rfl) rfl (by decide) (Nat.le_of_ble_eq_true rfl) (by first | rfl | omega) (by first | rfl | omega) ?_
  refine S_L_chosen (by omega) (fun vv b_vv => ?_)
  refine xRet_some ?_
  refine x_istore (ls' := [some (.ref _), some (.ref _), some (vi _), some (vi _), some (.ref _), some (.ref _), some (vi _), some (vi _), none, none, none]) (dT U_L_areSimulated 29 rfl) (by decide) rfl ?_
  refine x_aload_n (dT U_L_areSimulated 30 rfl) rfl ?_
  refine x_iconst (dT U_L_areSimulated 31 rfl) ?_
  refine x_aload (dT U_L_areSimulated 32 rfl) rfl ?_
  refine x_invokestatic (rc' := rc + 1796) (rs' := rs + 12772) (rc2 := 0 + 1) (rs2 := 0 + 6) (As := [_, _, _]) (st := _) M_L_lays K_L_238 (dT U_L_areSimulated 33 rfl) rfl rfl rfl rfl (Nat.le_of_ble_eq_true rfl) rfl (by decide) (Nat.le_of_ble_eq_true rfl) (by first | rfl | omega) (by first | rfl | omega) ?_
  refine S_L_lays w2 v (by omega) h_answer_2 (by omega) (by rw [hpp]; exact Fl_answer) (fun z4 hz4 h4 fc4 w_4 v_4 => ?_)
  refine xRet_some ?_
  obtain ⟨σ5, w5, v5, r0_5, p_5, L_5⟩ : ∃ σ5 : St, CW σ5 h4 ∧ INV σ5 ∧ σ5.rw 0 = answer ∧ σ5.p = p ∧ σ5.L.n = n0 := ⟨_, w_4, v_4, rfl, hpp, hn0⟩
  have h_answer_5 : h4[a_answer]? = some (cA 0 answer) := (fc4).get h_answer_2 (by omega)
  have h_form_5 : h4[a_form]? = some (cA 0 form) := (fc4).get h_form2 (by omega)
  have hlen_5 : 70 ≤ h4.length := by rw [fc4.1]; exact hlen_2
  refine x_pop2 (dT U_L_areSimulated 34 rfl) ?_
  refine x_aload_n (dT U_L_areSimulated 35 rfl) rfl ?_
  refine x_iconst (dT U_L_areSimulated 36 rfl) ?_
  refine x_aload (dT U_L_areSimulated 37 rfl) rfl ?_
  refine x_invokestatic (rc' := rc + 1795) (rs' := rs + 12766) (rc2 := 0 + 1) (rs2 := 0 + 6) (As := [_, _, _]) (st := _) M_L_lays K_L_238 (dT U_L_areSimulated 38 rfl) rfl rfl rfl rfl (Nat.le_of_ble_eq_true rfl) rfl (by decide) (Nat.le_of_ble_eq_true rfl) (by first | rfl | omega) (by first | rfl | omega) ?_
  refine S_L_lays w5 v5 (by omega) h_form_5 (by omega) (by rw [p_5]; exact Fl_form) (fun z6 hz6 h6 fc6 w_6 v_6 => ?_)
  refine xRet_some ?_
  obtain ⟨σ7, w7, v7, r1_7, r0_7, p_7, L_7⟩ : ∃ σ7 : St, CW σ7 h6 ∧ INV σ7 ∧ σ7.rw 1 = form ∧ σ7.rw 0 = answer ∧ σ7.p = p ∧ σ7.L.n = n0 := ⟨_, w_6, v_6, rfl, r0_5, p_5, L_5⟩
  have h_answer_7 : h6[a_answer]? = some (cA 0 answer) := (fc6).get h_answer_5 (by omega)
  have h_form_7 : h6[a_form]? = some (cA 0 form) := (fc6).get h_form_5 (by omega)
  have hlen_7 : 70 ≤ h6.length := by rw [fc6.1]; exact hlen_5
  refine x_pop2 (dT U_L_areSimulated 39 rfl) ?_
  refine x_iconst (dT U_L_areSimulated 40 rfl) ?_
  refine x_istore (ls' := [some (.ref _), some (.ref _), some (vi _), some (vi _), some (.ref _), some (.ref _), some (vi _), some (vi _), some (vi _), none, none]) (dT U_L_areSimulated 41 rfl) (by decide) rfl ?_
  have L8 : ∀ (n9 i : Nat), i + n9 = p → ∀ (h8 : xH) (ex8 : Bool) (σ8 : St), CW σ8 h8 → INV σ8 → 70 ≤ h8.length → σ8.rw 1 = form → σ8.rw 0 = answer → σ8.p = p → σ8.L.n = n0 → (i = 0 ∨ ((σ8.R 3).st = 4 ∧ (σ8.R 3).form = form)) → h8[a_answer]? = some (cA 0 answer) → h8[a_form]? = some (cA 0 form) → X G m_L_areSimulated (d + 10) (rc + 300 + 60 * n9) (rs + 2400 + 400 * n9) ex8 74 [some (.ref 3), some (.ref 0), some (vi (p : Int)), some (vi (gq p : Int)), some (.ref a_answer), some (.ref a_form), some (vi y), some (vi vv), some (vi (i : Int)), none, none] [] h8 Q := by
    intro n9
    induction n9 with
    | zero =>
      intro i hi9 h8 ex8 σ8 w8 v8 hlen_8 r1_8 r0_8 p_8 L_8 J_8 h_answer_8 h_form_8
      refine x_iload (dT U_L_areSimulated 42 rfl) rfl ?_
      refine x_iload_n (dT U_L_areSimulated 43 rfl) rfl ?_
      refine x_icmp_ge (tgt := 209) (dT U_L_areSimulated 44 rfl) (by decide) (by first | assumption | (unfold xr; omega)) (by unfold xr; omega) (fun c77 => ?_) (fun c77 => ?_)
      · skip
        have J3 := J_8.resolve_left (by omega)
        have M2 : ∀ (exq : Bool), X G m_L_areSimulated (d + 10) (rc + 200) (rs + 1600) exq 255 [some (.ref 3), some (.ref 0), some (vi (p : Int)), some (vi (gq p : Int)), some (.ref a_answer), some (.ref a_form), some (vi y), some (vi vv), none, none, none] [] h8 Q := by
          intro exq
          refine x_aload_n (dT U_L_areSimulated 150 rfl) rfl ?_
          refine x_iconst (dT U_L_areSimulated 151 rfl) ?_
          refine x_bipush (dT U_L_areSimulated 152 rfl) (by decide) ?_
          refine x_newL (rc' := rc + 199) (rs' := rs + 1592) 8 (by have := hlen_8; omega) (dT U_L_areSimulated 153 rfl) rfl (by omega) (by omega) (by omega) (fun h9 a_nul u9 ga9 ge9 h_nul9 => ?_)
          have Fl_nul : Fl (p : Int) (List.replicate 8 0) := Fl_0 (by omega)
          have g_nul : 70 ≤ a_nul := by have := hlen_8; omega
          have w9 := (w8).up u9
          have h_answer_9 := u9 _ _ h_answer_8
          have ne_nul_answer : a_nul ≠ a_answer := by have := (List.getElem?_eq_some_iff.mp h_answer_8).1; omega
          have h_form_9 := u9 _ _ h_form_8
          have ne_nul_form : a_nul ≠ a_form := by have := (List.getElem?_eq_some_iff.mp h_form_8).1; omega
          have hlen_9 : 70 ≤ h9.length := by have := u9.len; have := hlen_8; omega
          refine x_invokestatic (rc' := rc + 198) (rs' := rs + 1586) (rc2 := 0 + 1) (rs2 := 0 + 6) (As := [_, _, _]) (st := _) M_L_lays K_L_238 (dT U_L_areSimulated 154 rfl) rfl rfl rfl rfl (Nat.le_of_ble_eq_true rfl) rfl (by decide) (Nat.le_of_ble_eq_true rfl) (by first | rfl | omega) (by first | rfl | omega) ?_
          refine S_L_lays w9 v8 (by omega) h_nul9 (by omega) (by rw [p_8]; exact Fl_nul) (fun z10 hz10 h10 fc10 w_10 v_10 => ?_)
          refine xRet_some ?_
          obtain ⟨σ11, w11, v11, r1_11, r0_11, p_11, L_11, R3_st_11, R3_form_11⟩ : ∃ σ11 : St, CW σ11 h10 ∧ INV σ11 ∧ σ11.rw 1 = (List.replicate 8 0) ∧ σ11.rw 0 = answer ∧ σ11.p = p ∧ σ11.L.n = n0 ∧ (σ11.R 3).st = 4 ∧ (σ11.R 3).form = form := ⟨_, w_10, v_10, rfl, r0_8, p_8, L_8, J3.1, J3.2⟩
          have h_answer_11 : h10[a_answer]? = some (cA 0 answer) := (fc10).get h_answer_9 (by omega)
          have h_form_11 : h10[a_form]? = some (cA 0 form) := (fc10).get h_form_9 (by omega)
          have h_nul_11 : h10[a_nul]? = some (cA 0 (List.replicate 8 0)) := (fc10).get h_nul9 (by omega)
          have hlen_11 : 70 ≤ h10.length := by rw [fc10.1]; exact hlen_9
          refine x_pop2 (dT U_L_areSimulated 155 rfl) ?_
          refine x_aload_n (dT U_L_areSimulated 156 rfl) rfl ?_
          refine x_iconst (dT U_L_areSimulated 157 rfl) ?_
          refine x_iload (dT U_L_areSimulated 158 rfl) rfl ?_
          refine x_iconst (dT U_L_areSimulated 159 rfl) ?_
          refine x_iconst (dT U_L_areSimulated 160 rfl) ?_
          refine x_aload_n (dT U_L_areSimulated 161 rfl) rfl ?_
          refine x_bipush (dT U_L_areSimulated 162 rfl) (by decide) ?_
          refine x_invokestatic (rc' := rc + 198) (rs' := rs + 1586) (rc2 := 0 + 0) (rs2 := 0 + 0) (As := [_, _]) (st := _) M_L_cell K_L_221 (dT U_L_areSimulated 163 rfl) rfl rfl rfl rfl (Nat.le_of_ble_eq_true rfl) rfl (by decide) (Nat.le_of_ble_eq_true rfl) (by first | rfl | omega) (by first | rfl | omega) ?_
          refine S_L_cell (k := 113) hL (by omega) (fun z274 => ?_)
          refine xRet_some ?_
          refine x_iload_n (dT U_L_areSimulated 164 rfl) rfl ?_
          refine x_iconst (dT U_L_areSimulated 165 rfl) ?_
          refine x_isub (dT U_L_areSimulated 166 rfl) ?_
          refine x_invokestatic (rc' := rc + 198) (rs' := rs + 1586) (rc2 := 0 + 0) (rs2 := 0 + 0) (As := [_, _]) (st := _) M_L_chosen K_L_225 (dT U_L_areSimulated 167 rfl) rfl rfl rfl rfl (Nat.le_of_ble_eq_true rfl) rfl (by decide) (Nat.le_of_ble_eq_true rfl) (by first | rfl | omega) (by first | rfl | omega) ?_
          refine S_L_chosen (by omega) (fun ra b_ra => ?_)
          refine xRet_some ?_
          refine x_iadd (dT U_L_areSimulated 168 rfl) ?_
          refine x_invokestaticT (rc' := rc + 194) (rs' := rs + 1562) (rc2 := 0 + 4) (rs2 := 0 + 24) (As := [_, _, _, _, _]) (st := _) M_L_state K_L_261 (dT U_L_areSimulated 169 rfl) rfl (by decide) rfl rfl (Nat.le_of_ble_eq_true rfl) rfl (by decide) (Nat.le_of_ble_eq_true rfl) (by first | rfl | omega) (by first | rfl | omega) ?_
          refine S_L_state w11 v11 (by first | assumption | (unfold xr; omega)) (by first | assumption | (unfold xr; omega)) (by first | assumption | (unfold xr; omega)) (by first | assumption | (unfold xr; omega)) (fun  z8 => absurd (show inb _ _ ∧ inb _ _ from by omega) z8) (fun _ z8 => absurd (show _ ∧ inb _ _ from ⟨by rw [p_11, ← e_y, exI_MM hpr hE]; omega, by have := p_11; omega⟩) z8) (fun _ _ z12 e12 hz12 h12 fc12 w_12 v_12 => ?_)
          refine xRet_some ?_
          have e12 : z12 = y := by
            exact e12
          obtain ⟨σ13, w13, v13, R3_st_13, R3_e_13, R3_v_13, R3_form_13, r1_13, r0_13, p_13, L_13⟩ : ∃ σ13 : St, CW σ13 h12 ∧ INV σ13 ∧ (σ13.R 3).st = 1 ∧ (σ13.R 3).e = E ∧ (σ13.R 3).v = 1 + ra ∧ (σ13.R 3).form = (List.replicate 8 0) ∧ σ13.rw 1 = (List.replicate 8 0) ∧ σ13.rw 0 = answer ∧ σ13.p = p ∧ σ13.L.n = n0 := ⟨_, w_12, v_12, rfl, (by show exI σ11.p y = _; rw [p_11, ← e_y, exI_MM hpr hE]), rfl, r1_11, r1_11, r0_11, p_11, L_11⟩
          have h_answer_13 : h12[a_answer]? = some (cA 0 answer) := (fc12).get h_answer_11 (by omega)
          have h_form_13 : h12[a_form]? = some (cA 0 form) := (fc12).get h_form_11 (by omega)
          have h_nul_13 : h12[a_nul]? = some (cA 0 (List.replicate 8 0)) := (fc12).get h_nul_11 (by omega)
          have hlen_13 : 70 ≤ h12.length := by rw [fc12.1]; exact hlen_11
          refine x_pop2 (dT U_L_areSimulated 170 rfl) ?_
          refine x_aload_n (dT U_L_areSimulated 171 rfl) rfl ?_
          refine x_bipush (dT U_L_areSimulated 172 rfl) (by decide) ?_
          refine x_invokestatic (rc' := rc + 194) (rs' := rs + 1562) (rc2 := 0 + 0) (rs2 := 0 + 0) (As := [_, _]) (st := _) M_L_cell K_L_221 (dT U_L_areSimulated 173 rfl) rfl rfl rfl rfl (Nat.le_of_ble_eq_true rfl) rfl (by decide) (Nat.le_of_ble_eq_true rfl) (by first | rfl | omega) (by first | rfl | omega) ?_
          refine S_L_cell (k := 114) hL (by omega) (fun z291 => ?_)
          refine xRet_some ?_
          refine x_iload_n (dT U_L_areSimulated 174 rfl) rfl ?_
          refine x_invokestatic (rc' := rc + 194) (rs' := rs + 1562) (rc2 := 0 + 0) (rs2 := 0 + 0) (As := [_, _]) (st := _) M_L_chosen K_L_225 (dT U_L_areSimulated 175 rfl) rfl rfl rfl rfl (Nat.le_of_ble_eq_true rfl) rfl (by decide) (Nat.le_of_ble_eq_true rfl) (by first | rfl | omega) (by first | rfl | omega) ?_
          refine S_L_chosen (by omega) (fun wq_ b_wq_ => ?_)
          refine xRet_some ?_
          refine x_istore (ls' := [some (.ref _), some (.ref _), some (vi _), some (vi _), some (.ref _), some (.ref _), some (vi _), some (vi _), none, some (vi _), none]) (dT U_L_areSimulated 176 rfl) (by decide) rfl ?_
          refine x_aload_n (dT U_L_areSimulated 177 rfl) rfl ?_
          refine x_iconst (dT U_L_areSimulated 178 rfl) ?_
          refine x_iconst (dT U_L_areSimulated 179 rfl) ?_
          refine x_iload (dT U_L_areSimulated 180 rfl) rfl ?_
          refine x_invokestaticT (rc' := rc + 190) (rs' := rs + 1538) (rc2 := 0 + 4) (rs2 := 0 + 24) (As := [_, _, _, _]) (st := _) M_L_say K_L_286 (dT U_L_areSimulated 181 rfl) rfl (by decide) rfl rfl (Nat.le_of_ble_eq_true rfl) rfl (by decide) (Nat.le_of_ble_eq_true rfl) (by first | rfl | omega) (by first | rfl | omega) ?_
          refine S_L_say w13 v13 (by first | assumption | (unfold xr; omega)) (by first | assumption | (unfold xr; omega)) (by first | assumption | (unfold xr; omega)) (fun  z8 => absurd (show inb _ _ from by omega) z8) (fun _ z8 => absurd (show _ ∧ inb _ _ from ⟨by rw [p_13, exI_one hpr]; decide, by have := p_13; omega⟩) z8) (fun _ _ z8 => absurd (R3_st_13) z8) (fun _ _ _ z14 e14 hz14 h14 fc14 w_14 v_14 => ?_)
          refine xRet_some ?_
          obtain ⟨σ15, w15, v15, R3_st_15, R3_fa_15, R3_w_15, R3_e_15, R3_v_15, R3_form_15, r1_15, r0_15, p_15, L_15⟩ : ∃ σ15 : St, CW σ15 h14 ∧ INV σ15 ∧ (σ15.R 3).st = 2 ∧ (σ15.R 3).fa = 0 ∧ (σ15.R 3).w = wq_ ∧ (σ15.R 3).e = E ∧ (σ15.R 3).v = 1 + ra ∧ (σ15.R 3).form = (List.replicate 8 0) ∧ σ15.rw 1 = (List.replicate 8 0) ∧ σ15.rw 0 = answer ∧ σ15.p = p ∧ σ15.L.n = n0 := ⟨_, w_14, v_14, rfl, (by show exI σ13.p 1 = _; rw [p_13, exI_one hpr]), rfl, R3_e_13, R3_v_13, R3_form_13, r1_13, r0_13, p_13, L_13⟩
          have h_answer_15 : h14[a_answer]? = some (cA 0 answer) := (fc14).get h_answer_13 (by omega)
          have h_form_15 : h14[a_form]? = some (cA 0 form) := (fc14).get h_form_13 (by omega)
          have h_nul_15 : h14[a_nul]? = some (cA 0 (List.replicate 8 0)) := (fc14).get h_nul_13 (by omega)
          have hlen_15 : 70 ≤ h14.length := by rw [fc14.1]; exact hlen_13
          refine x_pop2 (dT U_L_areSimulated 182 rfl) ?_
          refine x_aload_n (dT U_L_areSimulated 183 rfl) rfl ?_
          refine x_iconst (dT U_L_areSimulated 184 rfl) ?_
          refine x_invokestaticT (rc' := rc + 188) (rs' := rs + 1526) (rc2 := 0 + 2) (rs2 := 0 + 12) (As := [_, _]) (st := _) M_L_challenges K_L_295 (dT U_L_areSimulated 185 rfl) rfl (by decide) rfl rfl (Nat.le_of_ble_eq_true rfl) rfl (by decide) (Nat.le_of_ble_eq_true rfl) (by first | rfl | omega) (by first | rfl | omega) ?_
          refine S_L_challenges w15 v15 (by first | assumption | (unfold xr; omega)) (fun  z8 => absurd (show inb _ _ from by omega) z8) (fun _ z8 => absurd (show 2 ≤ (σ15.R 3).st from by rw [R3_st_15]; decide) z8) (fun _ _ z16 e16 hz16 => ?_)
          refine xRet_some ?_
          have e16 : z16 = 1 := by
            rw [e16]
            show answ σ15.p (σ15.R 3) = _
            unfold answ
            rw [R3_form_15, p_15, if_pos dg_rep]
            show ((ct (fun x : Nat => ((σ15.R 3).w + (x : Int) * (σ15.R 3).v) % (p : Int) = 0) p : Nat) : Int) = _
            rw [R3_w_15, R3_v_15, ct_lin1 hpr (by omega) (by omega)]
            rfl
          refine x_lconst (z := 1) (dT U_L_areSimulated 186 rfl) rfl ?_
          refine x_lif_eq (tgt := 321) (dT U_L_areSimulated 187 rfl) (dT U_L_areSimulated 188 rfl) (by decide) (xrl_of hz16) (xrl_of (by unfold xr; omega)) (fun c315 => ?_) (fun c315 => ?_)
          · skip
            refine x_aload_n (dT U_L_areSimulated 191 rfl) rfl ?_
            refine x_iconst (dT U_L_areSimulated 192 rfl) ?_
            refine x_iload (dT U_L_areSimulated 193 rfl) rfl ?_
            refine x_iconst (dT U_L_areSimulated 194 rfl) ?_
            refine x_iconst (dT U_L_areSimulated 195 rfl) ?_
            refine x_invokestaticT (rc' := rc + 184) (rs' := rs + 1502) (rc2 := 0 + 4) (rs2 := 0 + 24) (As := [_, _, _, _, _]) (st := _) M_L_state K_L_261 (dT U_L_areSimulated 196 rfl) rfl (by decide) rfl rfl (Nat.le_of_ble_eq_true rfl) rfl (by decide) (Nat.le_of_ble_eq_true rfl) (by first | rfl | omega) (by first | rfl | omega) ?_
            refine S_L_state w15 v15 (by first | assumption | (unfold xr; omega)) (by first | assumption | (unfold xr; omega)) (by first | assumption | (unfold xr; omega)) (by first | assumption | (unfold xr; omega)) (fun  z8 => absurd (show inb _ _ ∧ inb _ _ from by omega) z8) (fun _ z8 => absurd (show _ ∧ inb _ _ from ⟨by rw [p_15, ← e_y, exI_MM hpr hE]; omega, by have := p_15; omega⟩) z8) (fun _ _ z17 e17 hz17 h17 fc17 w_17 v_17 => ?_)
            refine xRet_some ?_
            have e17 : z17 = y := by
              exact e17
            obtain ⟨σ18, w18, v18, R3_st_18, R3_e_18, R3_v_18, R3_form_18, r1_18, r0_18, p_18, L_18⟩ : ∃ σ18 : St, CW σ18 h17 ∧ INV σ18 ∧ (σ18.R 3).st = 1 ∧ (σ18.R 3).e = E ∧ (σ18.R 3).v = 0 ∧ (σ18.R 3).form = (List.replicate 8 0) ∧ σ18.rw 1 = (List.replicate 8 0) ∧ σ18.rw 0 = answer ∧ σ18.p = p ∧ σ18.L.n = n0 := ⟨_, w_17, v_17, rfl, (by show exI σ15.p y = _; rw [p_15, ← e_y, exI_MM hpr hE]), rfl, r1_15, r1_15, r0_15, p_15, L_15⟩
            have h_answer_18 : h17[a_answer]? = some (cA 0 answer) := (fc17).get h_answer_15 (by omega)
            have h_form_18 : h17[a_form]? = some (cA 0 form) := (fc17).get h_form_15 (by omega)
            have h_nul_18 : h17[a_nul]? = some (cA 0 (List.replicate 8 0)) := (fc17).get h_nul_15 (by omega)
            have hlen_18 : 70 ≤ h17.length := by rw [fc17.1]; exact hlen_15
            refine x_pop2 (dT U_L_areSimulated 197 rfl) ?_
            refine x_aload_n (dT U_L_areSimulated 198 rfl) rfl ?_
            refine x_iconst (dT U_L_areSimulated 199 rfl) ?_
            refine x_iconst (dT U_L_areSimulated 200 rfl) ?_
            refine x_iload (dT U_L_areSimulated 201 rfl) rfl ?_
            refine x_invokestaticT (rc' := rc + 180) (rs' := rs + 1478) (rc2 := 0 + 4) (rs2 := 0 + 24) (As := [_, _, _, _]) (st := _) M_L_say K_L_286 (dT U_L_areSimulated 202 rfl) rfl (by decide) rfl rfl (Nat.le_of_ble_eq_true rfl) rfl (by decide) (Nat.le_of_ble_eq_true rfl) (by first | rfl | omega) (by first | rfl | omega) ?_
            refine S_L_say w18 v18 (by first | assumption | (unfold xr; omega)) (by first | assumption | (unfold xr; omega)) (by first | assumption | (unfold xr; omega)) (fun  z8 => absurd (show inb _ _ from by omega) z8) (fun _ z8 => absurd (show _ ∧ inb _ _ from ⟨by rw [p_18, exI_one hpr]; decide, by have := p_18; omega⟩) z8) (fun _ _ z8 => absurd (R3_st_18) z8) (fun _ _ _ z19 e19 hz19 h19 fc19 w_19 v_19 => ?_)
            refine xRet_some ?_
            obtain ⟨σ20, w20, v20, R3_st_20, R3_fa_20, R3_w_20, R3_e_20, R3_v_20, R3_form_20, r1_20, r0_20, p_20, L_20⟩ : ∃ σ20 : St, CW σ20 h19 ∧ INV σ20 ∧ (σ20.R 3).st = 2 ∧ (σ20.R 3).fa = 0 ∧ (σ20.R 3).w = wq_ ∧ (σ20.R 3).e = E ∧ (σ20.R 3).v = 0 ∧ (σ20.R 3).form = (List.replicate 8 0) ∧ σ20.rw 1 = (List.replicate 8 0) ∧ σ20.rw 0 = answer ∧ σ20.p = p ∧ σ20.L.n = n0 := ⟨_, w_19, v_19, rfl, (by show exI σ18.p 1 = _; rw [p_18, exI_one hpr]), rfl, R3_e_18, R3_v_18, R3_form_18, r1_18, r0_18, p_18, L_18⟩
            have h_answer_20 : h19[a_answer]? = some (cA 0 answer) := (fc19).get h_answer_18 (by omega)
            have h_form_20 : h19[a_form]? = some (cA 0 form) := (fc19).get h_form_18 (by omega)
            have h_nul_20 : h19[a_nul]? = some (cA 0 (List.replicate 8 0)) := (fc19).get h_nul_18 (by omega)
            have hlen_20 : 70 ≤ h19.length := by rw [fc19.1]; exact hlen_18
            refine x_pop2 (dT U_L_areSimulated 203 rfl) ?_
            refine x_aload_n (dT U_L_areSimulated 204 rfl) rfl ?_
            refine x_iconst (dT U_L_areSimulated 205 rfl) ?_
            refine x_invokestaticT (rc' := rc + 178) (rs' := rs + 1466) (rc2 := 0 + 2) (rs2 := 0 + 12) (As := [_, _]) (st := _) M_L_challenges K_L_295 (dT U_L_areSimulated 206 rfl) rfl (by decide) rfl rfl (Nat.le_of_ble_eq_true rfl) rfl (by decide) (Nat.le_of_ble_eq_true rfl) (by first | rfl | omega) (by first | rfl | omega) ?_
            refine S_L_challenges w20 v20 (by first | assumption | (unfold xr; omega)) (fun  z8 => absurd (show inb _ _ from by omega) z8) (fun _ z8 => absurd (show 2 ≤ (σ20.R 3).st from by rw [R3_st_20]; decide) z8) (fun _ _ z21 e21 hz21 => ?_)
            refine xRet_some ?_
            have e21 : z21 = if wq_ = 0 then (p : Int) else 0 := by
              rw [e21]
              show answ σ20.p (σ20.R 3) = _
              unfold answ
              rw [R3_form_20, p_20, if_pos dg_rep]
              show ((ct (fun x : Nat => ((σ20.R 3).w + (x : Int) * (σ20.R 3).v) % (p : Int) = 0) p : Nat) : Int) = _
              rw [R3_w_20, R3_v_20, ct_lin0 (by omega)]
            refine x_iload (dT U_L_areSimulated 207 rfl) rfl ?_
            refine x_if_ne (tgt := 354) (dT U_L_areSimulated 208 rfl) (by decide) (by unfold xr; omega) (fun c347 => ?_) (fun c347 => ?_)
            · skip
              refine x_iconst (dT U_L_areSimulated 211 rfl) ?_
              refine x_i2l (dT U_L_areSimulated 212 rfl) (by unfold xr; omega) ?_
              refine x_lif_ne (tgt := 364) (dT U_L_areSimulated 213 rfl) (dT U_L_areSimulated 214 rfl) (by decide) (xrl_of hz21) (xrl_of (by unfold xr; omega)) (fun c356 => ?_) (fun c356 => ?_)
              · exfalso
                exact c356 (by rw [e21]; first | rw [if_neg c347] | rw [if_pos c347])
              · skip
                refine x_iconst (dT U_L_areSimulated 215 rfl) ?_
                refine x_goto (tgt := 365) (dT U_L_areSimulated 216 rfl) (by decide) ?_
                refine x_zreturn (dT U_L_areSimulated 218 rfl) rfl (by omega) ?_
                exact kk _ _ _ w20 v20 p_20 L_20 hlen_20
            · skip
              refine x_iload_n (dT U_L_areSimulated 209 rfl) rfl ?_
              refine x_goto (tgt := 355) (dT U_L_areSimulated 210 rfl) (by decide) ?_
              refine x_i2l (dT U_L_areSimulated 212 rfl) (by unfold xr; omega) ?_
              refine x_lif_ne (tgt := 364) (dT U_L_areSimulated 213 rfl) (dT U_L_areSimulated 214 rfl) (by decide) (xrl_of hz21) (xrl_of (by unfold xr; omega)) (fun c356 => ?_) (fun c356 => ?_)
              · exfalso
                exact c356 (by rw [e21]; first | rw [if_neg c347] | rw [if_pos c347])
              · skip
                refine x_iconst (dT U_L_areSimulated 215 rfl) ?_
                refine x_goto (tgt := 365) (dT U_L_areSimulated 216 rfl) (by decide) ?_
                refine x_zreturn (dT U_L_areSimulated 218 rfl) rfl (by omega) ?_
                exact kk _ _ _ w20 v20 p_20 L_20 hlen_20
          · exfalso
            exact c315 e16
        have M1 : ∀ (exq : Bool) (bq : Int) (hb1 : bq = 0 ∨ bq = 1) (hb2 : bq = 0 → dg (gf form) 8 ≠ -1), X G m_L_areSimulated (d + 10) (rc + 240) (rs + 1900) exq 235 [some (.ref 3), some (.ref 0), some (vi (p : Int)), some (vi (gq p : Int)), some (.ref a_answer), some (.ref a_form), some (vi y), some (vi vv), none, none, none] [vi bq] h8 Q := by
          intro exq bq hb1 hb2
          refine x_istore (ls' := [some (.ref _), some (.ref _), some (vi _), some (vi _), some (.ref _), some (.ref _), some (vi _), some (vi _), some (vi _), none, none]) (dT U_L_areSimulated 138 rfl) (by decide) rfl ?_
          refine x_iload (dT U_L_areSimulated 139 rfl) rfl ?_
          refine x_if_ne (tgt := 255) (dT U_L_areSimulated 140 rfl) (by decide) (by unfold xr; omega) (fun c239 => ?_) (fun c239 => ?_)
          · skip
            refine X_room (by omega) (by omega) (x_drop ?_ (M2 _ ))
            repeat (first | exact trivial | refine ⟨rfl, ?_⟩ | refine ⟨trivial, ?_⟩)
          · skip
            have hdg := hb2 c239
            refine x_aload_n (dT U_L_areSimulated 141 rfl) rfl ?_
            refine x_iconst (dT U_L_areSimulated 142 rfl) ?_
            refine x_invokestaticT (rc' := rc + 238) (rs' := rs + 1888) (rc2 := 0 + 2) (rs2 := 0 + 12) (As := [_, _]) (st := _) M_L_challenges K_L_295 (dT U_L_areSimulated 143 rfl) rfl (by decide) rfl rfl (Nat.le_of_ble_eq_true rfl) rfl (by decide) (Nat.le_of_ble_eq_true rfl) (by first | rfl | omega) (by first | rfl | omega) ?_
            refine S_L_challenges w8 v8 (by first | assumption | (unfold xr; omega)) (fun  z8 => absurd (show inb _ _ from by omega) z8) (fun _ z8 => absurd (show 2 ≤ (σ8.R 3).st from by rw [J3.1]; decide) z8) (fun _ _ z22 e22 hz22 => ?_)
            refine xRet_some ?_
            have e22 : z22 = (p : Int) := by
              rw [e22]
              show answ σ8.p (σ8.R 3) = _
              unfold answ
              rw [J3.2, p_8, if_neg hdg]
            refine x_iload_n (dT U_L_areSimulated 144 rfl) rfl ?_
            refine x_i2l (dT U_L_areSimulated 145 rfl) (by unfold xr; omega) ?_
            refine x_lif_eq (tgt := 255) (dT U_L_areSimulated 146 rfl) (dT U_L_areSimulated 147 rfl) (by decide) (xrl_of hz22) (xrl_of (by unfold xr; omega)) (fun c249 => ?_) (fun c249 => ?_)
            · skip
              refine X_room (by omega) (by omega) (x_drop ?_ (M2 _ ))
              repeat (first | exact trivial | refine ⟨rfl, ?_⟩ | refine ⟨trivial, ?_⟩)
            · exfalso
              exact c249 e22
        refine x_aload (dT U_L_areSimulated 123 rfl) rfl ?_
        refine x_iconst (dT U_L_areSimulated 124 rfl) ?_
        refine x_iaload (0) (dT U_L_areSimulated 125 rfl) h_form_8 (by omega) rfl (by have := (Fl_form).1; omega) (by have := (Fl_form).1; omega) ?_
        refine x_if_ne (tgt := 234) (dT U_L_areSimulated 126 rfl) (by decide) (by have := Fl_form.2 0; unfold xr; omega) (fun c213 => ?_) (fun c213 => ?_)
        · skip
          refine x_iconst (dT U_L_areSimulated 137 rfl) ?_
          refine X_room (by omega) (by omega) (x_drop ?_ (M1 _ 0 (Or.inl rfl) (fun _ => by first | exact dg_pos (j := 0) (by omega) c213 | exact dg_pos (j := 1) (by omega) c220 | exact dg_pos (j := 2) (by omega) c227)))
          repeat (first | exact trivial | refine ⟨rfl, ?_⟩ | refine ⟨trivial, ?_⟩)
        · skip
          refine x_aload (dT U_L_areSimulated 127 rfl) rfl ?_
          refine x_iconst (dT U_L_areSimulated 128 rfl) ?_
          refine x_iaload (1) (dT U_L_areSimulated 129 rfl) h_form_8 (by omega) rfl (by have := (Fl_form).1; omega) (by have := (Fl_form).1; omega) ?_
          refine x_if_ne (tgt := 234) (dT U_L_areSimulated 130 rfl) (by decide) (by have := Fl_form.2 1; unfold xr; omega) (fun c220 => ?_) (fun c220 => ?_)
          · skip
            refine x_iconst (dT U_L_areSimulated 137 rfl) ?_
            refine X_room (by omega) (by omega) (x_drop ?_ (M1 _ 0 (Or.inl rfl) (fun _ => by first | exact dg_pos (j := 0) (by omega) c213 | exact dg_pos (j := 1) (by omega) c220 | exact dg_pos (j := 2) (by omega) c227)))
            repeat (first | exact trivial | refine ⟨rfl, ?_⟩ | refine ⟨trivial, ?_⟩)
          · skip
            refine x_aload (dT U_L_areSimulated 131 rfl) rfl ?_
            refine x_iconst (dT U_L_areSimulated 132 rfl) ?_
            refine x_iaload (2) (dT U_L_areSimulated 133 rfl) h_form_8 (by omega) rfl (by have := (Fl_form).1; omega) (by have := (Fl_form).1; omega) ?_
            refine x_if_ne (tgt := 234) (dT U_L_areSimulated 134 rfl) (by decide) (by have := Fl_form.2 2; unfold xr; omega) (fun c227 => ?_) (fun c227 => ?_)
            · skip
              refine x_iconst (dT U_L_areSimulated 137 rfl) ?_
              refine X_room (by omega) (by omega) (x_drop ?_ (M1 _ 0 (Or.inl rfl) (fun _ => by first | exact dg_pos (j := 0) (by omega) c213 | exact dg_pos (j := 1) (by omega) c220 | exact dg_pos (j := 2) (by omega) c227)))
              repeat (first | exact trivial | refine ⟨rfl, ?_⟩ | refine ⟨trivial, ?_⟩)
            · skip
              refine x_iconst (dT U_L_areSimulated 135 rfl) ?_
              refine x_goto (tgt := 235) (dT U_L_areSimulated 136 rfl) (by decide) ?_
              refine X_room (by omega) (by omega) (x_drop ?_ (M1 _ 1 (Or.inr rfl) (fun z => absurd z (by decide))))
              repeat (first | exact trivial | refine ⟨rfl, ?_⟩ | refine ⟨trivial, ?_⟩)
      · exfalso
        omega
    | succ n9 ih =>
      intro i hi9 h8 ex8 σ8 w8 v8 hlen_8 r1_8 r0_8 p_8 L_8 J_8 h_answer_8 h_form_8
      refine x_iload (dT U_L_areSimulated 42 rfl) rfl ?_
      refine x_iload_n (dT U_L_areSimulated 43 rfl) rfl ?_
      refine x_icmp_ge (tgt := 209) (dT U_L_areSimulated 44 rfl) (by decide) (by first | assumption | (unfold xr; omega)) (by unfold xr; omega) (fun c77 => ?_) (fun c77 => ?_)
      · exfalso
        omega
      · skip
        refine x_aload_n (dT U_L_areSimulated 45 rfl) rfl ?_
        refine x_iconst (dT U_L_areSimulated 46 rfl) ?_
        refine x_iload (dT U_L_areSimulated 47 rfl) rfl ?_
        refine x_iconst (dT U_L_areSimulated 48 rfl) ?_
        refine x_iload (dT U_L_areSimulated 49 rfl) rfl ?_
        refine x_invokestaticT (rc' := rc + 300 + 60 * n9 + 56) (rs' := rs + 2400 + 400 * n9 + 376) (rc2 := 0 + 4) (rs2 := 0 + 24) (As := [_, _, _, _, _]) (st := _) M_L_state K_L_261 (dT U_L_areSimulated 50 rfl) rfl (by decide) rfl rfl (Nat.le_of_ble_eq_true rfl) rfl (by decide) (Nat.le_of_ble_eq_true rfl) (by first | rfl | omega) (by first | rfl | omega) ?_
        refine S_L_state w8 v8 (by first | assumption | (unfold xr; omega)) (by first | assumption | (unfold xr; omega)) (by first | assumption | (unfold xr; omega)) (by first | assumption | (unfold xr; omega)) (fun  z8 => absurd (show inb _ _ ∧ inb _ _ from by omega) z8) (fun _ z8 => absurd (show _ ∧ inb _ _ from ⟨by rw [p_8, ← e_y, exI_MM hpr hE]; omega, by have := p_8; omega⟩) z8) (fun _ _ z23 e23 hz23 h23 fc23 w_23 v_23 => ?_)
        refine xRet_some ?_
        have e23 : z23 = y := by
          exact e23
        obtain ⟨σ24, w24, v24, R3_st_24, R3_e_24, R3_v_24, R3_form_24, r1_24, r0_24, p_24, L_24⟩ : ∃ σ24 : St, CW σ24 h23 ∧ INV σ24 ∧ (σ24.R 3).st = 1 ∧ (σ24.R 3).e = E ∧ (σ24.R 3).v = vv ∧ (σ24.R 3).form = form ∧ σ24.rw 1 = form ∧ σ24.rw 0 = answer ∧ σ24.p = p ∧ σ24.L.n = n0 := ⟨_, w_23, v_23, rfl, (by show exI σ8.p y = _; rw [p_8, ← e_y, exI_MM hpr hE]), rfl, r1_8, r1_8, r0_8, p_8, L_8⟩
        have h_answer_24 : h23[a_answer]? = some (cA 0 answer) := (fc23).get h_answer_8 (by omega)
        have h_form_24 : h23[a_form]? = some (cA 0 form) := (fc23).get h_form_8 (by omega)
        have hlen_24 : 70 ≤ h23.length := by rw [fc23.1]; exact hlen_8
        refine x_iload (dT U_L_areSimulated 51 rfl) rfl ?_
        refine x_i2l (dT U_L_areSimulated 52 rfl) (by first | assumption | (unfold xr; omega)) ?_
        refine x_lif_eq (tgt := 99) (dT U_L_areSimulated 53 rfl) (dT U_L_areSimulated 54 rfl) (by decide) (xrl_of hz23) (xrl_of (by first | assumption | (unfold xr; omega))) (fun c93 => ?_) (fun c93 => ?_)
        · skip
          refine x_aload_n (dT U_L_areSimulated 57 rfl) rfl ?_
          refine x_iconst (dT U_L_areSimulated 58 rfl) ?_
          refine x_iload (dT U_L_areSimulated 59 rfl) rfl ?_
          refine x_iconst (dT U_L_areSimulated 60 rfl) ?_
          refine x_iload (dT U_L_areSimulated 61 rfl) rfl ?_
          refine x_invokestaticT (rc' := rc + 300 + 60 * n9 + 51) (rs' := rs + 2400 + 400 * n9 + 346) (rc2 := 0 + 5) (rs2 := 0 + 30) (As := [_, _, _, _, _]) (st := _) M_L_simulate K_L_290 (dT U_L_areSimulated 62 rfl) rfl (by decide) rfl rfl (Nat.le_of_ble_eq_true rfl) rfl (by decide) (Nat.le_of_ble_eq_true rfl) (by first | rfl | omega) (by first | rfl | omega) ?_
          refine S_L_simulate w24 v24 (by first | assumption | (unfold xr; omega)) (by first | assumption | (unfold xr; omega)) (by first | assumption | (unfold xr; omega)) (by first | assumption | (unfold xr; omega)) (fun  z8 => absurd (show inb _ _ ∧ inb _ _ from by omega) z8) (fun _ z8 => absurd (show inb _ _ ∧ inb _ _ from by have := p_24; omega) z8) (fun _ _ z8 => absurd (R3_st_24) z8) (fun _ _ _ z25 e25 hz25 h25 fc25 w_25 v_25 => ?_)
          refine xRet_some ?_
          have e25 : z25 = MM p ((cm p answer (i : Int) - (i : Int) * E) % (p : Int)) := by
            simp only [tn0, tn1, tn2, tn3, tn4, tn5, tn6, tn7, tn8, Int.toNat_natCast, p_24, r0_24, R3_e_24] at e25; exact e25
          obtain ⟨σ26, w26, v26, R3_st_26, R3_fa_26, R3_w_26, R3_c_26, R3_t_26, R3_answer_26, R3_e_26, R3_v_26, R3_form_26, r1_26, r0_26, p_26, L_26⟩ : ∃ σ26 : St, CW σ26 h25 ∧ INV σ26 ∧ (σ26.R 3).st = 4 ∧ (σ26.R 3).fa = (cm p answer (i : Int) - (i : Int) * E) % (p : Int) ∧ (σ26.R 3).w = (inn form answer - (i : Int) * vv) % (p : Int) ∧ (σ26.R 3).c = (i : Int) ∧ (σ26.R 3).t = (i : Int) ∧ (σ26.R 3).answer = answer ∧ (σ26.R 3).e = E ∧ (σ26.R 3).v = vv ∧ (σ26.R 3).form = form ∧ σ26.rw 1 = form ∧ σ26.rw 0 = answer ∧ σ26.p = p ∧ σ26.L.n = n0 := ⟨_, w_25, v_25, rfl, (by show (cm σ24.p (σ24.rw 0) _ - _ * (σ24.R 3).e) % (σ24.p : Int) = _; rw [p_24, r0_24, R3_e_24]), (by show (inn (σ24.R 3).form (σ24.rw 0) - _ * (σ24.R 3).v) % (σ24.p : Int) = _; rw [R3_form_24, r0_24, R3_v_24, p_24]), rfl, rfl, r0_24, R3_e_24, R3_v_24, R3_form_24, r1_24, r0_24, p_24, L_24⟩
          have h_answer_26 : h25[a_answer]? = some (cA 0 answer) := (fc25).get h_answer_24 (by omega)
          have h_form_26 : h25[a_form]? = some (cA 0 form) := (fc25).get h_form_24 (by omega)
          have hlen_26 : 70 ≤ h25.length := by rw [fc25.1]; exact hlen_24
          have hba := MM_b hpr (e := (cm p answer (i : Int) - (i : Int) * E) % (p : Int)) (modb (by omega))
          rw [← e25] at hba
          have hcA := cm_b (p := p) (l := answer) (b := (i : Int)) (by omega)
          refine x_lstore (ls' := [some (.ref _), some (.ref _), some (vi _), some (vi _), some (.ref _), some (.ref _), some (vi _), some (vi _), some (vi _), some (vl _), none]) (dT U_L_areSimulated 63 rfl) (by decide) rfl ?_
          refine x_lload (dT U_L_areSimulated 64 rfl) rfl ?_
          refine x_lconst (z := 1) (dT U_L_areSimulated 65 rfl) rfl ?_
          refine x_lif_lt (tgt := 157) (dT U_L_areSimulated 66 rfl) (dT U_L_areSimulated 67 rfl) (by decide) (xrl_of hz25) (xrl_of (by unfold xr; omega)) (fun c114 => ?_) (fun c114 => ?_)
          · exfalso
            omega
          · skip
            refine x_aload_n (dT U_L_areSimulated 68 rfl) rfl ?_
            refine x_iconst (dT U_L_areSimulated 69 rfl) ?_
            refine x_invokestaticT (rc' := rc + 300 + 60 * n9 + 50) (rs' := rs + 2400 + 400 * n9 + 340) (rc2 := 0 + 1) (rs2 := 0 + 6) (As := [_, _]) (st := _) M_L_isAccepted K_L_271 (dT U_L_areSimulated 70 rfl) rfl (by decide) rfl rfl (Nat.le_of_ble_eq_true rfl) rfl (by decide) (Nat.le_of_ble_eq_true rfl) (by first | rfl | omega) (by first | rfl | omega) ?_
            refine S_L_isAccepted w26 v26 (by first | assumption | (unfold xr; omega)) (fun  z8 => absurd (show inb _ _ from by omega) z8) (fun _ _ => ?_) (fun _ z8 => absurd ((by rw [p_26]; show acc p (σ26.R 3); exact ⟨R3_st_26, by rw [R3_answer_26, R3_t_26, R3_fa_26, R3_c_26, R3_e_26, sim1, modr hcA], by rw [R3_form_26, R3_answer_26, R3_w_26, R3_c_26, R3_v_26, sim1]⟩)) z8)
            refine xRet_some ?_
            refine x_lconst (z := 1) (dT U_L_areSimulated 71 rfl) rfl ?_
            refine x_lif_ne (tgt := 157) (dT U_L_areSimulated 72 rfl) (dT U_L_areSimulated 73 rfl) (by decide) (xrl_of (by unfold xr; omega)) (xrl_of (by unfold xr; omega)) (fun c124 => ?_) (fun c124 => ?_)
            · exfalso
              omega
            · skip
              refine x_lload (dT U_L_areSimulated 74 rfl) rfl ?_
              refine x_iload (dT U_L_areSimulated 75 rfl) rfl ?_
              refine x_iload (dT U_L_areSimulated 76 rfl) rfl ?_
              refine x_iload_n (dT U_L_areSimulated 77 rfl) rfl ?_
              refine x_invokestatic (rc' := rc + 300 + 60 * n9 + 50) (rs' := rs + 2400 + 400 * n9 + 340) (rc2 := 0 + 0) (rs2 := 0 + 0) (As := [_, _, _]) (st := _) M_L_power K_L_218 (dT U_L_areSimulated 78 rfl) rfl rfl rfl rfl (Nat.le_of_ble_eq_true rfl) rfl (by decide) (Nat.le_of_ble_eq_true rfl) (by omega) (by omega) ?_
              refine S_L_powY hpr e_y hE (by omega) ?_
              have m_pw := MM_b hpr (e := E * (i : Int) % (p : Int)) (modb (by omega))
              have m_zz := mulg (a := z25) (b := MM p (E * (i : Int) % (p : Int))) (m := 191) (n := 191) (by omega) (by omega)
              have e142 : (z25 * MM p (E * (i : Int) % (p : Int))).tmod (gq p : Int) = MM p (cm p answer (i : Int)) := by
                rw [Int.tmod_eq_emod_of_nonneg m_zz.1, e25, MM_mul hpr (modb (by omega)) (modb (by omega)), Int.mul_comm E, sim2, modr hcA]
              refine xRet_some ?_
              refine x_i2l (dT U_L_areSimulated 79 rfl) (xr_MM hpr) ?_
              refine x_lmul (dT U_L_areSimulated 80 rfl) ?_
              refine x_iload_n (dT U_L_areSimulated 81 rfl) rfl ?_
              refine x_i2l (dT U_L_areSimulated 82 rfl) (by unfold xr; omega) ?_
              refine x_lrem (dT U_L_areSimulated 83 rfl) (by unfold xrl; omega) (by unfold xrl; omega) (by omega) ?_
              rw [e142]
              refine x_aload_n (dT U_L_areSimulated 84 rfl) rfl ?_
              refine x_aload (dT U_L_areSimulated 85 rfl) rfl ?_
              refine x_iload (dT U_L_areSimulated 86 rfl) rfl ?_
              refine x_iload_n (dT U_L_areSimulated 87 rfl) rfl ?_
              refine x_invokestatic (rc' := rc + 300 + 60 * n9 + 41) (rs' := rs + 2400 + 400 * n9 + 286) (rc2 := 0 + 9) (rs2 := 0 + 54) (As := [_, _, _, _]) (st := _) M_L_commits K_L_247 (dT U_L_areSimulated 88 rfl) rfl rfl rfl rfl (Nat.le_of_ble_eq_true rfl) rfl (by decide) (Nat.le_of_ble_eq_true rfl) (by first | rfl | omega) (by first | rfl | omega) ?_
              refine S_L_commits w26 v26 p_26 h_answer_26 (by omega) Fl_answer (by omega) ?_
              refine xRet_some ?_
              refine x_i2l (dT U_L_areSimulated 89 rfl) (xr_MM hpr) ?_
              refine x_lif_eq (tgt := 159) (dT U_L_areSimulated 90 rfl) (dT U_L_areSimulated 91 rfl) (by decide) (xrl_of (xr_MM hpr)) (xrl_of (xr_MM hpr)) (fun c153 => ?_) (fun c153 => ?_)
              · skip
                refine x_aload_n (dT U_L_areSimulated 94 rfl) rfl ?_
                refine x_iconst (dT U_L_areSimulated 95 rfl) ?_
                refine x_iconst (dT U_L_areSimulated 96 rfl) ?_
                refine x_invokestaticT (rc' := rc + 300 + 60 * n9 + 39) (rs' := rs + 2400 + 400 * n9 + 274) (rc2 := 0 + 2) (rs2 := 0 + 12) (As := [_, _, _]) (st := _) M_L_told K_L_265 (dT U_L_areSimulated 97 rfl) rfl (by decide) rfl rfl (Nat.le_of_ble_eq_true rfl) rfl (by decide) (Nat.le_of_ble_eq_true rfl) (by first | rfl | omega) (by first | rfl | omega) ?_
                refine S_L_told w26 v26 (by first | assumption | (unfold xr; omega)) (by first | assumption | (unfold xr; omega)) (fun  z8 => absurd (show inb _ _ from by omega) z8) (fun _ z8 => absurd (show inb _ _ from by omega) z8) (fun _ _ z28 e28 hz28 => ?_)
                refine xRet_some ?_
                have e28 : z28 = (inn form answer - (i : Int) * vv) % (p : Int) := by
                  rw [e28, if_neg (by decide)]
                  show (if 2 ≤ (σ26.R 3).st then (σ26.R 3).w else -1) = _
                  rw [if_pos (by rw [R3_st_26]; decide), R3_w_26]
                refine x_aload (dT U_L_areSimulated 98 rfl) rfl ?_
                refine x_aload (dT U_L_areSimulated 99 rfl) rfl ?_
                refine x_iload_n (dT U_L_areSimulated 100 rfl) rfl ?_
                refine x_invokestatic (rc' := rc + 300 + 60 * n9 + 39) (rs' := rs + 2400 + 400 * n9 + 274) (rc2 := 0 + 0) (rs2 := 0 + 0) (As := [_, _, _]) (st := _) M_L_inner K_L_257 (dT U_L_areSimulated 101 rfl) rfl rfl rfl rfl (Nat.le_of_ble_eq_true rfl) rfl (by decide) (Nat.le_of_ble_eq_true rfl) (by first | rfl | omega) (by first | rfl | omega) ?_
                refine S_L_inner (by omega) h_form_26 (by omega) Fl_form h_answer_26 (by omega) Fl_answer ?_
                refine xRet_some ?_
                refine x_iload (dT U_L_areSimulated 102 rfl) rfl ?_
                refine x_iload (dT U_L_areSimulated 103 rfl) rfl ?_
                refine x_imul (dT U_L_areSimulated 104 rfl) ?_
                refine x_isub (dT U_L_areSimulated 105 rfl) ?_
                refine x_iload_n (dT U_L_areSimulated 106 rfl) rfl ?_
                refine x_invokestatic (rc' := rc + 300 + 60 * n9 + 39) (rs' := rs + 2400 + 400 * n9 + 274) (rc2 := 0 + 0) (rs2 := 0 + 0) (As := [_, _]) (st := _) M_L_rest K_L_292 (dT U_L_areSimulated 107 rfl) rfl rfl rfl rfl (Nat.le_of_ble_eq_true rfl) rfl (by decide) (Nat.le_of_ble_eq_true rfl) (by omega) (by omega) ?_
                have m_iv := mulg (a := (i : Int)) (b := vv) (m := 23) (n := 23) (by omega) (by omega)
                have m_in := modb (z := inn form answer) (p := (p : Int)) (by omega)
                refine S_L_rest (by unfold xr; omega) (by omega) ?_
                rw [sub_ml]
                refine xRet_some ?_
                refine x_i2l (dT U_L_areSimulated 108 rfl) (xr_md ⟨by omega, by omega⟩) ?_
                refine x_lif_ne (tgt := 201) (dT U_L_areSimulated 109 rfl) (dT U_L_areSimulated 110 rfl) (by decide) (xrl_of hz28) (xrl_of (xr_md ⟨by omega, by omega⟩)) (fun c184 => ?_) (fun c184 => ?_)
                · exfalso
                  exact c184 e28
                · skip
                  refine x_aload_n (dT U_L_areSimulated 111 rfl) rfl ?_
                  refine x_iconst (dT U_L_areSimulated 112 rfl) ?_
                  refine x_iconst (dT U_L_areSimulated 113 rfl) ?_
                  refine x_invokestaticT (rc' := rc + 300 + 60 * n9 + 37) (rs' := rs + 2400 + 400 * n9 + 262) (rc2 := 0 + 2) (rs2 := 0 + 12) (As := [_, _, _]) (st := _) M_L_told K_L_265 (dT U_L_areSimulated 114 rfl) rfl (by decide) rfl rfl (Nat.le_of_ble_eq_true rfl) rfl (by decide) (Nat.le_of_ble_eq_true rfl) (by first | rfl | omega) (by first | rfl | omega) ?_
                  refine S_L_told w26 v26 (by first | assumption | (unfold xr; omega)) (by first | assumption | (unfold xr; omega)) (fun  z8 => absurd (show inb _ _ from by omega) z8) (fun _ z8 => absurd (show inb _ _ from by omega) z8) (fun _ _ z29 e29 hz29 => ?_)
                  refine xRet_some ?_
                  have e29 : z29 = (i : Int) := by
                    rw [e29, if_neg (by decide)]
                    show (if 3 ≤ (σ26.R 3).st then (σ26.R 3).c else -1) = _
                    rw [if_pos (by rw [R3_st_26]; decide), R3_c_26]
                  refine x_iload (dT U_L_areSimulated 115 rfl) rfl ?_
                  refine x_i2l (dT U_L_areSimulated 116 rfl) (by first | assumption | (unfold xr; omega)) ?_
                  refine x_lif_eq (tgt := 203) (dT U_L_areSimulated 117 rfl) (dT U_L_areSimulated 118 rfl) (by decide) (xrl_of hz29) (xrl_of (by first | assumption | (unfold xr; omega))) (fun c197 => ?_) (fun c197 => ?_)
                  · skip
                    refine x_iinc (ls' := [some (.ref _), some (.ref _), some (vi _), some (vi _), some (.ref _), some (.ref _), some (vi _), some (vi _), some (vi _), some (vl _), none]) (dT U_L_areSimulated 121 rfl) (by decide) rfl rfl ?_
                    refine x_goto (tgt := 74) (dT U_L_areSimulated 122 rfl) (by decide) ?_
                    
                    refine X_room (by omega) (by omega) (x_drop ?_ (ih (i + 1) (by omega) _ _ _ w26 v26 hlen_26 r1_26 r0_26 p_26 L_26 (Or.inr ⟨R3_st_26, R3_form_26⟩) h_answer_26 h_form_26))
                    repeat (first | exact trivial | refine ⟨rfl, ?_⟩ | refine ⟨trivial, ?_⟩)
                  · exfalso
                    exact c197 e29
              · exfalso
                exact c153 rfl
        · exfalso
          exact c93 e23
  refine X_room (by omega) (by omega) (x_drop ?_ (L8 p 0 (by omega) _ _ _ w7 v7 hlen_7 r1_7 r0_7 p_7 L_7 (Or.inl rfl) h_answer_7 h_form_7))
  repeat (first | exact trivial | refine ⟨rfl, ?_⟩ | refine ⟨trivial, ?_⟩)

