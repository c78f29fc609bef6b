set_option maxRecDepth 20000 in
set_option maxHeartbeats 60000000 in
theorem S_L_arePolynomials {G : xG} {d rc rs : Nat} {ex : Bool} {h : xH} {Q : xQ} {σ : St} {p n0 : Nat} (hL : gL G < 100000) (w : CW σ h) (v : INV σ) (hpp : σ.p = p) (hn0 : σ.L.n = n0) (hlen : 70 ≤ h.length) (kk : ∀ (σ2 : St) (h2 : xH) (ex2 : Bool), CW σ2 h2 → INV σ2 → σ2.p = p → σ2.L.n = n0 → 70 ≤ h2.length → Q (.inl (some (vi 1))) ex2 h2) : X G m_L_arePolynomials (d + 10) (rc + 620) (rs + 3900) ex 0 (xe m_L_arePolynomials.2.2.1 [.ref 3, .ref 0, vi (p : Int)]) [] h Q := by
  show X G m_L_arePolynomials _ _ _ _ 0 [some (.ref 3), some (.ref 0), some (vi (p : Int)), none, none, none, none, none, none] [] h Q
  have hpr : p ∈ PR := hpp ▸ v.p
  have hp := PRb hpr
  have hq := gq_b hpr
  refine x_aload_n (dT U_L_arePolynomials 0 rfl) rfl ?_
  refine x_sipush (dT U_L_arePolynomials 1 rfl) (by decide) ?_
  refine x_iload_n (dT U_L_arePolynomials 2 rfl) rfl ?_
  refine x_bipush (dT U_L_arePolynomials 3 rfl) (by decide) ?_
  refine x_invokestatic (rc' := rc + 619) (rs' := rs + 3892) (rc2 := 0 + 1) (rs2 := 0 + 8) (As := [_, _, _, _]) (st := _) M_L_made K_L_234 (dT U_L_arePolynomials 4 rfl) rfl rfl rfl rfl (Nat.le_of_ble_eq_true rfl) rfl (by decide) (Nat.le_of_ble_eq_true rfl) (by first | rfl | omega) (by first | rfl | omega) ?_
  refine S_L_made (f := 240) (m := 8) hL (by have := hlen; omega) (by omega) (by omega) (by omega) (fun h1 a_row row u1 ga1 ge1 h_row1 Fl_row Z_row => ?_)
  refine xRet_some ?_
  have g_row : 70 ≤ a_row := by have := hlen; omega
  have w1 := (w).up u1
  have hlen_1 : 70 ≤ h1.length := by have := u1.len; have := hlen; omega
  refine x_astore_n (ls' := [some (.ref _), some (.ref _), some (vi _), some (.ref _), none, none, none, none, none]) (dT U_L_arePolynomials 5 rfl) (by decide) rfl ?_
  refine x_aload_n (dT U_L_arePolynomials 6 rfl) rfl ?_
  refine x_sipush (dT U_L_arePolynomials 7 rfl) (by decide) ?_
  refine x_iload_n (dT U_L_arePolynomials 8 rfl) rfl ?_
  refine x_iconst (dT U_L_arePolynomials 9 rfl) ?_
  refine x_aload_n (dT U_L_arePolynomials 10 rfl) rfl ?_
  refine x_sipush (dT U_L_arePolynomials 11 rfl) (by decide) ?_
  refine x_invokestatic (rc' := rc + 619) (rs' := rs + 3892) (rc2 := 0 + 0) (rs2 := 0 + 0) (As := [_, _]) (st := _) M_L_cell K_L_221 (dT U_L_arePolynomials 12 rfl) rfl rfl rfl rfl (Nat.le_of_ble_eq_true rfl) rfl (by decide) (Nat.le_of_ble_eq_true rfl) (by first | rfl | omega) (by first | rfl | omega) ?_
  refine S_L_cell (k := 256) hL (by omega) (fun z21 => ?_)
  refine xRet_some ?_
  refine x_bipush (dT U_L_arePolynomials 13 rfl) (by decide) ?_
  refine x_invokestatic (rc' := rc + 619) (rs' := rs + 3892) (rc2 := 0 + 0) (rs2 := 0 + 0) (As := [_, _]) (st := _) M_L_chosen K_L_225 (dT U_L_arePolynomials 14 rfl) rfl rfl rfl rfl (Nat.le_of_ble_eq_true rfl) rfl (by decide) (Nat.le_of_ble_eq_true rfl) (by first | rfl | omega) (by first | rfl | omega) ?_
  refine S_L_chosen (by omega) (fun m8 b_m8 => ?_)
  refine xRet_some ?_
  obtain ⟨m8n, rfl⟩ : ∃ t : Nat, m8 = (t : Int) := ⟨m8.toNat, by omega⟩
  refine x_iadd (dT U_L_arePolynomials 15 rfl) ?_
  rw [show (1 : Int) + (m8n : Int) = ((1 + m8n : Nat) : Int) by omega]
  refine x_invokestatic (rc' := rc + 618) (rs' := rs + 3884) (rc2 := 0 + 1) (rs2 := 0 + 8) (As := [_, _, _, _]) (st := _) M_L_made K_L_234 (dT U_L_arePolynomials 16 rfl) rfl rfl rfl rfl (Nat.le_of_ble_eq_true rfl) rfl (by decide) (Nat.le_of_ble_eq_true rfl) (by first | rfl | omega) (by first | rfl | omega) ?_
  refine S_L_made (f := 248) (m := 1 + m8n) hL (by have := hlen_1; omega) (by omega) (by omega) (by omega) (fun h2 a_by_ by_ u2 ga2 ge2 h_by_2 Fl_by_ Z_by_ => ?_)
  refine xRet_some ?_
  have g_by_ : 70 ≤ a_by_ := by have := hlen_1; omega
  have w2 := (w1).up u2
  have h_row_2 := u2 _ _ h_row1
  have ne_by__row : a_by_ ≠ a_row := by have := (List.getElem?_eq_some_iff.mp h_row1).1; omega
  have hlen_2 : 70 ≤ h2.length := by have := u2.len; have := hlen_1; omega
  refine x_astore (ls' := [some (.ref _), some (.ref _), some (vi _), some (.ref _), some (.ref _), none, none, none, none]) (dT U_L_arePolynomials 17 rfl) (by decide) rfl ?_
  refine x_aload_n (dT U_L_arePolynomials 18 rfl) rfl ?_
  refine x_iconst (dT U_L_arePolynomials 19 rfl) ?_
  refine x_aload_n (dT U_L_arePolynomials 20 rfl) rfl ?_
  refine x_invokestatic (rc' := rc + 617) (rs' := rs + 3878) (rc2 := 0 + 1) (rs2 := 0 + 6) (As := [_, _, _]) (st := _) M_L_lays K_L_238 (dT U_L_arePolynomials 21 rfl) rfl rfl rfl rfl (Nat.le_of_ble_eq_true rfl) rfl (by decide) (Nat.le_of_ble_eq_true rfl) (by first | rfl | omega) (by first | rfl | omega) ?_
  refine S_L_lays w2 v (by omega) h_row_2 (by omega) (by rw [hpp]; exact Fl_row) (fun z3 hz3 h3 fc3 w_3 v_3 => ?_)
  refine xRet_some ?_
  obtain ⟨σ4, w4, v4, r0_4, p_4, L_4⟩ : ∃ σ4 : St, CW σ4 h3 ∧ INV σ4 ∧ σ4.rw 0 = row ∧ σ4.p = p ∧ σ4.L.n = n0 := ⟨_, w_3, v_3, rfl, hpp, hn0⟩
  have h_row_4 : h3[a_row]? = some (cA 0 row) := (fc3).get h_row_2 (by omega)
  have h_by__4 : h3[a_by_]? = some (cA 0 by_) := (fc3).get h_by_2 (by omega)
  have hlen_4 : 70 ≤ h3.length := by rw [fc3.1]; exact hlen_2
  refine x_pop2 (dT U_L_arePolynomials 22 rfl) ?_
  refine x_aload_n (dT U_L_arePolynomials 23 rfl) rfl ?_
  refine x_iconst (dT U_L_arePolynomials 24 rfl) ?_
  refine x_aload (dT U_L_arePolynomials 25 rfl) rfl ?_
  refine x_invokestatic (rc' := rc + 616) (rs' := rs + 3872) (rc2 := 0 + 1) (rs2 := 0 + 6) (As := [_, _, _]) (st := _) M_L_lays K_L_238 (dT U_L_arePolynomials 26 rfl) rfl rfl rfl rfl (Nat.le_of_ble_eq_true rfl) rfl (by decide) (Nat.le_of_ble_eq_true rfl) (by first | rfl | omega) (by first | rfl | omega) ?_
  refine S_L_lays w4 v4 (by omega) h_by__4 (by omega) (by rw [p_4]; exact Fl_by_) (fun z5 hz5 h5 fc5 w_5 v_5 => ?_)
  refine xRet_some ?_
  obtain ⟨σ6, w6, v6, r1_6, r0_6, p_6, L_6⟩ : ∃ σ6 : St, CW σ6 h5 ∧ INV σ6 ∧ σ6.rw 1 = by_ ∧ σ6.rw 0 = row ∧ σ6.p = p ∧ σ6.L.n = n0 := ⟨_, w_5, v_5, rfl, r0_4, p_4, L_4⟩
  have h_row_6 : h5[a_row]? = some (cA 0 row) := (fc5).get h_row_4 (by omega)
  have h_by__6 : h5[a_by_]? = some (cA 0 by_) := (fc5).get h_by__4 (by omega)
  have hlen_6 : 70 ≤ h5.length := by rw [fc5.1]; exact hlen_4
  refine x_pop2 (dT U_L_arePolynomials 27 rfl) ?_
  by_cases hd : dg (gf by_) 8 = -1
  · skip
    refine x_aload_n (dT U_L_arePolynomials 28 rfl) rfl ?_
    refine x_iconst (dT U_L_arePolynomials 29 rfl) ?_
    refine x_iconst (dT U_L_arePolynomials 30 rfl) ?_
    refine x_iconst (dT U_L_arePolynomials 31 rfl) ?_
    refine x_iconst (dT U_L_arePolynomials 32 rfl) ?_
    refine x_invokestaticT (rc' := rc + 611) (rs' := rs + 3842) (rc2 := 0 + 5) (rs2 := 0 + 30) (As := [_, _, _, _, _]) (st := _) M_L_divide K_L_365 (dT U_L_arePolynomials 33 rfl) rfl (by decide) rfl rfl (Nat.le_of_ble_eq_true rfl) rfl (by decide) (Nat.le_of_ble_eq_true rfl) (by omega) (by omega) ?_
    refine S_L_divide w6 v6 (by unfold xr; omega) (by unfold xr; omega) (by unfold xr; omega) (by unfold xr; omega) (fun z8 => absurd (show inb _ _ ∧ inb _ _ ∧ inb _ _ ∧ inb _ _ from by omega) z8) (fun _ z8 => absurd (show _ ≠ _ from by decide) z8) (fun _ _ _ => ?_) (fun _ _ z8 => absurd (by have q := hd; rw [← r1_6] at q; exact q) z8)
    refine xRet_some ?_
    refine x_lstore (ls' := [some (.ref _), some (.ref _), some (vi _), some (.ref _), some (.ref _), some (vl _), none, none, none]) (dT U_L_arePolynomials 34 rfl) (by decide) rfl ?_
    refine x_aload_n (dT U_L_arePolynomials 35 rfl) rfl ?_
    refine x_iconst (dT U_L_arePolynomials 36 rfl) ?_
    refine x_invokestaticT (rc' := rc + 610) (rs' := rs + 3836) (rc2 := 0 + 1) (rs2 := 0 + 6) (As := [_, _]) (st := _) M_L_degree K_L_367 (dT U_L_arePolynomials 37 rfl) rfl (by decide) rfl rfl (Nat.le_of_ble_eq_true rfl) rfl (by decide) (Nat.le_of_ble_eq_true rfl) (by first | rfl | omega) (by first | rfl | omega) ?_
    refine S_L_degree w6 v6 (by first | assumption | (unfold xr; omega)) (fun  z8 => absurd (show inb _ _ from by omega) z8) (fun _ z7 e7 hz7 => ?_)
    refine xRet_some ?_
    have e7 : z7 = dg (gf by_) 8 := by
      simp only [tn0, tn1, tn2, tn3, tn4, tn5, tn6, tn7, tn8, Int.toNat_natCast, r1_6] at e7
      exact e7
    refine x_lconst (z := 0) (dT U_L_arePolynomials 38 rfl) rfl ?_
    refine x_lif_ge (tgt := 94) (dT U_L_arePolynomials 39 rfl) (dT U_L_arePolynomials 40 rfl) (by decide) (xrl_of hz7) (xrl_of (by unfold xr; omega)) (fun c66 => ?_) (fun c66 => ?_)
    · exfalso
      omega
    · skip
      refine x_lload (dT U_L_arePolynomials 41 rfl) rfl ?_
      refine x_ldc2 C_L_60 (dT U_L_arePolynomials 42 rfl) ?_
      refine x_lif_ne (tgt := 92) (dT U_L_arePolynomials 43 rfl) (dT U_L_arePolynomials 44 rfl) (by decide) (show xrl _ by unfold xrl; omega) (show xrl _ by unfold xrl; omega) (fun c75 => ?_) (fun c75 => ?_)
      · exfalso
        exact absurd rfl c75
      · skip
        refine x_aload_n (dT U_L_arePolynomials 45 rfl) rfl ?_
        refine x_iconst (dT U_L_arePolynomials 46 rfl) ?_
        refine x_aload_n (dT U_L_arePolynomials 47 rfl) rfl ?_
        refine x_invokestatic (rc' := rc + 594) (rs' := rs + 3740) (rc2 := 0 + 16) (rs2 := 0 + 96) (As := [_, _, _]) (st := _) M_L_isRow K_L_280 (dT U_L_arePolynomials 48 rfl) rfl rfl rfl rfl (Nat.le_of_ble_eq_true rfl) rfl (by decide) (Nat.le_of_ble_eq_true rfl) (by first | rfl | omega) (by first | rfl | omega) ?_
        refine S_L_isRow w6 v6 (by omega) h_row_6 (by omega) (by rw [p_6]; exact Fl_row) (r0_6) ?_
        refine xRet_some ?_
        refine x_if_eq (tgt := 92) (dT U_L_arePolynomials 49 rfl) (by decide) (by unfold xr; omega) (fun c85 => ?_) (fun c85 => ?_)
        · exfalso
          omega
        · skip
          refine x_iconst (dT U_L_arePolynomials 50 rfl) ?_
          refine x_goto (tgt := 93) (dT U_L_arePolynomials 51 rfl) (by decide) ?_
          refine x_zreturn (dT U_L_arePolynomials 53 rfl) rfl (by omega) ?_
          exact kk _ _ _ w6 v6 p_6 L_6 hlen_6
  · skip
    obtain ⟨q_Q0, q_R0, q_all0⟩ := div_all hpr Fl_row Fl_by_ hd
    have db := dg_b (gf by_) 8
    obtain ⟨g, hg⟩ : ∃ g : Nat, dg (gf by_) 8 = (g : Int) := ⟨(dg (gf by_) 8).toNat, by omega⟩
    have e0g : (dg (gf by_) 8).toNat = g := by omega
    have hg8 : g < 8 := by omega
    have n_by := (dg_nz (gf by_) 8 g hg).2
    rw [e0g] at q_Q0 q_R0
    obtain ⟨qL, e_Q⟩ : ∃ l : List Int, dvQL p row by_ = l := ⟨_, rfl⟩
    obtain ⟨rL, e_R⟩ : ∃ l : List Int, dvRL p row by_ = l := ⟨_, rfl⟩
    rw [e_Q] at q_Q0 q_all0
    rw [e_R] at q_R0 q_all0
    have q_Q : ∀ j, 8 - g ≤ j → j < 8 → gf qL j = 0 := q_Q0
    have q_R : ∀ j, g ≤ j → j < 8 → gf rL j = 0 := q_R0
    have q_all : ∀ n, n < 8 → (pm (gf by_) (gf qL) 8 n + gf rL n) % (p : Int) = gf row n := q_all0
    clear q_Q0 q_R0 q_all0
    refine x_aload_n (dT U_L_arePolynomials 28 rfl) rfl ?_
    refine x_iconst (dT U_L_arePolynomials 29 rfl) ?_
    refine x_iconst (dT U_L_arePolynomials 30 rfl) ?_
    refine x_iconst (dT U_L_arePolynomials 31 rfl) ?_
    refine x_iconst (dT U_L_arePolynomials 32 rfl) ?_
    refine x_invokestaticT (rc' := rc + 611) (rs' := rs + 3842) (rc2 := 0 + 5) (rs2 := 0 + 30) (As := [_, _, _, _, _]) (st := _) M_L_divide K_L_365 (dT U_L_arePolynomials 33 rfl) rfl (by decide) rfl rfl (Nat.le_of_ble_eq_true rfl) rfl (by decide) (Nat.le_of_ble_eq_true rfl) (by first | rfl | omega) (by first | rfl | omega) ?_
    refine S_L_divide w6 v6 (by first | assumption | (unfold xr; omega)) (by first | assumption | (unfold xr; omega)) (by first | assumption | (unfold xr; omega)) (by first | assumption | (unfold xr; omega)) (fun  z8 => absurd (show inb _ _ ∧ inb _ _ ∧ inb _ _ ∧ inb _ _ from by omega) z8) (fun _ z8 => absurd (show _ ≠ _ from by decide) z8) (fun _ _ z8 => absurd ((by have q := hd; rw [← r1_6] at q; exact q)) z8) (fun _ _ _ z8 e8 hz8 h8 fc8 w_8 v_8 => ?_)
    refine xRet_some ?_
    have e8 : z8 = dg (gf rL) 8 := by
      simp only [tn0, tn1, tn2, tn3, tn4, tn5, tn6, tn7, tn8, Int.toNat_natCast, p_6, r0_6, r1_6, e_R] at e8
      exact e8
    obtain ⟨σ9, w9, v9, r2_9, r3_9, r1_9, r0_9, p_9, L_9⟩ : ∃ σ9 : St, CW σ9 h8 ∧ INV σ9 ∧ σ9.rw 2 = qL ∧ σ9.rw 3 = rL ∧ σ9.rw 1 = by_ ∧ σ9.rw 0 = row ∧ σ9.p = p ∧ σ9.L.n = n0 := ⟨_, w_8, v_8, (by show dvQL σ6.p (σ6.rw 0) (σ6.rw 1) = _; rw [p_6, r0_6, r1_6]; exact e_Q), (by show dvRL σ6.p (σ6.rw 0) (σ6.rw 1) = _; rw [p_6, r0_6, r1_6]; exact e_R), r1_6, r0_6, p_6, L_6⟩
    have h_row_9 : h8[a_row]? = some (cA 0 row) := (fc8).get h_row_6 (by omega)
    have h_by__9 : h8[a_by_]? = some (cA 0 by_) := (fc8).get h_by__6 (by omega)
    have hlen_9 : 70 ≤ h8.length := by rw [fc8.1]; exact hlen_6
    refine x_lstore (ls' := [some (.ref _), some (.ref _), some (vi _), some (.ref _), some (.ref _), some (vl _), none, none, none]) (dT U_L_arePolynomials 34 rfl) (by decide) rfl ?_
    refine x_aload_n (dT U_L_arePolynomials 35 rfl) rfl ?_
    refine x_iconst (dT U_L_arePolynomials 36 rfl) ?_
    refine x_invokestaticT (rc' := rc + 610) (rs' := rs + 3836) (rc2 := 0 + 1) (rs2 := 0 + 6) (As := [_, _]) (st := _) M_L_degree K_L_367 (dT U_L_arePolynomials 37 rfl) rfl (by decide) rfl rfl (Nat.le_of_ble_eq_true rfl) rfl (by decide) (Nat.le_of_ble_eq_true rfl) (by first | rfl | omega) (by first | rfl | omega) ?_
    refine S_L_degree w9 v9 (by first | assumption | (unfold xr; omega)) (fun  z8 => absurd (show inb _ _ from by omega) z8) (fun _ z10 e10 hz10 => ?_)
    refine xRet_some ?_
    have e10 : z10 = dg (gf by_) 8 := by
      simp only [tn0, tn1, tn2, tn3, tn4, tn5, tn6, tn7, tn8, Int.toNat_natCast, r1_9] at e10
      exact e10
    refine x_lconst (z := 0) (dT U_L_arePolynomials 38 rfl) rfl ?_
    refine x_lif_ge (tgt := 94) (dT U_L_arePolynomials 39 rfl) (dT U_L_arePolynomials 40 rfl) (by decide) (xrl_of hz10) (xrl_of (by unfold xr; omega)) (fun c66 => ?_) (fun c66 => ?_)
    · skip
      refine x_lload (dT U_L_arePolynomials 54 rfl) rfl ?_
      refine x_aload_n (dT U_L_arePolynomials 55 rfl) rfl ?_
      refine x_iconst (dT U_L_arePolynomials 56 rfl) ?_
      refine x_invokestaticT (rc' := rc + 609) (rs' := rs + 3830) (rc2 := 0 + 1) (rs2 := 0 + 6) (As := [_, _]) (st := _) M_L_degree K_L_367 (dT U_L_arePolynomials 57 rfl) rfl (by decide) rfl rfl (Nat.le_of_ble_eq_true rfl) rfl (by decide) (Nat.le_of_ble_eq_true rfl) (by first | rfl | omega) (by first | rfl | omega) ?_
      refine S_L_degree w9 v9 (by first | assumption | (unfold xr; omega)) (fun  z8 => absurd (show inb _ _ from by omega) z8) (fun _ z11 e11 hz11 => ?_)
      refine xRet_some ?_
      have e11 : z11 = dg (gf by_) 8 := by
        simp only [tn0, tn1, tn2, tn3, tn4, tn5, tn6, tn7, tn8, Int.toNat_natCast, r1_9] at e11
        exact e11
      refine x_lif_ge (tgt := 130) (dT U_L_arePolynomials 58 rfl) (dT U_L_arePolynomials 59 rfl) (by decide) (xrl_of hz8) (xrl_of hz11) (fun c101 => ?_) (fun c101 => ?_)
      · exfalso
        have := dg_lt q_R; omega
      · skip
        refine x_lload (dT U_L_arePolynomials 60 rfl) rfl ?_
        refine x_aload_n (dT U_L_arePolynomials 61 rfl) rfl ?_
        refine x_iconst (dT U_L_arePolynomials 62 rfl) ?_
        refine x_invokestaticT (rc' := rc + 608) (rs' := rs + 3824) (rc2 := 0 + 1) (rs2 := 0 + 6) (As := [_, _]) (st := _) M_L_degree K_L_367 (dT U_L_arePolynomials 63 rfl) rfl (by decide) rfl rfl (Nat.le_of_ble_eq_true rfl) rfl (by decide) (Nat.le_of_ble_eq_true rfl) (by first | rfl | omega) (by first | rfl | omega) ?_
        refine S_L_degree w9 v9 (by first | assumption | (unfold xr; omega)) (fun  z8 => absurd (show inb _ _ from by omega) z8) (fun _ z12 e12 hz12 => ?_)
        refine xRet_some ?_
        have e12 : z12 = dg (gf rL) 8 := by
          simp only [tn0, tn1, tn2, tn3, tn4, tn5, tn6, tn7, tn8, Int.toNat_natCast, r3_9] at e12
          exact e12
        refine x_lif_ne (tgt := 130) (dT U_L_arePolynomials 64 rfl) (dT U_L_arePolynomials 65 rfl) (by decide) (xrl_of hz8) (xrl_of hz12) (fun c112 => ?_) (fun c112 => ?_)
        · exfalso
          exact c112 (e8.trans e12.symm)
        · skip
          refine x_aload_n (dT U_L_arePolynomials 66 rfl) rfl ?_
          refine x_iconst (dT U_L_arePolynomials 67 rfl) ?_
          refine x_iconst (dT U_L_arePolynomials 68 rfl) ?_
          refine x_iconst (dT U_L_arePolynomials 69 rfl) ?_
          refine x_invokestaticT (rc' := rc + 604) (rs' := rs + 3800) (rc2 := 0 + 4) (rs2 := 0 + 24) (As := [_, _, _, _]) (st := _) M_L_times K_L_369 (dT U_L_arePolynomials 70 rfl) rfl (by decide) rfl rfl (Nat.le_of_ble_eq_true rfl) rfl (by decide) (Nat.le_of_ble_eq_true rfl) (by first | rfl | omega) (by first | rfl | omega) ?_
          refine S_L_times w9 v9 (by first | assumption | (unfold xr; omega)) (by first | assumption | (unfold xr; omega)) (by first | assumption | (unfold xr; omega)) (fun  z8 => absurd (show inb _ _ ∧ inb _ _ ∧ inb _ _ from by omega) z8) (fun _ z8 => absurd ((by have q := times_ok hg q_Q; rw [← r1_9, ← r2_9] at q; exact q)) z8) (fun _ _ z13 e13 hz13 h13 fc13 w_13 v_13 => ?_)
          refine xRet_some ?_
          have e13 : z13 = dg (gf (tab (fun n => pm (gf by_) (gf qL) 8 n % (p : Int)) 8)) 8 := by
            simp only [tn0, tn1, tn2, tn3, tn4, tn5, tn6, tn7, tn8, Int.toNat_natCast, p_9, r1_9, r2_9] at e13
            exact e13
          obtain ⟨σ14, w14, v14, r4_14, r2_14, r3_14, r1_14, r0_14, p_14, L_14⟩ : ∃ σ14 : St, CW σ14 h13 ∧ INV σ14 ∧ σ14.rw 4 = tab (fun n => pm (gf by_) (gf qL) 8 n % (p : Int)) 8 ∧ σ14.rw 2 = qL ∧ σ14.rw 3 = rL ∧ σ14.rw 1 = by_ ∧ σ14.rw 0 = row ∧ σ14.p = p ∧ σ14.L.n = n0 := ⟨_, w_13, v_13, (by show tab (fun n => pm (gf (σ9.rw 1)) (gf (σ9.rw 2)) 8 n % (σ9.p : Int)) 8 = _; rw [r1_9, r2_9, p_9]), r2_9, r3_9, r1_9, r0_9, p_9, L_9⟩
          have h_row_14 : h13[a_row]? = some (cA 0 row) := (fc13).get h_row_9 (by omega)
          have h_by__14 : h13[a_by_]? = some (cA 0 by_) := (fc13).get h_by__9 (by omega)
          have hlen_14 : 70 ≤ h13.length := by rw [fc13.1]; exact hlen_9
          have b_t := dg_b (gf (tab (fun n => pm (gf by_) (gf qL) 8 n % (p : Int)) 8)) 8
          refine x_ldc2 C_L_344 (dT U_L_arePolynomials 71 rfl) ?_
          refine x_lif_ge (tgt := 132) (dT U_L_arePolynomials 72 rfl) (dT U_L_arePolynomials 73 rfl) (by decide) (xrl_of hz13) (show xrl _ by unfold xrl; omega) (fun c126 => ?_) (fun c126 => ?_)
          · skip
            refine x_aload_n (dT U_L_arePolynomials 76 rfl) rfl ?_
            refine x_iconst (dT U_L_arePolynomials 77 rfl) ?_
            refine x_iconst (dT U_L_arePolynomials 78 rfl) ?_
            refine x_iconst (dT U_L_arePolynomials 79 rfl) ?_
            refine x_iconst (dT U_L_arePolynomials 80 rfl) ?_
            refine x_invokestaticT (rc' := rc + 600) (rs' := rs + 3776) (rc2 := 0 + 4) (rs2 := 0 + 24) (As := [_, _, _, _, _]) (st := _) M_L_mix K_L_302 (dT U_L_arePolynomials 81 rfl) rfl (by decide) rfl rfl (Nat.le_of_ble_eq_true rfl) rfl (by decide) (Nat.le_of_ble_eq_true rfl) (by first | rfl | omega) (by first | rfl | omega) ?_
            refine S_L_mix w14 v14 (by first | assumption | (unfold xr; omega)) (by first | assumption | (unfold xr; omega)) (by first | assumption | (unfold xr; omega)) (by first | assumption | (unfold xr; omega)) (fun  z8 => absurd (show inb _ _ ∧ inb _ _ ∧ inb _ _ from by omega) z8) (fun _ z8 => absurd (show inb _ _ from by have := p_14; omega) z8) (fun _ _ z15 e15 hz15 h15 fc15 w_15 v_15 => ?_)
            refine xRet_some ?_
            obtain ⟨σ16, w16, v16, r4_16, r2_16, r3_16, r1_16, r0_16, p_16, L_16⟩ : ∃ σ16 : St, CW σ16 h15 ∧ INV σ16 ∧ σ16.rw 4 = row ∧ σ16.rw 2 = qL ∧ σ16.rw 3 = rL ∧ σ16.rw 1 = by_ ∧ σ16.rw 0 = row ∧ σ16.p = p ∧ σ16.L.n = n0 := ⟨_, w_15, v_15, (by show tab (fun t => ((σ14.rw 4).getD t 0 + 1 * (σ14.rw 3).getD t 0) % (σ14.p : Int)) 8 = _; rw [r4_14, r3_14, p_14]; exact again_ok Fl_row q_all), r2_14, r3_14, r1_14, r0_14, p_14, L_14⟩
            have h_row_16 : h15[a_row]? = some (cA 0 row) := (fc15).get h_row_14 (by omega)
            have h_by__16 : h15[a_by_]? = some (cA 0 by_) := (fc15).get h_by__14 (by omega)
            have hlen_16 : 70 ≤ h15.length := by rw [fc15.1]; exact hlen_14
            refine x_pop2 (dT U_L_arePolynomials 82 rfl) ?_
            refine x_aload_n (dT U_L_arePolynomials 83 rfl) rfl ?_
            refine x_iconst (dT U_L_arePolynomials 84 rfl) ?_
            refine x_aload_n (dT U_L_arePolynomials 85 rfl) rfl ?_
            refine x_invokestatic (rc' := rc + 584) (rs' := rs + 3680) (rc2 := 0 + 16) (rs2 := 0 + 96) (As := [_, _, _]) (st := _) M_L_isRow K_L_280 (dT U_L_arePolynomials 86 rfl) rfl rfl rfl rfl (Nat.le_of_ble_eq_true rfl) rfl (by decide) (Nat.le_of_ble_eq_true rfl) (by first | rfl | omega) (by first | rfl | omega) ?_
            refine S_L_isRow w16 v16 (by omega) h_row_16 (by omega) (by rw [p_16]; exact Fl_row) (r4_16) ?_
            refine xRet_some ?_
            refine x_if_ne (tgt := 152) (dT U_L_arePolynomials 87 rfl) (by decide) (by unfold xr; omega) (fun c147 => ?_) (fun c147 => ?_)
            · skip
              refine x_iconst (dT U_L_arePolynomials 90 rfl) ?_
              refine x_istore (ls' := [some (.ref _), some (.ref _), some (vi _), some (.ref _), some (.ref _), some (vl _), none, some (vi _), none]) (dT U_L_arePolynomials 91 rfl) (by decide) rfl ?_
              refine x_iconst (dT U_L_arePolynomials 92 rfl) ?_
              refine x_istore (ls' := [some (.ref _), some (.ref _), some (vi _), some (.ref _), some (.ref _), some (vl _), none, some (vi _), some (vi _)]) (dT U_L_arePolynomials 93 rfl) (by decide) rfl ?_
              have L17 : ∀ (n9 i : Nat), i + n9 = p → ∀ (h17 : xH) (ex17 : Bool) (σ17 : St), CW σ17 h17 → INV σ17 → 70 ≤ h17.length → σ17.rw 4 = row → σ17.rw 2 = qL → σ17.rw 3 = rL → σ17.rw 1 = by_ → σ17.rw 0 = row → σ17.p = p → σ17.L.n = n0 → h17[a_row]? = some (cA 0 row) → h17[a_by_]? = some (cA 0 by_) → X G m_L_arePolynomials (d + 10) (rc + 20 + 20 * n9) (rs + 160 + 120 * n9) ex17 158 [some (.ref 3), some (.ref 0), some (vi (p : Int)), some (.ref a_row), none, none, none, some (vi ((ct (fun x : Nat => hor (gf row) (p : Int) (x : Int) 8 = 0) i : Nat) : Int)), some (vi (i : Int))] [] h17 Q := by
                intro n9
                induction n9 with
                | zero =>
                  intro i hi9 h17 ex17 σ17 w17 v17 hlen_17 r4_17 r2_17 r3_17 r1_17 r0_17 p_17 L_17 h_row_17 h_by__17
                  refine x_iload (dT U_L_arePolynomials 94 rfl) rfl ?_
                  refine x_iload_n (dT U_L_arePolynomials 95 rfl) rfl ?_
                  refine x_icmp_ge (tgt := 231) (dT U_L_arePolynomials 96 rfl) (by decide) (by first | assumption | (unfold xr; omega)) (by unfold xr; omega) (fun c161 => ?_) (fun c161 => ?_)
                  · skip
                    have hip : p = i := by omega
                    subst hip
                    refine x_aload_n (dT U_L_arePolynomials 137 rfl) rfl ?_
                    refine x_iconst (dT U_L_arePolynomials 138 rfl) ?_
                    refine x_invokestaticT (rc' := rc + 19) (rs' := rs + 154) (rc2 := 0 + 1) (rs2 := 0 + 6) (As := [_, _]) (st := _) M_L_degree K_L_367 (dT U_L_arePolynomials 139 rfl) rfl (by decide) rfl rfl (Nat.le_of_ble_eq_true rfl) rfl (by decide) (Nat.le_of_ble_eq_true rfl) (by first | rfl | omega) (by first | rfl | omega) ?_
                    refine S_L_degree w17 v17 (by first | assumption | (unfold xr; omega)) (fun  z8 => absurd (show inb _ _ from by omega) z8) (fun _ z18 e18 hz18 => ?_)
                    refine xRet_some ?_
                    have e18 : z18 = dg (gf row) 8 := by
                      simp only [tn0, tn1, tn2, tn3, tn4, tn5, tn6, tn7, tn8, Int.toNat_natCast, r0_17] at e18
                      exact e18
                    refine x_lconst (z := 0) (dT U_L_arePolynomials 140 rfl) rfl ?_
                    refine x_lif_ge (tgt := 255) (dT U_L_arePolynomials 141 rfl) (dT U_L_arePolynomials 142 rfl) (by decide) (xrl_of hz18) (xrl_of (by unfold xr; omega)) (fun c237 => ?_) (fun c237 => ?_)
                    · skip
                      refine x_iload (dT U_L_arePolynomials 150 rfl) rfl ?_
                      refine x_i2l (dT U_L_arePolynomials 151 rfl) (xr_ct (by omega)) ?_
                      refine x_aload_n (dT U_L_arePolynomials 152 rfl) rfl ?_
                      refine x_iconst (dT U_L_arePolynomials 153 rfl) ?_
                      refine x_invokestaticT (rc' := rc + 18) (rs' := rs + 148) (rc2 := 0 + 1) (rs2 := 0 + 6) (As := [_, _]) (st := _) M_L_degree K_L_367 (dT U_L_arePolynomials 154 rfl) rfl (by decide) rfl rfl (Nat.le_of_ble_eq_true rfl) rfl (by decide) (Nat.le_of_ble_eq_true rfl) (by first | rfl | omega) (by first | rfl | omega) ?_
                      refine S_L_degree w17 v17 (by first | assumption | (unfold xr; omega)) (fun  z8 => absurd (show inb _ _ from by omega) z8) (fun _ z19 e19 hz19 => ?_)
                      refine xRet_some ?_
                      have e19 : z19 = dg (gf row) 8 := by
                        simp only [tn0, tn1, tn2, tn3, tn4, tn5, tn6, tn7, tn8, Int.toNat_natCast, r0_17] at e19
                        exact e19
                      refine x_lif_gt (tgt := 271) (dT U_L_arePolynomials 155 rfl) (dT U_L_arePolynomials 156 rfl) (by decide) (xrl_of (xr_ct (by omega))) (xrl_of hz19) (fun c263 => ?_) (fun c263 => ?_)
                      · exfalso
                        have rz := row_zeros hpr Fl_row (by omega)
                        omega
                      · skip
                        refine x_iconst (dT U_L_arePolynomials 157 rfl) ?_
                        refine x_goto (tgt := 272) (dT U_L_arePolynomials 158 rfl) (by decide) ?_
                        refine x_zreturn (dT U_L_arePolynomials 160 rfl) rfl (by omega) ?_
                        exact kk _ _ _ w17 v17 p_17 L_17 hlen_17
                    · skip
                      refine x_iload (dT U_L_arePolynomials 143 rfl) rfl ?_
                      refine x_iload_n (dT U_L_arePolynomials 144 rfl) rfl ?_
                      refine x_icmp_ne (tgt := 251) (dT U_L_arePolynomials 145 rfl) (by decide) (xr_ct (by omega)) (by unfold xr; omega) (fun c244 => ?_) (fun c244 => ?_)
                      · exfalso
                        refine c244 ?_
                        rw [ct_all p (fun x _ => hor_zero (fun j hj => dg_neg0 8 (by have := dg_b (gf row) 8; omega) j hj) 8 (Nat.le_refl 8))]
                      · skip
                        refine x_iconst (dT U_L_arePolynomials 146 rfl) ?_
                        refine x_goto (tgt := 272) (dT U_L_arePolynomials 147 rfl) (by decide) ?_
                        refine x_zreturn (dT U_L_arePolynomials 160 rfl) rfl (by omega) ?_
                        exact kk _ _ _ w17 v17 p_17 L_17 hlen_17
                  · exfalso
                    omega
                | succ n9 ih =>
                  intro i hi9 h17 ex17 σ17 w17 v17 hlen_17 r4_17 r2_17 r3_17 r1_17 r0_17 p_17 L_17 h_row_17 h_by__17
                  refine x_iload (dT U_L_arePolynomials 94 rfl) rfl ?_
                  refine x_iload_n (dT U_L_arePolynomials 95 rfl) rfl ?_
                  refine x_icmp_ge (tgt := 231) (dT U_L_arePolynomials 96 rfl) (by decide) (by first | assumption | (unfold xr; omega)) (by unfold xr; omega) (fun c161 => ?_) (fun c161 => ?_)
                  · exfalso
                    omega
                  · skip
                    refine x_aload_n (dT U_L_arePolynomials 97 rfl) rfl ?_
                    refine x_iconst (dT U_L_arePolynomials 98 rfl) ?_
                    refine x_iload (dT U_L_arePolynomials 99 rfl) rfl ?_
                    refine x_invokestaticT (rc' := rc + 20 + 20 * n9 + 18) (rs' := rs + 160 + 120 * n9 + 108) (rc2 := 0 + 2) (rs2 := 0 + 12) (As := [_, _, _]) (st := _) M_L_value K_L_371 (dT U_L_arePolynomials 100 rfl) rfl (by decide) rfl rfl (Nat.le_of_ble_eq_true rfl) rfl (by decide) (Nat.le_of_ble_eq_true rfl) (by first | rfl | omega) (by first | rfl | omega) ?_
                    refine S_L_value w17 v17 (by first | assumption | (unfold xr; omega)) (by first | assumption | (unfold xr; omega)) (fun  z8 => absurd (show inb _ _ from by omega) z8) (fun _ z8 => absurd (show inb _ _ from by have := p_17; omega) z8) (fun _ _ z20 e20 hz20 => ?_)
                    refine xRet_some ?_
                    have e20 : z20 = hor (gf row) (p : Int) (i : Int) 8 := by
                      simp only [tn0, tn1, tn2, tn3, tn4, tn5, tn6, tn7, tn8, Int.toNat_natCast, p_17, r0_17] at e20
                      exact e20
                    have b_z20 := hor_b (f := gf row) (p := (p : Int)) (x := (i : Int)) (by omega) 8
                    rw [← e20] at b_z20
                    refine x_aload_n (dT U_L_arePolynomials 101 rfl) rfl ?_
                    refine x_iconst (dT U_L_arePolynomials 102 rfl) ?_
                    refine x_iload (dT U_L_arePolynomials 103 rfl) rfl ?_
                    refine x_invokestaticT (rc' := rc + 20 + 20 * n9 + 16) (rs' := rs + 160 + 120 * n9 + 96) (rc2 := 0 + 2) (rs2 := 0 + 12) (As := [_, _, _]) (st := _) M_L_value K_L_371 (dT U_L_arePolynomials 104 rfl) rfl (by decide) rfl rfl (Nat.le_of_ble_eq_true rfl) rfl (by decide) (Nat.le_of_ble_eq_true rfl) (by first | rfl | omega) (by first | rfl | omega) ?_
                    refine S_L_value w17 v17 (by first | assumption | (unfold xr; omega)) (by first | assumption | (unfold xr; omega)) (fun  z8 => absurd (show inb _ _ from by omega) z8) (fun _ z8 => absurd (show inb _ _ from by have := p_17; omega) z8) (fun _ _ z21 e21 hz21 => ?_)
                    refine xRet_some ?_
                    have e21 : z21 = hor (gf by_) (p : Int) (i : Int) 8 := by
                      simp only [tn0, tn1, tn2, tn3, tn4, tn5, tn6, tn7, tn8, Int.toNat_natCast, p_17, r1_17] at e21
                      exact e21
                    have b_z21 := hor_b (f := gf by_) (p := (p : Int)) (x := (i : Int)) (by omega) 8
                    rw [← e21] at b_z21
                    refine x_aload_n (dT U_L_arePolynomials 105 rfl) rfl ?_
                    refine x_iconst (dT U_L_arePolynomials 106 rfl) ?_
                    refine x_iload (dT U_L_arePolynomials 107 rfl) rfl ?_
                    refine x_invokestaticT (rc' := rc + 20 + 20 * n9 + 14) (rs' := rs + 160 + 120 * n9 + 84) (rc2 := 0 + 2) (rs2 := 0 + 12) (As := [_, _, _]) (st := _) M_L_value K_L_371 (dT U_L_arePolynomials 108 rfl) rfl (by decide) rfl rfl (Nat.le_of_ble_eq_true rfl) rfl (by decide) (Nat.le_of_ble_eq_true rfl) (by first | rfl | omega) (by first | rfl | omega) ?_
                    refine S_L_value w17 v17 (by first | assumption | (unfold xr; omega)) (by first | assumption | (unfold xr; omega)) (fun  z8 => absurd (show inb _ _ from by omega) z8) (fun _ z8 => absurd (show inb _ _ from by have := p_17; omega) z8) (fun _ _ z22 e22 hz22 => ?_)
                    refine xRet_some ?_
                    have e22 : z22 = hor (gf qL) (p : Int) (i : Int) 8 := by
                      simp only [tn0, tn1, tn2, tn3, tn4, tn5, tn6, tn7, tn8, Int.toNat_natCast, p_17, r2_17] at e22
                      exact e22
                    have b_z22 := hor_b (f := gf qL) (p := (p : Int)) (x := (i : Int)) (by omega) 8
                    rw [← e22] at b_z22
                    refine x_lmul (dT U_L_arePolynomials 109 rfl) ?_
                    refine x_aload_n (dT U_L_arePolynomials 110 rfl) rfl ?_
                    refine x_iconst (dT U_L_arePolynomials 111 rfl) ?_
                    refine x_iload (dT U_L_arePolynomials 112 rfl) rfl ?_
                    refine x_invokestaticT (rc' := rc + 20 + 20 * n9 + 12) (rs' := rs + 160 + 120 * n9 + 72) (rc2 := 0 + 2) (rs2 := 0 + 12) (As := [_, _, _]) (st := _) M_L_value K_L_371 (dT U_L_arePolynomials 113 rfl) rfl (by decide) rfl rfl (Nat.le_of_ble_eq_true rfl) rfl (by decide) (Nat.le_of_ble_eq_true rfl) (by first | rfl | omega) (by first | rfl | omega) ?_
                    refine S_L_value w17 v17 (by first | assumption | (unfold xr; omega)) (by first | assumption | (unfold xr; omega)) (fun  z8 => absurd (show inb _ _ from by omega) z8) (fun _ z8 => absurd (show inb _ _ from by have := p_17; omega) z8) (fun _ _ z23 e23 hz23 => ?_)
                    refine xRet_some ?_
                    have e23 : z23 = hor (gf rL) (p : Int) (i : Int) 8 := by
                      simp only [tn0, tn1, tn2, tn3, tn4, tn5, tn6, tn7, tn8, Int.toNat_natCast, p_17, r3_17] at e23
                      exact e23
                    have b_z23 := hor_b (f := gf rL) (p := (p : Int)) (x := (i : Int)) (by omega) 8
                    rw [← e23] at b_z23
                    have m_v := mulg (a := z21) (b := z22) (m := 23) (n := 23) (by omega) (by omega)
                    refine x_ladd (dT U_L_arePolynomials 114 rfl) ?_
                    refine x_iload_n (dT U_L_arePolynomials 115 rfl) rfl ?_
                    refine x_i2l (dT U_L_arePolynomials 116 rfl) (by unfold xr; omega) ?_
                    refine x_lrem (dT U_L_arePolynomials 117 rfl) (by unfold xrl; omega) (by unfold xrl; omega) (by omega) ?_
                    rw [Int.tmod_eq_emod_of_nonneg (by omega)]
                    refine x_lif_eq (tgt := 203) (dT U_L_arePolynomials 118 rfl) (dT U_L_arePolynomials 119 rfl) (by decide) (xrl_of hz20) (xrl_of (xr_md ⟨by omega, by omega⟩)) (fun c197 => ?_) (fun c197 => ?_)
                    · skip
                      refine x_iload (dT U_L_arePolynomials 122 rfl) rfl ?_
                      refine x_aload_n (dT U_L_arePolynomials 123 rfl) rfl ?_
                      refine x_iconst (dT U_L_arePolynomials 124 rfl) ?_
                      refine x_iload (dT U_L_arePolynomials 125 rfl) rfl ?_
                      refine x_invokestaticT (rc' := rc + 20 + 20 * n9 + 10) (rs' := rs + 160 + 120 * n9 + 60) (rc2 := 0 + 2) (rs2 := 0 + 12) (As := [_, _, _]) (st := _) M_L_value K_L_371 (dT U_L_arePolynomials 126 rfl) rfl (by decide) rfl rfl (Nat.le_of_ble_eq_true rfl) rfl (by decide) (Nat.le_of_ble_eq_true rfl) (by first | rfl | omega) (by first | rfl | omega) ?_
                      refine S_L_value w17 v17 (by first | assumption | (unfold xr; omega)) (by first | assumption | (unfold xr; omega)) (fun  z8 => absurd (show inb _ _ from by omega) z8) (fun _ z8 => absurd (show inb _ _ from by have := p_17; omega) z8) (fun _ _ z24 e24 hz24 => ?_)
                      refine xRet_some ?_
                      have e24 : z24 = hor (gf row) (p : Int) (i : Int) 8 := by
                        simp only [tn0, tn1, tn2, tn3, tn4, tn5, tn6, tn7, tn8, Int.toNat_natCast, p_17, r0_17] at e24
                        exact e24
                      refine x_lconst (z := 0) (dT U_L_arePolynomials 127 rfl) rfl ?_
                      refine x_lif_ne (tgt := 221) (dT U_L_arePolynomials 128 rfl) (dT U_L_arePolynomials 129 rfl) (by decide) (xrl_of hz24) (xrl_of (by unfold xr; omega)) (fun c213 => ?_) (fun c213 => ?_)
                      · skip
                        refine x_iconst (dT U_L_arePolynomials 132 rfl) ?_
                        refine x_iadd (dT U_L_arePolynomials 133 rfl) ?_
                        refine x_istore (ls' := [some (.ref _), some (.ref _), some (vi _), some (.ref _), none, none, none, some (vi _), some (vi _)]) (dT U_L_arePolynomials 134 rfl) (by decide) rfl ?_
                        refine x_iinc (ls' := [some (.ref _), some (.ref _), some (vi _), some (.ref _), none, none, none, some (vi _), some (vi _)]) (dT U_L_arePolynomials 135 rfl) (by decide) rfl rfl ?_
                        refine x_goto (tgt := 158) (dT U_L_arePolynomials 136 rfl) (by decide) ?_
                        first
                          | rw [show ((ct (fun x : Nat => hor (gf row) (p : Int) (x : Int) 8 = 0) i : Nat) : Int) + 1 = ((ct (fun x : Nat => hor (gf row) (p : Int) (x : Int) 8 = 0) (i + 1) : Nat) : Int) from by rw [ct_yes (show hor (gf row) (p : Int) (i : Int) 8 = 0 from e24 ▸ c213)]; rfl]
                          | rw [show ((ct (fun x : Nat => hor (gf row) (p : Int) (x : Int) 8 = 0) i : Nat) : Int) + 0 = ((ct (fun x : Nat => hor (gf row) (p : Int) (x : Int) 8 = 0) (i + 1) : Nat) : Int) from by rw [ct_no (show ¬ hor (gf row) (p : Int) (i : Int) 8 = 0 from e24 ▸ c213)]; rfl]
                        refine X_room (by omega) (by omega) (x_drop ?_ (ih (i + 1) (by omega) _ _ _ w17 v17 hlen_17 r4_17 r2_17 r3_17 r1_17 r0_17 p_17 L_17 h_row_17 h_by__17))
                        repeat (first | exact trivial | refine ⟨rfl, ?_⟩ | refine ⟨trivial, ?_⟩)
                      · skip
                        refine x_iconst (dT U_L_arePolynomials 130 rfl) ?_
                        refine x_goto (tgt := 222) (dT U_L_arePolynomials 131 rfl) (by decide) ?_
                        refine x_iadd (dT U_L_arePolynomials 133 rfl) ?_
                        refine x_istore (ls' := [some (.ref _), some (.ref _), some (vi _), some (.ref _), none, none, none, some (vi _), some (vi _)]) (dT U_L_arePolynomials 134 rfl) (by decide) rfl ?_
                        refine x_iinc (ls' := [some (.ref _), some (.ref _), some (vi _), some (.ref _), none, none, none, some (vi _), some (vi _)]) (dT U_L_arePolynomials 135 rfl) (by decide) rfl rfl ?_
                        refine x_goto (tgt := 158) (dT U_L_arePolynomials 136 rfl) (by decide) ?_
                        first
                          | rw [show ((ct (fun x : Nat => hor (gf row) (p : Int) (x : Int) 8 = 0) i : Nat) : Int) + 1 = ((ct (fun x : Nat => hor (gf row) (p : Int) (x : Int) 8 = 0) (i + 1) : Nat) : Int) from by rw [ct_yes (show hor (gf row) (p : Int) (i : Int) 8 = 0 from e24 ▸ c213)]; rfl]
                          | rw [show ((ct (fun x : Nat => hor (gf row) (p : Int) (x : Int) 8 = 0) i : Nat) : Int) + 0 = ((ct (fun x : Nat => hor (gf row) (p : Int) (x : Int) 8 = 0) (i + 1) : Nat) : Int) from by rw [ct_no (show ¬ hor (gf row) (p : Int) (i : Int) 8 = 0 from e24 ▸ c213)]; rfl]
                        refine X_room (by omega) (by omega) (x_drop ?_ (ih (i + 1) (by omega) _ _ _ w17 v17 hlen_17 r4_17 r2_17 r3_17 r1_17 r0_17 p_17 L_17 h_row_17 h_by__17))
                        repeat (first | exact trivial | refine ⟨rfl, ?_⟩ | refine ⟨trivial, ?_⟩)
                    · exfalso
                      exact c197 (by rw [e20, e21, e22, e23]; exact val_ok hp n_by q_Q hg8 q_all)
              refine X_room (by omega) (by omega) (x_drop ?_ (L17 p 0 (by omega) _ _ _ w16 v16 hlen_16 r4_16 r2_16 r3_16 r1_16 r0_16 p_16 L_16 h_row_16 h_by__16))
              repeat (first | exact trivial | refine ⟨rfl, ?_⟩ | refine ⟨trivial, ?_⟩)
            · exfalso
              omega
          · exfalso
            omega
    · exfalso
      have := dg_b (gf by_) 8; omega

